/-- the script -/
def XS (κ : Kx) (b L : Nat) (xs : Nat → Int32) : Prop := va_X b L xs (ks κ) (ks κ).heap ∧ b < (ks κ).heap.size ∧ ¬ kA κ b
theorem j_sld {κ : Kx} {own : String} {cc : ByteArray} {nL : Nat} {rt : Option FieldType} {rm : Room} {pc : Nat} {L0 : List (Nat × Value)} {st : List Value} {w : Wd} {α : Type} {P : α → Prop} {kk : Option α} {b L : Nat} {xs : Nat → Int32} {i : Int32} (hX : XS κ b L xs) (hd : decode cc pc = .ok (.iaload, 1)) (h : ok (gd (vp_in i L) kk) P) (jn : ok kk P → J κ own cc nL rt rm (pc + 1) L0 (.int (xs (ix i)) :: st) w) : J κ own cc nL rt rm pc L0 (.int i :: .ref b :: st) w := fun F ls H locs hl hG =>
  va_sld F.1 F.2.1 hX.1 hX.2.1 hX.2.2 hG.2 (ok_g h).1 hd (jn (ok_g h).2 F ls H locs hl hG)
theorem j_slen {κ : Kx} {own : String} {cc : ByteArray} {nL : Nat} {rt : Option FieldType} {rm : Room} {pc : Nat} {L0 : List (Nat × Value)} {st : List Value} {w : Wd} {b L : Nat} {xs : Nat → Int32} (hX : XS κ b L xs) (hd : decode cc pc = .ok (.arraylength, 1)) (jn : J κ own cc nL rt rm (pc + 1) L0 (.int (Int32.ofNat L) :: st) w) : J κ own cc nL rt rm pc L0 (.ref b :: st) w := fun F ls H locs hl hG =>
  va_slen F.1 F.2.1 hX.1 hX.2.1 hX.2.2 hG.2 hd (jn F ls H locs hl hG)
theorem dL_law_0 : decode cL_law 0 = .ok (.new 7, 3) := by decide +kernel
theorem dL_law_3 : decode cL_law 3 = .ok (.dup, 1) := by decide +kernel
theorem dL_law_4 : decode cL_law 4 = .ok (.invokespecial 9, 3) := by decide +kernel
theorem dL_law_7 : decode cL_law 7 = .ok (.astore_n 1, 1) := by decide +kernel
theorem dL_law_8 : decode cL_law 8 = .ok (.new 10, 3) := by decide +kernel
theorem dL_law_11 : decode cL_law 11 = .ok (.dup, 1) := by decide +kernel
theorem dL_law_12 : decode cL_law 12 = .ok (.invokespecial 12, 3) := by decide +kernel
theorem dL_law_15 : decode cL_law 15 = .ok (.astore_n 2, 1) := by decide +kernel
theorem dL_law_16 : decode cL_law 16 = .ok (.iconst 0, 1) := by decide +kernel
theorem dL_law_17 : decode cL_law 17 = .ok (.istore_n 3, 1) := by decide +kernel
theorem dL_law_18 : decode cL_law 18 = .ok (.iload_n 3, 1) := by decide +kernel
theorem dL_law_19 : decode cL_law 19 = .ok (.aload_n 0, 1) := by decide +kernel
theorem dL_law_20 : decode cL_law 20 = .ok (.arraylength, 1) := by decide +kernel
theorem dL_law_21 : decode cL_law 21 = .ok (.bipush 7, 2) := by decide +kernel
theorem dL_law_23 : decode cL_law 23 = .ok (.isub, 1) := by decide +kernel
theorem dL_law_24 : decode cL_law 24 = .ok (.if_icmp .gt 1707, 3) := by decide +kernel
theorem dL_law_27 : decode cL_law 27 = .ok (.aload_n 0, 1) := by decide +kernel
theorem dL_law_28 : decode cL_law 28 = .ok (.iload_n 3, 1) := by decide +kernel
theorem dL_law_29 : decode cL_law 29 = .ok (.iaload, 1) := by decide +kernel
theorem dL_law_30 : decode cL_law 30 = .ok (.bipush 63, 2) := by decide +kernel
theorem dL_law_32 : decode cL_law 32 = .ok (.iand, 1) := by decide +kernel
theorem dL_law_33 : decode cL_law 33 = .ok (.tableswitch 1692 0 35 #[159, 172, 215, 288, 322, 385, 408, 471, 514, 557, 590, 613, 688, 711, 754, 787, 850, 893, 916, 959, 1002, 1045, 1098, 1121, 1154, 1197, 1230, 1283, 1398, 1431, 1464, 1497, 1530, 1583, 1606, 1659], 159) := by decide +kernel
theorem dL_law_192 : decode cL_law 192 = .ok (.aload_n 1, 1) := by decide +kernel
theorem dL_law_193 : decode cL_law 193 = .ok (.invokevirtual 13, 3) := by decide +kernel
theorem dL_law_196 : decode cL_law 196 = .ok (.aload_n 2, 1) := by decide +kernel
theorem dL_law_197 : decode cL_law 197 = .ok (.invokevirtual 17, 3) := by decide +kernel
theorem dL_law_200 : decode cL_law 200 = .ok (.if_icmp .eq 1525, 3) := by decide +kernel
theorem dL_law_203 : decode cL_law 203 = .ok (.iconst 0, 1) := by decide +kernel
theorem dL_law_204 : decode cL_law 204 = .ok (.ireturn, 1) := by decide +kernel
theorem dL_law_205 : decode cL_law 205 = .ok (.aload_n 1, 1) := by decide +kernel
theorem dL_law_206 : decode cL_law 206 = .ok (.aload_n 0, 1) := by decide +kernel
theorem dL_law_207 : decode cL_law 207 = .ok (.iload_n 3, 1) := by decide +kernel
theorem dL_law_208 : decode cL_law 208 = .ok (.iconst 1, 1) := by decide +kernel
theorem dL_law_209 : decode cL_law 209 = .ok (.iadd, 1) := by decide +kernel
theorem dL_law_210 : decode cL_law 210 = .ok (.iaload, 1) := by decide +kernel
theorem dL_law_211 : decode cL_law 211 = .ok (.aload_n 0, 1) := by decide +kernel
theorem dL_law_212 : decode cL_law 212 = .ok (.iload_n 3, 1) := by decide +kernel
theorem dL_law_213 : decode cL_law 213 = .ok (.iconst 2, 1) := by decide +kernel
theorem dL_law_214 : decode cL_law 214 = .ok (.iadd, 1) := by decide +kernel
theorem dL_law_215 : decode cL_law 215 = .ok (.iaload, 1) := by decide +kernel
theorem dL_law_216 : decode cL_law 216 = .ok (.aload_n 0, 1) := by decide +kernel
theorem dL_law_217 : decode cL_law 217 = .ok (.iload_n 3, 1) := by decide +kernel
theorem dL_law_218 : decode cL_law 218 = .ok (.iconst 3, 1) := by decide +kernel
theorem dL_law_219 : decode cL_law 219 = .ok (.iadd, 1) := by decide +kernel
theorem dL_law_220 : decode cL_law 220 = .ok (.iaload, 1) := by decide +kernel
theorem dL_law_221 : decode cL_law 221 = .ok (.invokevirtual 18, 3) := by decide +kernel
theorem dL_law_224 : decode cL_law 224 = .ok (.aload_n 2, 1) := by decide +kernel
theorem dL_law_225 : decode cL_law 225 = .ok (.aload_n 0, 1) := by decide +kernel
theorem dL_law_226 : decode cL_law 226 = .ok (.iload_n 3, 1) := by decide +kernel
theorem dL_law_227 : decode cL_law 227 = .ok (.iconst 1, 1) := by decide +kernel
theorem dL_law_228 : decode cL_law 228 = .ok (.iadd, 1) := by decide +kernel
theorem dL_law_229 : decode cL_law 229 = .ok (.iaload, 1) := by decide +kernel
theorem dL_law_230 : decode cL_law 230 = .ok (.aload_n 0, 1) := by decide +kernel
theorem dL_law_231 : decode cL_law 231 = .ok (.iload_n 3, 1) := by decide +kernel
theorem dL_law_232 : decode cL_law 232 = .ok (.iconst 2, 1) := by decide +kernel
theorem dL_law_233 : decode cL_law 233 = .ok (.iadd, 1) := by decide +kernel
theorem dL_law_234 : decode cL_law 234 = .ok (.iaload, 1) := by decide +kernel
theorem dL_law_235 : decode cL_law 235 = .ok (.aload_n 0, 1) := by decide +kernel
theorem dL_law_236 : decode cL_law 236 = .ok (.iload_n 3, 1) := by decide +kernel
theorem dL_law_237 : decode cL_law 237 = .ok (.iconst 3, 1) := by decide +kernel
theorem dL_law_238 : decode cL_law 238 = .ok (.iadd, 1) := by decide +kernel
theorem dL_law_239 : decode cL_law 239 = .ok (.iaload, 1) := by decide +kernel
theorem dL_law_240 : decode cL_law 240 = .ok (.invokevirtual 22, 3) := by decide +kernel
theorem dL_law_243 : decode cL_law 243 = .ok (.if_icmp .eq 1482, 3) := by decide +kernel
theorem dL_law_246 : decode cL_law 246 = .ok (.iconst 0, 1) := by decide +kernel
theorem dL_law_247 : decode cL_law 247 = .ok (.ireturn, 1) := by decide +kernel
theorem dL_law_248 : decode cL_law 248 = .ok (.aload_n 1, 1) := by decide +kernel
theorem dL_law_249 : decode cL_law 249 = .ok (.aload_n 0, 1) := by decide +kernel
theorem dL_law_250 : decode cL_law 250 = .ok (.iload_n 3, 1) := by decide +kernel
theorem dL_law_251 : decode cL_law 251 = .ok (.iconst 1, 1) := by decide +kernel
theorem dL_law_252 : decode cL_law 252 = .ok (.iadd, 1) := by decide +kernel
theorem dL_law_253 : decode cL_law 253 = .ok (.iaload, 1) := by decide +kernel
theorem dL_law_254 : decode cL_law 254 = .ok (.aload_n 0, 1) := by decide +kernel
theorem dL_law_255 : decode cL_law 255 = .ok (.iload_n 3, 1) := by decide +kernel
theorem dL_law_256 : decode cL_law 256 = .ok (.iconst 2, 1) := by decide +kernel
theorem dL_law_257 : decode cL_law 257 = .ok (.iadd, 1) := by decide +kernel
theorem dL_law_258 : decode cL_law 258 = .ok (.iaload, 1) := by decide +kernel
theorem dL_law_259 : decode cL_law 259 = .ok (.aload_n 0, 1) := by decide +kernel
theorem dL_law_260 : decode cL_law 260 = .ok (.iload_n 3, 1) := by decide +kernel
theorem dL_law_261 : decode cL_law 261 = .ok (.iconst 3, 1) := by decide +kernel
theorem dL_law_262 : decode cL_law 262 = .ok (.iadd, 1) := by decide +kernel
theorem dL_law_263 : decode cL_law 263 = .ok (.iaload, 1) := by decide +kernel
theorem dL_law_264 : decode cL_law 264 = .ok (.i2l, 1) := by decide +kernel
theorem dL_law_265 : decode cL_law 265 = .ok (.bipush 32, 2) := by decide +kernel
theorem dL_law_267 : decode cL_law 267 = .ok (.lshl, 1) := by decide +kernel
theorem dL_law_268 : decode cL_law 268 = .ok (.aload_n 0, 1) := by decide +kernel
theorem dL_law_269 : decode cL_law 269 = .ok (.iload_n 3, 1) := by decide +kernel
theorem dL_law_270 : decode cL_law 270 = .ok (.iconst 4, 1) := by decide +kernel
theorem dL_law_271 : decode cL_law 271 = .ok (.iadd, 1) := by decide +kernel
theorem dL_law_272 : decode cL_law 272 = .ok (.iaload, 1) := by decide +kernel
theorem dL_law_273 : decode cL_law 273 = .ok (.i2l, 1) := by decide +kernel
theorem dL_law_274 : decode cL_law 274 = .ok (.ldc2_w 23, 3) := by decide +kernel
theorem dL_law_277 : decode cL_law 277 = .ok (.land, 1) := by decide +kernel
theorem dL_law_278 : decode cL_law 278 = .ok (.lor, 1) := by decide +kernel
theorem dL_law_279 : decode cL_law 279 = .ok (.invokevirtual 25, 3) := by decide +kernel
theorem dL_law_282 : decode cL_law 282 = .ok (.aload_n 2, 1) := by decide +kernel
theorem dL_law_283 : decode cL_law 283 = .ok (.aload_n 0, 1) := by decide +kernel
theorem dL_law_284 : decode cL_law 284 = .ok (.iload_n 3, 1) := by decide +kernel
theorem dL_law_285 : decode cL_law 285 = .ok (.iconst 1, 1) := by decide +kernel
theorem dL_law_286 : decode cL_law 286 = .ok (.iadd, 1) := by decide +kernel
theorem dL_law_287 : decode cL_law 287 = .ok (.iaload, 1) := by decide +kernel
theorem dL_law_288 : decode cL_law 288 = .ok (.aload_n 0, 1) := by decide +kernel
theorem dL_law_289 : decode cL_law 289 = .ok (.iload_n 3, 1) := by decide +kernel
theorem dL_law_290 : decode cL_law 290 = .ok (.iconst 2, 1) := by decide +kernel
theorem dL_law_291 : decode cL_law 291 = .ok (.iadd, 1) := by decide +kernel
theorem dL_law_292 : decode cL_law 292 = .ok (.iaload, 1) := by decide +kernel
theorem dL_law_293 : decode cL_law 293 = .ok (.aload_n 0, 1) := by decide +kernel
theorem dL_law_294 : decode cL_law 294 = .ok (.iload_n 3, 1) := by decide +kernel
theorem dL_law_295 : decode cL_law 295 = .ok (.iconst 3, 1) := by decide +kernel
theorem dL_law_296 : decode cL_law 296 = .ok (.iadd, 1) := by decide +kernel
theorem dL_law_297 : decode cL_law 297 = .ok (.iaload, 1) := by decide +kernel
theorem dL_law_298 : decode cL_law 298 = .ok (.i2l, 1) := by decide +kernel
theorem dL_law_299 : decode cL_law 299 = .ok (.bipush 32, 2) := by decide +kernel
theorem dL_law_301 : decode cL_law 301 = .ok (.lshl, 1) := by decide +kernel
theorem dL_law_302 : decode cL_law 302 = .ok (.aload_n 0, 1) := by decide +kernel
theorem dL_law_303 : decode cL_law 303 = .ok (.iload_n 3, 1) := by decide +kernel
theorem dL_law_304 : decode cL_law 304 = .ok (.iconst 4, 1) := by decide +kernel
theorem dL_law_305 : decode cL_law 305 = .ok (.iadd, 1) := by decide +kernel
theorem dL_law_306 : decode cL_law 306 = .ok (.iaload, 1) := by decide +kernel
theorem dL_law_307 : decode cL_law 307 = .ok (.i2l, 1) := by decide +kernel
theorem dL_law_308 : decode cL_law 308 = .ok (.ldc2_w 23, 3) := by decide +kernel
theorem dL_law_311 : decode cL_law 311 = .ok (.land, 1) := by decide +kernel
theorem dL_law_312 : decode cL_law 312 = .ok (.lor, 1) := by decide +kernel
theorem dL_law_313 : decode cL_law 313 = .ok (.invokevirtual 29, 3) := by decide +kernel
theorem dL_law_316 : decode cL_law 316 = .ok (.if_icmp .eq 1409, 3) := by decide +kernel
theorem dL_law_319 : decode cL_law 319 = .ok (.iconst 0, 1) := by decide +kernel
theorem dL_law_320 : decode cL_law 320 = .ok (.ireturn, 1) := by decide +kernel
theorem dL_law_321 : decode cL_law 321 = .ok (.aload_n 1, 1) := by decide +kernel
theorem dL_law_322 : decode cL_law 322 = .ok (.aload_n 0, 1) := by decide +kernel
theorem dL_law_323 : decode cL_law 323 = .ok (.iload_n 3, 1) := by decide +kernel
theorem dL_law_324 : decode cL_law 324 = .ok (.iconst 1, 1) := by decide +kernel
theorem dL_law_325 : decode cL_law 325 = .ok (.iadd, 1) := by decide +kernel
theorem dL_law_326 : decode cL_law 326 = .ok (.iaload, 1) := by decide +kernel
theorem dL_law_327 : decode cL_law 327 = .ok (.aload_n 0, 1) := by decide +kernel
theorem dL_law_328 : decode cL_law 328 = .ok (.iload_n 3, 1) := by decide +kernel
theorem dL_law_329 : decode cL_law 329 = .ok (.iconst 2, 1) := by decide +kernel
theorem dL_law_330 : decode cL_law 330 = .ok (.iadd, 1) := by decide +kernel
theorem dL_law_331 : decode cL_law 331 = .ok (.iaload, 1) := by decide +kernel
theorem dL_law_332 : decode cL_law 332 = .ok (.invokevirtual 30, 3) := by decide +kernel
theorem dL_law_335 : decode cL_law 335 = .ok (.aload_n 2, 1) := by decide +kernel
theorem dL_law_336 : decode cL_law 336 = .ok (.aload_n 0, 1) := by decide +kernel
theorem dL_law_337 : decode cL_law 337 = .ok (.iload_n 3, 1) := by decide +kernel
theorem dL_law_338 : decode cL_law 338 = .ok (.iconst 1, 1) := by decide +kernel
theorem dL_law_339 : decode cL_law 339 = .ok (.iadd, 1) := by decide +kernel
theorem dL_law_340 : decode cL_law 340 = .ok (.iaload, 1) := by decide +kernel
theorem dL_law_341 : decode cL_law 341 = .ok (.aload_n 0, 1) := by decide +kernel
theorem dL_law_342 : decode cL_law 342 = .ok (.iload_n 3, 1) := by decide +kernel
theorem dL_law_343 : decode cL_law 343 = .ok (.iconst 2, 1) := by decide +kernel
theorem dL_law_344 : decode cL_law 344 = .ok (.iadd, 1) := by decide +kernel
theorem dL_law_345 : decode cL_law 345 = .ok (.iaload, 1) := by decide +kernel
theorem dL_law_346 : decode cL_law 346 = .ok (.invokevirtual 34, 3) := by decide +kernel
theorem dL_law_349 : decode cL_law 349 = .ok (.lcmp, 1) := by decide +kernel
theorem dL_law_350 : decode cL_law 350 = .ok (.ifCond .eq 1375, 3) := by decide +kernel
theorem dL_law_353 : decode cL_law 353 = .ok (.iconst 0, 1) := by decide +kernel
theorem dL_law_354 : decode cL_law 354 = .ok (.ireturn, 1) := by decide +kernel
theorem dL_law_355 : decode cL_law 355 = .ok (.aload_n 1, 1) := by decide +kernel
theorem dL_law_356 : decode cL_law 356 = .ok (.aload_n 0, 1) := by decide +kernel
theorem dL_law_357 : decode cL_law 357 = .ok (.iload_n 3, 1) := by decide +kernel
theorem dL_law_358 : decode cL_law 358 = .ok (.iconst 1, 1) := by decide +kernel
theorem dL_law_359 : decode cL_law 359 = .ok (.iadd, 1) := by decide +kernel
theorem dL_law_360 : decode cL_law 360 = .ok (.iaload, 1) := by decide +kernel
theorem dL_law_361 : decode cL_law 361 = .ok (.aload_n 0, 1) := by decide +kernel
theorem dL_law_362 : decode cL_law 362 = .ok (.iload_n 3, 1) := by decide +kernel
theorem dL_law_363 : decode cL_law 363 = .ok (.iconst 2, 1) := by decide +kernel
theorem dL_law_364 : decode cL_law 364 = .ok (.iadd, 1) := by decide +kernel
theorem dL_law_365 : decode cL_law 365 = .ok (.iaload, 1) := by decide +kernel
theorem dL_law_366 : decode cL_law 366 = .ok (.aload_n 0, 1) := by decide +kernel
theorem dL_law_367 : decode cL_law 367 = .ok (.iload_n 3, 1) := by decide +kernel
theorem dL_law_368 : decode cL_law 368 = .ok (.iconst 3, 1) := by decide +kernel
theorem dL_law_369 : decode cL_law 369 = .ok (.iadd, 1) := by decide +kernel
theorem dL_law_370 : decode cL_law 370 = .ok (.iaload, 1) := by decide +kernel
theorem dL_law_371 : decode cL_law 371 = .ok (.aload_n 0, 1) := by decide +kernel
theorem dL_law_372 : decode cL_law 372 = .ok (.iload_n 3, 1) := by decide +kernel
theorem dL_law_373 : decode cL_law 373 = .ok (.iconst 4, 1) := by decide +kernel
theorem dL_law_374 : decode cL_law 374 = .ok (.iadd, 1) := by decide +kernel
theorem dL_law_375 : decode cL_law 375 = .ok (.iaload, 1) := by decide +kernel
theorem dL_law_376 : decode cL_law 376 = .ok (.aload_n 0, 1) := by decide +kernel
theorem dL_law_377 : decode cL_law 377 = .ok (.iload_n 3, 1) := by decide +kernel
theorem dL_law_378 : decode cL_law 378 = .ok (.iconst 5, 1) := by decide +kernel
theorem dL_law_379 : decode cL_law 379 = .ok (.iadd, 1) := by decide +kernel
theorem dL_law_380 : decode cL_law 380 = .ok (.iaload, 1) := by decide +kernel
theorem dL_law_381 : decode cL_law 381 = .ok (.invokevirtual 35, 3) := by decide +kernel
theorem dL_law_384 : decode cL_law 384 = .ok (.aload_n 2, 1) := by decide +kernel
theorem dL_law_385 : decode cL_law 385 = .ok (.aload_n 0, 1) := by decide +kernel
theorem dL_law_386 : decode cL_law 386 = .ok (.iload_n 3, 1) := by decide +kernel
theorem dL_law_387 : decode cL_law 387 = .ok (.iconst 1, 1) := by decide +kernel
theorem dL_law_388 : decode cL_law 388 = .ok (.iadd, 1) := by decide +kernel
theorem dL_law_389 : decode cL_law 389 = .ok (.iaload, 1) := by decide +kernel
theorem dL_law_390 : decode cL_law 390 = .ok (.aload_n 0, 1) := by decide +kernel
theorem dL_law_391 : decode cL_law 391 = .ok (.iload_n 3, 1) := by decide +kernel
theorem dL_law_392 : decode cL_law 392 = .ok (.iconst 2, 1) := by decide +kernel
theorem dL_law_393 : decode cL_law 393 = .ok (.iadd, 1) := by decide +kernel
theorem dL_law_394 : decode cL_law 394 = .ok (.iaload, 1) := by decide +kernel
theorem dL_law_395 : decode cL_law 395 = .ok (.aload_n 0, 1) := by decide +kernel
theorem dL_law_396 : decode cL_law 396 = .ok (.iload_n 3, 1) := by decide +kernel
theorem dL_law_397 : decode cL_law 397 = .ok (.iconst 3, 1) := by decide +kernel
theorem dL_law_398 : decode cL_law 398 = .ok (.iadd, 1) := by decide +kernel
theorem dL_law_399 : decode cL_law 399 = .ok (.iaload, 1) := by decide +kernel
theorem dL_law_400 : decode cL_law 400 = .ok (.aload_n 0, 1) := by decide +kernel
theorem dL_law_401 : decode cL_law 401 = .ok (.iload_n 3, 1) := by decide +kernel
theorem dL_law_402 : decode cL_law 402 = .ok (.iconst 4, 1) := by decide +kernel
theorem dL_law_403 : decode cL_law 403 = .ok (.iadd, 1) := by decide +kernel
theorem dL_law_404 : decode cL_law 404 = .ok (.iaload, 1) := by decide +kernel
theorem dL_law_405 : decode cL_law 405 = .ok (.aload_n 0, 1) := by decide +kernel
theorem dL_law_406 : decode cL_law 406 = .ok (.iload_n 3, 1) := by decide +kernel
theorem dL_law_407 : decode cL_law 407 = .ok (.iconst 5, 1) := by decide +kernel
theorem dL_law_408 : decode cL_law 408 = .ok (.iadd, 1) := by decide +kernel
theorem dL_law_409 : decode cL_law 409 = .ok (.iaload, 1) := by decide +kernel
theorem dL_law_410 : decode cL_law 410 = .ok (.invokevirtual 39, 3) := by decide +kernel
theorem dL_law_413 : decode cL_law 413 = .ok (.if_icmp .eq 1312, 3) := by decide +kernel
theorem dL_law_416 : decode cL_law 416 = .ok (.iconst 0, 1) := by decide +kernel
theorem dL_law_417 : decode cL_law 417 = .ok (.ireturn, 1) := by decide +kernel
theorem dL_law_418 : decode cL_law 418 = .ok (.aload_n 1, 1) := by decide +kernel
theorem dL_law_419 : decode cL_law 419 = .ok (.aload_n 0, 1) := by decide +kernel
theorem dL_law_420 : decode cL_law 420 = .ok (.iload_n 3, 1) := by decide +kernel
theorem dL_law_421 : decode cL_law 421 = .ok (.iconst 1, 1) := by decide +kernel
theorem dL_law_422 : decode cL_law 422 = .ok (.iadd, 1) := by decide +kernel
theorem dL_law_423 : decode cL_law 423 = .ok (.iaload, 1) := by decide +kernel
theorem dL_law_424 : decode cL_law 424 = .ok (.invokevirtual 40, 3) := by decide +kernel
theorem dL_law_427 : decode cL_law 427 = .ok (.aload_n 2, 1) := by decide +kernel
theorem dL_law_428 : decode cL_law 428 = .ok (.aload_n 0, 1) := by decide +kernel
theorem dL_law_429 : decode cL_law 429 = .ok (.iload_n 3, 1) := by decide +kernel
theorem dL_law_430 : decode cL_law 430 = .ok (.iconst 1, 1) := by decide +kernel
theorem dL_law_431 : decode cL_law 431 = .ok (.iadd, 1) := by decide +kernel
theorem dL_law_432 : decode cL_law 432 = .ok (.iaload, 1) := by decide +kernel
theorem dL_law_433 : decode cL_law 433 = .ok (.invokevirtual 44, 3) := by decide +kernel
theorem dL_law_436 : decode cL_law 436 = .ok (.if_icmp .eq 1289, 3) := by decide +kernel
theorem dL_law_439 : decode cL_law 439 = .ok (.iconst 0, 1) := by decide +kernel
theorem dL_law_440 : decode cL_law 440 = .ok (.ireturn, 1) := by decide +kernel
theorem dL_law_441 : decode cL_law 441 = .ok (.aload_n 1, 1) := by decide +kernel
theorem dL_law_442 : decode cL_law 442 = .ok (.aload_n 0, 1) := by decide +kernel
theorem dL_law_443 : decode cL_law 443 = .ok (.iload_n 3, 1) := by decide +kernel
theorem dL_law_444 : decode cL_law 444 = .ok (.iconst 1, 1) := by decide +kernel
theorem dL_law_445 : decode cL_law 445 = .ok (.iadd, 1) := by decide +kernel
theorem dL_law_446 : decode cL_law 446 = .ok (.iaload, 1) := by decide +kernel
theorem dL_law_447 : decode cL_law 447 = .ok (.aload_n 0, 1) := by decide +kernel
theorem dL_law_448 : decode cL_law 448 = .ok (.iload_n 3, 1) := by decide +kernel
theorem dL_law_449 : decode cL_law 449 = .ok (.iconst 2, 1) := by decide +kernel
theorem dL_law_450 : decode cL_law 450 = .ok (.iadd, 1) := by decide +kernel
theorem dL_law_451 : decode cL_law 451 = .ok (.iaload, 1) := by decide +kernel
theorem dL_law_452 : decode cL_law 452 = .ok (.aload_n 0, 1) := by decide +kernel
theorem dL_law_453 : decode cL_law 453 = .ok (.iload_n 3, 1) := by decide +kernel
theorem dL_law_454 : decode cL_law 454 = .ok (.iconst 3, 1) := by decide +kernel
theorem dL_law_455 : decode cL_law 455 = .ok (.iadd, 1) := by decide +kernel
theorem dL_law_456 : decode cL_law 456 = .ok (.iaload, 1) := by decide +kernel
theorem dL_law_457 : decode cL_law 457 = .ok (.aload_n 0, 1) := by decide +kernel
theorem dL_law_458 : decode cL_law 458 = .ok (.iload_n 3, 1) := by decide +kernel
theorem dL_law_459 : decode cL_law 459 = .ok (.iconst 4, 1) := by decide +kernel
theorem dL_law_460 : decode cL_law 460 = .ok (.iadd, 1) := by decide +kernel
theorem dL_law_461 : decode cL_law 461 = .ok (.iaload, 1) := by decide +kernel
theorem dL_law_462 : decode cL_law 462 = .ok (.aload_n 0, 1) := by decide +kernel
theorem dL_law_463 : decode cL_law 463 = .ok (.iload_n 3, 1) := by decide +kernel
theorem dL_law_464 : decode cL_law 464 = .ok (.iconst 5, 1) := by decide +kernel
theorem dL_law_465 : decode cL_law 465 = .ok (.iadd, 1) := by decide +kernel
theorem dL_law_466 : decode cL_law 466 = .ok (.iaload, 1) := by decide +kernel
theorem dL_law_467 : decode cL_law 467 = .ok (.invokevirtual 45, 3) := by decide +kernel
theorem dL_law_470 : decode cL_law 470 = .ok (.aload_n 2, 1) := by decide +kernel
theorem dL_law_471 : decode cL_law 471 = .ok (.aload_n 0, 1) := by decide +kernel
theorem dL_law_472 : decode cL_law 472 = .ok (.iload_n 3, 1) := by decide +kernel
theorem dL_law_473 : decode cL_law 473 = .ok (.iconst 1, 1) := by decide +kernel
theorem dL_law_474 : decode cL_law 474 = .ok (.iadd, 1) := by decide +kernel
theorem dL_law_475 : decode cL_law 475 = .ok (.iaload, 1) := by decide +kernel
theorem dL_law_476 : decode cL_law 476 = .ok (.aload_n 0, 1) := by decide +kernel
theorem dL_law_477 : decode cL_law 477 = .ok (.iload_n 3, 1) := by decide +kernel
theorem dL_law_478 : decode cL_law 478 = .ok (.iconst 2, 1) := by decide +kernel
theorem dL_law_479 : decode cL_law 479 = .ok (.iadd, 1) := by decide +kernel
theorem dL_law_480 : decode cL_law 480 = .ok (.iaload, 1) := by decide +kernel
theorem dL_law_481 : decode cL_law 481 = .ok (.aload_n 0, 1) := by decide +kernel
theorem dL_law_482 : decode cL_law 482 = .ok (.iload_n 3, 1) := by decide +kernel
theorem dL_law_483 : decode cL_law 483 = .ok (.iconst 3, 1) := by decide +kernel
theorem dL_law_484 : decode cL_law 484 = .ok (.iadd, 1) := by decide +kernel
theorem dL_law_485 : decode cL_law 485 = .ok (.iaload, 1) := by decide +kernel
theorem dL_law_486 : decode cL_law 486 = .ok (.aload_n 0, 1) := by decide +kernel
theorem dL_law_487 : decode cL_law 487 = .ok (.iload_n 3, 1) := by decide +kernel
theorem dL_law_488 : decode cL_law 488 = .ok (.iconst 4, 1) := by decide +kernel
theorem dL_law_489 : decode cL_law 489 = .ok (.iadd, 1) := by decide +kernel
theorem dL_law_490 : decode cL_law 490 = .ok (.iaload, 1) := by decide +kernel
theorem dL_law_491 : decode cL_law 491 = .ok (.aload_n 0, 1) := by decide +kernel
theorem dL_law_492 : decode cL_law 492 = .ok (.iload_n 3, 1) := by decide +kernel
theorem dL_law_493 : decode cL_law 493 = .ok (.iconst 5, 1) := by decide +kernel
theorem dL_law_494 : decode cL_law 494 = .ok (.iadd, 1) := by decide +kernel
theorem dL_law_495 : decode cL_law 495 = .ok (.iaload, 1) := by decide +kernel
theorem dL_law_496 : decode cL_law 496 = .ok (.invokevirtual 49, 3) := by decide +kernel
theorem dL_law_499 : decode cL_law 499 = .ok (.if_icmp .eq 1226, 3) := by decide +kernel
theorem dL_law_502 : decode cL_law 502 = .ok (.iconst 0, 1) := by decide +kernel
theorem dL_law_503 : decode cL_law 503 = .ok (.ireturn, 1) := by decide +kernel
theorem dL_law_504 : decode cL_law 504 = .ok (.aload_n 1, 1) := by decide +kernel
theorem dL_law_505 : decode cL_law 505 = .ok (.aload_n 0, 1) := by decide +kernel
theorem dL_law_506 : decode cL_law 506 = .ok (.iload_n 3, 1) := by decide +kernel
theorem dL_law_507 : decode cL_law 507 = .ok (.iconst 1, 1) := by decide +kernel
theorem dL_law_508 : decode cL_law 508 = .ok (.iadd, 1) := by decide +kernel
theorem dL_law_509 : decode cL_law 509 = .ok (.iaload, 1) := by decide +kernel
theorem dL_law_510 : decode cL_law 510 = .ok (.aload_n 0, 1) := by decide +kernel
theorem dL_law_511 : decode cL_law 511 = .ok (.iload_n 3, 1) := by decide +kernel
theorem dL_law_512 : decode cL_law 512 = .ok (.iconst 2, 1) := by decide +kernel
theorem dL_law_513 : decode cL_law 513 = .ok (.iadd, 1) := by decide +kernel
theorem dL_law_514 : decode cL_law 514 = .ok (.iaload, 1) := by decide +kernel
theorem dL_law_515 : decode cL_law 515 = .ok (.aload_n 0, 1) := by decide +kernel
theorem dL_law_516 : decode cL_law 516 = .ok (.iload_n 3, 1) := by decide +kernel
theorem dL_law_517 : decode cL_law 517 = .ok (.iconst 3, 1) := by decide +kernel
theorem dL_law_518 : decode cL_law 518 = .ok (.iadd, 1) := by decide +kernel
theorem dL_law_519 : decode cL_law 519 = .ok (.iaload, 1) := by decide +kernel
theorem dL_law_520 : decode cL_law 520 = .ok (.invokevirtual 50, 3) := by decide +kernel
theorem dL_law_523 : decode cL_law 523 = .ok (.aload_n 2, 1) := by decide +kernel
theorem dL_law_524 : decode cL_law 524 = .ok (.aload_n 0, 1) := by decide +kernel
theorem dL_law_525 : decode cL_law 525 = .ok (.iload_n 3, 1) := by decide +kernel
theorem dL_law_526 : decode cL_law 526 = .ok (.iconst 1, 1) := by decide +kernel
theorem dL_law_527 : decode cL_law 527 = .ok (.iadd, 1) := by decide +kernel
theorem dL_law_528 : decode cL_law 528 = .ok (.iaload, 1) := by decide +kernel
theorem dL_law_529 : decode cL_law 529 = .ok (.aload_n 0, 1) := by decide +kernel
theorem dL_law_530 : decode cL_law 530 = .ok (.iload_n 3, 1) := by decide +kernel
theorem dL_law_531 : decode cL_law 531 = .ok (.iconst 2, 1) := by decide +kernel
theorem dL_law_532 : decode cL_law 532 = .ok (.iadd, 1) := by decide +kernel
theorem dL_law_533 : decode cL_law 533 = .ok (.iaload, 1) := by decide +kernel
theorem dL_law_534 : decode cL_law 534 = .ok (.aload_n 0, 1) := by decide +kernel
theorem dL_law_535 : decode cL_law 535 = .ok (.iload_n 3, 1) := by decide +kernel
theorem dL_law_536 : decode cL_law 536 = .ok (.iconst 3, 1) := by decide +kernel
theorem dL_law_537 : decode cL_law 537 = .ok (.iadd, 1) := by decide +kernel
theorem dL_law_538 : decode cL_law 538 = .ok (.iaload, 1) := by decide +kernel
theorem dL_law_539 : decode cL_law 539 = .ok (.invokevirtual 54, 3) := by decide +kernel
theorem dL_law_542 : decode cL_law 542 = .ok (.if_icmp .eq 1183, 3) := by decide +kernel
theorem dL_law_545 : decode cL_law 545 = .ok (.iconst 0, 1) := by decide +kernel
theorem dL_law_546 : decode cL_law 546 = .ok (.ireturn, 1) := by decide +kernel
theorem dL_law_547 : decode cL_law 547 = .ok (.aload_n 1, 1) := by decide +kernel
theorem dL_law_548 : decode cL_law 548 = .ok (.aload_n 0, 1) := by decide +kernel
theorem dL_law_549 : decode cL_law 549 = .ok (.iload_n 3, 1) := by decide +kernel
theorem dL_law_550 : decode cL_law 550 = .ok (.iconst 1, 1) := by decide +kernel
theorem dL_law_551 : decode cL_law 551 = .ok (.iadd, 1) := by decide +kernel
theorem dL_law_552 : decode cL_law 552 = .ok (.iaload, 1) := by decide +kernel
theorem dL_law_553 : decode cL_law 553 = .ok (.aload_n 0, 1) := by decide +kernel
theorem dL_law_554 : decode cL_law 554 = .ok (.iload_n 3, 1) := by decide +kernel
theorem dL_law_555 : decode cL_law 555 = .ok (.iconst 2, 1) := by decide +kernel
theorem dL_law_556 : decode cL_law 556 = .ok (.iadd, 1) := by decide +kernel
theorem dL_law_557 : decode cL_law 557 = .ok (.iaload, 1) := by decide +kernel
theorem dL_law_558 : decode cL_law 558 = .ok (.aload_n 0, 1) := by decide +kernel
theorem dL_law_559 : decode cL_law 559 = .ok (.iload_n 3, 1) := by decide +kernel
theorem dL_law_560 : decode cL_law 560 = .ok (.iconst 3, 1) := by decide +kernel
theorem dL_law_561 : decode cL_law 561 = .ok (.iadd, 1) := by decide +kernel
theorem dL_law_562 : decode cL_law 562 = .ok (.iaload, 1) := by decide +kernel
theorem dL_law_563 : decode cL_law 563 = .ok (.invokevirtual 55, 3) := by decide +kernel
theorem dL_law_566 : decode cL_law 566 = .ok (.aload_n 2, 1) := by decide +kernel
theorem dL_law_567 : decode cL_law 567 = .ok (.aload_n 0, 1) := by decide +kernel
theorem dL_law_568 : decode cL_law 568 = .ok (.iload_n 3, 1) := by decide +kernel
theorem dL_law_569 : decode cL_law 569 = .ok (.iconst 1, 1) := by decide +kernel
theorem dL_law_570 : decode cL_law 570 = .ok (.iadd, 1) := by decide +kernel
theorem dL_law_571 : decode cL_law 571 = .ok (.iaload, 1) := by decide +kernel
theorem dL_law_572 : decode cL_law 572 = .ok (.aload_n 0, 1) := by decide +kernel
theorem dL_law_573 : decode cL_law 573 = .ok (.iload_n 3, 1) := by decide +kernel
theorem dL_law_574 : decode cL_law 574 = .ok (.iconst 2, 1) := by decide +kernel
theorem dL_law_575 : decode cL_law 575 = .ok (.iadd, 1) := by decide +kernel
theorem dL_law_576 : decode cL_law 576 = .ok (.iaload, 1) := by decide +kernel
theorem dL_law_577 : decode cL_law 577 = .ok (.aload_n 0, 1) := by decide +kernel
theorem dL_law_578 : decode cL_law 578 = .ok (.iload_n 3, 1) := by decide +kernel
theorem dL_law_579 : decode cL_law 579 = .ok (.iconst 3, 1) := by decide +kernel
theorem dL_law_580 : decode cL_law 580 = .ok (.iadd, 1) := by decide +kernel
theorem dL_law_581 : decode cL_law 581 = .ok (.iaload, 1) := by decide +kernel
theorem dL_law_582 : decode cL_law 582 = .ok (.invokevirtual 58, 3) := by decide +kernel
theorem dL_law_585 : decode cL_law 585 = .ok (.if_icmp .eq 1140, 3) := by decide +kernel
theorem dL_law_588 : decode cL_law 588 = .ok (.iconst 0, 1) := by decide +kernel
theorem dL_law_589 : decode cL_law 589 = .ok (.ireturn, 1) := by decide +kernel
theorem dL_law_590 : decode cL_law 590 = .ok (.aload_n 1, 1) := by decide +kernel
theorem dL_law_591 : decode cL_law 591 = .ok (.aload_n 0, 1) := by decide +kernel
theorem dL_law_592 : decode cL_law 592 = .ok (.iload_n 3, 1) := by decide +kernel
theorem dL_law_593 : decode cL_law 593 = .ok (.iconst 1, 1) := by decide +kernel
theorem dL_law_594 : decode cL_law 594 = .ok (.iadd, 1) := by decide +kernel
theorem dL_law_595 : decode cL_law 595 = .ok (.iaload, 1) := by decide +kernel
theorem dL_law_596 : decode cL_law 596 = .ok (.aload_n 0, 1) := by decide +kernel
theorem dL_law_597 : decode cL_law 597 = .ok (.iload_n 3, 1) := by decide +kernel
theorem dL_law_598 : decode cL_law 598 = .ok (.iconst 2, 1) := by decide +kernel
theorem dL_law_599 : decode cL_law 599 = .ok (.iadd, 1) := by decide +kernel
theorem dL_law_600 : decode cL_law 600 = .ok (.iaload, 1) := by decide +kernel
theorem dL_law_601 : decode cL_law 601 = .ok (.invokevirtual 59, 3) := by decide +kernel
theorem dL_law_604 : decode cL_law 604 = .ok (.aload_n 2, 1) := by decide +kernel
theorem dL_law_605 : decode cL_law 605 = .ok (.aload_n 0, 1) := by decide +kernel
theorem dL_law_606 : decode cL_law 606 = .ok (.iload_n 3, 1) := by decide +kernel
theorem dL_law_607 : decode cL_law 607 = .ok (.iconst 1, 1) := by decide +kernel
theorem dL_law_608 : decode cL_law 608 = .ok (.iadd, 1) := by decide +kernel
theorem dL_law_609 : decode cL_law 609 = .ok (.iaload, 1) := by decide +kernel
theorem dL_law_610 : decode cL_law 610 = .ok (.aload_n 0, 1) := by decide +kernel
theorem dL_law_611 : decode cL_law 611 = .ok (.iload_n 3, 1) := by decide +kernel
theorem dL_law_612 : decode cL_law 612 = .ok (.iconst 2, 1) := by decide +kernel
theorem dL_law_613 : decode cL_law 613 = .ok (.iadd, 1) := by decide +kernel
theorem dL_law_614 : decode cL_law 614 = .ok (.iaload, 1) := by decide +kernel
theorem dL_law_615 : decode cL_law 615 = .ok (.invokevirtual 63, 3) := by decide +kernel
theorem dL_law_618 : decode cL_law 618 = .ok (.if_icmp .eq 1107, 3) := by decide +kernel
theorem dL_law_621 : decode cL_law 621 = .ok (.iconst 0, 1) := by decide +kernel
theorem dL_law_622 : decode cL_law 622 = .ok (.ireturn, 1) := by decide +kernel
theorem dL_law_623 : decode cL_law 623 = .ok (.aload_n 1, 1) := by decide +kernel
theorem dL_law_624 : decode cL_law 624 = .ok (.aload_n 0, 1) := by decide +kernel
theorem dL_law_625 : decode cL_law 625 = .ok (.iload_n 3, 1) := by decide +kernel
theorem dL_law_626 : decode cL_law 626 = .ok (.iconst 1, 1) := by decide +kernel
theorem dL_law_627 : decode cL_law 627 = .ok (.iadd, 1) := by decide +kernel
theorem dL_law_628 : decode cL_law 628 = .ok (.iaload, 1) := by decide +kernel
theorem dL_law_629 : decode cL_law 629 = .ok (.invokevirtual 64, 3) := by decide +kernel
theorem dL_law_632 : decode cL_law 632 = .ok (.aload_n 2, 1) := by decide +kernel
theorem dL_law_633 : decode cL_law 633 = .ok (.aload_n 0, 1) := by decide +kernel
theorem dL_law_634 : decode cL_law 634 = .ok (.iload_n 3, 1) := by decide +kernel
theorem dL_law_635 : decode cL_law 635 = .ok (.iconst 1, 1) := by decide +kernel
theorem dL_law_636 : decode cL_law 636 = .ok (.iadd, 1) := by decide +kernel
theorem dL_law_637 : decode cL_law 637 = .ok (.iaload, 1) := by decide +kernel
theorem dL_law_638 : decode cL_law 638 = .ok (.invokevirtual 67, 3) := by decide +kernel
theorem dL_law_641 : decode cL_law 641 = .ok (.if_icmp .eq 1084, 3) := by decide +kernel
theorem dL_law_644 : decode cL_law 644 = .ok (.iconst 0, 1) := by decide +kernel
theorem dL_law_645 : decode cL_law 645 = .ok (.ireturn, 1) := by decide +kernel
theorem dL_law_646 : decode cL_law 646 = .ok (.aload_n 1, 1) := by decide +kernel
theorem dL_law_647 : decode cL_law 647 = .ok (.aload_n 0, 1) := by decide +kernel
theorem dL_law_648 : decode cL_law 648 = .ok (.iload_n 3, 1) := by decide +kernel
theorem dL_law_649 : decode cL_law 649 = .ok (.iconst 1, 1) := by decide +kernel
theorem dL_law_650 : decode cL_law 650 = .ok (.iadd, 1) := by decide +kernel
theorem dL_law_651 : decode cL_law 651 = .ok (.iaload, 1) := by decide +kernel
theorem dL_law_652 : decode cL_law 652 = .ok (.aload_n 0, 1) := by decide +kernel
theorem dL_law_653 : decode cL_law 653 = .ok (.iload_n 3, 1) := by decide +kernel
theorem dL_law_654 : decode cL_law 654 = .ok (.iconst 2, 1) := by decide +kernel
theorem dL_law_655 : decode cL_law 655 = .ok (.iadd, 1) := by decide +kernel
theorem dL_law_656 : decode cL_law 656 = .ok (.iaload, 1) := by decide +kernel
theorem dL_law_657 : decode cL_law 657 = .ok (.aload_n 0, 1) := by decide +kernel
theorem dL_law_658 : decode cL_law 658 = .ok (.iload_n 3, 1) := by decide +kernel
theorem dL_law_659 : decode cL_law 659 = .ok (.iconst 3, 1) := by decide +kernel
theorem dL_law_660 : decode cL_law 660 = .ok (.iadd, 1) := by decide +kernel
theorem dL_law_661 : decode cL_law 661 = .ok (.iaload, 1) := by decide +kernel
theorem dL_law_662 : decode cL_law 662 = .ok (.aload_n 0, 1) := by decide +kernel
theorem dL_law_663 : decode cL_law 663 = .ok (.iload_n 3, 1) := by decide +kernel
theorem dL_law_664 : decode cL_law 664 = .ok (.iconst 4, 1) := by decide +kernel
theorem dL_law_665 : decode cL_law 665 = .ok (.iadd, 1) := by decide +kernel
theorem dL_law_666 : decode cL_law 666 = .ok (.iaload, 1) := by decide +kernel
theorem dL_law_667 : decode cL_law 667 = .ok (.aload_n 0, 1) := by decide +kernel
theorem dL_law_668 : decode cL_law 668 = .ok (.iload_n 3, 1) := by decide +kernel
theorem dL_law_669 : decode cL_law 669 = .ok (.iconst 5, 1) := by decide +kernel
theorem dL_law_670 : decode cL_law 670 = .ok (.iadd, 1) := by decide +kernel
theorem dL_law_671 : decode cL_law 671 = .ok (.iaload, 1) := by decide +kernel
theorem dL_law_672 : decode cL_law 672 = .ok (.aload_n 0, 1) := by decide +kernel
theorem dL_law_673 : decode cL_law 673 = .ok (.iload_n 3, 1) := by decide +kernel
theorem dL_law_674 : decode cL_law 674 = .ok (.bipush 6, 2) := by decide +kernel
theorem dL_law_676 : decode cL_law 676 = .ok (.iadd, 1) := by decide +kernel
theorem dL_law_677 : decode cL_law 677 = .ok (.iaload, 1) := by decide +kernel
theorem dL_law_678 : decode cL_law 678 = .ok (.invokevirtual 68, 3) := by decide +kernel
theorem dL_law_681 : decode cL_law 681 = .ok (.aload_n 2, 1) := by decide +kernel
theorem dL_law_682 : decode cL_law 682 = .ok (.aload_n 0, 1) := by decide +kernel
theorem dL_law_683 : decode cL_law 683 = .ok (.iload_n 3, 1) := by decide +kernel
theorem dL_law_684 : decode cL_law 684 = .ok (.iconst 1, 1) := by decide +kernel
theorem dL_law_685 : decode cL_law 685 = .ok (.iadd, 1) := by decide +kernel
theorem dL_law_686 : decode cL_law 686 = .ok (.iaload, 1) := by decide +kernel
theorem dL_law_687 : decode cL_law 687 = .ok (.aload_n 0, 1) := by decide +kernel
theorem dL_law_688 : decode cL_law 688 = .ok (.iload_n 3, 1) := by decide +kernel
theorem dL_law_689 : decode cL_law 689 = .ok (.iconst 2, 1) := by decide +kernel
theorem dL_law_690 : decode cL_law 690 = .ok (.iadd, 1) := by decide +kernel
theorem dL_law_691 : decode cL_law 691 = .ok (.iaload, 1) := by decide +kernel
theorem dL_law_692 : decode cL_law 692 = .ok (.aload_n 0, 1) := by decide +kernel
theorem dL_law_693 : decode cL_law 693 = .ok (.iload_n 3, 1) := by decide +kernel
theorem dL_law_694 : decode cL_law 694 = .ok (.iconst 3, 1) := by decide +kernel
theorem dL_law_695 : decode cL_law 695 = .ok (.iadd, 1) := by decide +kernel
theorem dL_law_696 : decode cL_law 696 = .ok (.iaload, 1) := by decide +kernel
theorem dL_law_697 : decode cL_law 697 = .ok (.aload_n 0, 1) := by decide +kernel
theorem dL_law_698 : decode cL_law 698 = .ok (.iload_n 3, 1) := by decide +kernel
theorem dL_law_699 : decode cL_law 699 = .ok (.iconst 4, 1) := by decide +kernel
theorem dL_law_700 : decode cL_law 700 = .ok (.iadd, 1) := by decide +kernel
theorem dL_law_701 : decode cL_law 701 = .ok (.iaload, 1) := by decide +kernel
theorem dL_law_702 : decode cL_law 702 = .ok (.aload_n 0, 1) := by decide +kernel
theorem dL_law_703 : decode cL_law 703 = .ok (.iload_n 3, 1) := by decide +kernel
theorem dL_law_704 : decode cL_law 704 = .ok (.iconst 5, 1) := by decide +kernel
theorem dL_law_705 : decode cL_law 705 = .ok (.iadd, 1) := by decide +kernel
theorem dL_law_706 : decode cL_law 706 = .ok (.iaload, 1) := by decide +kernel
theorem dL_law_707 : decode cL_law 707 = .ok (.aload_n 0, 1) := by decide +kernel
theorem dL_law_708 : decode cL_law 708 = .ok (.iload_n 3, 1) := by decide +kernel
theorem dL_law_709 : decode cL_law 709 = .ok (.bipush 6, 2) := by decide +kernel
theorem dL_law_711 : decode cL_law 711 = .ok (.iadd, 1) := by decide +kernel
theorem dL_law_712 : decode cL_law 712 = .ok (.iaload, 1) := by decide +kernel
theorem dL_law_713 : decode cL_law 713 = .ok (.invokevirtual 72, 3) := by decide +kernel
theorem dL_law_716 : decode cL_law 716 = .ok (.if_icmp .eq 1009, 3) := by decide +kernel
theorem dL_law_719 : decode cL_law 719 = .ok (.iconst 0, 1) := by decide +kernel
theorem dL_law_720 : decode cL_law 720 = .ok (.ireturn, 1) := by decide +kernel
theorem dL_law_721 : decode cL_law 721 = .ok (.aload_n 1, 1) := by decide +kernel
theorem dL_law_722 : decode cL_law 722 = .ok (.aload_n 0, 1) := by decide +kernel
theorem dL_law_723 : decode cL_law 723 = .ok (.iload_n 3, 1) := by decide +kernel
theorem dL_law_724 : decode cL_law 724 = .ok (.iconst 1, 1) := by decide +kernel
theorem dL_law_725 : decode cL_law 725 = .ok (.iadd, 1) := by decide +kernel
theorem dL_law_726 : decode cL_law 726 = .ok (.iaload, 1) := by decide +kernel
theorem dL_law_727 : decode cL_law 727 = .ok (.invokevirtual 73, 3) := by decide +kernel
theorem dL_law_730 : decode cL_law 730 = .ok (.aload_n 2, 1) := by decide +kernel
theorem dL_law_731 : decode cL_law 731 = .ok (.aload_n 0, 1) := by decide +kernel
theorem dL_law_732 : decode cL_law 732 = .ok (.iload_n 3, 1) := by decide +kernel
theorem dL_law_733 : decode cL_law 733 = .ok (.iconst 1, 1) := by decide +kernel
theorem dL_law_734 : decode cL_law 734 = .ok (.iadd, 1) := by decide +kernel
theorem dL_law_735 : decode cL_law 735 = .ok (.iaload, 1) := by decide +kernel
theorem dL_law_736 : decode cL_law 736 = .ok (.invokevirtual 77, 3) := by decide +kernel
theorem dL_law_739 : decode cL_law 739 = .ok (.if_icmp .eq 986, 3) := by decide +kernel
theorem dL_law_742 : decode cL_law 742 = .ok (.iconst 0, 1) := by decide +kernel
theorem dL_law_743 : decode cL_law 743 = .ok (.ireturn, 1) := by decide +kernel
theorem dL_law_744 : decode cL_law 744 = .ok (.aload_n 1, 1) := by decide +kernel
theorem dL_law_745 : decode cL_law 745 = .ok (.aload_n 0, 1) := by decide +kernel
theorem dL_law_746 : decode cL_law 746 = .ok (.iload_n 3, 1) := by decide +kernel
theorem dL_law_747 : decode cL_law 747 = .ok (.iconst 1, 1) := by decide +kernel
theorem dL_law_748 : decode cL_law 748 = .ok (.iadd, 1) := by decide +kernel
theorem dL_law_749 : decode cL_law 749 = .ok (.iaload, 1) := by decide +kernel
theorem dL_law_750 : decode cL_law 750 = .ok (.aload_n 0, 1) := by decide +kernel
theorem dL_law_751 : decode cL_law 751 = .ok (.iload_n 3, 1) := by decide +kernel
theorem dL_law_752 : decode cL_law 752 = .ok (.iconst 2, 1) := by decide +kernel
theorem dL_law_753 : decode cL_law 753 = .ok (.iadd, 1) := by decide +kernel
theorem dL_law_754 : decode cL_law 754 = .ok (.iaload, 1) := by decide +kernel
theorem dL_law_755 : decode cL_law 755 = .ok (.aload_n 0, 1) := by decide +kernel
theorem dL_law_756 : decode cL_law 756 = .ok (.iload_n 3, 1) := by decide +kernel
theorem dL_law_757 : decode cL_law 757 = .ok (.iconst 3, 1) := by decide +kernel
theorem dL_law_758 : decode cL_law 758 = .ok (.iadd, 1) := by decide +kernel
theorem dL_law_759 : decode cL_law 759 = .ok (.iaload, 1) := by decide +kernel
theorem dL_law_760 : decode cL_law 760 = .ok (.invokevirtual 78, 3) := by decide +kernel
theorem dL_law_763 : decode cL_law 763 = .ok (.aload_n 2, 1) := by decide +kernel
theorem dL_law_764 : decode cL_law 764 = .ok (.aload_n 0, 1) := by decide +kernel
theorem dL_law_765 : decode cL_law 765 = .ok (.iload_n 3, 1) := by decide +kernel
theorem dL_law_766 : decode cL_law 766 = .ok (.iconst 1, 1) := by decide +kernel
theorem dL_law_767 : decode cL_law 767 = .ok (.iadd, 1) := by decide +kernel
theorem dL_law_768 : decode cL_law 768 = .ok (.iaload, 1) := by decide +kernel
theorem dL_law_769 : decode cL_law 769 = .ok (.aload_n 0, 1) := by decide +kernel
theorem dL_law_770 : decode cL_law 770 = .ok (.iload_n 3, 1) := by decide +kernel
theorem dL_law_771 : decode cL_law 771 = .ok (.iconst 2, 1) := by decide +kernel
theorem dL_law_772 : decode cL_law 772 = .ok (.iadd, 1) := by decide +kernel
theorem dL_law_773 : decode cL_law 773 = .ok (.iaload, 1) := by decide +kernel
theorem dL_law_774 : decode cL_law 774 = .ok (.aload_n 0, 1) := by decide +kernel
theorem dL_law_775 : decode cL_law 775 = .ok (.iload_n 3, 1) := by decide +kernel
theorem dL_law_776 : decode cL_law 776 = .ok (.iconst 3, 1) := by decide +kernel
theorem dL_law_777 : decode cL_law 777 = .ok (.iadd, 1) := by decide +kernel
theorem dL_law_778 : decode cL_law 778 = .ok (.iaload, 1) := by decide +kernel
theorem dL_law_779 : decode cL_law 779 = .ok (.invokevirtual 81, 3) := by decide +kernel
theorem dL_law_782 : decode cL_law 782 = .ok (.if_icmp .eq 943, 3) := by decide +kernel
theorem dL_law_785 : decode cL_law 785 = .ok (.iconst 0, 1) := by decide +kernel
theorem dL_law_786 : decode cL_law 786 = .ok (.ireturn, 1) := by decide +kernel
theorem dL_law_787 : decode cL_law 787 = .ok (.aload_n 1, 1) := by decide +kernel
theorem dL_law_788 : decode cL_law 788 = .ok (.aload_n 0, 1) := by decide +kernel
theorem dL_law_789 : decode cL_law 789 = .ok (.iload_n 3, 1) := by decide +kernel
theorem dL_law_790 : decode cL_law 790 = .ok (.iconst 1, 1) := by decide +kernel
theorem dL_law_791 : decode cL_law 791 = .ok (.iadd, 1) := by decide +kernel
theorem dL_law_792 : decode cL_law 792 = .ok (.iaload, 1) := by decide +kernel
theorem dL_law_793 : decode cL_law 793 = .ok (.aload_n 0, 1) := by decide +kernel
theorem dL_law_794 : decode cL_law 794 = .ok (.iload_n 3, 1) := by decide +kernel
theorem dL_law_795 : decode cL_law 795 = .ok (.iconst 2, 1) := by decide +kernel
theorem dL_law_796 : decode cL_law 796 = .ok (.iadd, 1) := by decide +kernel
theorem dL_law_797 : decode cL_law 797 = .ok (.iaload, 1) := by decide +kernel
theorem dL_law_798 : decode cL_law 798 = .ok (.invokevirtual 82, 3) := by decide +kernel
theorem dL_law_801 : decode cL_law 801 = .ok (.aload_n 2, 1) := by decide +kernel
theorem dL_law_802 : decode cL_law 802 = .ok (.aload_n 0, 1) := by decide +kernel
theorem dL_law_803 : decode cL_law 803 = .ok (.iload_n 3, 1) := by decide +kernel
theorem dL_law_804 : decode cL_law 804 = .ok (.iconst 1, 1) := by decide +kernel
theorem dL_law_805 : decode cL_law 805 = .ok (.iadd, 1) := by decide +kernel
theorem dL_law_806 : decode cL_law 806 = .ok (.iaload, 1) := by decide +kernel
theorem dL_law_807 : decode cL_law 807 = .ok (.aload_n 0, 1) := by decide +kernel
theorem dL_law_808 : decode cL_law 808 = .ok (.iload_n 3, 1) := by decide +kernel
theorem dL_law_809 : decode cL_law 809 = .ok (.iconst 2, 1) := by decide +kernel
theorem dL_law_810 : decode cL_law 810 = .ok (.iadd, 1) := by decide +kernel
theorem dL_law_811 : decode cL_law 811 = .ok (.iaload, 1) := by decide +kernel
theorem dL_law_812 : decode cL_law 812 = .ok (.invokevirtual 85, 3) := by decide +kernel
theorem dL_law_815 : decode cL_law 815 = .ok (.if_icmp .eq 910, 3) := by decide +kernel
theorem dL_law_818 : decode cL_law 818 = .ok (.iconst 0, 1) := by decide +kernel
theorem dL_law_819 : decode cL_law 819 = .ok (.ireturn, 1) := by decide +kernel
theorem dL_law_820 : decode cL_law 820 = .ok (.aload_n 1, 1) := by decide +kernel
theorem dL_law_821 : decode cL_law 821 = .ok (.aload_n 0, 1) := by decide +kernel
theorem dL_law_822 : decode cL_law 822 = .ok (.iload_n 3, 1) := by decide +kernel
theorem dL_law_823 : decode cL_law 823 = .ok (.iconst 1, 1) := by decide +kernel
theorem dL_law_824 : decode cL_law 824 = .ok (.iadd, 1) := by decide +kernel
theorem dL_law_825 : decode cL_law 825 = .ok (.iaload, 1) := by decide +kernel
theorem dL_law_826 : decode cL_law 826 = .ok (.aload_n 0, 1) := by decide +kernel
theorem dL_law_827 : decode cL_law 827 = .ok (.iload_n 3, 1) := by decide +kernel
theorem dL_law_828 : decode cL_law 828 = .ok (.iconst 2, 1) := by decide +kernel
theorem dL_law_829 : decode cL_law 829 = .ok (.iadd, 1) := by decide +kernel
theorem dL_law_830 : decode cL_law 830 = .ok (.iaload, 1) := by decide +kernel
theorem dL_law_831 : decode cL_law 831 = .ok (.aload_n 0, 1) := by decide +kernel
theorem dL_law_832 : decode cL_law 832 = .ok (.iload_n 3, 1) := by decide +kernel
theorem dL_law_833 : decode cL_law 833 = .ok (.iconst 3, 1) := by decide +kernel
theorem dL_law_834 : decode cL_law 834 = .ok (.iadd, 1) := by decide +kernel
theorem dL_law_835 : decode cL_law 835 = .ok (.iaload, 1) := by decide +kernel
theorem dL_law_836 : decode cL_law 836 = .ok (.aload_n 0, 1) := by decide +kernel
theorem dL_law_837 : decode cL_law 837 = .ok (.iload_n 3, 1) := by decide +kernel
theorem dL_law_838 : decode cL_law 838 = .ok (.iconst 4, 1) := by decide +kernel
theorem dL_law_839 : decode cL_law 839 = .ok (.iadd, 1) := by decide +kernel
theorem dL_law_840 : decode cL_law 840 = .ok (.iaload, 1) := by decide +kernel
theorem dL_law_841 : decode cL_law 841 = .ok (.aload_n 0, 1) := by decide +kernel
theorem dL_law_842 : decode cL_law 842 = .ok (.iload_n 3, 1) := by decide +kernel
theorem dL_law_843 : decode cL_law 843 = .ok (.iconst 5, 1) := by decide +kernel
theorem dL_law_844 : decode cL_law 844 = .ok (.iadd, 1) := by decide +kernel
theorem dL_law_845 : decode cL_law 845 = .ok (.iaload, 1) := by decide +kernel
theorem dL_law_846 : decode cL_law 846 = .ok (.invokevirtual 86, 3) := by decide +kernel
theorem dL_law_849 : decode cL_law 849 = .ok (.aload_n 2, 1) := by decide +kernel
theorem dL_law_850 : decode cL_law 850 = .ok (.aload_n 0, 1) := by decide +kernel
theorem dL_law_851 : decode cL_law 851 = .ok (.iload_n 3, 1) := by decide +kernel
theorem dL_law_852 : decode cL_law 852 = .ok (.iconst 1, 1) := by decide +kernel
theorem dL_law_853 : decode cL_law 853 = .ok (.iadd, 1) := by decide +kernel
theorem dL_law_854 : decode cL_law 854 = .ok (.iaload, 1) := by decide +kernel
theorem dL_law_855 : decode cL_law 855 = .ok (.aload_n 0, 1) := by decide +kernel
theorem dL_law_856 : decode cL_law 856 = .ok (.iload_n 3, 1) := by decide +kernel
theorem dL_law_857 : decode cL_law 857 = .ok (.iconst 2, 1) := by decide +kernel
theorem dL_law_858 : decode cL_law 858 = .ok (.iadd, 1) := by decide +kernel
theorem dL_law_859 : decode cL_law 859 = .ok (.iaload, 1) := by decide +kernel
theorem dL_law_860 : decode cL_law 860 = .ok (.aload_n 0, 1) := by decide +kernel
theorem dL_law_861 : decode cL_law 861 = .ok (.iload_n 3, 1) := by decide +kernel
theorem dL_law_862 : decode cL_law 862 = .ok (.iconst 3, 1) := by decide +kernel
theorem dL_law_863 : decode cL_law 863 = .ok (.iadd, 1) := by decide +kernel
theorem dL_law_864 : decode cL_law 864 = .ok (.iaload, 1) := by decide +kernel
theorem dL_law_865 : decode cL_law 865 = .ok (.aload_n 0, 1) := by decide +kernel
theorem dL_law_866 : decode cL_law 866 = .ok (.iload_n 3, 1) := by decide +kernel
theorem dL_law_867 : decode cL_law 867 = .ok (.iconst 4, 1) := by decide +kernel
theorem dL_law_868 : decode cL_law 868 = .ok (.iadd, 1) := by decide +kernel
theorem dL_law_869 : decode cL_law 869 = .ok (.iaload, 1) := by decide +kernel
theorem dL_law_870 : decode cL_law 870 = .ok (.aload_n 0, 1) := by decide +kernel
theorem dL_law_871 : decode cL_law 871 = .ok (.iload_n 3, 1) := by decide +kernel
theorem dL_law_872 : decode cL_law 872 = .ok (.iconst 5, 1) := by decide +kernel
theorem dL_law_873 : decode cL_law 873 = .ok (.iadd, 1) := by decide +kernel
theorem dL_law_874 : decode cL_law 874 = .ok (.iaload, 1) := by decide +kernel
theorem dL_law_875 : decode cL_law 875 = .ok (.invokevirtual 89, 3) := by decide +kernel
theorem dL_law_878 : decode cL_law 878 = .ok (.if_icmp .eq 847, 3) := by decide +kernel
theorem dL_law_881 : decode cL_law 881 = .ok (.iconst 0, 1) := by decide +kernel
theorem dL_law_882 : decode cL_law 882 = .ok (.ireturn, 1) := by decide +kernel
theorem dL_law_883 : decode cL_law 883 = .ok (.aload_n 1, 1) := by decide +kernel
theorem dL_law_884 : decode cL_law 884 = .ok (.aload_n 0, 1) := by decide +kernel
theorem dL_law_885 : decode cL_law 885 = .ok (.iload_n 3, 1) := by decide +kernel
theorem dL_law_886 : decode cL_law 886 = .ok (.iconst 1, 1) := by decide +kernel
theorem dL_law_887 : decode cL_law 887 = .ok (.iadd, 1) := by decide +kernel
theorem dL_law_888 : decode cL_law 888 = .ok (.iaload, 1) := by decide +kernel
theorem dL_law_889 : decode cL_law 889 = .ok (.aload_n 0, 1) := by decide +kernel
theorem dL_law_890 : decode cL_law 890 = .ok (.iload_n 3, 1) := by decide +kernel
theorem dL_law_891 : decode cL_law 891 = .ok (.iconst 2, 1) := by decide +kernel
theorem dL_law_892 : decode cL_law 892 = .ok (.iadd, 1) := by decide +kernel
theorem dL_law_893 : decode cL_law 893 = .ok (.iaload, 1) := by decide +kernel
theorem dL_law_894 : decode cL_law 894 = .ok (.aload_n 0, 1) := by decide +kernel
theorem dL_law_895 : decode cL_law 895 = .ok (.iload_n 3, 1) := by decide +kernel
theorem dL_law_896 : decode cL_law 896 = .ok (.iconst 3, 1) := by decide +kernel
theorem dL_law_897 : decode cL_law 897 = .ok (.iadd, 1) := by decide +kernel
theorem dL_law_898 : decode cL_law 898 = .ok (.iaload, 1) := by decide +kernel
theorem dL_law_899 : decode cL_law 899 = .ok (.invokevirtual 90, 3) := by decide +kernel
theorem dL_law_902 : decode cL_law 902 = .ok (.aload_n 2, 1) := by decide +kernel
theorem dL_law_903 : decode cL_law 903 = .ok (.aload_n 0, 1) := by decide +kernel
theorem dL_law_904 : decode cL_law 904 = .ok (.iload_n 3, 1) := by decide +kernel
theorem dL_law_905 : decode cL_law 905 = .ok (.iconst 1, 1) := by decide +kernel
theorem dL_law_906 : decode cL_law 906 = .ok (.iadd, 1) := by decide +kernel
theorem dL_law_907 : decode cL_law 907 = .ok (.iaload, 1) := by decide +kernel
theorem dL_law_908 : decode cL_law 908 = .ok (.aload_n 0, 1) := by decide +kernel
theorem dL_law_909 : decode cL_law 909 = .ok (.iload_n 3, 1) := by decide +kernel
theorem dL_law_910 : decode cL_law 910 = .ok (.iconst 2, 1) := by decide +kernel
theorem dL_law_911 : decode cL_law 911 = .ok (.iadd, 1) := by decide +kernel
theorem dL_law_912 : decode cL_law 912 = .ok (.iaload, 1) := by decide +kernel
theorem dL_law_913 : decode cL_law 913 = .ok (.aload_n 0, 1) := by decide +kernel
theorem dL_law_914 : decode cL_law 914 = .ok (.iload_n 3, 1) := by decide +kernel
theorem dL_law_915 : decode cL_law 915 = .ok (.iconst 3, 1) := by decide +kernel
theorem dL_law_916 : decode cL_law 916 = .ok (.iadd, 1) := by decide +kernel
theorem dL_law_917 : decode cL_law 917 = .ok (.iaload, 1) := by decide +kernel
theorem dL_law_918 : decode cL_law 918 = .ok (.invokevirtual 93, 3) := by decide +kernel
theorem dL_law_921 : decode cL_law 921 = .ok (.if_icmp .eq 804, 3) := by decide +kernel
theorem dL_law_924 : decode cL_law 924 = .ok (.iconst 0, 1) := by decide +kernel
theorem dL_law_925 : decode cL_law 925 = .ok (.ireturn, 1) := by decide +kernel
theorem dL_law_926 : decode cL_law 926 = .ok (.aload_n 1, 1) := by decide +kernel
theorem dL_law_927 : decode cL_law 927 = .ok (.aload_n 0, 1) := by decide +kernel
theorem dL_law_928 : decode cL_law 928 = .ok (.iload_n 3, 1) := by decide +kernel
theorem dL_law_929 : decode cL_law 929 = .ok (.iconst 1, 1) := by decide +kernel
theorem dL_law_930 : decode cL_law 930 = .ok (.iadd, 1) := by decide +kernel
theorem dL_law_931 : decode cL_law 931 = .ok (.iaload, 1) := by decide +kernel
theorem dL_law_932 : decode cL_law 932 = .ok (.invokevirtual 94, 3) := by decide +kernel
theorem dL_law_935 : decode cL_law 935 = .ok (.aload_n 2, 1) := by decide +kernel
theorem dL_law_936 : decode cL_law 936 = .ok (.aload_n 0, 1) := by decide +kernel
theorem dL_law_937 : decode cL_law 937 = .ok (.iload_n 3, 1) := by decide +kernel
theorem dL_law_938 : decode cL_law 938 = .ok (.iconst 1, 1) := by decide +kernel
theorem dL_law_939 : decode cL_law 939 = .ok (.iadd, 1) := by decide +kernel
theorem dL_law_940 : decode cL_law 940 = .ok (.iaload, 1) := by decide +kernel
theorem dL_law_941 : decode cL_law 941 = .ok (.invokevirtual 97, 3) := by decide +kernel
theorem dL_law_944 : decode cL_law 944 = .ok (.if_icmp .eq 781, 3) := by decide +kernel
theorem dL_law_947 : decode cL_law 947 = .ok (.iconst 0, 1) := by decide +kernel
theorem dL_law_948 : decode cL_law 948 = .ok (.ireturn, 1) := by decide +kernel
theorem dL_law_949 : decode cL_law 949 = .ok (.aload_n 1, 1) := by decide +kernel
theorem dL_law_950 : decode cL_law 950 = .ok (.aload_n 0, 1) := by decide +kernel
theorem dL_law_951 : decode cL_law 951 = .ok (.iload_n 3, 1) := by decide +kernel
theorem dL_law_952 : decode cL_law 952 = .ok (.iconst 1, 1) := by decide +kernel
theorem dL_law_953 : decode cL_law 953 = .ok (.iadd, 1) := by decide +kernel
theorem dL_law_954 : decode cL_law 954 = .ok (.iaload, 1) := by decide +kernel
theorem dL_law_955 : decode cL_law 955 = .ok (.aload_n 0, 1) := by decide +kernel
theorem dL_law_956 : decode cL_law 956 = .ok (.iload_n 3, 1) := by decide +kernel
theorem dL_law_957 : decode cL_law 957 = .ok (.iconst 2, 1) := by decide +kernel
theorem dL_law_958 : decode cL_law 958 = .ok (.iadd, 1) := by decide +kernel
theorem dL_law_959 : decode cL_law 959 = .ok (.iaload, 1) := by decide +kernel
theorem dL_law_960 : decode cL_law 960 = .ok (.aload_n 0, 1) := by decide +kernel
theorem dL_law_961 : decode cL_law 961 = .ok (.iload_n 3, 1) := by decide +kernel
theorem dL_law_962 : decode cL_law 962 = .ok (.iconst 3, 1) := by decide +kernel
theorem dL_law_963 : decode cL_law 963 = .ok (.iadd, 1) := by decide +kernel
theorem dL_law_964 : decode cL_law 964 = .ok (.iaload, 1) := by decide +kernel
theorem dL_law_965 : decode cL_law 965 = .ok (.invokevirtual 98, 3) := by decide +kernel
theorem dL_law_968 : decode cL_law 968 = .ok (.aload_n 2, 1) := by decide +kernel
theorem dL_law_969 : decode cL_law 969 = .ok (.aload_n 0, 1) := by decide +kernel
theorem dL_law_970 : decode cL_law 970 = .ok (.iload_n 3, 1) := by decide +kernel
theorem dL_law_971 : decode cL_law 971 = .ok (.iconst 1, 1) := by decide +kernel
theorem dL_law_972 : decode cL_law 972 = .ok (.iadd, 1) := by decide +kernel
theorem dL_law_973 : decode cL_law 973 = .ok (.iaload, 1) := by decide +kernel
theorem dL_law_974 : decode cL_law 974 = .ok (.aload_n 0, 1) := by decide +kernel
theorem dL_law_975 : decode cL_law 975 = .ok (.iload_n 3, 1) := by decide +kernel
theorem dL_law_976 : decode cL_law 976 = .ok (.iconst 2, 1) := by decide +kernel
theorem dL_law_977 : decode cL_law 977 = .ok (.iadd, 1) := by decide +kernel
theorem dL_law_978 : decode cL_law 978 = .ok (.iaload, 1) := by decide +kernel
theorem dL_law_979 : decode cL_law 979 = .ok (.aload_n 0, 1) := by decide +kernel
theorem dL_law_980 : decode cL_law 980 = .ok (.iload_n 3, 1) := by decide +kernel
theorem dL_law_981 : decode cL_law 981 = .ok (.iconst 3, 1) := by decide +kernel
theorem dL_law_982 : decode cL_law 982 = .ok (.iadd, 1) := by decide +kernel
theorem dL_law_983 : decode cL_law 983 = .ok (.iaload, 1) := by decide +kernel
theorem dL_law_984 : decode cL_law 984 = .ok (.invokevirtual 101, 3) := by decide +kernel
theorem dL_law_987 : decode cL_law 987 = .ok (.if_icmp .eq 738, 3) := by decide +kernel
theorem dL_law_990 : decode cL_law 990 = .ok (.iconst 0, 1) := by decide +kernel
theorem dL_law_991 : decode cL_law 991 = .ok (.ireturn, 1) := by decide +kernel
theorem dL_law_992 : decode cL_law 992 = .ok (.aload_n 1, 1) := by decide +kernel
theorem dL_law_993 : decode cL_law 993 = .ok (.aload_n 0, 1) := by decide +kernel
theorem dL_law_994 : decode cL_law 994 = .ok (.iload_n 3, 1) := by decide +kernel
theorem dL_law_995 : decode cL_law 995 = .ok (.iconst 1, 1) := by decide +kernel
theorem dL_law_996 : decode cL_law 996 = .ok (.iadd, 1) := by decide +kernel
theorem dL_law_997 : decode cL_law 997 = .ok (.iaload, 1) := by decide +kernel
theorem dL_law_998 : decode cL_law 998 = .ok (.aload_n 0, 1) := by decide +kernel
theorem dL_law_999 : decode cL_law 999 = .ok (.iload_n 3, 1) := by decide +kernel
theorem dL_law_1000 : decode cL_law 1000 = .ok (.iconst 2, 1) := by decide +kernel
theorem dL_law_1001 : decode cL_law 1001 = .ok (.iadd, 1) := by decide +kernel
theorem dL_law_1002 : decode cL_law 1002 = .ok (.iaload, 1) := by decide +kernel
theorem dL_law_1003 : decode cL_law 1003 = .ok (.aload_n 0, 1) := by decide +kernel
theorem dL_law_1004 : decode cL_law 1004 = .ok (.iload_n 3, 1) := by decide +kernel
theorem dL_law_1005 : decode cL_law 1005 = .ok (.iconst 3, 1) := by decide +kernel
theorem dL_law_1006 : decode cL_law 1006 = .ok (.iadd, 1) := by decide +kernel
theorem dL_law_1007 : decode cL_law 1007 = .ok (.iaload, 1) := by decide +kernel
theorem dL_law_1008 : decode cL_law 1008 = .ok (.invokevirtual 102, 3) := by decide +kernel
theorem dL_law_1011 : decode cL_law 1011 = .ok (.aload_n 2, 1) := by decide +kernel
theorem dL_law_1012 : decode cL_law 1012 = .ok (.aload_n 0, 1) := by decide +kernel
theorem dL_law_1013 : decode cL_law 1013 = .ok (.iload_n 3, 1) := by decide +kernel
theorem dL_law_1014 : decode cL_law 1014 = .ok (.iconst 1, 1) := by decide +kernel
theorem dL_law_1015 : decode cL_law 1015 = .ok (.iadd, 1) := by decide +kernel
theorem dL_law_1016 : decode cL_law 1016 = .ok (.iaload, 1) := by decide +kernel
theorem dL_law_1017 : decode cL_law 1017 = .ok (.aload_n 0, 1) := by decide +kernel
theorem dL_law_1018 : decode cL_law 1018 = .ok (.iload_n 3, 1) := by decide +kernel
theorem dL_law_1019 : decode cL_law 1019 = .ok (.iconst 2, 1) := by decide +kernel
theorem dL_law_1020 : decode cL_law 1020 = .ok (.iadd, 1) := by decide +kernel
theorem dL_law_1021 : decode cL_law 1021 = .ok (.iaload, 1) := by decide +kernel
theorem dL_law_1022 : decode cL_law 1022 = .ok (.aload_n 0, 1) := by decide +kernel
theorem dL_law_1023 : decode cL_law 1023 = .ok (.iload_n 3, 1) := by decide +kernel
theorem dL_law_1024 : decode cL_law 1024 = .ok (.iconst 3, 1) := by decide +kernel
theorem dL_law_1025 : decode cL_law 1025 = .ok (.iadd, 1) := by decide +kernel
theorem dL_law_1026 : decode cL_law 1026 = .ok (.iaload, 1) := by decide +kernel
theorem dL_law_1027 : decode cL_law 1027 = .ok (.invokevirtual 105, 3) := by decide +kernel
theorem dL_law_1030 : decode cL_law 1030 = .ok (.if_icmp .eq 695, 3) := by decide +kernel
theorem dL_law_1033 : decode cL_law 1033 = .ok (.iconst 0, 1) := by decide +kernel
theorem dL_law_1034 : decode cL_law 1034 = .ok (.ireturn, 1) := by decide +kernel
theorem dL_law_1035 : decode cL_law 1035 = .ok (.aload_n 1, 1) := by decide +kernel
theorem dL_law_1036 : decode cL_law 1036 = .ok (.aload_n 0, 1) := by decide +kernel
theorem dL_law_1037 : decode cL_law 1037 = .ok (.iload_n 3, 1) := by decide +kernel
theorem dL_law_1038 : decode cL_law 1038 = .ok (.iconst 1, 1) := by decide +kernel
theorem dL_law_1039 : decode cL_law 1039 = .ok (.iadd, 1) := by decide +kernel
theorem dL_law_1040 : decode cL_law 1040 = .ok (.iaload, 1) := by decide +kernel
theorem dL_law_1041 : decode cL_law 1041 = .ok (.aload_n 0, 1) := by decide +kernel
theorem dL_law_1042 : decode cL_law 1042 = .ok (.iload_n 3, 1) := by decide +kernel
theorem dL_law_1043 : decode cL_law 1043 = .ok (.iconst 2, 1) := by decide +kernel
theorem dL_law_1044 : decode cL_law 1044 = .ok (.iadd, 1) := by decide +kernel
theorem dL_law_1045 : decode cL_law 1045 = .ok (.iaload, 1) := by decide +kernel
theorem dL_law_1046 : decode cL_law 1046 = .ok (.aload_n 0, 1) := by decide +kernel
theorem dL_law_1047 : decode cL_law 1047 = .ok (.iload_n 3, 1) := by decide +kernel
theorem dL_law_1048 : decode cL_law 1048 = .ok (.iconst 3, 1) := by decide +kernel
theorem dL_law_1049 : decode cL_law 1049 = .ok (.iadd, 1) := by decide +kernel
theorem dL_law_1050 : decode cL_law 1050 = .ok (.iaload, 1) := by decide +kernel
theorem dL_law_1051 : decode cL_law 1051 = .ok (.invokevirtual 106, 3) := by decide +kernel
theorem dL_law_1054 : decode cL_law 1054 = .ok (.aload_n 2, 1) := by decide +kernel
theorem dL_law_1055 : decode cL_law 1055 = .ok (.aload_n 0, 1) := by decide +kernel
theorem dL_law_1056 : decode cL_law 1056 = .ok (.iload_n 3, 1) := by decide +kernel
theorem dL_law_1057 : decode cL_law 1057 = .ok (.iconst 1, 1) := by decide +kernel
theorem dL_law_1058 : decode cL_law 1058 = .ok (.iadd, 1) := by decide +kernel
theorem dL_law_1059 : decode cL_law 1059 = .ok (.iaload, 1) := by decide +kernel
theorem dL_law_1060 : decode cL_law 1060 = .ok (.aload_n 0, 1) := by decide +kernel
theorem dL_law_1061 : decode cL_law 1061 = .ok (.iload_n 3, 1) := by decide +kernel
theorem dL_law_1062 : decode cL_law 1062 = .ok (.iconst 2, 1) := by decide +kernel
theorem dL_law_1063 : decode cL_law 1063 = .ok (.iadd, 1) := by decide +kernel
theorem dL_law_1064 : decode cL_law 1064 = .ok (.iaload, 1) := by decide +kernel
theorem dL_law_1065 : decode cL_law 1065 = .ok (.aload_n 0, 1) := by decide +kernel
theorem dL_law_1066 : decode cL_law 1066 = .ok (.iload_n 3, 1) := by decide +kernel
theorem dL_law_1067 : decode cL_law 1067 = .ok (.iconst 3, 1) := by decide +kernel
theorem dL_law_1068 : decode cL_law 1068 = .ok (.iadd, 1) := by decide +kernel
theorem dL_law_1069 : decode cL_law 1069 = .ok (.iaload, 1) := by decide +kernel
theorem dL_law_1070 : decode cL_law 1070 = .ok (.invokevirtual 109, 3) := by decide +kernel
theorem dL_law_1073 : decode cL_law 1073 = .ok (.if_icmp .eq 652, 3) := by decide +kernel
theorem dL_law_1076 : decode cL_law 1076 = .ok (.iconst 0, 1) := by decide +kernel
theorem dL_law_1077 : decode cL_law 1077 = .ok (.ireturn, 1) := by decide +kernel
theorem dL_law_1078 : decode cL_law 1078 = .ok (.aload_n 1, 1) := by decide +kernel
theorem dL_law_1079 : decode cL_law 1079 = .ok (.aload_n 0, 1) := by decide +kernel
theorem dL_law_1080 : decode cL_law 1080 = .ok (.iload_n 3, 1) := by decide +kernel
theorem dL_law_1081 : decode cL_law 1081 = .ok (.iconst 1, 1) := by decide +kernel
theorem dL_law_1082 : decode cL_law 1082 = .ok (.iadd, 1) := by decide +kernel
theorem dL_law_1083 : decode cL_law 1083 = .ok (.iaload, 1) := by decide +kernel
theorem dL_law_1084 : decode cL_law 1084 = .ok (.aload_n 0, 1) := by decide +kernel
theorem dL_law_1085 : decode cL_law 1085 = .ok (.iload_n 3, 1) := by decide +kernel
theorem dL_law_1086 : decode cL_law 1086 = .ok (.iconst 2, 1) := by decide +kernel
theorem dL_law_1087 : decode cL_law 1087 = .ok (.iadd, 1) := by decide +kernel
theorem dL_law_1088 : decode cL_law 1088 = .ok (.iaload, 1) := by decide +kernel
theorem dL_law_1089 : decode cL_law 1089 = .ok (.aload_n 0, 1) := by decide +kernel
theorem dL_law_1090 : decode cL_law 1090 = .ok (.iload_n 3, 1) := by decide +kernel
theorem dL_law_1091 : decode cL_law 1091 = .ok (.iconst 3, 1) := by decide +kernel
theorem dL_law_1092 : decode cL_law 1092 = .ok (.iadd, 1) := by decide +kernel
theorem dL_law_1093 : decode cL_law 1093 = .ok (.iaload, 1) := by decide +kernel
theorem dL_law_1094 : decode cL_law 1094 = .ok (.aload_n 0, 1) := by decide +kernel
theorem dL_law_1095 : decode cL_law 1095 = .ok (.iload_n 3, 1) := by decide +kernel
theorem dL_law_1096 : decode cL_law 1096 = .ok (.iconst 4, 1) := by decide +kernel
theorem dL_law_1097 : decode cL_law 1097 = .ok (.iadd, 1) := by decide +kernel
theorem dL_law_1098 : decode cL_law 1098 = .ok (.iaload, 1) := by decide +kernel
theorem dL_law_1099 : decode cL_law 1099 = .ok (.invokevirtual 110, 3) := by decide +kernel
theorem dL_law_1102 : decode cL_law 1102 = .ok (.aload_n 2, 1) := by decide +kernel
theorem dL_law_1103 : decode cL_law 1103 = .ok (.aload_n 0, 1) := by decide +kernel
theorem dL_law_1104 : decode cL_law 1104 = .ok (.iload_n 3, 1) := by decide +kernel
theorem dL_law_1105 : decode cL_law 1105 = .ok (.iconst 1, 1) := by decide +kernel
theorem dL_law_1106 : decode cL_law 1106 = .ok (.iadd, 1) := by decide +kernel
theorem dL_law_1107 : decode cL_law 1107 = .ok (.iaload, 1) := by decide +kernel
theorem dL_law_1108 : decode cL_law 1108 = .ok (.aload_n 0, 1) := by decide +kernel
theorem dL_law_1109 : decode cL_law 1109 = .ok (.iload_n 3, 1) := by decide +kernel
theorem dL_law_1110 : decode cL_law 1110 = .ok (.iconst 2, 1) := by decide +kernel
theorem dL_law_1111 : decode cL_law 1111 = .ok (.iadd, 1) := by decide +kernel
theorem dL_law_1112 : decode cL_law 1112 = .ok (.iaload, 1) := by decide +kernel
theorem dL_law_1113 : decode cL_law 1113 = .ok (.aload_n 0, 1) := by decide +kernel
theorem dL_law_1114 : decode cL_law 1114 = .ok (.iload_n 3, 1) := by decide +kernel
theorem dL_law_1115 : decode cL_law 1115 = .ok (.iconst 3, 1) := by decide +kernel
theorem dL_law_1116 : decode cL_law 1116 = .ok (.iadd, 1) := by decide +kernel
theorem dL_law_1117 : decode cL_law 1117 = .ok (.iaload, 1) := by decide +kernel
theorem dL_law_1118 : decode cL_law 1118 = .ok (.aload_n 0, 1) := by decide +kernel
theorem dL_law_1119 : decode cL_law 1119 = .ok (.iload_n 3, 1) := by decide +kernel
theorem dL_law_1120 : decode cL_law 1120 = .ok (.iconst 4, 1) := by decide +kernel
theorem dL_law_1121 : decode cL_law 1121 = .ok (.iadd, 1) := by decide +kernel
theorem dL_law_1122 : decode cL_law 1122 = .ok (.iaload, 1) := by decide +kernel
theorem dL_law_1123 : decode cL_law 1123 = .ok (.invokevirtual 114, 3) := by decide +kernel
theorem dL_law_1126 : decode cL_law 1126 = .ok (.if_icmp .eq 599, 3) := by decide +kernel
theorem dL_law_1129 : decode cL_law 1129 = .ok (.iconst 0, 1) := by decide +kernel
theorem dL_law_1130 : decode cL_law 1130 = .ok (.ireturn, 1) := by decide +kernel
theorem dL_law_1131 : decode cL_law 1131 = .ok (.aload_n 1, 1) := by decide +kernel
theorem dL_law_1132 : decode cL_law 1132 = .ok (.aload_n 0, 1) := by decide +kernel
theorem dL_law_1133 : decode cL_law 1133 = .ok (.iload_n 3, 1) := by decide +kernel
theorem dL_law_1134 : decode cL_law 1134 = .ok (.iconst 1, 1) := by decide +kernel
theorem dL_law_1135 : decode cL_law 1135 = .ok (.iadd, 1) := by decide +kernel
theorem dL_law_1136 : decode cL_law 1136 = .ok (.iaload, 1) := by decide +kernel
theorem dL_law_1137 : decode cL_law 1137 = .ok (.invokevirtual 115, 3) := by decide +kernel
theorem dL_law_1140 : decode cL_law 1140 = .ok (.aload_n 2, 1) := by decide +kernel
theorem dL_law_1141 : decode cL_law 1141 = .ok (.aload_n 0, 1) := by decide +kernel
theorem dL_law_1142 : decode cL_law 1142 = .ok (.iload_n 3, 1) := by decide +kernel
theorem dL_law_1143 : decode cL_law 1143 = .ok (.iconst 1, 1) := by decide +kernel
theorem dL_law_1144 : decode cL_law 1144 = .ok (.iadd, 1) := by decide +kernel
theorem dL_law_1145 : decode cL_law 1145 = .ok (.iaload, 1) := by decide +kernel
theorem dL_law_1146 : decode cL_law 1146 = .ok (.invokevirtual 118, 3) := by decide +kernel
theorem dL_law_1149 : decode cL_law 1149 = .ok (.if_icmp .eq 576, 3) := by decide +kernel
theorem dL_law_1152 : decode cL_law 1152 = .ok (.iconst 0, 1) := by decide +kernel
theorem dL_law_1153 : decode cL_law 1153 = .ok (.ireturn, 1) := by decide +kernel
theorem dL_law_1154 : decode cL_law 1154 = .ok (.aload_n 1, 1) := by decide +kernel
theorem dL_law_1155 : decode cL_law 1155 = .ok (.aload_n 0, 1) := by decide +kernel
theorem dL_law_1156 : decode cL_law 1156 = .ok (.iload_n 3, 1) := by decide +kernel
theorem dL_law_1157 : decode cL_law 1157 = .ok (.iconst 1, 1) := by decide +kernel
theorem dL_law_1158 : decode cL_law 1158 = .ok (.iadd, 1) := by decide +kernel
theorem dL_law_1159 : decode cL_law 1159 = .ok (.iaload, 1) := by decide +kernel
theorem dL_law_1160 : decode cL_law 1160 = .ok (.aload_n 0, 1) := by decide +kernel
theorem dL_law_1161 : decode cL_law 1161 = .ok (.iload_n 3, 1) := by decide +kernel
theorem dL_law_1162 : decode cL_law 1162 = .ok (.iconst 2, 1) := by decide +kernel
theorem dL_law_1163 : decode cL_law 1163 = .ok (.iadd, 1) := by decide +kernel
theorem dL_law_1164 : decode cL_law 1164 = .ok (.iaload, 1) := by decide +kernel
theorem dL_law_1165 : decode cL_law 1165 = .ok (.invokevirtual 119, 3) := by decide +kernel
theorem dL_law_1168 : decode cL_law 1168 = .ok (.aload_n 2, 1) := by decide +kernel
theorem dL_law_1169 : decode cL_law 1169 = .ok (.aload_n 0, 1) := by decide +kernel
theorem dL_law_1170 : decode cL_law 1170 = .ok (.iload_n 3, 1) := by decide +kernel
theorem dL_law_1171 : decode cL_law 1171 = .ok (.iconst 1, 1) := by decide +kernel
theorem dL_law_1172 : decode cL_law 1172 = .ok (.iadd, 1) := by decide +kernel
theorem dL_law_1173 : decode cL_law 1173 = .ok (.iaload, 1) := by decide +kernel
theorem dL_law_1174 : decode cL_law 1174 = .ok (.aload_n 0, 1) := by decide +kernel
theorem dL_law_1175 : decode cL_law 1175 = .ok (.iload_n 3, 1) := by decide +kernel
theorem dL_law_1176 : decode cL_law 1176 = .ok (.iconst 2, 1) := by decide +kernel
theorem dL_law_1177 : decode cL_law 1177 = .ok (.iadd, 1) := by decide +kernel
theorem dL_law_1178 : decode cL_law 1178 = .ok (.iaload, 1) := by decide +kernel
theorem dL_law_1179 : decode cL_law 1179 = .ok (.invokevirtual 122, 3) := by decide +kernel
theorem dL_law_1182 : decode cL_law 1182 = .ok (.if_icmp .eq 543, 3) := by decide +kernel
theorem dL_law_1185 : decode cL_law 1185 = .ok (.iconst 0, 1) := by decide +kernel
theorem dL_law_1186 : decode cL_law 1186 = .ok (.ireturn, 1) := by decide +kernel
theorem dL_law_1187 : decode cL_law 1187 = .ok (.aload_n 1, 1) := by decide +kernel
theorem dL_law_1188 : decode cL_law 1188 = .ok (.aload_n 0, 1) := by decide +kernel
theorem dL_law_1189 : decode cL_law 1189 = .ok (.iload_n 3, 1) := by decide +kernel
theorem dL_law_1190 : decode cL_law 1190 = .ok (.iconst 1, 1) := by decide +kernel
theorem dL_law_1191 : decode cL_law 1191 = .ok (.iadd, 1) := by decide +kernel
theorem dL_law_1192 : decode cL_law 1192 = .ok (.iaload, 1) := by decide +kernel
theorem dL_law_1193 : decode cL_law 1193 = .ok (.aload_n 0, 1) := by decide +kernel
theorem dL_law_1194 : decode cL_law 1194 = .ok (.iload_n 3, 1) := by decide +kernel
theorem dL_law_1195 : decode cL_law 1195 = .ok (.iconst 2, 1) := by decide +kernel
theorem dL_law_1196 : decode cL_law 1196 = .ok (.iadd, 1) := by decide +kernel
theorem dL_law_1197 : decode cL_law 1197 = .ok (.iaload, 1) := by decide +kernel
theorem dL_law_1198 : decode cL_law 1198 = .ok (.aload_n 0, 1) := by decide +kernel
theorem dL_law_1199 : decode cL_law 1199 = .ok (.iload_n 3, 1) := by decide +kernel
theorem dL_law_1200 : decode cL_law 1200 = .ok (.iconst 3, 1) := by decide +kernel
theorem dL_law_1201 : decode cL_law 1201 = .ok (.iadd, 1) := by decide +kernel
theorem dL_law_1202 : decode cL_law 1202 = .ok (.iaload, 1) := by decide +kernel
theorem dL_law_1203 : decode cL_law 1203 = .ok (.invokevirtual 123, 3) := by decide +kernel
theorem dL_law_1206 : decode cL_law 1206 = .ok (.aload_n 2, 1) := by decide +kernel
theorem dL_law_1207 : decode cL_law 1207 = .ok (.aload_n 0, 1) := by decide +kernel
theorem dL_law_1208 : decode cL_law 1208 = .ok (.iload_n 3, 1) := by decide +kernel
theorem dL_law_1209 : decode cL_law 1209 = .ok (.iconst 1, 1) := by decide +kernel
theorem dL_law_1210 : decode cL_law 1210 = .ok (.iadd, 1) := by decide +kernel
theorem dL_law_1211 : decode cL_law 1211 = .ok (.iaload, 1) := by decide +kernel
theorem dL_law_1212 : decode cL_law 1212 = .ok (.aload_n 0, 1) := by decide +kernel
theorem dL_law_1213 : decode cL_law 1213 = .ok (.iload_n 3, 1) := by decide +kernel
theorem dL_law_1214 : decode cL_law 1214 = .ok (.iconst 2, 1) := by decide +kernel
theorem dL_law_1215 : decode cL_law 1215 = .ok (.iadd, 1) := by decide +kernel
theorem dL_law_1216 : decode cL_law 1216 = .ok (.iaload, 1) := by decide +kernel
theorem dL_law_1217 : decode cL_law 1217 = .ok (.aload_n 0, 1) := by decide +kernel
theorem dL_law_1218 : decode cL_law 1218 = .ok (.iload_n 3, 1) := by decide +kernel
theorem dL_law_1219 : decode cL_law 1219 = .ok (.iconst 3, 1) := by decide +kernel
theorem dL_law_1220 : decode cL_law 1220 = .ok (.iadd, 1) := by decide +kernel
theorem dL_law_1221 : decode cL_law 1221 = .ok (.iaload, 1) := by decide +kernel
theorem dL_law_1222 : decode cL_law 1222 = .ok (.invokevirtual 126, 3) := by decide +kernel
theorem dL_law_1225 : decode cL_law 1225 = .ok (.if_icmp .eq 500, 3) := by decide +kernel
theorem dL_law_1228 : decode cL_law 1228 = .ok (.iconst 0, 1) := by decide +kernel
theorem dL_law_1229 : decode cL_law 1229 = .ok (.ireturn, 1) := by decide +kernel
theorem dL_law_1230 : decode cL_law 1230 = .ok (.aload_n 1, 1) := by decide +kernel
theorem dL_law_1231 : decode cL_law 1231 = .ok (.aload_n 0, 1) := by decide +kernel
theorem dL_law_1232 : decode cL_law 1232 = .ok (.iload_n 3, 1) := by decide +kernel
theorem dL_law_1233 : decode cL_law 1233 = .ok (.iconst 1, 1) := by decide +kernel
theorem dL_law_1234 : decode cL_law 1234 = .ok (.iadd, 1) := by decide +kernel
theorem dL_law_1235 : decode cL_law 1235 = .ok (.iaload, 1) := by decide +kernel
theorem dL_law_1236 : decode cL_law 1236 = .ok (.aload_n 0, 1) := by decide +kernel
theorem dL_law_1237 : decode cL_law 1237 = .ok (.iload_n 3, 1) := by decide +kernel
theorem dL_law_1238 : decode cL_law 1238 = .ok (.iconst 2, 1) := by decide +kernel
theorem dL_law_1239 : decode cL_law 1239 = .ok (.iadd, 1) := by decide +kernel
theorem dL_law_1240 : decode cL_law 1240 = .ok (.iaload, 1) := by decide +kernel
theorem dL_law_1241 : decode cL_law 1241 = .ok (.invokevirtual 127, 3) := by decide +kernel
theorem dL_law_1244 : decode cL_law 1244 = .ok (.aload_n 2, 1) := by decide +kernel
theorem dL_law_1245 : decode cL_law 1245 = .ok (.aload_n 0, 1) := by decide +kernel
theorem dL_law_1246 : decode cL_law 1246 = .ok (.iload_n 3, 1) := by decide +kernel
theorem dL_law_1247 : decode cL_law 1247 = .ok (.iconst 1, 1) := by decide +kernel
theorem dL_law_1248 : decode cL_law 1248 = .ok (.iadd, 1) := by decide +kernel
theorem dL_law_1249 : decode cL_law 1249 = .ok (.iaload, 1) := by decide +kernel
theorem dL_law_1250 : decode cL_law 1250 = .ok (.aload_n 0, 1) := by decide +kernel
theorem dL_law_1251 : decode cL_law 1251 = .ok (.iload_n 3, 1) := by decide +kernel
theorem dL_law_1252 : decode cL_law 1252 = .ok (.iconst 2, 1) := by decide +kernel
theorem dL_law_1253 : decode cL_law 1253 = .ok (.iadd, 1) := by decide +kernel
theorem dL_law_1254 : decode cL_law 1254 = .ok (.iaload, 1) := by decide +kernel
theorem dL_law_1255 : decode cL_law 1255 = .ok (.invokevirtual 130, 3) := by decide +kernel
theorem dL_law_1258 : decode cL_law 1258 = .ok (.if_icmp .eq 467, 3) := by decide +kernel
theorem dL_law_1261 : decode cL_law 1261 = .ok (.iconst 0, 1) := by decide +kernel
theorem dL_law_1262 : decode cL_law 1262 = .ok (.ireturn, 1) := by decide +kernel
theorem dL_law_1263 : decode cL_law 1263 = .ok (.aload_n 1, 1) := by decide +kernel
theorem dL_law_1264 : decode cL_law 1264 = .ok (.aload_n 0, 1) := by decide +kernel
theorem dL_law_1265 : decode cL_law 1265 = .ok (.iload_n 3, 1) := by decide +kernel
theorem dL_law_1266 : decode cL_law 1266 = .ok (.iconst 1, 1) := by decide +kernel
theorem dL_law_1267 : decode cL_law 1267 = .ok (.iadd, 1) := by decide +kernel
theorem dL_law_1268 : decode cL_law 1268 = .ok (.iaload, 1) := by decide +kernel
theorem dL_law_1269 : decode cL_law 1269 = .ok (.aload_n 0, 1) := by decide +kernel
theorem dL_law_1270 : decode cL_law 1270 = .ok (.iload_n 3, 1) := by decide +kernel
theorem dL_law_1271 : decode cL_law 1271 = .ok (.iconst 2, 1) := by decide +kernel
theorem dL_law_1272 : decode cL_law 1272 = .ok (.iadd, 1) := by decide +kernel
theorem dL_law_1273 : decode cL_law 1273 = .ok (.iaload, 1) := by decide +kernel
theorem dL_law_1274 : decode cL_law 1274 = .ok (.aload_n 0, 1) := by decide +kernel
theorem dL_law_1275 : decode cL_law 1275 = .ok (.iload_n 3, 1) := by decide +kernel
theorem dL_law_1276 : decode cL_law 1276 = .ok (.iconst 3, 1) := by decide +kernel
theorem dL_law_1277 : decode cL_law 1277 = .ok (.iadd, 1) := by decide +kernel
theorem dL_law_1278 : decode cL_law 1278 = .ok (.iaload, 1) := by decide +kernel
theorem dL_law_1279 : decode cL_law 1279 = .ok (.aload_n 0, 1) := by decide +kernel
theorem dL_law_1280 : decode cL_law 1280 = .ok (.iload_n 3, 1) := by decide +kernel
theorem dL_law_1281 : decode cL_law 1281 = .ok (.iconst 4, 1) := by decide +kernel
theorem dL_law_1282 : decode cL_law 1282 = .ok (.iadd, 1) := by decide +kernel
theorem dL_law_1283 : decode cL_law 1283 = .ok (.iaload, 1) := by decide +kernel
theorem dL_law_1284 : decode cL_law 1284 = .ok (.invokevirtual 131, 3) := by decide +kernel
theorem dL_law_1287 : decode cL_law 1287 = .ok (.aload_n 2, 1) := by decide +kernel
theorem dL_law_1288 : decode cL_law 1288 = .ok (.aload_n 0, 1) := by decide +kernel
theorem dL_law_1289 : decode cL_law 1289 = .ok (.iload_n 3, 1) := by decide +kernel
theorem dL_law_1290 : decode cL_law 1290 = .ok (.iconst 1, 1) := by decide +kernel
theorem dL_law_1291 : decode cL_law 1291 = .ok (.iadd, 1) := by decide +kernel
theorem dL_law_1292 : decode cL_law 1292 = .ok (.iaload, 1) := by decide +kernel
theorem dL_law_1293 : decode cL_law 1293 = .ok (.aload_n 0, 1) := by decide +kernel
theorem dL_law_1294 : decode cL_law 1294 = .ok (.iload_n 3, 1) := by decide +kernel
theorem dL_law_1295 : decode cL_law 1295 = .ok (.iconst 2, 1) := by decide +kernel
theorem dL_law_1296 : decode cL_law 1296 = .ok (.iadd, 1) := by decide +kernel
theorem dL_law_1297 : decode cL_law 1297 = .ok (.iaload, 1) := by decide +kernel
theorem dL_law_1298 : decode cL_law 1298 = .ok (.aload_n 0, 1) := by decide +kernel
theorem dL_law_1299 : decode cL_law 1299 = .ok (.iload_n 3, 1) := by decide +kernel
theorem dL_law_1300 : decode cL_law 1300 = .ok (.iconst 3, 1) := by decide +kernel
theorem dL_law_1301 : decode cL_law 1301 = .ok (.iadd, 1) := by decide +kernel
theorem dL_law_1302 : decode cL_law 1302 = .ok (.iaload, 1) := by decide +kernel
theorem dL_law_1303 : decode cL_law 1303 = .ok (.aload_n 0, 1) := by decide +kernel
theorem dL_law_1304 : decode cL_law 1304 = .ok (.iload_n 3, 1) := by decide +kernel
theorem dL_law_1305 : decode cL_law 1305 = .ok (.iconst 4, 1) := by decide +kernel
theorem dL_law_1306 : decode cL_law 1306 = .ok (.iadd, 1) := by decide +kernel
theorem dL_law_1307 : decode cL_law 1307 = .ok (.iaload, 1) := by decide +kernel
theorem dL_law_1308 : decode cL_law 1308 = .ok (.invokevirtual 135, 3) := by decide +kernel
theorem dL_law_1311 : decode cL_law 1311 = .ok (.if_icmp .eq 414, 3) := by decide +kernel
theorem dL_law_1314 : decode cL_law 1314 = .ok (.iconst 0, 1) := by decide +kernel
theorem dL_law_1315 : decode cL_law 1315 = .ok (.ireturn, 1) := by decide +kernel
theorem dL_law_1316 : decode cL_law 1316 = .ok (.aload_n 1, 1) := by decide +kernel
theorem dL_law_1317 : decode cL_law 1317 = .ok (.aload_n 0, 1) := by decide +kernel
theorem dL_law_1318 : decode cL_law 1318 = .ok (.iload_n 3, 1) := by decide +kernel
theorem dL_law_1319 : decode cL_law 1319 = .ok (.iconst 1, 1) := by decide +kernel
theorem dL_law_1320 : decode cL_law 1320 = .ok (.iadd, 1) := by decide +kernel
theorem dL_law_1321 : decode cL_law 1321 = .ok (.iaload, 1) := by decide +kernel
theorem dL_law_1322 : decode cL_law 1322 = .ok (.aload_n 0, 1) := by decide +kernel
theorem dL_law_1323 : decode cL_law 1323 = .ok (.iload_n 3, 1) := by decide +kernel
theorem dL_law_1324 : decode cL_law 1324 = .ok (.iconst 2, 1) := by decide +kernel
theorem dL_law_1325 : decode cL_law 1325 = .ok (.iadd, 1) := by decide +kernel
theorem dL_law_1326 : decode cL_law 1326 = .ok (.iaload, 1) := by decide +kernel
theorem dL_law_1327 : decode cL_law 1327 = .ok (.aload_n 0, 1) := by decide +kernel
theorem dL_law_1328 : decode cL_law 1328 = .ok (.iload_n 3, 1) := by decide +kernel
theorem dL_law_1329 : decode cL_law 1329 = .ok (.iconst 3, 1) := by decide +kernel
theorem dL_law_1330 : decode cL_law 1330 = .ok (.iadd, 1) := by decide +kernel
theorem dL_law_1331 : decode cL_law 1331 = .ok (.iaload, 1) := by decide +kernel
theorem dL_law_1332 : decode cL_law 1332 = .ok (.i2l, 1) := by decide +kernel
theorem dL_law_1333 : decode cL_law 1333 = .ok (.bipush 32, 2) := by decide +kernel
theorem dL_law_1335 : decode cL_law 1335 = .ok (.lshl, 1) := by decide +kernel
theorem dL_law_1336 : decode cL_law 1336 = .ok (.aload_n 0, 1) := by decide +kernel
theorem dL_law_1337 : decode cL_law 1337 = .ok (.iload_n 3, 1) := by decide +kernel
theorem dL_law_1338 : decode cL_law 1338 = .ok (.iconst 4, 1) := by decide +kernel
theorem dL_law_1339 : decode cL_law 1339 = .ok (.iadd, 1) := by decide +kernel
theorem dL_law_1340 : decode cL_law 1340 = .ok (.iaload, 1) := by decide +kernel
theorem dL_law_1341 : decode cL_law 1341 = .ok (.i2l, 1) := by decide +kernel
theorem dL_law_1342 : decode cL_law 1342 = .ok (.ldc2_w 23, 3) := by decide +kernel
theorem dL_law_1345 : decode cL_law 1345 = .ok (.land, 1) := by decide +kernel
theorem dL_law_1346 : decode cL_law 1346 = .ok (.lor, 1) := by decide +kernel
theorem dL_law_1347 : decode cL_law 1347 = .ok (.aload_n 0, 1) := by decide +kernel
theorem dL_law_1348 : decode cL_law 1348 = .ok (.iload_n 3, 1) := by decide +kernel
theorem dL_law_1349 : decode cL_law 1349 = .ok (.iconst 5, 1) := by decide +kernel
theorem dL_law_1350 : decode cL_law 1350 = .ok (.iadd, 1) := by decide +kernel
theorem dL_law_1351 : decode cL_law 1351 = .ok (.iaload, 1) := by decide +kernel
theorem dL_law_1352 : decode cL_law 1352 = .ok (.i2l, 1) := by decide +kernel
theorem dL_law_1353 : decode cL_law 1353 = .ok (.bipush 32, 2) := by decide +kernel
theorem dL_law_1355 : decode cL_law 1355 = .ok (.lshl, 1) := by decide +kernel
theorem dL_law_1356 : decode cL_law 1356 = .ok (.aload_n 0, 1) := by decide +kernel
theorem dL_law_1357 : decode cL_law 1357 = .ok (.iload_n 3, 1) := by decide +kernel
theorem dL_law_1358 : decode cL_law 1358 = .ok (.bipush 6, 2) := by decide +kernel
theorem dL_law_1360 : decode cL_law 1360 = .ok (.iadd, 1) := by decide +kernel
theorem dL_law_1361 : decode cL_law 1361 = .ok (.iaload, 1) := by decide +kernel
theorem dL_law_1362 : decode cL_law 1362 = .ok (.i2l, 1) := by decide +kernel
theorem dL_law_1363 : decode cL_law 1363 = .ok (.ldc2_w 23, 3) := by decide +kernel
theorem dL_law_1366 : decode cL_law 1366 = .ok (.land, 1) := by decide +kernel
theorem dL_law_1367 : decode cL_law 1367 = .ok (.lor, 1) := by decide +kernel
theorem dL_law_1368 : decode cL_law 1368 = .ok (.invokevirtual 136, 3) := by decide +kernel
theorem dL_law_1371 : decode cL_law 1371 = .ok (.aload_n 2, 1) := by decide +kernel
theorem dL_law_1372 : decode cL_law 1372 = .ok (.aload_n 0, 1) := by decide +kernel
theorem dL_law_1373 : decode cL_law 1373 = .ok (.iload_n 3, 1) := by decide +kernel
theorem dL_law_1374 : decode cL_law 1374 = .ok (.iconst 1, 1) := by decide +kernel
theorem dL_law_1375 : decode cL_law 1375 = .ok (.iadd, 1) := by decide +kernel
theorem dL_law_1376 : decode cL_law 1376 = .ok (.iaload, 1) := by decide +kernel
theorem dL_law_1377 : decode cL_law 1377 = .ok (.aload_n 0, 1) := by decide +kernel
theorem dL_law_1378 : decode cL_law 1378 = .ok (.iload_n 3, 1) := by decide +kernel
theorem dL_law_1379 : decode cL_law 1379 = .ok (.iconst 2, 1) := by decide +kernel
theorem dL_law_1380 : decode cL_law 1380 = .ok (.iadd, 1) := by decide +kernel
theorem dL_law_1381 : decode cL_law 1381 = .ok (.iaload, 1) := by decide +kernel
theorem dL_law_1382 : decode cL_law 1382 = .ok (.aload_n 0, 1) := by decide +kernel
theorem dL_law_1383 : decode cL_law 1383 = .ok (.iload_n 3, 1) := by decide +kernel
theorem dL_law_1384 : decode cL_law 1384 = .ok (.iconst 3, 1) := by decide +kernel
theorem dL_law_1385 : decode cL_law 1385 = .ok (.iadd, 1) := by decide +kernel
theorem dL_law_1386 : decode cL_law 1386 = .ok (.iaload, 1) := by decide +kernel
theorem dL_law_1387 : decode cL_law 1387 = .ok (.i2l, 1) := by decide +kernel
theorem dL_law_1388 : decode cL_law 1388 = .ok (.bipush 32, 2) := by decide +kernel
theorem dL_law_1390 : decode cL_law 1390 = .ok (.lshl, 1) := by decide +kernel
theorem dL_law_1391 : decode cL_law 1391 = .ok (.aload_n 0, 1) := by decide +kernel
theorem dL_law_1392 : decode cL_law 1392 = .ok (.iload_n 3, 1) := by decide +kernel
theorem dL_law_1393 : decode cL_law 1393 = .ok (.iconst 4, 1) := by decide +kernel
theorem dL_law_1394 : decode cL_law 1394 = .ok (.iadd, 1) := by decide +kernel
theorem dL_law_1395 : decode cL_law 1395 = .ok (.iaload, 1) := by decide +kernel
theorem dL_law_1396 : decode cL_law 1396 = .ok (.i2l, 1) := by decide +kernel
theorem dL_law_1397 : decode cL_law 1397 = .ok (.ldc2_w 23, 3) := by decide +kernel
theorem dL_law_1400 : decode cL_law 1400 = .ok (.land, 1) := by decide +kernel
theorem dL_law_1401 : decode cL_law 1401 = .ok (.lor, 1) := by decide +kernel
theorem dL_law_1402 : decode cL_law 1402 = .ok (.aload_n 0, 1) := by decide +kernel
theorem dL_law_1403 : decode cL_law 1403 = .ok (.iload_n 3, 1) := by decide +kernel
theorem dL_law_1404 : decode cL_law 1404 = .ok (.iconst 5, 1) := by decide +kernel
theorem dL_law_1405 : decode cL_law 1405 = .ok (.iadd, 1) := by decide +kernel
theorem dL_law_1406 : decode cL_law 1406 = .ok (.iaload, 1) := by decide +kernel
theorem dL_law_1407 : decode cL_law 1407 = .ok (.i2l, 1) := by decide +kernel
theorem dL_law_1408 : decode cL_law 1408 = .ok (.bipush 32, 2) := by decide +kernel
theorem dL_law_1410 : decode cL_law 1410 = .ok (.lshl, 1) := by decide +kernel
theorem dL_law_1411 : decode cL_law 1411 = .ok (.aload_n 0, 1) := by decide +kernel
theorem dL_law_1412 : decode cL_law 1412 = .ok (.iload_n 3, 1) := by decide +kernel
theorem dL_law_1413 : decode cL_law 1413 = .ok (.bipush 6, 2) := by decide +kernel
theorem dL_law_1415 : decode cL_law 1415 = .ok (.iadd, 1) := by decide +kernel
theorem dL_law_1416 : decode cL_law 1416 = .ok (.iaload, 1) := by decide +kernel
theorem dL_law_1417 : decode cL_law 1417 = .ok (.i2l, 1) := by decide +kernel
theorem dL_law_1418 : decode cL_law 1418 = .ok (.ldc2_w 23, 3) := by decide +kernel
theorem dL_law_1421 : decode cL_law 1421 = .ok (.land, 1) := by decide +kernel
theorem dL_law_1422 : decode cL_law 1422 = .ok (.lor, 1) := by decide +kernel
theorem dL_law_1423 : decode cL_law 1423 = .ok (.invokevirtual 140, 3) := by decide +kernel
theorem dL_law_1426 : decode cL_law 1426 = .ok (.if_icmp .eq 299, 3) := by decide +kernel
theorem dL_law_1429 : decode cL_law 1429 = .ok (.iconst 0, 1) := by decide +kernel
theorem dL_law_1430 : decode cL_law 1430 = .ok (.ireturn, 1) := by decide +kernel
theorem dL_law_1431 : decode cL_law 1431 = .ok (.aload_n 1, 1) := by decide +kernel
theorem dL_law_1432 : decode cL_law 1432 = .ok (.aload_n 0, 1) := by decide +kernel
theorem dL_law_1433 : decode cL_law 1433 = .ok (.iload_n 3, 1) := by decide +kernel
theorem dL_law_1434 : decode cL_law 1434 = .ok (.iconst 1, 1) := by decide +kernel
theorem dL_law_1435 : decode cL_law 1435 = .ok (.iadd, 1) := by decide +kernel
theorem dL_law_1436 : decode cL_law 1436 = .ok (.iaload, 1) := by decide +kernel
theorem dL_law_1437 : decode cL_law 1437 = .ok (.aload_n 0, 1) := by decide +kernel
theorem dL_law_1438 : decode cL_law 1438 = .ok (.iload_n 3, 1) := by decide +kernel
theorem dL_law_1439 : decode cL_law 1439 = .ok (.iconst 2, 1) := by decide +kernel
theorem dL_law_1440 : decode cL_law 1440 = .ok (.iadd, 1) := by decide +kernel
theorem dL_law_1441 : decode cL_law 1441 = .ok (.iaload, 1) := by decide +kernel
theorem dL_law_1442 : decode cL_law 1442 = .ok (.invokevirtual 141, 3) := by decide +kernel
theorem dL_law_1445 : decode cL_law 1445 = .ok (.aload_n 2, 1) := by decide +kernel
theorem dL_law_1446 : decode cL_law 1446 = .ok (.aload_n 0, 1) := by decide +kernel
theorem dL_law_1447 : decode cL_law 1447 = .ok (.iload_n 3, 1) := by decide +kernel
theorem dL_law_1448 : decode cL_law 1448 = .ok (.iconst 1, 1) := by decide +kernel
theorem dL_law_1449 : decode cL_law 1449 = .ok (.iadd, 1) := by decide +kernel
theorem dL_law_1450 : decode cL_law 1450 = .ok (.iaload, 1) := by decide +kernel
theorem dL_law_1451 : decode cL_law 1451 = .ok (.aload_n 0, 1) := by decide +kernel
theorem dL_law_1452 : decode cL_law 1452 = .ok (.iload_n 3, 1) := by decide +kernel
theorem dL_law_1453 : decode cL_law 1453 = .ok (.iconst 2, 1) := by decide +kernel
theorem dL_law_1454 : decode cL_law 1454 = .ok (.iadd, 1) := by decide +kernel
theorem dL_law_1455 : decode cL_law 1455 = .ok (.iaload, 1) := by decide +kernel
theorem dL_law_1456 : decode cL_law 1456 = .ok (.invokevirtual 144, 3) := by decide +kernel
theorem dL_law_1459 : decode cL_law 1459 = .ok (.if_icmp .eq 266, 3) := by decide +kernel
theorem dL_law_1462 : decode cL_law 1462 = .ok (.iconst 0, 1) := by decide +kernel
theorem dL_law_1463 : decode cL_law 1463 = .ok (.ireturn, 1) := by decide +kernel
theorem dL_law_1464 : decode cL_law 1464 = .ok (.aload_n 1, 1) := by decide +kernel
theorem dL_law_1465 : decode cL_law 1465 = .ok (.aload_n 0, 1) := by decide +kernel
theorem dL_law_1466 : decode cL_law 1466 = .ok (.iload_n 3, 1) := by decide +kernel
theorem dL_law_1467 : decode cL_law 1467 = .ok (.iconst 1, 1) := by decide +kernel
theorem dL_law_1468 : decode cL_law 1468 = .ok (.iadd, 1) := by decide +kernel
theorem dL_law_1469 : decode cL_law 1469 = .ok (.iaload, 1) := by decide +kernel
theorem dL_law_1470 : decode cL_law 1470 = .ok (.aload_n 0, 1) := by decide +kernel
theorem dL_law_1471 : decode cL_law 1471 = .ok (.iload_n 3, 1) := by decide +kernel
theorem dL_law_1472 : decode cL_law 1472 = .ok (.iconst 2, 1) := by decide +kernel
theorem dL_law_1473 : decode cL_law 1473 = .ok (.iadd, 1) := by decide +kernel
theorem dL_law_1474 : decode cL_law 1474 = .ok (.iaload, 1) := by decide +kernel
theorem dL_law_1475 : decode cL_law 1475 = .ok (.invokevirtual 145, 3) := by decide +kernel
theorem dL_law_1478 : decode cL_law 1478 = .ok (.aload_n 2, 1) := by decide +kernel
theorem dL_law_1479 : decode cL_law 1479 = .ok (.aload_n 0, 1) := by decide +kernel
theorem dL_law_1480 : decode cL_law 1480 = .ok (.iload_n 3, 1) := by decide +kernel
theorem dL_law_1481 : decode cL_law 1481 = .ok (.iconst 1, 1) := by decide +kernel
theorem dL_law_1482 : decode cL_law 1482 = .ok (.iadd, 1) := by decide +kernel
theorem dL_law_1483 : decode cL_law 1483 = .ok (.iaload, 1) := by decide +kernel
theorem dL_law_1484 : decode cL_law 1484 = .ok (.aload_n 0, 1) := by decide +kernel
theorem dL_law_1485 : decode cL_law 1485 = .ok (.iload_n 3, 1) := by decide +kernel
theorem dL_law_1486 : decode cL_law 1486 = .ok (.iconst 2, 1) := by decide +kernel
theorem dL_law_1487 : decode cL_law 1487 = .ok (.iadd, 1) := by decide +kernel
theorem dL_law_1488 : decode cL_law 1488 = .ok (.iaload, 1) := by decide +kernel
theorem dL_law_1489 : decode cL_law 1489 = .ok (.invokevirtual 148, 3) := by decide +kernel
theorem dL_law_1492 : decode cL_law 1492 = .ok (.if_icmp .eq 233, 3) := by decide +kernel
theorem dL_law_1495 : decode cL_law 1495 = .ok (.iconst 0, 1) := by decide +kernel
theorem dL_law_1496 : decode cL_law 1496 = .ok (.ireturn, 1) := by decide +kernel
theorem dL_law_1497 : decode cL_law 1497 = .ok (.aload_n 1, 1) := by decide +kernel
theorem dL_law_1498 : decode cL_law 1498 = .ok (.aload_n 0, 1) := by decide +kernel
theorem dL_law_1499 : decode cL_law 1499 = .ok (.iload_n 3, 1) := by decide +kernel
theorem dL_law_1500 : decode cL_law 1500 = .ok (.iconst 1, 1) := by decide +kernel
theorem dL_law_1501 : decode cL_law 1501 = .ok (.iadd, 1) := by decide +kernel
theorem dL_law_1502 : decode cL_law 1502 = .ok (.iaload, 1) := by decide +kernel
theorem dL_law_1503 : decode cL_law 1503 = .ok (.aload_n 0, 1) := by decide +kernel
theorem dL_law_1504 : decode cL_law 1504 = .ok (.iload_n 3, 1) := by decide +kernel
theorem dL_law_1505 : decode cL_law 1505 = .ok (.iconst 2, 1) := by decide +kernel
theorem dL_law_1506 : decode cL_law 1506 = .ok (.iadd, 1) := by decide +kernel
theorem dL_law_1507 : decode cL_law 1507 = .ok (.iaload, 1) := by decide +kernel
theorem dL_law_1508 : decode cL_law 1508 = .ok (.invokevirtual 149, 3) := by decide +kernel
theorem dL_law_1511 : decode cL_law 1511 = .ok (.aload_n 2, 1) := by decide +kernel
theorem dL_law_1512 : decode cL_law 1512 = .ok (.aload_n 0, 1) := by decide +kernel
theorem dL_law_1513 : decode cL_law 1513 = .ok (.iload_n 3, 1) := by decide +kernel
theorem dL_law_1514 : decode cL_law 1514 = .ok (.iconst 1, 1) := by decide +kernel
theorem dL_law_1515 : decode cL_law 1515 = .ok (.iadd, 1) := by decide +kernel
theorem dL_law_1516 : decode cL_law 1516 = .ok (.iaload, 1) := by decide +kernel
theorem dL_law_1517 : decode cL_law 1517 = .ok (.aload_n 0, 1) := by decide +kernel
theorem dL_law_1518 : decode cL_law 1518 = .ok (.iload_n 3, 1) := by decide +kernel
theorem dL_law_1519 : decode cL_law 1519 = .ok (.iconst 2, 1) := by decide +kernel
theorem dL_law_1520 : decode cL_law 1520 = .ok (.iadd, 1) := by decide +kernel
theorem dL_law_1521 : decode cL_law 1521 = .ok (.iaload, 1) := by decide +kernel
theorem dL_law_1522 : decode cL_law 1522 = .ok (.invokevirtual 152, 3) := by decide +kernel
theorem dL_law_1525 : decode cL_law 1525 = .ok (.if_icmp .eq 200, 3) := by decide +kernel
theorem dL_law_1528 : decode cL_law 1528 = .ok (.iconst 0, 1) := by decide +kernel
theorem dL_law_1529 : decode cL_law 1529 = .ok (.ireturn, 1) := by decide +kernel
theorem dL_law_1530 : decode cL_law 1530 = .ok (.aload_n 1, 1) := by decide +kernel
theorem dL_law_1531 : decode cL_law 1531 = .ok (.aload_n 0, 1) := by decide +kernel
theorem dL_law_1532 : decode cL_law 1532 = .ok (.iload_n 3, 1) := by decide +kernel
theorem dL_law_1533 : decode cL_law 1533 = .ok (.iconst 1, 1) := by decide +kernel
theorem dL_law_1534 : decode cL_law 1534 = .ok (.iadd, 1) := by decide +kernel
theorem dL_law_1535 : decode cL_law 1535 = .ok (.iaload, 1) := by decide +kernel
theorem dL_law_1536 : decode cL_law 1536 = .ok (.aload_n 0, 1) := by decide +kernel
theorem dL_law_1537 : decode cL_law 1537 = .ok (.iload_n 3, 1) := by decide +kernel
theorem dL_law_1538 : decode cL_law 1538 = .ok (.iconst 2, 1) := by decide +kernel
theorem dL_law_1539 : decode cL_law 1539 = .ok (.iadd, 1) := by decide +kernel
theorem dL_law_1540 : decode cL_law 1540 = .ok (.iaload, 1) := by decide +kernel
theorem dL_law_1541 : decode cL_law 1541 = .ok (.invokevirtual 153, 3) := by decide +kernel
theorem dL_law_1544 : decode cL_law 1544 = .ok (.aload_n 2, 1) := by decide +kernel
theorem dL_law_1545 : decode cL_law 1545 = .ok (.aload_n 0, 1) := by decide +kernel
theorem dL_law_1546 : decode cL_law 1546 = .ok (.iload_n 3, 1) := by decide +kernel
theorem dL_law_1547 : decode cL_law 1547 = .ok (.iconst 1, 1) := by decide +kernel
theorem dL_law_1548 : decode cL_law 1548 = .ok (.iadd, 1) := by decide +kernel
theorem dL_law_1549 : decode cL_law 1549 = .ok (.iaload, 1) := by decide +kernel
theorem dL_law_1550 : decode cL_law 1550 = .ok (.aload_n 0, 1) := by decide +kernel
theorem dL_law_1551 : decode cL_law 1551 = .ok (.iload_n 3, 1) := by decide +kernel
theorem dL_law_1552 : decode cL_law 1552 = .ok (.iconst 2, 1) := by decide +kernel
theorem dL_law_1553 : decode cL_law 1553 = .ok (.iadd, 1) := by decide +kernel
theorem dL_law_1554 : decode cL_law 1554 = .ok (.iaload, 1) := by decide +kernel
theorem dL_law_1555 : decode cL_law 1555 = .ok (.invokevirtual 156, 3) := by decide +kernel
theorem dL_law_1558 : decode cL_law 1558 = .ok (.if_icmp .eq 167, 3) := by decide +kernel
theorem dL_law_1561 : decode cL_law 1561 = .ok (.iconst 0, 1) := by decide +kernel
theorem dL_law_1562 : decode cL_law 1562 = .ok (.ireturn, 1) := by decide +kernel
theorem dL_law_1563 : decode cL_law 1563 = .ok (.aload_n 1, 1) := by decide +kernel
theorem dL_law_1564 : decode cL_law 1564 = .ok (.aload_n 0, 1) := by decide +kernel
theorem dL_law_1565 : decode cL_law 1565 = .ok (.iload_n 3, 1) := by decide +kernel
theorem dL_law_1566 : decode cL_law 1566 = .ok (.iconst 1, 1) := by decide +kernel
theorem dL_law_1567 : decode cL_law 1567 = .ok (.iadd, 1) := by decide +kernel
theorem dL_law_1568 : decode cL_law 1568 = .ok (.iaload, 1) := by decide +kernel
theorem dL_law_1569 : decode cL_law 1569 = .ok (.aload_n 0, 1) := by decide +kernel
theorem dL_law_1570 : decode cL_law 1570 = .ok (.iload_n 3, 1) := by decide +kernel
theorem dL_law_1571 : decode cL_law 1571 = .ok (.iconst 2, 1) := by decide +kernel
theorem dL_law_1572 : decode cL_law 1572 = .ok (.iadd, 1) := by decide +kernel
theorem dL_law_1573 : decode cL_law 1573 = .ok (.iaload, 1) := by decide +kernel
theorem dL_law_1574 : decode cL_law 1574 = .ok (.aload_n 0, 1) := by decide +kernel
theorem dL_law_1575 : decode cL_law 1575 = .ok (.iload_n 3, 1) := by decide +kernel
theorem dL_law_1576 : decode cL_law 1576 = .ok (.iconst 3, 1) := by decide +kernel
theorem dL_law_1577 : decode cL_law 1577 = .ok (.iadd, 1) := by decide +kernel
theorem dL_law_1578 : decode cL_law 1578 = .ok (.iaload, 1) := by decide +kernel
theorem dL_law_1579 : decode cL_law 1579 = .ok (.aload_n 0, 1) := by decide +kernel
theorem dL_law_1580 : decode cL_law 1580 = .ok (.iload_n 3, 1) := by decide +kernel
theorem dL_law_1581 : decode cL_law 1581 = .ok (.iconst 4, 1) := by decide +kernel
theorem dL_law_1582 : decode cL_law 1582 = .ok (.iadd, 1) := by decide +kernel
theorem dL_law_1583 : decode cL_law 1583 = .ok (.iaload, 1) := by decide +kernel
theorem dL_law_1584 : decode cL_law 1584 = .ok (.invokevirtual 157, 3) := by decide +kernel
theorem dL_law_1587 : decode cL_law 1587 = .ok (.aload_n 2, 1) := by decide +kernel
theorem dL_law_1588 : decode cL_law 1588 = .ok (.aload_n 0, 1) := by decide +kernel
theorem dL_law_1589 : decode cL_law 1589 = .ok (.iload_n 3, 1) := by decide +kernel
theorem dL_law_1590 : decode cL_law 1590 = .ok (.iconst 1, 1) := by decide +kernel
theorem dL_law_1591 : decode cL_law 1591 = .ok (.iadd, 1) := by decide +kernel
theorem dL_law_1592 : decode cL_law 1592 = .ok (.iaload, 1) := by decide +kernel
theorem dL_law_1593 : decode cL_law 1593 = .ok (.aload_n 0, 1) := by decide +kernel
theorem dL_law_1594 : decode cL_law 1594 = .ok (.iload_n 3, 1) := by decide +kernel
theorem dL_law_1595 : decode cL_law 1595 = .ok (.iconst 2, 1) := by decide +kernel
theorem dL_law_1596 : decode cL_law 1596 = .ok (.iadd, 1) := by decide +kernel
theorem dL_law_1597 : decode cL_law 1597 = .ok (.iaload, 1) := by decide +kernel
theorem dL_law_1598 : decode cL_law 1598 = .ok (.aload_n 0, 1) := by decide +kernel
theorem dL_law_1599 : decode cL_law 1599 = .ok (.iload_n 3, 1) := by decide +kernel
theorem dL_law_1600 : decode cL_law 1600 = .ok (.iconst 3, 1) := by decide +kernel
theorem dL_law_1601 : decode cL_law 1601 = .ok (.iadd, 1) := by decide +kernel
theorem dL_law_1602 : decode cL_law 1602 = .ok (.iaload, 1) := by decide +kernel
theorem dL_law_1603 : decode cL_law 1603 = .ok (.aload_n 0, 1) := by decide +kernel
theorem dL_law_1604 : decode cL_law 1604 = .ok (.iload_n 3, 1) := by decide +kernel
theorem dL_law_1605 : decode cL_law 1605 = .ok (.iconst 4, 1) := by decide +kernel
theorem dL_law_1606 : decode cL_law 1606 = .ok (.iadd, 1) := by decide +kernel
theorem dL_law_1607 : decode cL_law 1607 = .ok (.iaload, 1) := by decide +kernel
theorem dL_law_1608 : decode cL_law 1608 = .ok (.invokevirtual 160, 3) := by decide +kernel
theorem dL_law_1611 : decode cL_law 1611 = .ok (.if_icmp .eq 114, 3) := by decide +kernel
theorem dL_law_1614 : decode cL_law 1614 = .ok (.iconst 0, 1) := by decide +kernel
theorem dL_law_1615 : decode cL_law 1615 = .ok (.ireturn, 1) := by decide +kernel
theorem dL_law_1616 : decode cL_law 1616 = .ok (.aload_n 1, 1) := by decide +kernel
theorem dL_law_1617 : decode cL_law 1617 = .ok (.aload_n 0, 1) := by decide +kernel
theorem dL_law_1618 : decode cL_law 1618 = .ok (.iload_n 3, 1) := by decide +kernel
theorem dL_law_1619 : decode cL_law 1619 = .ok (.iconst 1, 1) := by decide +kernel
theorem dL_law_1620 : decode cL_law 1620 = .ok (.iadd, 1) := by decide +kernel
theorem dL_law_1621 : decode cL_law 1621 = .ok (.iaload, 1) := by decide +kernel
theorem dL_law_1622 : decode cL_law 1622 = .ok (.invokevirtual 161, 3) := by decide +kernel
theorem dL_law_1625 : decode cL_law 1625 = .ok (.aload_n 2, 1) := by decide +kernel
theorem dL_law_1626 : decode cL_law 1626 = .ok (.aload_n 0, 1) := by decide +kernel
theorem dL_law_1627 : decode cL_law 1627 = .ok (.iload_n 3, 1) := by decide +kernel
theorem dL_law_1628 : decode cL_law 1628 = .ok (.iconst 1, 1) := by decide +kernel
theorem dL_law_1629 : decode cL_law 1629 = .ok (.iadd, 1) := by decide +kernel
theorem dL_law_1630 : decode cL_law 1630 = .ok (.iaload, 1) := by decide +kernel
theorem dL_law_1631 : decode cL_law 1631 = .ok (.invokevirtual 164, 3) := by decide +kernel
theorem dL_law_1634 : decode cL_law 1634 = .ok (.if_icmp .eq 91, 3) := by decide +kernel
theorem dL_law_1637 : decode cL_law 1637 = .ok (.iconst 0, 1) := by decide +kernel
theorem dL_law_1638 : decode cL_law 1638 = .ok (.ireturn, 1) := by decide +kernel
theorem dL_law_1639 : decode cL_law 1639 = .ok (.aload_n 1, 1) := by decide +kernel
theorem dL_law_1640 : decode cL_law 1640 = .ok (.aload_n 0, 1) := by decide +kernel
theorem dL_law_1641 : decode cL_law 1641 = .ok (.iload_n 3, 1) := by decide +kernel
theorem dL_law_1642 : decode cL_law 1642 = .ok (.iconst 1, 1) := by decide +kernel
theorem dL_law_1643 : decode cL_law 1643 = .ok (.iadd, 1) := by decide +kernel
theorem dL_law_1644 : decode cL_law 1644 = .ok (.iaload, 1) := by decide +kernel
theorem dL_law_1645 : decode cL_law 1645 = .ok (.aload_n 0, 1) := by decide +kernel
theorem dL_law_1646 : decode cL_law 1646 = .ok (.iload_n 3, 1) := by decide +kernel
theorem dL_law_1647 : decode cL_law 1647 = .ok (.iconst 2, 1) := by decide +kernel
theorem dL_law_1648 : decode cL_law 1648 = .ok (.iadd, 1) := by decide +kernel
theorem dL_law_1649 : decode cL_law 1649 = .ok (.iaload, 1) := by decide +kernel
theorem dL_law_1650 : decode cL_law 1650 = .ok (.aload_n 0, 1) := by decide +kernel
theorem dL_law_1651 : decode cL_law 1651 = .ok (.iload_n 3, 1) := by decide +kernel
theorem dL_law_1652 : decode cL_law 1652 = .ok (.iconst 3, 1) := by decide +kernel
theorem dL_law_1653 : decode cL_law 1653 = .ok (.iadd, 1) := by decide +kernel
theorem dL_law_1654 : decode cL_law 1654 = .ok (.iaload, 1) := by decide +kernel
theorem dL_law_1655 : decode cL_law 1655 = .ok (.aload_n 0, 1) := by decide +kernel
theorem dL_law_1656 : decode cL_law 1656 = .ok (.iload_n 3, 1) := by decide +kernel
theorem dL_law_1657 : decode cL_law 1657 = .ok (.iconst 4, 1) := by decide +kernel
theorem dL_law_1658 : decode cL_law 1658 = .ok (.iadd, 1) := by decide +kernel
theorem dL_law_1659 : decode cL_law 1659 = .ok (.iaload, 1) := by decide +kernel
theorem dL_law_1660 : decode cL_law 1660 = .ok (.invokevirtual 165, 3) := by decide +kernel
theorem dL_law_1663 : decode cL_law 1663 = .ok (.aload_n 2, 1) := by decide +kernel
theorem dL_law_1664 : decode cL_law 1664 = .ok (.aload_n 0, 1) := by decide +kernel
theorem dL_law_1665 : decode cL_law 1665 = .ok (.iload_n 3, 1) := by decide +kernel
theorem dL_law_1666 : decode cL_law 1666 = .ok (.iconst 1, 1) := by decide +kernel
theorem dL_law_1667 : decode cL_law 1667 = .ok (.iadd, 1) := by decide +kernel
theorem dL_law_1668 : decode cL_law 1668 = .ok (.iaload, 1) := by decide +kernel
theorem dL_law_1669 : decode cL_law 1669 = .ok (.aload_n 0, 1) := by decide +kernel
theorem dL_law_1670 : decode cL_law 1670 = .ok (.iload_n 3, 1) := by decide +kernel
theorem dL_law_1671 : decode cL_law 1671 = .ok (.iconst 2, 1) := by decide +kernel
theorem dL_law_1672 : decode cL_law 1672 = .ok (.iadd, 1) := by decide +kernel
theorem dL_law_1673 : decode cL_law 1673 = .ok (.iaload, 1) := by decide +kernel
theorem dL_law_1674 : decode cL_law 1674 = .ok (.aload_n 0, 1) := by decide +kernel
theorem dL_law_1675 : decode cL_law 1675 = .ok (.iload_n 3, 1) := by decide +kernel
theorem dL_law_1676 : decode cL_law 1676 = .ok (.iconst 3, 1) := by decide +kernel
theorem dL_law_1677 : decode cL_law 1677 = .ok (.iadd, 1) := by decide +kernel
theorem dL_law_1678 : decode cL_law 1678 = .ok (.iaload, 1) := by decide +kernel
theorem dL_law_1679 : decode cL_law 1679 = .ok (.aload_n 0, 1) := by decide +kernel
theorem dL_law_1680 : decode cL_law 1680 = .ok (.iload_n 3, 1) := by decide +kernel
theorem dL_law_1681 : decode cL_law 1681 = .ok (.iconst 4, 1) := by decide +kernel
theorem dL_law_1682 : decode cL_law 1682 = .ok (.iadd, 1) := by decide +kernel
theorem dL_law_1683 : decode cL_law 1683 = .ok (.iaload, 1) := by decide +kernel
theorem dL_law_1684 : decode cL_law 1684 = .ok (.invokevirtual 168, 3) := by decide +kernel
theorem dL_law_1687 : decode cL_law 1687 = .ok (.if_icmp .eq 38, 3) := by decide +kernel
theorem dL_law_1690 : decode cL_law 1690 = .ok (.iconst 0, 1) := by decide +kernel
theorem dL_law_1691 : decode cL_law 1691 = .ok (.ireturn, 1) := by decide +kernel
theorem dL_law_1692 : decode cL_law 1692 = .ok (.aload_n 1, 1) := by decide +kernel
theorem dL_law_1693 : decode cL_law 1693 = .ok (.aload_n 0, 1) := by decide +kernel
theorem dL_law_1694 : decode cL_law 1694 = .ok (.iload_n 3, 1) := by decide +kernel
theorem dL_law_1695 : decode cL_law 1695 = .ok (.iconst 1, 1) := by decide +kernel
theorem dL_law_1696 : decode cL_law 1696 = .ok (.iadd, 1) := by decide +kernel
theorem dL_law_1697 : decode cL_law 1697 = .ok (.iaload, 1) := by decide +kernel
theorem dL_law_1698 : decode cL_law 1698 = .ok (.aload_n 0, 1) := by decide +kernel
theorem dL_law_1699 : decode cL_law 1699 = .ok (.iload_n 3, 1) := by decide +kernel
theorem dL_law_1700 : decode cL_law 1700 = .ok (.iconst 2, 1) := by decide +kernel
theorem dL_law_1701 : decode cL_law 1701 = .ok (.iadd, 1) := by decide +kernel
theorem dL_law_1702 : decode cL_law 1702 = .ok (.iaload, 1) := by decide +kernel
theorem dL_law_1703 : decode cL_law 1703 = .ok (.invokevirtual 169, 3) := by decide +kernel
theorem dL_law_1706 : decode cL_law 1706 = .ok (.aload_n 2, 1) := by decide +kernel
theorem dL_law_1707 : decode cL_law 1707 = .ok (.aload_n 0, 1) := by decide +kernel
theorem dL_law_1708 : decode cL_law 1708 = .ok (.iload_n 3, 1) := by decide +kernel
theorem dL_law_1709 : decode cL_law 1709 = .ok (.iconst 1, 1) := by decide +kernel
theorem dL_law_1710 : decode cL_law 1710 = .ok (.iadd, 1) := by decide +kernel
theorem dL_law_1711 : decode cL_law 1711 = .ok (.iaload, 1) := by decide +kernel
theorem dL_law_1712 : decode cL_law 1712 = .ok (.aload_n 0, 1) := by decide +kernel
theorem dL_law_1713 : decode cL_law 1713 = .ok (.iload_n 3, 1) := by decide +kernel
theorem dL_law_1714 : decode cL_law 1714 = .ok (.iconst 2, 1) := by decide +kernel
theorem dL_law_1715 : decode cL_law 1715 = .ok (.iadd, 1) := by decide +kernel
theorem dL_law_1716 : decode cL_law 1716 = .ok (.iaload, 1) := by decide +kernel
theorem dL_law_1717 : decode cL_law 1717 = .ok (.invokevirtual 172, 3) := by decide +kernel
theorem dL_law_1720 : decode cL_law 1720 = .ok (.if_icmp .eq 5, 3) := by decide +kernel
theorem dL_law_1723 : decode cL_law 1723 = .ok (.iconst 0, 1) := by decide +kernel
theorem dL_law_1724 : decode cL_law 1724 = .ok (.ireturn, 1) := by decide +kernel
theorem dL_law_1725 : decode cL_law 1725 = .ok (.iinc 3 7, 3) := by decide +kernel
theorem dL_law_1728 : decode cL_law 1728 = .ok (.goto (-1710), 3) := by decide +kernel
theorem dL_law_1731 : decode cL_law 1731 = .ok (.iconst 1, 1) := by decide +kernel
theorem dL_law_1732 : decode cL_law 1732 = .ok (.ireturn, 1) := by decide +kernel
noncomputable def L_law_j1725 (b : Nat) (L : Nat) (xs : Nat → Int32) (a3 : Int32) (w : Wd) : Option ((Int32 × Wd) ⊕ Wd) :=
some (.inl ((a3 + (7 : Int32)), w))
set_option maxRecDepth 20000 in
set_option maxHeartbeats 1000000 in
theorem t_L_law_j1725 {κ : Kx} (b : Nat) (L : Nat) (xs : Nat → Int32) (hX : XS κ b L xs) (a3 : Int32) (w : Wd) {G : (Int32 × Wd) → Prop} {P : Wd → Prop} (KG : ∀ s, G s → J κ RL cL_law 4 (some .boolean) room_1 18 [(0, .ref b), (1, .ref (ad (gm κ) 0)), (2, .ref (ad (gm κ) 97)), (3, .int s.1)] [] s.2) (K0 : ∀ e, P e → J κ RL cL_law 4 (some .boolean) room_1 1731 [] [] e) (h : ok (L_law_j1725 b L xs a3 w) (sel G P)) : J κ RL cL_law 4 (some .boolean) room_1 1725 [(0, .ref b), (1, .ref (ad (gm κ) 0)), (2, .ref (ad (gm κ) 97)), (3, .int a3)] [] w := by
  unfold L_law_j1725 at h
  refine j_iinc (a3 + (7 : Int32)) 3 [(3, .int (a3 + (7 : Int32))), (0, .ref b), (1, .ref (ad (gm κ) 0)), (2, .ref (ad (gm κ) 97))] dL_law_1725 rfl (by rw [kn_7]) (by decide) rfl ?_
  refine j_goto 18 dL_law_1728 (by decide) ?_
  refine j_loc [(0, .ref b), (1, .ref (ad (gm κ) 0)), (2, .ref (ad (gm κ) 97)), (3, .int (a3 + (7 : Int32)))] [1, 2, 3, 0] rfl ?_
  have h := sel_l h
  have h := KG _ h
  exact h
noncomputable def L_law_b18 (b : Nat) (L : Nat) (xs : Nat → Int32) (s : (Int32 × Wd)) : Option ((Int32 × Wd) ⊕ Wd) :=
(if ((Int32.ofNat L) - (7 : Int32)) < s.1 then
some (.inr s.2)
else
gd (vp_in s.1 L) <|
(if ((xs (ix s.1)) &&& (63 : Int32)) = (0 : Int32) then
(if (X11_status s.2) = (X12_status s.2) then
L_law_j1725 b L xs s.1 s.2
else
none)
else
(if ((xs (ix s.1)) &&& (63 : Int32)) = (1 : Int32) then
gd (vp_in (s.1 + (1 : Int32)) L) <|
gd (vp_in (s.1 + (2 : Int32)) L) <|
gd (vp_in (s.1 + (3 : Int32)) L) <|
(X11_tray (xs (ix (s.1 + (1 : Int32)))) (xs (ix (s.1 + (2 : Int32)))) (xs (ix (s.1 + (3 : Int32)))) s.2).bind fun q1 =>
gd (vp_in (s.1 + (1 : Int32)) L) <|
gd (vp_in (s.1 + (2 : Int32)) L) <|
gd (vp_in (s.1 + (3 : Int32)) L) <|
(X12_tray (xs (ix (s.1 + (1 : Int32)))) (xs (ix (s.1 + (2 : Int32)))) (xs (ix (s.1 + (3 : Int32)))) q1.2).bind fun q3 =>
(if q1.1 = q3.1 then
L_law_j1725 b L xs s.1 q3.2
else
none)
else
(if ((xs (ix s.1)) &&& (63 : Int32)) = (2 : Int32) then
gd (vp_in (s.1 + (1 : Int32)) L) <|
gd (vp_in (s.1 + (2 : Int32)) L) <|
gd (vp_in (s.1 + (3 : Int32)) L) <|
gd (vp_in (s.1 + (4 : Int32)) L) <|
(X11_write (xs (ix (s.1 + (1 : Int32)))) (xs (ix (s.1 + (2 : Int32)))) (((Int32.toInt64 (xs (ix (s.1 + (3 : Int32))))) <<< (Int32.toInt64 (32 : Int32) &&& 63)) ||| ((Int32.toInt64 (xs (ix (s.1 + (4 : Int32))))) &&& (4294967295 : Int64))) s.2).bind fun q5 =>
gd (vp_in (s.1 + (1 : Int32)) L) <|
gd (vp_in (s.1 + (2 : Int32)) L) <|
gd (vp_in (s.1 + (3 : Int32)) L) <|
gd (vp_in (s.1 + (4 : Int32)) L) <|
(X12_write (xs (ix (s.1 + (1 : Int32)))) (xs (ix (s.1 + (2 : Int32)))) (((Int32.toInt64 (xs (ix (s.1 + (3 : Int32))))) <<< (Int32.toInt64 (32 : Int32) &&& 63)) ||| ((Int32.toInt64 (xs (ix (s.1 + (4 : Int32))))) &&& (4294967295 : Int64))) q5.2).bind fun q7 =>
(if q5.1 = q7.1 then
L_law_j1725 b L xs s.1 q7.2
else
none)
else
(if ((xs (ix s.1)) &&& (63 : Int32)) = (3 : Int32) then
gd (vp_in (s.1 + (1 : Int32)) L) <|
gd (vp_in (s.1 + (2 : Int32)) L) <|
(X11_read (xs (ix (s.1 + (1 : Int32)))) (xs (ix (s.1 + (2 : Int32)))) s.2).bind fun q9 =>
gd (vp_in (s.1 + (1 : Int32)) L) <|
gd (vp_in (s.1 + (2 : Int32)) L) <|
(X12_read (xs (ix (s.1 + (1 : Int32)))) (xs (ix (s.1 + (2 : Int32)))) q9.2).bind fun q11 =>
(if (lg_cmp q9.1 q11.1) = 0 then
L_law_j1725 b L xs s.1 q11.2
else
none)
else
(if ((xs (ix s.1)) &&& (63 : Int32)) = (4 : Int32) then
gd (vp_in (s.1 + (1 : Int32)) L) <|
gd (vp_in (s.1 + (2 : Int32)) L) <|
gd (vp_in (s.1 + (3 : Int32)) L) <|
gd (vp_in (s.1 + (4 : Int32)) L) <|
gd (vp_in (s.1 + (5 : Int32)) L) <|
(X11_pour (xs (ix (s.1 + (1 : Int32)))) (xs (ix (s.1 + (2 : Int32)))) (xs (ix (s.1 + (3 : Int32)))) (xs (ix (s.1 + (4 : Int32)))) (xs (ix (s.1 + (5 : Int32)))) s.2).bind fun q13 =>
gd (vp_in (s.1 + (1 : Int32)) L) <|
gd (vp_in (s.1 + (2 : Int32)) L) <|
gd (vp_in (s.1 + (3 : Int32)) L) <|
gd (vp_in (s.1 + (4 : Int32)) L) <|
gd (vp_in (s.1 + (5 : Int32)) L) <|
(X12_pour (xs (ix (s.1 + (1 : Int32)))) (xs (ix (s.1 + (2 : Int32)))) (xs (ix (s.1 + (3 : Int32)))) (xs (ix (s.1 + (4 : Int32)))) (xs (ix (s.1 + (5 : Int32)))) q13.2).bind fun q15 =>
(if q13.1 = q15.1 then
L_law_j1725 b L xs s.1 q15.2
else
none)
else
(if ((xs (ix s.1)) &&& (63 : Int32)) = (5 : Int32) then
gd (vp_in (s.1 + (1 : Int32)) L) <|
(X11_place (xs (ix (s.1 + (1 : Int32)))) s.2).bind fun q17 =>
gd (vp_in (s.1 + (1 : Int32)) L) <|
(X12_place (xs (ix (s.1 + (1 : Int32)))) q17.2).bind fun q19 =>
(if q17.1 = q19.1 then
L_law_j1725 b L xs s.1 q19.2
else
none)
else
(if ((xs (ix s.1)) &&& (63 : Int32)) = (6 : Int32) then
gd (vp_in (s.1 + (1 : Int32)) L) <|
gd (vp_in (s.1 + (2 : Int32)) L) <|
gd (vp_in (s.1 + (3 : Int32)) L) <|
gd (vp_in (s.1 + (4 : Int32)) L) <|
gd (vp_in (s.1 + (5 : Int32)) L) <|
(X11_way (xs (ix (s.1 + (1 : Int32)))) (xs (ix (s.1 + (2 : Int32)))) (xs (ix (s.1 + (3 : Int32)))) (xs (ix (s.1 + (4 : Int32)))) (xs (ix (s.1 + (5 : Int32)))) s.2).bind fun q21 =>
gd (vp_in (s.1 + (1 : Int32)) L) <|
gd (vp_in (s.1 + (2 : Int32)) L) <|
gd (vp_in (s.1 + (3 : Int32)) L) <|
gd (vp_in (s.1 + (4 : Int32)) L) <|
gd (vp_in (s.1 + (5 : Int32)) L) <|
(X12_way (xs (ix (s.1 + (1 : Int32)))) (xs (ix (s.1 + (2 : Int32)))) (xs (ix (s.1 + (3 : Int32)))) (xs (ix (s.1 + (4 : Int32)))) (xs (ix (s.1 + (5 : Int32)))) q21.2).bind fun q23 =>
(if q21.1 = q23.1 then
L_law_j1725 b L xs s.1 q23.2
else
none)
else
(if ((xs (ix s.1)) &&& (63 : Int32)) = (7 : Int32) then
gd (vp_in (s.1 + (1 : Int32)) L) <|
gd (vp_in (s.1 + (2 : Int32)) L) <|
gd (vp_in (s.1 + (3 : Int32)) L) <|
(X11_arrival (xs (ix (s.1 + (1 : Int32)))) (xs (ix (s.1 + (2 : Int32)))) (xs (ix (s.1 + (3 : Int32)))) s.2).bind fun q25 =>
gd (vp_in (s.1 + (1 : Int32)) L) <|
gd (vp_in (s.1 + (2 : Int32)) L) <|
gd (vp_in (s.1 + (3 : Int32)) L) <|
(X12_arrival (xs (ix (s.1 + (1 : Int32)))) (xs (ix (s.1 + (2 : Int32)))) (xs (ix (s.1 + (3 : Int32)))) q25.2).bind fun q27 =>
(if q25.1 = q27.1 then
L_law_j1725 b L xs s.1 q27.2
else
none)
else
(if ((xs (ix s.1)) &&& (63 : Int32)) = (8 : Int32) then
gd (vp_in (s.1 + (1 : Int32)) L) <|
gd (vp_in (s.1 + (2 : Int32)) L) <|
gd (vp_in (s.1 + (3 : Int32)) L) <|
(X11_learner (xs (ix (s.1 + (1 : Int32)))) (xs (ix (s.1 + (2 : Int32)))) (xs (ix (s.1 + (3 : Int32)))) s.2).bind fun q29 =>
gd (vp_in (s.1 + (1 : Int32)) L) <|
gd (vp_in (s.1 + (2 : Int32)) L) <|
gd (vp_in (s.1 + (3 : Int32)) L) <|
(X12_learner (xs (ix (s.1 + (1 : Int32)))) (xs (ix (s.1 + (2 : Int32)))) (xs (ix (s.1 + (3 : Int32)))) q29.2).bind fun q31 =>
(if q29.1 = q31.1 then
L_law_j1725 b L xs s.1 q31.2
else
none)
else
(if ((xs (ix s.1)) &&& (63 : Int32)) = (9 : Int32) then
gd (vp_in (s.1 + (1 : Int32)) L) <|
gd (vp_in (s.1 + (2 : Int32)) L) <|
(X11_teacher (xs (ix (s.1 + (1 : Int32)))) (xs (ix (s.1 + (2 : Int32)))) s.2).bind fun q33 =>
gd (vp_in (s.1 + (1 : Int32)) L) <|
gd (vp_in (s.1 + (2 : Int32)) L) <|
(X12_teacher (xs (ix (s.1 + (1 : Int32)))) (xs (ix (s.1 + (2 : Int32)))) q33.2).bind fun q35 =>
(if q33.1 = q35.1 then
L_law_j1725 b L xs s.1 q35.2
else
none)
else
(if ((xs (ix s.1)) &&& (63 : Int32)) = (10 : Int32) then
gd (vp_in (s.1 + (1 : Int32)) L) <|
(X11_lamp (xs (ix (s.1 + (1 : Int32)))) s.2).bind fun q37 =>
gd (vp_in (s.1 + (1 : Int32)) L) <|
(X12_lamp (xs (ix (s.1 + (1 : Int32)))) q37.2).bind fun q39 =>
(if q37.1 = q39.1 then
L_law_j1725 b L xs s.1 q39.2
else
none)
else
(if ((xs (ix s.1)) &&& (63 : Int32)) = (11 : Int32) then
gd (vp_in (s.1 + (1 : Int32)) L) <|
gd (vp_in (s.1 + (2 : Int32)) L) <|
gd (vp_in (s.1 + (3 : Int32)) L) <|
gd (vp_in (s.1 + (4 : Int32)) L) <|
gd (vp_in (s.1 + (5 : Int32)) L) <|
gd (vp_in (s.1 + (6 : Int32)) L) <|
(X11_note (xs (ix (s.1 + (1 : Int32)))) (xs (ix (s.1 + (2 : Int32)))) (xs (ix (s.1 + (3 : Int32)))) (xs (ix (s.1 + (4 : Int32)))) (xs (ix (s.1 + (5 : Int32)))) (xs (ix (s.1 + (6 : Int32)))) s.2).bind fun q41 =>
gd (vp_in (s.1 + (1 : Int32)) L) <|
gd (vp_in (s.1 + (2 : Int32)) L) <|
gd (vp_in (s.1 + (3 : Int32)) L) <|
gd (vp_in (s.1 + (4 : Int32)) L) <|
gd (vp_in (s.1 + (5 : Int32)) L) <|
gd (vp_in (s.1 + (6 : Int32)) L) <|
(X12_note (xs (ix (s.1 + (1 : Int32)))) (xs (ix (s.1 + (2 : Int32)))) (xs (ix (s.1 + (3 : Int32)))) (xs (ix (s.1 + (4 : Int32)))) (xs (ix (s.1 + (5 : Int32)))) (xs (ix (s.1 + (6 : Int32)))) q41.2).bind fun q43 =>
(if q41.1 = q43.1 then
L_law_j1725 b L xs s.1 q43.2
else
none)
else
(if ((xs (ix s.1)) &&& (63 : Int32)) = (12 : Int32) then
gd (vp_in (s.1 + (1 : Int32)) L) <|
(X11_asof (xs (ix (s.1 + (1 : Int32)))) s.2).bind fun q45 =>
gd (vp_in (s.1 + (1 : Int32)) L) <|
(X12_asof (xs (ix (s.1 + (1 : Int32)))) q45.2).bind fun q47 =>
(if q45.1 = q47.1 then
L_law_j1725 b L xs s.1 q47.2
else
none)
else
(if ((xs (ix s.1)) &&& (63 : Int32)) = (13 : Int32) then
gd (vp_in (s.1 + (1 : Int32)) L) <|
gd (vp_in (s.1 + (2 : Int32)) L) <|
gd (vp_in (s.1 + (3 : Int32)) L) <|
(X11_where (xs (ix (s.1 + (1 : Int32)))) (xs (ix (s.1 + (2 : Int32)))) (xs (ix (s.1 + (3 : Int32)))) s.2).bind fun q49 =>
gd (vp_in (s.1 + (1 : Int32)) L) <|
gd (vp_in (s.1 + (2 : Int32)) L) <|
gd (vp_in (s.1 + (3 : Int32)) L) <|
(X12_where (xs (ix (s.1 + (1 : Int32)))) (xs (ix (s.1 + (2 : Int32)))) (xs (ix (s.1 + (3 : Int32)))) q49.2).bind fun q51 =>
(if q49.1 = q51.1 then
L_law_j1725 b L xs s.1 q51.2
else
none)
else
(if ((xs (ix s.1)) &&& (63 : Int32)) = (14 : Int32) then
gd (vp_in (s.1 + (1 : Int32)) L) <|
gd (vp_in (s.1 + (2 : Int32)) L) <|
(X11_lit (xs (ix (s.1 + (1 : Int32)))) (xs (ix (s.1 + (2 : Int32)))) s.2).bind fun q53 =>
gd (vp_in (s.1 + (1 : Int32)) L) <|
gd (vp_in (s.1 + (2 : Int32)) L) <|
(X12_lit (xs (ix (s.1 + (1 : Int32)))) (xs (ix (s.1 + (2 : Int32)))) q53.2).bind fun q55 =>
(if q53.1 = q55.1 then
L_law_j1725 b L xs s.1 q55.2
else
none)
else
(if ((xs (ix s.1)) &&& (63 : Int32)) = (15 : Int32) then
gd (vp_in (s.1 + (1 : Int32)) L) <|
gd (vp_in (s.1 + (2 : Int32)) L) <|
gd (vp_in (s.1 + (3 : Int32)) L) <|
gd (vp_in (s.1 + (4 : Int32)) L) <|
gd (vp_in (s.1 + (5 : Int32)) L) <|
(X11_feed (xs (ix (s.1 + (1 : Int32)))) (xs (ix (s.1 + (2 : Int32)))) (xs (ix (s.1 + (3 : Int32)))) (xs (ix (s.1 + (4 : Int32)))) (xs (ix (s.1 + (5 : Int32)))) s.2).bind fun q57 =>
gd (vp_in (s.1 + (1 : Int32)) L) <|
gd (vp_in (s.1 + (2 : Int32)) L) <|
gd (vp_in (s.1 + (3 : Int32)) L) <|
gd (vp_in (s.1 + (4 : Int32)) L) <|
gd (vp_in (s.1 + (5 : Int32)) L) <|
(X12_feed (xs (ix (s.1 + (1 : Int32)))) (xs (ix (s.1 + (2 : Int32)))) (xs (ix (s.1 + (3 : Int32)))) (xs (ix (s.1 + (4 : Int32)))) (xs (ix (s.1 + (5 : Int32)))) q57.2).bind fun q59 =>
(if q57.1 = q59.1 then
L_law_j1725 b L xs s.1 q59.2
else
none)
else
(if ((xs (ix s.1)) &&& (63 : Int32)) = (16 : Int32) then
gd (vp_in (s.1 + (1 : Int32)) L) <|
gd (vp_in (s.1 + (2 : Int32)) L) <|
gd (vp_in (s.1 + (3 : Int32)) L) <|
(X11_orders (xs (ix (s.1 + (1 : Int32)))) (xs (ix (s.1 + (2 : Int32)))) (xs (ix (s.1 + (3 : Int32)))) s.2).bind fun q61 =>
gd (vp_in (s.1 + (1 : Int32)) L) <|
gd (vp_in (s.1 + (2 : Int32)) L) <|
gd (vp_in (s.1 + (3 : Int32)) L) <|
(X12_orders (xs (ix (s.1 + (1 : Int32)))) (xs (ix (s.1 + (2 : Int32)))) (xs (ix (s.1 + (3 : Int32)))) q61.2).bind fun q63 =>
(if q61.1 = q63.1 then
L_law_j1725 b L xs s.1 q63.2
else
none)
else
(if ((xs (ix s.1)) &&& (63 : Int32)) = (17 : Int32) then
gd (vp_in (s.1 + (1 : Int32)) L) <|
gd (vp_in (s.1 + (1 : Int32)) L) <|
(if (X11_fault (xs (ix (s.1 + (1 : Int32)))) s.2) = (X12_fault (xs (ix (s.1 + (1 : Int32)))) s.2) then
L_law_j1725 b L xs s.1 s.2
else
none)
else
(if ((xs (ix s.1)) &&& (63 : Int32)) = (18 : Int32) then
gd (vp_in (s.1 + (1 : Int32)) L) <|
gd (vp_in (s.1 + (2 : Int32)) L) <|
gd (vp_in (s.1 + (3 : Int32)) L) <|
(X11_rules (xs (ix (s.1 + (1 : Int32)))) (xs (ix (s.1 + (2 : Int32)))) (xs (ix (s.1 + (3 : Int32)))) s.2).bind fun q65 =>
gd (vp_in (s.1 + (1 : Int32)) L) <|
gd (vp_in (s.1 + (2 : Int32)) L) <|
gd (vp_in (s.1 + (3 : Int32)) L) <|
(X12_rules (xs (ix (s.1 + (1 : Int32)))) (xs (ix (s.1 + (2 : Int32)))) (xs (ix (s.1 + (3 : Int32)))) q65.2).bind fun q67 =>
(if q65.1 = q67.1 then
L_law_j1725 b L xs s.1 q67.2
else
none)
else
(if ((xs (ix s.1)) &&& (63 : Int32)) = (19 : Int32) then
gd (vp_in (s.1 + (1 : Int32)) L) <|
gd (vp_in (s.1 + (2 : Int32)) L) <|
gd (vp_in (s.1 + (3 : Int32)) L) <|
(X11_struck (xs (ix (s.1 + (1 : Int32)))) (xs (ix (s.1 + (2 : Int32)))) (xs (ix (s.1 + (3 : Int32)))) s.2).bind fun q69 =>
gd (vp_in (s.1 + (1 : Int32)) L) <|
gd (vp_in (s.1 + (2 : Int32)) L) <|
gd (vp_in (s.1 + (3 : Int32)) L) <|
(X12_struck (xs (ix (s.1 + (1 : Int32)))) (xs (ix (s.1 + (2 : Int32)))) (xs (ix (s.1 + (3 : Int32)))) q69.2).bind fun q71 =>
(if q69.1 = q71.1 then
L_law_j1725 b L xs s.1 q71.2
else
none)
else
(if ((xs (ix s.1)) &&& (63 : Int32)) = (20 : Int32) then
gd (vp_in (s.1 + (1 : Int32)) L) <|
gd (vp_in (s.1 + (2 : Int32)) L) <|
gd (vp_in (s.1 + (3 : Int32)) L) <|
(X11_taught (xs (ix (s.1 + (1 : Int32)))) (xs (ix (s.1 + (2 : Int32)))) (xs (ix (s.1 + (3 : Int32)))) s.2).bind fun q73 =>
gd (vp_in (s.1 + (1 : Int32)) L) <|
gd (vp_in (s.1 + (2 : Int32)) L) <|
gd (vp_in (s.1 + (3 : Int32)) L) <|
(X12_taught (xs (ix (s.1 + (1 : Int32)))) (xs (ix (s.1 + (2 : Int32)))) (xs (ix (s.1 + (3 : Int32)))) q73.2).bind fun q75 =>
(if q73.1 = q75.1 then
L_law_j1725 b L xs s.1 q75.2
else
none)
else
(if ((xs (ix s.1)) &&& (63 : Int32)) = (21 : Int32) then
gd (vp_in (s.1 + (1 : Int32)) L) <|
gd (vp_in (s.1 + (2 : Int32)) L) <|
gd (vp_in (s.1 + (3 : Int32)) L) <|
gd (vp_in (s.1 + (4 : Int32)) L) <|
(X11_lesson (xs (ix (s.1 + (1 : Int32)))) (xs (ix (s.1 + (2 : Int32)))) (xs (ix (s.1 + (3 : Int32)))) (xs (ix (s.1 + (4 : Int32)))) s.2).bind fun q77 =>
gd (vp_in (s.1 + (1 : Int32)) L) <|
gd (vp_in (s.1 + (2 : Int32)) L) <|
gd (vp_in (s.1 + (3 : Int32)) L) <|
gd (vp_in (s.1 + (4 : Int32)) L) <|
(X12_lesson (xs (ix (s.1 + (1 : Int32)))) (xs (ix (s.1 + (2 : Int32)))) (xs (ix (s.1 + (3 : Int32)))) (xs (ix (s.1 + (4 : Int32)))) q77.2).bind fun q79 =>
(if q77.1 = q79.1 then
L_law_j1725 b L xs s.1 q79.2
else
none)
else
(if ((xs (ix s.1)) &&& (63 : Int32)) = (22 : Int32) then
gd (vp_in (s.1 + (1 : Int32)) L) <|
(X11_fade (xs (ix (s.1 + (1 : Int32)))) s.2).bind fun q81 =>
gd (vp_in (s.1 + (1 : Int32)) L) <|
(X12_fade (xs (ix (s.1 + (1 : Int32)))) q81.2).bind fun q83 =>
(if q81.1 = q83.1 then
L_law_j1725 b L xs s.1 q83.2
else
none)
else
(if ((xs (ix s.1)) &&& (63 : Int32)) = (23 : Int32) then
gd (vp_in (s.1 + (1 : Int32)) L) <|
gd (vp_in (s.1 + (2 : Int32)) L) <|
(X11_knows (xs (ix (s.1 + (1 : Int32)))) (xs (ix (s.1 + (2 : Int32)))) s.2).bind fun q85 =>
gd (vp_in (s.1 + (1 : Int32)) L) <|
gd (vp_in (s.1 + (2 : Int32)) L) <|
(X12_knows (xs (ix (s.1 + (1 : Int32)))) (xs (ix (s.1 + (2 : Int32)))) q85.2).bind fun q87 =>
(if q85.1 = q87.1 then
L_law_j1725 b L xs s.1 q87.2
else
none)
else
(if ((xs (ix s.1)) &&& (63 : Int32)) = (24 : Int32) then
gd (vp_in (s.1 + (1 : Int32)) L) <|
gd (vp_in (s.1 + (2 : Int32)) L) <|
gd (vp_in (s.1 + (3 : Int32)) L) <|
(X11_hours (xs (ix (s.1 + (1 : Int32)))) (xs (ix (s.1 + (2 : Int32)))) (xs (ix (s.1 + (3 : Int32)))) s.2).bind fun q89 =>
gd (vp_in (s.1 + (1 : Int32)) L) <|
gd (vp_in (s.1 + (2 : Int32)) L) <|
gd (vp_in (s.1 + (3 : Int32)) L) <|
(X12_hours (xs (ix (s.1 + (1 : Int32)))) (xs (ix (s.1 + (2 : Int32)))) (xs (ix (s.1 + (3 : Int32)))) q89.2).bind fun q91 =>
(if q89.1 = q91.1 then
L_law_j1725 b L xs s.1 q91.2
else
none)
else
(if ((xs (ix s.1)) &&& (63 : Int32)) = (25 : Int32) then
gd (vp_in (s.1 + (1 : Int32)) L) <|
gd (vp_in (s.1 + (2 : Int32)) L) <|
(X11_gap (xs (ix (s.1 + (1 : Int32)))) (xs (ix (s.1 + (2 : Int32)))) s.2).bind fun q93 =>
gd (vp_in (s.1 + (1 : Int32)) L) <|
gd (vp_in (s.1 + (2 : Int32)) L) <|
(X12_gap (xs (ix (s.1 + (1 : Int32)))) (xs (ix (s.1 + (2 : Int32)))) q93.2).bind fun q95 =>
(if q93.1 = q95.1 then
L_law_j1725 b L xs s.1 q95.2
else
none)
else
(if ((xs (ix s.1)) &&& (63 : Int32)) = (26 : Int32) then
gd (vp_in (s.1 + (1 : Int32)) L) <|
gd (vp_in (s.1 + (2 : Int32)) L) <|
gd (vp_in (s.1 + (3 : Int32)) L) <|
gd (vp_in (s.1 + (4 : Int32)) L) <|
(X11_foretold (xs (ix (s.1 + (1 : Int32)))) (xs (ix (s.1 + (2 : Int32)))) (xs (ix (s.1 + (3 : Int32)))) (xs (ix (s.1 + (4 : Int32)))) s.2).bind fun q97 =>
gd (vp_in (s.1 + (1 : Int32)) L) <|
gd (vp_in (s.1 + (2 : Int32)) L) <|
gd (vp_in (s.1 + (3 : Int32)) L) <|
gd (vp_in (s.1 + (4 : Int32)) L) <|
(X12_foretold (xs (ix (s.1 + (1 : Int32)))) (xs (ix (s.1 + (2 : Int32)))) (xs (ix (s.1 + (3 : Int32)))) (xs (ix (s.1 + (4 : Int32)))) q97.2).bind fun q99 =>
(if q97.1 = q99.1 then
L_law_j1725 b L xs s.1 q99.2
else
none)
else
(if ((xs (ix s.1)) &&& (63 : Int32)) = (27 : Int32) then
gd (vp_in (s.1 + (1 : Int32)) L) <|
gd (vp_in (s.1 + (2 : Int32)) L) <|
gd (vp_in (s.1 + (3 : Int32)) L) <|
gd (vp_in (s.1 + (4 : Int32)) L) <|
gd (vp_in (s.1 + (5 : Int32)) L) <|
gd (vp_in (s.1 + (6 : Int32)) L) <|
(X11_proof (xs (ix (s.1 + (1 : Int32)))) (xs (ix (s.1 + (2 : Int32)))) (((Int32.toInt64 (xs (ix (s.1 + (3 : Int32))))) <<< (Int32.toInt64 (32 : Int32) &&& 63)) ||| ((Int32.toInt64 (xs (ix (s.1 + (4 : Int32))))) &&& (4294967295 : Int64))) (((Int32.toInt64 (xs (ix (s.1 + (5 : Int32))))) <<< (Int32.toInt64 (32 : Int32) &&& 63)) ||| ((Int32.toInt64 (xs (ix (s.1 + (6 : Int32))))) &&& (4294967295 : Int64))) s.2).bind fun q101 =>
gd (vp_in (s.1 + (1 : Int32)) L) <|
gd (vp_in (s.1 + (2 : Int32)) L) <|
gd (vp_in (s.1 + (3 : Int32)) L) <|
gd (vp_in (s.1 + (4 : Int32)) L) <|
gd (vp_in (s.1 + (5 : Int32)) L) <|
gd (vp_in (s.1 + (6 : Int32)) L) <|
(X12_proof (xs (ix (s.1 + (1 : Int32)))) (xs (ix (s.1 + (2 : Int32)))) (((Int32.toInt64 (xs (ix (s.1 + (3 : Int32))))) <<< (Int32.toInt64 (32 : Int32) &&& 63)) ||| ((Int32.toInt64 (xs (ix (s.1 + (4 : Int32))))) &&& (4294967295 : Int64))) (((Int32.toInt64 (xs (ix (s.1 + (5 : Int32))))) <<< (Int32.toInt64 (32 : Int32) &&& 63)) ||| ((Int32.toInt64 (xs (ix (s.1 + (6 : Int32))))) &&& (4294967295 : Int64))) q101.2).bind fun q103 =>
(if q101.1 = q103.1 then
L_law_j1725 b L xs s.1 q103.2
else
none)
else
(if ((xs (ix s.1)) &&& (63 : Int32)) = (28 : Int32) then
gd (vp_in (s.1 + (1 : Int32)) L) <|
gd (vp_in (s.1 + (2 : Int32)) L) <|
(X11_slips (xs (ix (s.1 + (1 : Int32)))) (xs (ix (s.1 + (2 : Int32)))) s.2).bind fun q105 =>
gd (vp_in (s.1 + (1 : Int32)) L) <|
gd (vp_in (s.1 + (2 : Int32)) L) <|
(X12_slips (xs (ix (s.1 + (1 : Int32)))) (xs (ix (s.1 + (2 : Int32)))) q105.2).bind fun q107 =>
(if q105.1 = q107.1 then
L_law_j1725 b L xs s.1 q107.2
else
none)
else
(if ((xs (ix s.1)) &&& (63 : Int32)) = (29 : Int32) then
gd (vp_in (s.1 + (1 : Int32)) L) <|
gd (vp_in (s.1 + (2 : Int32)) L) <|
(X11_owed (xs (ix (s.1 + (1 : Int32)))) (xs (ix (s.1 + (2 : Int32)))) s.2).bind fun q109 =>
gd (vp_in (s.1 + (1 : Int32)) L) <|
gd (vp_in (s.1 + (2 : Int32)) L) <|
(X12_owed (xs (ix (s.1 + (1 : Int32)))) (xs (ix (s.1 + (2 : Int32)))) q109.2).bind fun q111 =>
(if q109.1 = q111.1 then
L_law_j1725 b L xs s.1 q111.2
else
none)
else
(if ((xs (ix s.1)) &&& (63 : Int32)) = (30 : Int32) then
gd (vp_in (s.1 + (1 : Int32)) L) <|
gd (vp_in (s.1 + (2 : Int32)) L) <|
(X11_reads (xs (ix (s.1 + (1 : Int32)))) (xs (ix (s.1 + (2 : Int32)))) s.2).bind fun q113 =>
gd (vp_in (s.1 + (1 : Int32)) L) <|
gd (vp_in (s.1 + (2 : Int32)) L) <|
(X12_reads (xs (ix (s.1 + (1 : Int32)))) (xs (ix (s.1 + (2 : Int32)))) q113.2).bind fun q115 =>
(if q113.1 = q115.1 then
L_law_j1725 b L xs s.1 q115.2
else
none)
else
(if ((xs (ix s.1)) &&& (63 : Int32)) = (31 : Int32) then
gd (vp_in (s.1 + (1 : Int32)) L) <|
gd (vp_in (s.1 + (2 : Int32)) L) <|
(X11_flag (xs (ix (s.1 + (1 : Int32)))) (xs (ix (s.1 + (2 : Int32)))) s.2).bind fun q117 =>
gd (vp_in (s.1 + (1 : Int32)) L) <|
gd (vp_in (s.1 + (2 : Int32)) L) <|
(X12_flag (xs (ix (s.1 + (1 : Int32)))) (xs (ix (s.1 + (2 : Int32)))) q117.2).bind fun q119 =>
(if q117.1 = q119.1 then
L_law_j1725 b L xs s.1 q119.2
else
none)
else
(if ((xs (ix s.1)) &&& (63 : Int32)) = (32 : Int32) then
gd (vp_in (s.1 + (1 : Int32)) L) <|
gd (vp_in (s.1 + (2 : Int32)) L) <|
gd (vp_in (s.1 + (3 : Int32)) L) <|
gd (vp_in (s.1 + (4 : Int32)) L) <|
(X11_send (xs (ix (s.1 + (1 : Int32)))) (xs (ix (s.1 + (2 : Int32)))) (xs (ix (s.1 + (3 : Int32)))) (xs (ix (s.1 + (4 : Int32)))) s.2).bind fun q121 =>
gd (vp_in (s.1 + (1 : Int32)) L) <|
gd (vp_in (s.1 + (2 : Int32)) L) <|
gd (vp_in (s.1 + (3 : Int32)) L) <|
gd (vp_in (s.1 + (4 : Int32)) L) <|
(X12_send (xs (ix (s.1 + (1 : Int32)))) (xs (ix (s.1 + (2 : Int32)))) (xs (ix (s.1 + (3 : Int32)))) (xs (ix (s.1 + (4 : Int32)))) q121.2).bind fun q123 =>
(if q121.1 = q123.1 then
L_law_j1725 b L xs s.1 q123.2
else
none)
else
(if ((xs (ix s.1)) &&& (63 : Int32)) = (33 : Int32) then
gd (vp_in (s.1 + (1 : Int32)) L) <|
(X11_sent (xs (ix (s.1 + (1 : Int32)))) s.2).bind fun q125 =>
gd (vp_in (s.1 + (1 : Int32)) L) <|
(X12_sent (xs (ix (s.1 + (1 : Int32)))) q125.2).bind fun q127 =>
(if q125.1 = q127.1 then
L_law_j1725 b L xs s.1 q127.2
else
none)
else
(if ((xs (ix s.1)) &&& (63 : Int32)) = (34 : Int32) then
gd (vp_in (s.1 + (1 : Int32)) L) <|
gd (vp_in (s.1 + (2 : Int32)) L) <|
gd (vp_in (s.1 + (3 : Int32)) L) <|
gd (vp_in (s.1 + (4 : Int32)) L) <|
(X11_count (xs (ix (s.1 + (1 : Int32)))) (xs (ix (s.1 + (2 : Int32)))) (xs (ix (s.1 + (3 : Int32)))) (xs (ix (s.1 + (4 : Int32)))) s.2).bind fun q129 =>
gd (vp_in (s.1 + (1 : Int32)) L) <|
gd (vp_in (s.1 + (2 : Int32)) L) <|
gd (vp_in (s.1 + (3 : Int32)) L) <|
gd (vp_in (s.1 + (4 : Int32)) L) <|
(X12_count (xs (ix (s.1 + (1 : Int32)))) (xs (ix (s.1 + (2 : Int32)))) (xs (ix (s.1 + (3 : Int32)))) (xs (ix (s.1 + (4 : Int32)))) q129.2).bind fun q131 =>
(if q129.1 = q131.1 then
L_law_j1725 b L xs s.1 q131.2
else
none)
else
(if ((xs (ix s.1)) &&& (63 : Int32)) = (35 : Int32) then
gd (vp_in (s.1 + (1 : Int32)) L) <|
gd (vp_in (s.1 + (2 : Int32)) L) <|
(X11_near (xs (ix (s.1 + (1 : Int32)))) (xs (ix (s.1 + (2 : Int32)))) s.2).bind fun q133 =>
gd (vp_in (s.1 + (1 : Int32)) L) <|
gd (vp_in (s.1 + (2 : Int32)) L) <|
(X12_near (xs (ix (s.1 + (1 : Int32)))) (xs (ix (s.1 + (2 : Int32)))) q133.2).bind fun q135 =>
(if q133.1 = q135.1 then
L_law_j1725 b L xs s.1 q135.2
else
none)
else
L_law_j1725 b L xs s.1 s.2)))))))))))))))))))))))))))))))))))))
set_option maxRecDepth 20000 in
set_option maxHeartbeats 1000000 in
theorem t_L_law_b18 {κ : Kx} (b : Nat) (L : Nat) (xs : Nat → Int32) (hX : XS κ b L xs) {P : Wd → Prop} (K0 : ∀ e, P e → J κ RL cL_law 4 (some .boolean) room_1 1731 [] [] e) (s : (Int32 × Wd)) (h : ok (lp (L_law_b18 b L xs ) s) P) : J κ RL cL_law 4 (some .boolean) room_1 18 [(0, .ref b), (1, .ref (ad (gm κ) 0)), (2, .ref (ad (gm κ) 97)), (3, .int s.1)] [] s.2 := by
  refine lp_ind (fun s => J κ RL cL_law 4 (some .boolean) room_1 18 [(0, .ref b), (1, .ref (ad (gm κ) 0)), (2, .ref (ad (gm κ) 97)), (3, .int s.1)] [] s.2) (fun s h => ?_) s h
  unfold L_law_b18 at h
  refine j_iload_n 3 dL_law_18 rfl rfl ?_
  refine j_aload_n 0 dL_law_19 rfl rfl ?_
  refine j_slen hX dL_law_20 ?_
  refine j_bipush (7 : Int32) dL_law_21 kb_7 ?_
  refine j_isub dL_law_23 ?_
  refine j_ic_gt 1731 dL_law_24 (by decide) h (fun h => ?_) (fun h => ?_)
  · refine j_loc [] [] rfl ?_
    have h := sel_r h
    have h := K0 _ h
    exact h
  · refine j_aload_n 0 dL_law_27 rfl rfl ?_
    refine j_iload_n 3 dL_law_28 rfl rfl ?_
    refine j_sld hX dL_law_29 h (fun h => ?_)
    refine j_bipush (63 : Int32) dL_law_30 kb_63 ?_
    refine j_iand dL_law_32 ?_
    refine j_cs (0 : Int32) h (fun h => ?_) (fun n0 h => ?_)
    · refine j_tab 192 dL_law_33 (by decide) (by decide) rfl (by decide) ?_
      refine j_aload_n 1 dL_law_192 rfl rfl ?_
      refine j_callV (As := []) (st := []) [.int (X11_status s.2)] (c_X11_status (kl κ) (gm κ) (kA κ) s.2) ck_RL_13 im_X11_status se_X11_status sh_0 cx_11 ⟨rfl, rfl⟩ ⟨by decide, by decide⟩ rfl rfl (Nat.le_of_ble_eq_true rfl) dL_law_193 _ rfl ?_
      refine j_aload_n 2 dL_law_196 rfl rfl ?_
      refine j_callV (As := []) (st := [.int (X11_status s.2)]) [.int (X12_status s.2), .int (X11_status s.2)] (c_X12_status (kl κ) (gm κ) (kA κ) s.2) ck_RL_17 im_X12_status se_X12_status sh_97 cx_12 ⟨rfl, rfl⟩ ⟨by decide, by decide⟩ rfl rfl (Nat.le_of_ble_eq_true rfl) dL_law_197 _ rfl ?_
      refine j_ic_eq 1725 dL_law_200 (by decide) h (fun h => ?_) (fun h => ?_)
      · refine j_loc [(0, .ref b), (1, .ref (ad (gm κ) 0)), (2, .ref (ad (gm κ) 97)), (3, .int s.1)] [0, 1, 2, 3] rfl ?_
        exact t_L_law_j1725 b L xs hX s.1 s.2 (fun _ h => h) K0 h
      · exact ok_n h
    refine j_cs (1 : Int32) h (fun h => ?_) (fun n1 h => ?_)
    · refine j_tab 205 dL_law_33 (by decide) (by decide) rfl (by decide) ?_
      refine j_aload_n 1 dL_law_205 rfl rfl ?_
      refine j_aload_n 0 dL_law_206 rfl rfl ?_
      refine j_iload_n 3 dL_law_207 rfl rfl ?_
      refine j_iconst (1 : Int32) dL_law_208 ki_1 ?_
      refine j_iadd dL_law_209 ?_
      refine j_sld hX dL_law_210 h (fun h => ?_)
      refine j_aload_n 0 dL_law_211 rfl rfl ?_
      refine j_iload_n 3 dL_law_212 rfl rfl ?_
      refine j_iconst (2 : Int32) dL_law_213 ki_2 ?_
      refine j_iadd dL_law_214 ?_
      refine j_sld hX dL_law_215 h (fun h => ?_)
      refine j_aload_n 0 dL_law_216 rfl rfl ?_
      refine j_iload_n 3 dL_law_217 rfl rfl ?_
      refine j_iconst (3 : Int32) dL_law_218 ki_3 ?_
      refine j_iadd dL_law_219 ?_
      refine j_sld hX dL_law_220 h (fun h => ?_)
      obtain ⟨q1, e2, h⟩ := ok_b h
      refine j_callV (As := [.int (xs (ix (s.1 + (1 : Int32)))), .int (xs (ix (s.1 + (2 : Int32)))), .int (xs (ix (s.1 + (3 : Int32))))]) (st := []) [.int q1.1] (c_X11_tray (kl κ) (gm κ) (kA κ) (xs (ix (s.1 + (1 : Int32)))) (xs (ix (s.1 + (2 : Int32)))) (xs (ix (s.1 + (3 : Int32)))) s.2 q1 e2) ck_RL_18 im_X11_tray se_X11_tray sh_0 cx_11 ⟨rfl, rfl⟩ ⟨by decide, by decide⟩ rfl rfl (Nat.le_of_ble_eq_true rfl) dL_law_221 _ rfl ?_
      refine j_aload_n 2 dL_law_224 rfl rfl ?_
      refine j_aload_n 0 dL_law_225 rfl rfl ?_
      refine j_iload_n 3 dL_law_226 rfl rfl ?_
      refine j_iconst (1 : Int32) dL_law_227 ki_1 ?_
      refine j_iadd dL_law_228 ?_
      refine j_sld hX dL_law_229 h (fun h => ?_)
      refine j_aload_n 0 dL_law_230 rfl rfl ?_
      refine j_iload_n 3 dL_law_231 rfl rfl ?_
      refine j_iconst (2 : Int32) dL_law_232 ki_2 ?_
      refine j_iadd dL_law_233 ?_
      refine j_sld hX dL_law_234 h (fun h => ?_)
      refine j_aload_n 0 dL_law_235 rfl rfl ?_
      refine j_iload_n 3 dL_law_236 rfl rfl ?_
      refine j_iconst (3 : Int32) dL_law_237 ki_3 ?_
      refine j_iadd dL_law_238 ?_
      refine j_sld hX dL_law_239 h (fun h => ?_)
      obtain ⟨q3, e4, h⟩ := ok_b h
      refine j_callV (As := [.int (xs (ix (s.1 + (1 : Int32)))), .int (xs (ix (s.1 + (2 : Int32)))), .int (xs (ix (s.1 + (3 : Int32))))]) (st := [.int q1.1]) [.int q3.1, .int q1.1] (c_X12_tray (kl κ) (gm κ) (kA κ) (xs (ix (s.1 + (1 : Int32)))) (xs (ix (s.1 + (2 : Int32)))) (xs (ix (s.1 + (3 : Int32)))) q1.2 q3 e4) ck_RL_22 im_X12_tray se_X12_tray sh_97 cx_12 ⟨rfl, rfl⟩ ⟨by decide, by decide⟩ rfl rfl (Nat.le_of_ble_eq_true rfl) dL_law_240 _ rfl ?_
      refine j_ic_eq 1725 dL_law_243 (by decide) h (fun h => ?_) (fun h => ?_)
      · refine j_loc [(0, .ref b), (1, .ref (ad (gm κ) 0)), (2, .ref (ad (gm κ) 97)), (3, .int s.1)] [0, 1, 2, 3] rfl ?_
        exact t_L_law_j1725 b L xs hX s.1 q3.2 (fun _ h => h) K0 h
      · exact ok_n h
    refine j_cs (2 : Int32) h (fun h => ?_) (fun n2 h => ?_)
    · refine j_tab 248 dL_law_33 (by decide) (by decide) rfl (by decide) ?_
      refine j_aload_n 1 dL_law_248 rfl rfl ?_
      refine j_aload_n 0 dL_law_249 rfl rfl ?_
      refine j_iload_n 3 dL_law_250 rfl rfl ?_
      refine j_iconst (1 : Int32) dL_law_251 ki_1 ?_
      refine j_iadd dL_law_252 ?_
      refine j_sld hX dL_law_253 h (fun h => ?_)
      refine j_aload_n 0 dL_law_254 rfl rfl ?_
      refine j_iload_n 3 dL_law_255 rfl rfl ?_
      refine j_iconst (2 : Int32) dL_law_256 ki_2 ?_
      refine j_iadd dL_law_257 ?_
      refine j_sld hX dL_law_258 h (fun h => ?_)
      refine j_aload_n 0 dL_law_259 rfl rfl ?_
      refine j_iload_n 3 dL_law_260 rfl rfl ?_
      refine j_iconst (3 : Int32) dL_law_261 ki_3 ?_
      refine j_iadd dL_law_262 ?_
      refine j_sld hX dL_law_263 h (fun h => ?_)
      refine j_i2l dL_law_264 ?_
      refine j_bipush (32 : Int32) dL_law_265 kb_32 ?_
      refine j_lshl dL_law_267 ?_
      refine j_aload_n 0 dL_law_268 rfl rfl ?_
      refine j_iload_n 3 dL_law_269 rfl rfl ?_
      refine j_iconst (4 : Int32) dL_law_270 ki_4 ?_
      refine j_iadd dL_law_271 ?_
      refine j_sld hX dL_law_272 h (fun h => ?_)
      refine j_i2l dL_law_273 ?_
      refine j_ldc2 cl_RL_23 dL_law_274 ?_
      refine j_land dL_law_277 ?_
      refine j_lor dL_law_278 ?_
      obtain ⟨q5, e6, h⟩ := ok_b h
      refine j_callV (As := [.int (xs (ix (s.1 + (1 : Int32)))), .int (xs (ix (s.1 + (2 : Int32)))), .long (((Int32.toInt64 (xs (ix (s.1 + (3 : Int32))))) <<< (Int32.toInt64 (32 : Int32) &&& 63)) ||| ((Int32.toInt64 (xs (ix (s.1 + (4 : Int32))))) &&& (4294967295 : Int64)))]) (st := []) [.int q5.1] (c_X11_write (kl κ) (gm κ) (kA κ) (xs (ix (s.1 + (1 : Int32)))) (xs (ix (s.1 + (2 : Int32)))) (((Int32.toInt64 (xs (ix (s.1 + (3 : Int32))))) <<< (Int32.toInt64 (32 : Int32) &&& 63)) ||| ((Int32.toInt64 (xs (ix (s.1 + (4 : Int32))))) &&& (4294967295 : Int64))) s.2 q5 e6) ck_RL_25 im_X11_write se_X11_write sh_0 cx_11 ⟨rfl, rfl⟩ ⟨by decide, by decide⟩ rfl rfl (Nat.le_of_ble_eq_true rfl) dL_law_279 _ rfl ?_
      refine j_aload_n 2 dL_law_282 rfl rfl ?_
      refine j_aload_n 0 dL_law_283 rfl rfl ?_
      refine j_iload_n 3 dL_law_284 rfl rfl ?_
      refine j_iconst (1 : Int32) dL_law_285 ki_1 ?_
      refine j_iadd dL_law_286 ?_
      refine j_sld hX dL_law_287 h (fun h => ?_)
      refine j_aload_n 0 dL_law_288 rfl rfl ?_
      refine j_iload_n 3 dL_law_289 rfl rfl ?_
      refine j_iconst (2 : Int32) dL_law_290 ki_2 ?_
      refine j_iadd dL_law_291 ?_
      refine j_sld hX dL_law_292 h (fun h => ?_)
      refine j_aload_n 0 dL_law_293 rfl rfl ?_
      refine j_iload_n 3 dL_law_294 rfl rfl ?_
      refine j_iconst (3 : Int32) dL_law_295 ki_3 ?_
      refine j_iadd dL_law_296 ?_
      refine j_sld hX dL_law_297 h (fun h => ?_)
      refine j_i2l dL_law_298 ?_
      refine j_bipush (32 : Int32) dL_law_299 kb_32 ?_
      refine j_lshl dL_law_301 ?_
      refine j_aload_n 0 dL_law_302 rfl rfl ?_
      refine j_iload_n 3 dL_law_303 rfl rfl ?_
      refine j_iconst (4 : Int32) dL_law_304 ki_4 ?_
      refine j_iadd dL_law_305 ?_
      refine j_sld hX dL_law_306 h (fun h => ?_)
      refine j_i2l dL_law_307 ?_
      refine j_ldc2 cl_RL_23 dL_law_308 ?_
      refine j_land dL_law_311 ?_
      refine j_lor dL_law_312 ?_
      obtain ⟨q7, e8, h⟩ := ok_b h
      refine j_callV (As := [.int (xs (ix (s.1 + (1 : Int32)))), .int (xs (ix (s.1 + (2 : Int32)))), .long (((Int32.toInt64 (xs (ix (s.1 + (3 : Int32))))) <<< (Int32.toInt64 (32 : Int32) &&& 63)) ||| ((Int32.toInt64 (xs (ix (s.1 + (4 : Int32))))) &&& (4294967295 : Int64)))]) (st := [.int q5.1]) [.int q7.1, .int q5.1] (c_X12_write (kl κ) (gm κ) (kA κ) (xs (ix (s.1 + (1 : Int32)))) (xs (ix (s.1 + (2 : Int32)))) (((Int32.toInt64 (xs (ix (s.1 + (3 : Int32))))) <<< (Int32.toInt64 (32 : Int32) &&& 63)) ||| ((Int32.toInt64 (xs (ix (s.1 + (4 : Int32))))) &&& (4294967295 : Int64))) q5.2 q7 e8) ck_RL_29 im_X12_write se_X12_write sh_97 cx_12 ⟨rfl, rfl⟩ ⟨by decide, by decide⟩ rfl rfl (Nat.le_of_ble_eq_true rfl) dL_law_313 _ rfl ?_
      refine j_ic_eq 1725 dL_law_316 (by decide) h (fun h => ?_) (fun h => ?_)
      · refine j_loc [(0, .ref b), (1, .ref (ad (gm κ) 0)), (2, .ref (ad (gm κ) 97)), (3, .int s.1)] [0, 1, 2, 3] rfl ?_
        exact t_L_law_j1725 b L xs hX s.1 q7.2 (fun _ h => h) K0 h
      · exact ok_n h
    refine j_cs (3 : Int32) h (fun h => ?_) (fun n3 h => ?_)
    · refine j_tab 321 dL_law_33 (by decide) (by decide) rfl (by decide) ?_
      refine j_aload_n 1 dL_law_321 rfl rfl ?_
      refine j_aload_n 0 dL_law_322 rfl rfl ?_
      refine j_iload_n 3 dL_law_323 rfl rfl ?_
      refine j_iconst (1 : Int32) dL_law_324 ki_1 ?_
      refine j_iadd dL_law_325 ?_
      refine j_sld hX dL_law_326 h (fun h => ?_)
      refine j_aload_n 0 dL_law_327 rfl rfl ?_
      refine j_iload_n 3 dL_law_328 rfl rfl ?_
      refine j_iconst (2 : Int32) dL_law_329 ki_2 ?_
      refine j_iadd dL_law_330 ?_
      refine j_sld hX dL_law_331 h (fun h => ?_)
      obtain ⟨q9, e10, h⟩ := ok_b h
      refine j_callV (As := [.int (xs (ix (s.1 + (1 : Int32)))), .int (xs (ix (s.1 + (2 : Int32))))]) (st := []) [.long q9.1] (c_X11_read (kl κ) (gm κ) (kA κ) (xs (ix (s.1 + (1 : Int32)))) (xs (ix (s.1 + (2 : Int32)))) s.2 q9 e10) ck_RL_30 im_X11_read se_X11_read sh_0 cx_11 ⟨rfl, rfl⟩ ⟨by decide, by decide⟩ rfl rfl (Nat.le_of_ble_eq_true rfl) dL_law_332 _ rfl ?_
      refine j_aload_n 2 dL_law_335 rfl rfl ?_
      refine j_aload_n 0 dL_law_336 rfl rfl ?_
      refine j_iload_n 3 dL_law_337 rfl rfl ?_
      refine j_iconst (1 : Int32) dL_law_338 ki_1 ?_
      refine j_iadd dL_law_339 ?_
      refine j_sld hX dL_law_340 h (fun h => ?_)
      refine j_aload_n 0 dL_law_341 rfl rfl ?_
      refine j_iload_n 3 dL_law_342 rfl rfl ?_
      refine j_iconst (2 : Int32) dL_law_343 ki_2 ?_
      refine j_iadd dL_law_344 ?_
      refine j_sld hX dL_law_345 h (fun h => ?_)
      obtain ⟨q11, e12, h⟩ := ok_b h
      refine j_callV (As := [.int (xs (ix (s.1 + (1 : Int32)))), .int (xs (ix (s.1 + (2 : Int32))))]) (st := [.long q9.1]) [.long q11.1, .long q9.1] (c_X12_read (kl κ) (gm κ) (kA κ) (xs (ix (s.1 + (1 : Int32)))) (xs (ix (s.1 + (2 : Int32)))) q9.2 q11 e12) ck_RL_34 im_X12_read se_X12_read sh_97 cx_12 ⟨rfl, rfl⟩ ⟨by decide, by decide⟩ rfl rfl (Nat.le_of_ble_eq_true rfl) dL_law_346 _ rfl ?_
      refine j_lcmp dL_law_349 ?_
      refine j_if_eq 1725 dL_law_350 (by decide) h (fun h => ?_) (fun h => ?_)
      · refine j_loc [(0, .ref b), (1, .ref (ad (gm κ) 0)), (2, .ref (ad (gm κ) 97)), (3, .int s.1)] [0, 1, 2, 3] rfl ?_
        exact t_L_law_j1725 b L xs hX s.1 q11.2 (fun _ h => h) K0 h
      · exact ok_n h
    refine j_cs (4 : Int32) h (fun h => ?_) (fun n4 h => ?_)
    · refine j_tab 355 dL_law_33 (by decide) (by decide) rfl (by decide) ?_
      refine j_aload_n 1 dL_law_355 rfl rfl ?_
      refine j_aload_n 0 dL_law_356 rfl rfl ?_
      refine j_iload_n 3 dL_law_357 rfl rfl ?_
      refine j_iconst (1 : Int32) dL_law_358 ki_1 ?_
      refine j_iadd dL_law_359 ?_
      refine j_sld hX dL_law_360 h (fun h => ?_)
      refine j_aload_n 0 dL_law_361 rfl rfl ?_
      refine j_iload_n 3 dL_law_362 rfl rfl ?_
      refine j_iconst (2 : Int32) dL_law_363 ki_2 ?_
      refine j_iadd dL_law_364 ?_
      refine j_sld hX dL_law_365 h (fun h => ?_)
      refine j_aload_n 0 dL_law_366 rfl rfl ?_
      refine j_iload_n 3 dL_law_367 rfl rfl ?_
      refine j_iconst (3 : Int32) dL_law_368 ki_3 ?_
      refine j_iadd dL_law_369 ?_
      refine j_sld hX dL_law_370 h (fun h => ?_)
      refine j_aload_n 0 dL_law_371 rfl rfl ?_
      refine j_iload_n 3 dL_law_372 rfl rfl ?_
      refine j_iconst (4 : Int32) dL_law_373 ki_4 ?_
      refine j_iadd dL_law_374 ?_
      refine j_sld hX dL_law_375 h (fun h => ?_)
      refine j_aload_n 0 dL_law_376 rfl rfl ?_
      refine j_iload_n 3 dL_law_377 rfl rfl ?_
      refine j_iconst (5 : Int32) dL_law_378 ki_5 ?_
      refine j_iadd dL_law_379 ?_
      refine j_sld hX dL_law_380 h (fun h => ?_)
      obtain ⟨q13, e14, h⟩ := ok_b h
      refine j_callV (As := [.int (xs (ix (s.1 + (1 : Int32)))), .int (xs (ix (s.1 + (2 : Int32)))), .int (xs (ix (s.1 + (3 : Int32)))), .int (xs (ix (s.1 + (4 : Int32)))), .int (xs (ix (s.1 + (5 : Int32))))]) (st := []) [.int q13.1] (c_X11_pour (kl κ) (gm κ) (kA κ) (xs (ix (s.1 + (1 : Int32)))) (xs (ix (s.1 + (2 : Int32)))) (xs (ix (s.1 + (3 : Int32)))) (xs (ix (s.1 + (4 : Int32)))) (xs (ix (s.1 + (5 : Int32)))) s.2 q13 e14) ck_RL_35 im_X11_pour se_X11_pour sh_0 cx_11 ⟨rfl, rfl⟩ ⟨by decide, by decide⟩ rfl rfl (Nat.le_of_ble_eq_true rfl) dL_law_381 _ rfl ?_
      refine j_aload_n 2 dL_law_384 rfl rfl ?_
      refine j_aload_n 0 dL_law_385 rfl rfl ?_
      refine j_iload_n 3 dL_law_386 rfl rfl ?_
      refine j_iconst (1 : Int32) dL_law_387 ki_1 ?_
      refine j_iadd dL_law_388 ?_
      refine j_sld hX dL_law_389 h (fun h => ?_)
      refine j_aload_n 0 dL_law_390 rfl rfl ?_
      refine j_iload_n 3 dL_law_391 rfl rfl ?_
      refine j_iconst (2 : Int32) dL_law_392 ki_2 ?_
      refine j_iadd dL_law_393 ?_
      refine j_sld hX dL_law_394 h (fun h => ?_)
      refine j_aload_n 0 dL_law_395 rfl rfl ?_
      refine j_iload_n 3 dL_law_396 rfl rfl ?_
      refine j_iconst (3 : Int32) dL_law_397 ki_3 ?_
      refine j_iadd dL_law_398 ?_
      refine j_sld hX dL_law_399 h (fun h => ?_)
      refine j_aload_n 0 dL_law_400 rfl rfl ?_
      refine j_iload_n 3 dL_law_401 rfl rfl ?_
      refine j_iconst (4 : Int32) dL_law_402 ki_4 ?_
      refine j_iadd dL_law_403 ?_
      refine j_sld hX dL_law_404 h (fun h => ?_)
      refine j_aload_n 0 dL_law_405 rfl rfl ?_
      refine j_iload_n 3 dL_law_406 rfl rfl ?_
      refine j_iconst (5 : Int32) dL_law_407 ki_5 ?_
      refine j_iadd dL_law_408 ?_
      refine j_sld hX dL_law_409 h (fun h => ?_)
      obtain ⟨q15, e16, h⟩ := ok_b h
      refine j_callV (As := [.int (xs (ix (s.1 + (1 : Int32)))), .int (xs (ix (s.1 + (2 : Int32)))), .int (xs (ix (s.1 + (3 : Int32)))), .int (xs (ix (s.1 + (4 : Int32)))), .int (xs (ix (s.1 + (5 : Int32))))]) (st := [.int q13.1]) [.int q15.1, .int q13.1] (c_X12_pour (kl κ) (gm κ) (kA κ) (xs (ix (s.1 + (1 : Int32)))) (xs (ix (s.1 + (2 : Int32)))) (xs (ix (s.1 + (3 : Int32)))) (xs (ix (s.1 + (4 : Int32)))) (xs (ix (s.1 + (5 : Int32)))) q13.2 q15 e16) ck_RL_39 im_X12_pour se_X12_pour sh_97 cx_12 ⟨rfl, rfl⟩ ⟨by decide, by decide⟩ rfl rfl (Nat.le_of_ble_eq_true rfl) dL_law_410 _ rfl ?_
      refine j_ic_eq 1725 dL_law_413 (by decide) h (fun h => ?_) (fun h => ?_)
      · refine j_loc [(0, .ref b), (1, .ref (ad (gm κ) 0)), (2, .ref (ad (gm κ) 97)), (3, .int s.1)] [0, 1, 2, 3] rfl ?_
        exact t_L_law_j1725 b L xs hX s.1 q15.2 (fun _ h => h) K0 h
      · exact ok_n h
    refine j_cs (5 : Int32) h (fun h => ?_) (fun n5 h => ?_)
    · refine j_tab 418 dL_law_33 (by decide) (by decide) rfl (by decide) ?_
      refine j_aload_n 1 dL_law_418 rfl rfl ?_
      refine j_aload_n 0 dL_law_419 rfl rfl ?_
      refine j_iload_n 3 dL_law_420 rfl rfl ?_
      refine j_iconst (1 : Int32) dL_law_421 ki_1 ?_
      refine j_iadd dL_law_422 ?_
      refine j_sld hX dL_law_423 h (fun h => ?_)
      obtain ⟨q17, e18, h⟩ := ok_b h
      refine j_callV (As := [.int (xs (ix (s.1 + (1 : Int32))))]) (st := []) [.int q17.1] (c_X11_place (kl κ) (gm κ) (kA κ) (xs (ix (s.1 + (1 : Int32)))) s.2 q17 e18) ck_RL_40 im_X11_place se_X11_place sh_0 cx_11 ⟨rfl, rfl⟩ ⟨by decide, by decide⟩ rfl rfl (Nat.le_of_ble_eq_true rfl) dL_law_424 _ rfl ?_
      refine j_aload_n 2 dL_law_427 rfl rfl ?_
      refine j_aload_n 0 dL_law_428 rfl rfl ?_
      refine j_iload_n 3 dL_law_429 rfl rfl ?_
      refine j_iconst (1 : Int32) dL_law_430 ki_1 ?_
      refine j_iadd dL_law_431 ?_
      refine j_sld hX dL_law_432 h (fun h => ?_)
      obtain ⟨q19, e20, h⟩ := ok_b h
      refine j_callV (As := [.int (xs (ix (s.1 + (1 : Int32))))]) (st := [.int q17.1]) [.int q19.1, .int q17.1] (c_X12_place (kl κ) (gm κ) (kA κ) (xs (ix (s.1 + (1 : Int32)))) q17.2 q19 e20) ck_RL_44 im_X12_place se_X12_place sh_97 cx_12 ⟨rfl, rfl⟩ ⟨by decide, by decide⟩ rfl rfl (Nat.le_of_ble_eq_true rfl) dL_law_433 _ rfl ?_
      refine j_ic_eq 1725 dL_law_436 (by decide) h (fun h => ?_) (fun h => ?_)
      · refine j_loc [(0, .ref b), (1, .ref (ad (gm κ) 0)), (2, .ref (ad (gm κ) 97)), (3, .int s.1)] [0, 1, 2, 3] rfl ?_
        exact t_L_law_j1725 b L xs hX s.1 q19.2 (fun _ h => h) K0 h
      · exact ok_n h
    refine j_cs (6 : Int32) h (fun h => ?_) (fun n6 h => ?_)
    · refine j_tab 441 dL_law_33 (by decide) (by decide) rfl (by decide) ?_
      refine j_aload_n 1 dL_law_441 rfl rfl ?_
      refine j_aload_n 0 dL_law_442 rfl rfl ?_
      refine j_iload_n 3 dL_law_443 rfl rfl ?_
      refine j_iconst (1 : Int32) dL_law_444 ki_1 ?_
      refine j_iadd dL_law_445 ?_
      refine j_sld hX dL_law_446 h (fun h => ?_)
      refine j_aload_n 0 dL_law_447 rfl rfl ?_
      refine j_iload_n 3 dL_law_448 rfl rfl ?_
      refine j_iconst (2 : Int32) dL_law_449 ki_2 ?_
      refine j_iadd dL_law_450 ?_
      refine j_sld hX dL_law_451 h (fun h => ?_)
      refine j_aload_n 0 dL_law_452 rfl rfl ?_
      refine j_iload_n 3 dL_law_453 rfl rfl ?_
      refine j_iconst (3 : Int32) dL_law_454 ki_3 ?_
      refine j_iadd dL_law_455 ?_
      refine j_sld hX dL_law_456 h (fun h => ?_)
      refine j_aload_n 0 dL_law_457 rfl rfl ?_
      refine j_iload_n 3 dL_law_458 rfl rfl ?_
      refine j_iconst (4 : Int32) dL_law_459 ki_4 ?_
      refine j_iadd dL_law_460 ?_
      refine j_sld hX dL_law_461 h (fun h => ?_)
      refine j_aload_n 0 dL_law_462 rfl rfl ?_
      refine j_iload_n 3 dL_law_463 rfl rfl ?_
      refine j_iconst (5 : Int32) dL_law_464 ki_5 ?_
      refine j_iadd dL_law_465 ?_
      refine j_sld hX dL_law_466 h (fun h => ?_)
      obtain ⟨q21, e22, h⟩ := ok_b h
      refine j_callV (As := [.int (xs (ix (s.1 + (1 : Int32)))), .int (xs (ix (s.1 + (2 : Int32)))), .int (xs (ix (s.1 + (3 : Int32)))), .int (xs (ix (s.1 + (4 : Int32)))), .int (xs (ix (s.1 + (5 : Int32))))]) (st := []) [.int q21.1] (c_X11_way (kl κ) (gm κ) (kA κ) (xs (ix (s.1 + (1 : Int32)))) (xs (ix (s.1 + (2 : Int32)))) (xs (ix (s.1 + (3 : Int32)))) (xs (ix (s.1 + (4 : Int32)))) (xs (ix (s.1 + (5 : Int32)))) s.2 q21 e22) ck_RL_45 im_X11_way se_X11_way sh_0 cx_11 ⟨rfl, rfl⟩ ⟨by decide, by decide⟩ rfl rfl (Nat.le_of_ble_eq_true rfl) dL_law_467 _ rfl ?_
      refine j_aload_n 2 dL_law_470 rfl rfl ?_
      refine j_aload_n 0 dL_law_471 rfl rfl ?_
      refine j_iload_n 3 dL_law_472 rfl rfl ?_
      refine j_iconst (1 : Int32) dL_law_473 ki_1 ?_
      refine j_iadd dL_law_474 ?_
      refine j_sld hX dL_law_475 h (fun h => ?_)
      refine j_aload_n 0 dL_law_476 rfl rfl ?_
      refine j_iload_n 3 dL_law_477 rfl rfl ?_
      refine j_iconst (2 : Int32) dL_law_478 ki_2 ?_
      refine j_iadd dL_law_479 ?_
      refine j_sld hX dL_law_480 h (fun h => ?_)
      refine j_aload_n 0 dL_law_481 rfl rfl ?_
      refine j_iload_n 3 dL_law_482 rfl rfl ?_
      refine j_iconst (3 : Int32) dL_law_483 ki_3 ?_
      refine j_iadd dL_law_484 ?_
      refine j_sld hX dL_law_485 h (fun h => ?_)
      refine j_aload_n 0 dL_law_486 rfl rfl ?_
      refine j_iload_n 3 dL_law_487 rfl rfl ?_
      refine j_iconst (4 : Int32) dL_law_488 ki_4 ?_
      refine j_iadd dL_law_489 ?_
      refine j_sld hX dL_law_490 h (fun h => ?_)
      refine j_aload_n 0 dL_law_491 rfl rfl ?_
      refine j_iload_n 3 dL_law_492 rfl rfl ?_
      refine j_iconst (5 : Int32) dL_law_493 ki_5 ?_
      refine j_iadd dL_law_494 ?_
      refine j_sld hX dL_law_495 h (fun h => ?_)
      obtain ⟨q23, e24, h⟩ := ok_b h
      refine j_callV (As := [.int (xs (ix (s.1 + (1 : Int32)))), .int (xs (ix (s.1 + (2 : Int32)))), .int (xs (ix (s.1 + (3 : Int32)))), .int (xs (ix (s.1 + (4 : Int32)))), .int (xs (ix (s.1 + (5 : Int32))))]) (st := [.int q21.1]) [.int q23.1, .int q21.1] (c_X12_way (kl κ) (gm κ) (kA κ) (xs (ix (s.1 + (1 : Int32)))) (xs (ix (s.1 + (2 : Int32)))) (xs (ix (s.1 + (3 : Int32)))) (xs (ix (s.1 + (4 : Int32)))) (xs (ix (s.1 + (5 : Int32)))) q21.2 q23 e24) ck_RL_49 im_X12_way se_X12_way sh_97 cx_12 ⟨rfl, rfl⟩ ⟨by decide, by decide⟩ rfl rfl (Nat.le_of_ble_eq_true rfl) dL_law_496 _ rfl ?_
      refine j_ic_eq 1725 dL_law_499 (by decide) h (fun h => ?_) (fun h => ?_)
      · refine j_loc [(0, .ref b), (1, .ref (ad (gm κ) 0)), (2, .ref (ad (gm κ) 97)), (3, .int s.1)] [0, 1, 2, 3] rfl ?_
        exact t_L_law_j1725 b L xs hX s.1 q23.2 (fun _ h => h) K0 h
      · exact ok_n h
    refine j_cs (7 : Int32) h (fun h => ?_) (fun n7 h => ?_)
    · refine j_tab 504 dL_law_33 (by decide) (by decide) rfl (by decide) ?_
      refine j_aload_n 1 dL_law_504 rfl rfl ?_
      refine j_aload_n 0 dL_law_505 rfl rfl ?_
      refine j_iload_n 3 dL_law_506 rfl rfl ?_
      refine j_iconst (1 : Int32) dL_law_507 ki_1 ?_
      refine j_iadd dL_law_508 ?_
      refine j_sld hX dL_law_509 h (fun h => ?_)
      refine j_aload_n 0 dL_law_510 rfl rfl ?_
      refine j_iload_n 3 dL_law_511 rfl rfl ?_
      refine j_iconst (2 : Int32) dL_law_512 ki_2 ?_
      refine j_iadd dL_law_513 ?_
      refine j_sld hX dL_law_514 h (fun h => ?_)
      refine j_aload_n 0 dL_law_515 rfl rfl ?_
      refine j_iload_n 3 dL_law_516 rfl rfl ?_
      refine j_iconst (3 : Int32) dL_law_517 ki_3 ?_
      refine j_iadd dL_law_518 ?_
      refine j_sld hX dL_law_519 h (fun h => ?_)
      obtain ⟨q25, e26, h⟩ := ok_b h
      refine j_callV (As := [.int (xs (ix (s.1 + (1 : Int32)))), .int (xs (ix (s.1 + (2 : Int32)))), .int (xs (ix (s.1 + (3 : Int32))))]) (st := []) [.int q25.1] (c_X11_arrival (kl κ) (gm κ) (kA κ) (xs (ix (s.1 + (1 : Int32)))) (xs (ix (s.1 + (2 : Int32)))) (xs (ix (s.1 + (3 : Int32)))) s.2 q25 e26) ck_RL_50 im_X11_arrival se_X11_arrival sh_0 cx_11 ⟨rfl, rfl⟩ ⟨by decide, by decide⟩ rfl rfl (Nat.le_of_ble_eq_true rfl) dL_law_520 _ rfl ?_
      refine j_aload_n 2 dL_law_523 rfl rfl ?_
      refine j_aload_n 0 dL_law_524 rfl rfl ?_
      refine j_iload_n 3 dL_law_525 rfl rfl ?_
      refine j_iconst (1 : Int32) dL_law_526 ki_1 ?_
      refine j_iadd dL_law_527 ?_
      refine j_sld hX dL_law_528 h (fun h => ?_)
      refine j_aload_n 0 dL_law_529 rfl rfl ?_
      refine j_iload_n 3 dL_law_530 rfl rfl ?_
      refine j_iconst (2 : Int32) dL_law_531 ki_2 ?_
      refine j_iadd dL_law_532 ?_
      refine j_sld hX dL_law_533 h (fun h => ?_)
      refine j_aload_n 0 dL_law_534 rfl rfl ?_
      refine j_iload_n 3 dL_law_535 rfl rfl ?_
      refine j_iconst (3 : Int32) dL_law_536 ki_3 ?_
      refine j_iadd dL_law_537 ?_
      refine j_sld hX dL_law_538 h (fun h => ?_)
      obtain ⟨q27, e28, h⟩ := ok_b h
      refine j_callV (As := [.int (xs (ix (s.1 + (1 : Int32)))), .int (xs (ix (s.1 + (2 : Int32)))), .int (xs (ix (s.1 + (3 : Int32))))]) (st := [.int q25.1]) [.int q27.1, .int q25.1] (c_X12_arrival (kl κ) (gm κ) (kA κ) (xs (ix (s.1 + (1 : Int32)))) (xs (ix (s.1 + (2 : Int32)))) (xs (ix (s.1 + (3 : Int32)))) q25.2 q27 e28) ck_RL_54 im_X12_arrival se_X12_arrival sh_97 cx_12 ⟨rfl, rfl⟩ ⟨by decide, by decide⟩ rfl rfl (Nat.le_of_ble_eq_true rfl) dL_law_539 _ rfl ?_
      refine j_ic_eq 1725 dL_law_542 (by decide) h (fun h => ?_) (fun h => ?_)
      · refine j_loc [(0, .ref b), (1, .ref (ad (gm κ) 0)), (2, .ref (ad (gm κ) 97)), (3, .int s.1)] [0, 1, 2, 3] rfl ?_
        exact t_L_law_j1725 b L xs hX s.1 q27.2 (fun _ h => h) K0 h
      · exact ok_n h
    refine j_cs (8 : Int32) h (fun h => ?_) (fun n8 h => ?_)
    · refine j_tab 547 dL_law_33 (by decide) (by decide) rfl (by decide) ?_
      refine j_aload_n 1 dL_law_547 rfl rfl ?_
      refine j_aload_n 0 dL_law_548 rfl rfl ?_
      refine j_iload_n 3 dL_law_549 rfl rfl ?_
      refine j_iconst (1 : Int32) dL_law_550 ki_1 ?_
      refine j_iadd dL_law_551 ?_
      refine j_sld hX dL_law_552 h (fun h => ?_)
      refine j_aload_n 0 dL_law_553 rfl rfl ?_
      refine j_iload_n 3 dL_law_554 rfl rfl ?_
      refine j_iconst (2 : Int32) dL_law_555 ki_2 ?_
      refine j_iadd dL_law_556 ?_
      refine j_sld hX dL_law_557 h (fun h => ?_)
      refine j_aload_n 0 dL_law_558 rfl rfl ?_
      refine j_iload_n 3 dL_law_559 rfl rfl ?_
      refine j_iconst (3 : Int32) dL_law_560 ki_3 ?_
      refine j_iadd dL_law_561 ?_
      refine j_sld hX dL_law_562 h (fun h => ?_)
      obtain ⟨q29, e30, h⟩ := ok_b h
      refine j_callV (As := [.int (xs (ix (s.1 + (1 : Int32)))), .int (xs (ix (s.1 + (2 : Int32)))), .int (xs (ix (s.1 + (3 : Int32))))]) (st := []) [.int q29.1] (c_X11_learner (kl κ) (gm κ) (kA κ) (xs (ix (s.1 + (1 : Int32)))) (xs (ix (s.1 + (2 : Int32)))) (xs (ix (s.1 + (3 : Int32)))) s.2 q29 e30) ck_RL_55 im_X11_learner se_X11_learner sh_0 cx_11 ⟨rfl, rfl⟩ ⟨by decide, by decide⟩ rfl rfl (Nat.le_of_ble_eq_true rfl) dL_law_563 _ rfl ?_
      refine j_aload_n 2 dL_law_566 rfl rfl ?_
      refine j_aload_n 0 dL_law_567 rfl rfl ?_
      refine j_iload_n 3 dL_law_568 rfl rfl ?_
      refine j_iconst (1 : Int32) dL_law_569 ki_1 ?_
      refine j_iadd dL_law_570 ?_
      refine j_sld hX dL_law_571 h (fun h => ?_)
      refine j_aload_n 0 dL_law_572 rfl rfl ?_
      refine j_iload_n 3 dL_law_573 rfl rfl ?_
      refine j_iconst (2 : Int32) dL_law_574 ki_2 ?_
      refine j_iadd dL_law_575 ?_
      refine j_sld hX dL_law_576 h (fun h => ?_)
      refine j_aload_n 0 dL_law_577 rfl rfl ?_
      refine j_iload_n 3 dL_law_578 rfl rfl ?_
      refine j_iconst (3 : Int32) dL_law_579 ki_3 ?_
      refine j_iadd dL_law_580 ?_
      refine j_sld hX dL_law_581 h (fun h => ?_)
      obtain ⟨q31, e32, h⟩ := ok_b h
      refine j_callV (As := [.int (xs (ix (s.1 + (1 : Int32)))), .int (xs (ix (s.1 + (2 : Int32)))), .int (xs (ix (s.1 + (3 : Int32))))]) (st := [.int q29.1]) [.int q31.1, .int q29.1] (c_X12_learner (kl κ) (gm κ) (kA κ) (xs (ix (s.1 + (1 : Int32)))) (xs (ix (s.1 + (2 : Int32)))) (xs (ix (s.1 + (3 : Int32)))) q29.2 q31 e32) ck_RL_58 im_X12_learner se_X12_learner sh_97 cx_12 ⟨rfl, rfl⟩ ⟨by decide, by decide⟩ rfl rfl (Nat.le_of_ble_eq_true rfl) dL_law_582 _ rfl ?_
      refine j_ic_eq 1725 dL_law_585 (by decide) h (fun h => ?_) (fun h => ?_)
      · refine j_loc [(0, .ref b), (1, .ref (ad (gm κ) 0)), (2, .ref (ad (gm κ) 97)), (3, .int s.1)] [0, 1, 2, 3] rfl ?_
        exact t_L_law_j1725 b L xs hX s.1 q31.2 (fun _ h => h) K0 h
      · exact ok_n h
    refine j_cs (9 : Int32) h (fun h => ?_) (fun n9 h => ?_)
    · refine j_tab 590 dL_law_33 (by decide) (by decide) rfl (by decide) ?_
      refine j_aload_n 1 dL_law_590 rfl rfl ?_
      refine j_aload_n 0 dL_law_591 rfl rfl ?_
      refine j_iload_n 3 dL_law_592 rfl rfl ?_
      refine j_iconst (1 : Int32) dL_law_593 ki_1 ?_
      refine j_iadd dL_law_594 ?_
      refine j_sld hX dL_law_595 h (fun h => ?_)
      refine j_aload_n 0 dL_law_596 rfl rfl ?_
      refine j_iload_n 3 dL_law_597 rfl rfl ?_
      refine j_iconst (2 : Int32) dL_law_598 ki_2 ?_
      refine j_iadd dL_law_599 ?_
      refine j_sld hX dL_law_600 h (fun h => ?_)
      obtain ⟨q33, e34, h⟩ := ok_b h
      refine j_callV (As := [.int (xs (ix (s.1 + (1 : Int32)))), .int (xs (ix (s.1 + (2 : Int32))))]) (st := []) [.int q33.1] (c_X11_teacher (kl κ) (gm κ) (kA κ) (xs (ix (s.1 + (1 : Int32)))) (xs (ix (s.1 + (2 : Int32)))) s.2 q33 e34) ck_RL_59 im_X11_teacher se_X11_teacher sh_0 cx_11 ⟨rfl, rfl⟩ ⟨by decide, by decide⟩ rfl rfl (Nat.le_of_ble_eq_true rfl) dL_law_601 _ rfl ?_
      refine j_aload_n 2 dL_law_604 rfl rfl ?_
      refine j_aload_n 0 dL_law_605 rfl rfl ?_
      refine j_iload_n 3 dL_law_606 rfl rfl ?_
      refine j_iconst (1 : Int32) dL_law_607 ki_1 ?_
      refine j_iadd dL_law_608 ?_
      refine j_sld hX dL_law_609 h (fun h => ?_)
      refine j_aload_n 0 dL_law_610 rfl rfl ?_
      refine j_iload_n 3 dL_law_611 rfl rfl ?_
      refine j_iconst (2 : Int32) dL_law_612 ki_2 ?_
      refine j_iadd dL_law_613 ?_
      refine j_sld hX dL_law_614 h (fun h => ?_)
      obtain ⟨q35, e36, h⟩ := ok_b h
      refine j_callV (As := [.int (xs (ix (s.1 + (1 : Int32)))), .int (xs (ix (s.1 + (2 : Int32))))]) (st := [.int q33.1]) [.int q35.1, .int q33.1] (c_X12_teacher (kl κ) (gm κ) (kA κ) (xs (ix (s.1 + (1 : Int32)))) (xs (ix (s.1 + (2 : Int32)))) q33.2 q35 e36) ck_RL_63 im_X12_teacher se_X12_teacher sh_97 cx_12 ⟨rfl, rfl⟩ ⟨by decide, by decide⟩ rfl rfl (Nat.le_of_ble_eq_true rfl) dL_law_615 _ rfl ?_
      refine j_ic_eq 1725 dL_law_618 (by decide) h (fun h => ?_) (fun h => ?_)
      · refine j_loc [(0, .ref b), (1, .ref (ad (gm κ) 0)), (2, .ref (ad (gm κ) 97)), (3, .int s.1)] [0, 1, 2, 3] rfl ?_
        exact t_L_law_j1725 b L xs hX s.1 q35.2 (fun _ h => h) K0 h
      · exact ok_n h
    refine j_cs (10 : Int32) h (fun h => ?_) (fun n10 h => ?_)
    · refine j_tab 623 dL_law_33 (by decide) (by decide) rfl (by decide) ?_
      refine j_aload_n 1 dL_law_623 rfl rfl ?_
      refine j_aload_n 0 dL_law_624 rfl rfl ?_
      refine j_iload_n 3 dL_law_625 rfl rfl ?_
      refine j_iconst (1 : Int32) dL_law_626 ki_1 ?_
      refine j_iadd dL_law_627 ?_
      refine j_sld hX dL_law_628 h (fun h => ?_)
      obtain ⟨q37, e38, h⟩ := ok_b h
      refine j_callV (As := [.int (xs (ix (s.1 + (1 : Int32))))]) (st := []) [.int q37.1] (c_X11_lamp (kl κ) (gm κ) (kA κ) (xs (ix (s.1 + (1 : Int32)))) s.2 q37 e38) ck_RL_64 im_X11_lamp se_X11_lamp sh_0 cx_11 ⟨rfl, rfl⟩ ⟨by decide, by decide⟩ rfl rfl (Nat.le_of_ble_eq_true rfl) dL_law_629 _ rfl ?_
      refine j_aload_n 2 dL_law_632 rfl rfl ?_
      refine j_aload_n 0 dL_law_633 rfl rfl ?_
      refine j_iload_n 3 dL_law_634 rfl rfl ?_
      refine j_iconst (1 : Int32) dL_law_635 ki_1 ?_
      refine j_iadd dL_law_636 ?_
      refine j_sld hX dL_law_637 h (fun h => ?_)
      obtain ⟨q39, e40, h⟩ := ok_b h
      refine j_callV (As := [.int (xs (ix (s.1 + (1 : Int32))))]) (st := [.int q37.1]) [.int q39.1, .int q37.1] (c_X12_lamp (kl κ) (gm κ) (kA κ) (xs (ix (s.1 + (1 : Int32)))) q37.2 q39 e40) ck_RL_67 im_X12_lamp se_X12_lamp sh_97 cx_12 ⟨rfl, rfl⟩ ⟨by decide, by decide⟩ rfl rfl (Nat.le_of_ble_eq_true rfl) dL_law_638 _ rfl ?_
      refine j_ic_eq 1725 dL_law_641 (by decide) h (fun h => ?_) (fun h => ?_)
      · refine j_loc [(0, .ref b), (1, .ref (ad (gm κ) 0)), (2, .ref (ad (gm κ) 97)), (3, .int s.1)] [0, 1, 2, 3] rfl ?_
        exact t_L_law_j1725 b L xs hX s.1 q39.2 (fun _ h => h) K0 h
      · exact ok_n h
    refine j_cs (11 : Int32) h (fun h => ?_) (fun n11 h => ?_)
    · refine j_tab 646 dL_law_33 (by decide) (by decide) rfl (by decide) ?_
      refine j_aload_n 1 dL_law_646 rfl rfl ?_
      refine j_aload_n 0 dL_law_647 rfl rfl ?_
      refine j_iload_n 3 dL_law_648 rfl rfl ?_
      refine j_iconst (1 : Int32) dL_law_649 ki_1 ?_
      refine j_iadd dL_law_650 ?_
      refine j_sld hX dL_law_651 h (fun h => ?_)
      refine j_aload_n 0 dL_law_652 rfl rfl ?_
      refine j_iload_n 3 dL_law_653 rfl rfl ?_
      refine j_iconst (2 : Int32) dL_law_654 ki_2 ?_
      refine j_iadd dL_law_655 ?_
      refine j_sld hX dL_law_656 h (fun h => ?_)
      refine j_aload_n 0 dL_law_657 rfl rfl ?_
      refine j_iload_n 3 dL_law_658 rfl rfl ?_
      refine j_iconst (3 : Int32) dL_law_659 ki_3 ?_
      refine j_iadd dL_law_660 ?_
      refine j_sld hX dL_law_661 h (fun h => ?_)
      refine j_aload_n 0 dL_law_662 rfl rfl ?_
      refine j_iload_n 3 dL_law_663 rfl rfl ?_
      refine j_iconst (4 : Int32) dL_law_664 ki_4 ?_
      refine j_iadd dL_law_665 ?_
      refine j_sld hX dL_law_666 h (fun h => ?_)
      refine j_aload_n 0 dL_law_667 rfl rfl ?_
      refine j_iload_n 3 dL_law_668 rfl rfl ?_
      refine j_iconst (5 : Int32) dL_law_669 ki_5 ?_
      refine j_iadd dL_law_670 ?_
      refine j_sld hX dL_law_671 h (fun h => ?_)
      refine j_aload_n 0 dL_law_672 rfl rfl ?_
      refine j_iload_n 3 dL_law_673 rfl rfl ?_
      refine j_bipush (6 : Int32) dL_law_674 kb_6 ?_
      refine j_iadd dL_law_676 ?_
      refine j_sld hX dL_law_677 h (fun h => ?_)
      obtain ⟨q41, e42, h⟩ := ok_b h
      refine j_callV (As := [.int (xs (ix (s.1 + (1 : Int32)))), .int (xs (ix (s.1 + (2 : Int32)))), .int (xs (ix (s.1 + (3 : Int32)))), .int (xs (ix (s.1 + (4 : Int32)))), .int (xs (ix (s.1 + (5 : Int32)))), .int (xs (ix (s.1 + (6 : Int32))))]) (st := []) [.int q41.1] (c_X11_note (kl κ) (gm κ) (kA κ) (xs (ix (s.1 + (1 : Int32)))) (xs (ix (s.1 + (2 : Int32)))) (xs (ix (s.1 + (3 : Int32)))) (xs (ix (s.1 + (4 : Int32)))) (xs (ix (s.1 + (5 : Int32)))) (xs (ix (s.1 + (6 : Int32)))) s.2 q41 e42) ck_RL_68 im_X11_note se_X11_note sh_0 cx_11 ⟨rfl, rfl⟩ ⟨by decide, by decide⟩ rfl rfl (Nat.le_of_ble_eq_true rfl) dL_law_678 _ rfl ?_
      refine j_aload_n 2 dL_law_681 rfl rfl ?_
      refine j_aload_n 0 dL_law_682 rfl rfl ?_
      refine j_iload_n 3 dL_law_683 rfl rfl ?_
      refine j_iconst (1 : Int32) dL_law_684 ki_1 ?_
      refine j_iadd dL_law_685 ?_
      refine j_sld hX dL_law_686 h (fun h => ?_)
      refine j_aload_n 0 dL_law_687 rfl rfl ?_
      refine j_iload_n 3 dL_law_688 rfl rfl ?_
      refine j_iconst (2 : Int32) dL_law_689 ki_2 ?_
      refine j_iadd dL_law_690 ?_
      refine j_sld hX dL_law_691 h (fun h => ?_)
      refine j_aload_n 0 dL_law_692 rfl rfl ?_
      refine j_iload_n 3 dL_law_693 rfl rfl ?_
      refine j_iconst (3 : Int32) dL_law_694 ki_3 ?_
      refine j_iadd dL_law_695 ?_
      refine j_sld hX dL_law_696 h (fun h => ?_)
      refine j_aload_n 0 dL_law_697 rfl rfl ?_
      refine j_iload_n 3 dL_law_698 rfl rfl ?_
      refine j_iconst (4 : Int32) dL_law_699 ki_4 ?_
      refine j_iadd dL_law_700 ?_
      refine j_sld hX dL_law_701 h (fun h => ?_)
      refine j_aload_n 0 dL_law_702 rfl rfl ?_
      refine j_iload_n 3 dL_law_703 rfl rfl ?_
      refine j_iconst (5 : Int32) dL_law_704 ki_5 ?_
      refine j_iadd dL_law_705 ?_
      refine j_sld hX dL_law_706 h (fun h => ?_)
      refine j_aload_n 0 dL_law_707 rfl rfl ?_
      refine j_iload_n 3 dL_law_708 rfl rfl ?_
      refine j_bipush (6 : Int32) dL_law_709 kb_6 ?_
      refine j_iadd dL_law_711 ?_
      refine j_sld hX dL_law_712 h (fun h => ?_)
      obtain ⟨q43, e44, h⟩ := ok_b h
      refine j_callV (As := [.int (xs (ix (s.1 + (1 : Int32)))), .int (xs (ix (s.1 + (2 : Int32)))), .int (xs (ix (s.1 + (3 : Int32)))), .int (xs (ix (s.1 + (4 : Int32)))), .int (xs (ix (s.1 + (5 : Int32)))), .int (xs (ix (s.1 + (6 : Int32))))]) (st := [.int q41.1]) [.int q43.1, .int q41.1] (c_X12_note (kl κ) (gm κ) (kA κ) (xs (ix (s.1 + (1 : Int32)))) (xs (ix (s.1 + (2 : Int32)))) (xs (ix (s.1 + (3 : Int32)))) (xs (ix (s.1 + (4 : Int32)))) (xs (ix (s.1 + (5 : Int32)))) (xs (ix (s.1 + (6 : Int32)))) q41.2 q43 e44) ck_RL_72 im_X12_note se_X12_note sh_97 cx_12 ⟨rfl, rfl⟩ ⟨by decide, by decide⟩ rfl rfl (Nat.le_of_ble_eq_true rfl) dL_law_713 _ rfl ?_
      refine j_ic_eq 1725 dL_law_716 (by decide) h (fun h => ?_) (fun h => ?_)
      · refine j_loc [(0, .ref b), (1, .ref (ad (gm κ) 0)), (2, .ref (ad (gm κ) 97)), (3, .int s.1)] [0, 1, 2, 3] rfl ?_
        exact t_L_law_j1725 b L xs hX s.1 q43.2 (fun _ h => h) K0 h
      · exact ok_n h
    refine j_cs (12 : Int32) h (fun h => ?_) (fun n12 h => ?_)
    · refine j_tab 721 dL_law_33 (by decide) (by decide) rfl (by decide) ?_
      refine j_aload_n 1 dL_law_721 rfl rfl ?_
      refine j_aload_n 0 dL_law_722 rfl rfl ?_
      refine j_iload_n 3 dL_law_723 rfl rfl ?_
      refine j_iconst (1 : Int32) dL_law_724 ki_1 ?_
      refine j_iadd dL_law_725 ?_
      refine j_sld hX dL_law_726 h (fun h => ?_)
      obtain ⟨q45, e46, h⟩ := ok_b h
      refine j_callV (As := [.int (xs (ix (s.1 + (1 : Int32))))]) (st := []) [.int q45.1] (c_X11_asof (kl κ) (gm κ) (kA κ) (xs (ix (s.1 + (1 : Int32)))) s.2 q45 e46) ck_RL_73 im_X11_asof se_X11_asof sh_0 cx_11 ⟨rfl, rfl⟩ ⟨by decide, by decide⟩ rfl rfl (Nat.le_of_ble_eq_true rfl) dL_law_727 _ rfl ?_
      refine j_aload_n 2 dL_law_730 rfl rfl ?_
      refine j_aload_n 0 dL_law_731 rfl rfl ?_
      refine j_iload_n 3 dL_law_732 rfl rfl ?_
      refine j_iconst (1 : Int32) dL_law_733 ki_1 ?_
      refine j_iadd dL_law_734 ?_
      refine j_sld hX dL_law_735 h (fun h => ?_)
      obtain ⟨q47, e48, h⟩ := ok_b h
      refine j_callV (As := [.int (xs (ix (s.1 + (1 : Int32))))]) (st := [.int q45.1]) [.int q47.1, .int q45.1] (c_X12_asof (kl κ) (gm κ) (kA κ) (xs (ix (s.1 + (1 : Int32)))) q45.2 q47 e48) ck_RL_77 im_X12_asof se_X12_asof sh_97 cx_12 ⟨rfl, rfl⟩ ⟨by decide, by decide⟩ rfl rfl (Nat.le_of_ble_eq_true rfl) dL_law_736 _ rfl ?_
      refine j_ic_eq 1725 dL_law_739 (by decide) h (fun h => ?_) (fun h => ?_)
      · refine j_loc [(0, .ref b), (1, .ref (ad (gm κ) 0)), (2, .ref (ad (gm κ) 97)), (3, .int s.1)] [0, 1, 2, 3] rfl ?_
        exact t_L_law_j1725 b L xs hX s.1 q47.2 (fun _ h => h) K0 h
      · exact ok_n h
    refine j_cs (13 : Int32) h (fun h => ?_) (fun n13 h => ?_)
    · refine j_tab 744 dL_law_33 (by decide) (by decide) rfl (by decide) ?_
      refine j_aload_n 1 dL_law_744 rfl rfl ?_
      refine j_aload_n 0 dL_law_745 rfl rfl ?_
      refine j_iload_n 3 dL_law_746 rfl rfl ?_
      refine j_iconst (1 : Int32) dL_law_747 ki_1 ?_
      refine j_iadd dL_law_748 ?_
      refine j_sld hX dL_law_749 h (fun h => ?_)
      refine j_aload_n 0 dL_law_750 rfl rfl ?_
      refine j_iload_n 3 dL_law_751 rfl rfl ?_
      refine j_iconst (2 : Int32) dL_law_752 ki_2 ?_
      refine j_iadd dL_law_753 ?_
      refine j_sld hX dL_law_754 h (fun h => ?_)
      refine j_aload_n 0 dL_law_755 rfl rfl ?_
      refine j_iload_n 3 dL_law_756 rfl rfl ?_
      refine j_iconst (3 : Int32) dL_law_757 ki_3 ?_
      refine j_iadd dL_law_758 ?_
      refine j_sld hX dL_law_759 h (fun h => ?_)
      obtain ⟨q49, e50, h⟩ := ok_b h
      refine j_callV (As := [.int (xs (ix (s.1 + (1 : Int32)))), .int (xs (ix (s.1 + (2 : Int32)))), .int (xs (ix (s.1 + (3 : Int32))))]) (st := []) [.int q49.1] (c_X11_where (kl κ) (gm κ) (kA κ) (xs (ix (s.1 + (1 : Int32)))) (xs (ix (s.1 + (2 : Int32)))) (xs (ix (s.1 + (3 : Int32)))) s.2 q49 e50) ck_RL_78 im_X11_where se_X11_where sh_0 cx_11 ⟨rfl, rfl⟩ ⟨by decide, by decide⟩ rfl rfl (Nat.le_of_ble_eq_true rfl) dL_law_760 _ rfl ?_
      refine j_aload_n 2 dL_law_763 rfl rfl ?_
      refine j_aload_n 0 dL_law_764 rfl rfl ?_
      refine j_iload_n 3 dL_law_765 rfl rfl ?_
      refine j_iconst (1 : Int32) dL_law_766 ki_1 ?_
      refine j_iadd dL_law_767 ?_
      refine j_sld hX dL_law_768 h (fun h => ?_)
      refine j_aload_n 0 dL_law_769 rfl rfl ?_
      refine j_iload_n 3 dL_law_770 rfl rfl ?_
      refine j_iconst (2 : Int32) dL_law_771 ki_2 ?_
      refine j_iadd dL_law_772 ?_
      refine j_sld hX dL_law_773 h (fun h => ?_)
      refine j_aload_n 0 dL_law_774 rfl rfl ?_
      refine j_iload_n 3 dL_law_775 rfl rfl ?_
      refine j_iconst (3 : Int32) dL_law_776 ki_3 ?_
      refine j_iadd dL_law_777 ?_
      refine j_sld hX dL_law_778 h (fun h => ?_)
      obtain ⟨q51, e52, h⟩ := ok_b h
      refine j_callV (As := [.int (xs (ix (s.1 + (1 : Int32)))), .int (xs (ix (s.1 + (2 : Int32)))), .int (xs (ix (s.1 + (3 : Int32))))]) (st := [.int q49.1]) [.int q51.1, .int q49.1] (c_X12_where (kl κ) (gm κ) (kA κ) (xs (ix (s.1 + (1 : Int32)))) (xs (ix (s.1 + (2 : Int32)))) (xs (ix (s.1 + (3 : Int32)))) q49.2 q51 e52) ck_RL_81 im_X12_where se_X12_where sh_97 cx_12 ⟨rfl, rfl⟩ ⟨by decide, by decide⟩ rfl rfl (Nat.le_of_ble_eq_true rfl) dL_law_779 _ rfl ?_
      refine j_ic_eq 1725 dL_law_782 (by decide) h (fun h => ?_) (fun h => ?_)
      · refine j_loc [(0, .ref b), (1, .ref (ad (gm κ) 0)), (2, .ref (ad (gm κ) 97)), (3, .int s.1)] [0, 1, 2, 3] rfl ?_
        exact t_L_law_j1725 b L xs hX s.1 q51.2 (fun _ h => h) K0 h
      · exact ok_n h
    refine j_cs (14 : Int32) h (fun h => ?_) (fun n14 h => ?_)
    · refine j_tab 787 dL_law_33 (by decide) (by decide) rfl (by decide) ?_
      refine j_aload_n 1 dL_law_787 rfl rfl ?_
      refine j_aload_n 0 dL_law_788 rfl rfl ?_
      refine j_iload_n 3 dL_law_789 rfl rfl ?_
      refine j_iconst (1 : Int32) dL_law_790 ki_1 ?_
      refine j_iadd dL_law_791 ?_
      refine j_sld hX dL_law_792 h (fun h => ?_)
      refine j_aload_n 0 dL_law_793 rfl rfl ?_
      refine j_iload_n 3 dL_law_794 rfl rfl ?_
      refine j_iconst (2 : Int32) dL_law_795 ki_2 ?_
      refine j_iadd dL_law_796 ?_
      refine j_sld hX dL_law_797 h (fun h => ?_)
      obtain ⟨q53, e54, h⟩ := ok_b h
      refine j_callV (As := [.int (xs (ix (s.1 + (1 : Int32)))), .int (xs (ix (s.1 + (2 : Int32))))]) (st := []) [.int q53.1] (c_X11_lit (kl κ) (gm κ) (kA κ) (xs (ix (s.1 + (1 : Int32)))) (xs (ix (s.1 + (2 : Int32)))) s.2 q53 e54) ck_RL_82 im_X11_lit se_X11_lit sh_0 cx_11 ⟨rfl, rfl⟩ ⟨by decide, by decide⟩ rfl rfl (Nat.le_of_ble_eq_true rfl) dL_law_798 _ rfl ?_
      refine j_aload_n 2 dL_law_801 rfl rfl ?_
      refine j_aload_n 0 dL_law_802 rfl rfl ?_
      refine j_iload_n 3 dL_law_803 rfl rfl ?_
      refine j_iconst (1 : Int32) dL_law_804 ki_1 ?_
      refine j_iadd dL_law_805 ?_
      refine j_sld hX dL_law_806 h (fun h => ?_)
      refine j_aload_n 0 dL_law_807 rfl rfl ?_
      refine j_iload_n 3 dL_law_808 rfl rfl ?_
      refine j_iconst (2 : Int32) dL_law_809 ki_2 ?_
      refine j_iadd dL_law_810 ?_
      refine j_sld hX dL_law_811 h (fun h => ?_)
      obtain ⟨q55, e56, h⟩ := ok_b h
      refine j_callV (As := [.int (xs (ix (s.1 + (1 : Int32)))), .int (xs (ix (s.1 + (2 : Int32))))]) (st := [.int q53.1]) [.int q55.1, .int q53.1] (c_X12_lit (kl κ) (gm κ) (kA κ) (xs (ix (s.1 + (1 : Int32)))) (xs (ix (s.1 + (2 : Int32)))) q53.2 q55 e56) ck_RL_85 im_X12_lit se_X12_lit sh_97 cx_12 ⟨rfl, rfl⟩ ⟨by decide, by decide⟩ rfl rfl (Nat.le_of_ble_eq_true rfl) dL_law_812 _ rfl ?_
      refine j_ic_eq 1725 dL_law_815 (by decide) h (fun h => ?_) (fun h => ?_)
      · refine j_loc [(0, .ref b), (1, .ref (ad (gm κ) 0)), (2, .ref (ad (gm κ) 97)), (3, .int s.1)] [0, 1, 2, 3] rfl ?_
        exact t_L_law_j1725 b L xs hX s.1 q55.2 (fun _ h => h) K0 h
      · exact ok_n h
    refine j_cs (15 : Int32) h (fun h => ?_) (fun n15 h => ?_)
    · refine j_tab 820 dL_law_33 (by decide) (by decide) rfl (by decide) ?_
      refine j_aload_n 1 dL_law_820 rfl rfl ?_
      refine j_aload_n 0 dL_law_821 rfl rfl ?_
      refine j_iload_n 3 dL_law_822 rfl rfl ?_
      refine j_iconst (1 : Int32) dL_law_823 ki_1 ?_
      refine j_iadd dL_law_824 ?_
      refine j_sld hX dL_law_825 h (fun h => ?_)
      refine j_aload_n 0 dL_law_826 rfl rfl ?_
      refine j_iload_n 3 dL_law_827 rfl rfl ?_
      refine j_iconst (2 : Int32) dL_law_828 ki_2 ?_
      refine j_iadd dL_law_829 ?_
      refine j_sld hX dL_law_830 h (fun h => ?_)
      refine j_aload_n 0 dL_law_831 rfl rfl ?_
      refine j_iload_n 3 dL_law_832 rfl rfl ?_
      refine j_iconst (3 : Int32) dL_law_833 ki_3 ?_
      refine j_iadd dL_law_834 ?_
      refine j_sld hX dL_law_835 h (fun h => ?_)
      refine j_aload_n 0 dL_law_836 rfl rfl ?_
      refine j_iload_n 3 dL_law_837 rfl rfl ?_
      refine j_iconst (4 : Int32) dL_law_838 ki_4 ?_
      refine j_iadd dL_law_839 ?_
      refine j_sld hX dL_law_840 h (fun h => ?_)
      refine j_aload_n 0 dL_law_841 rfl rfl ?_
      refine j_iload_n 3 dL_law_842 rfl rfl ?_
      refine j_iconst (5 : Int32) dL_law_843 ki_5 ?_
      refine j_iadd dL_law_844 ?_
      refine j_sld hX dL_law_845 h (fun h => ?_)
      obtain ⟨q57, e58, h⟩ := ok_b h
      refine j_callV (As := [.int (xs (ix (s.1 + (1 : Int32)))), .int (xs (ix (s.1 + (2 : Int32)))), .int (xs (ix (s.1 + (3 : Int32)))), .int (xs (ix (s.1 + (4 : Int32)))), .int (xs (ix (s.1 + (5 : Int32))))]) (st := []) [.int q57.1] (c_X11_feed (kl κ) (gm κ) (kA κ) (xs (ix (s.1 + (1 : Int32)))) (xs (ix (s.1 + (2 : Int32)))) (xs (ix (s.1 + (3 : Int32)))) (xs (ix (s.1 + (4 : Int32)))) (xs (ix (s.1 + (5 : Int32)))) s.2 q57 e58) ck_RL_86 im_X11_feed se_X11_feed sh_0 cx_11 ⟨rfl, rfl⟩ ⟨by decide, by decide⟩ rfl rfl (Nat.le_of_ble_eq_true rfl) dL_law_846 _ rfl ?_
      refine j_aload_n 2 dL_law_849 rfl rfl ?_
      refine j_aload_n 0 dL_law_850 rfl rfl ?_
      refine j_iload_n 3 dL_law_851 rfl rfl ?_
      refine j_iconst (1 : Int32) dL_law_852 ki_1 ?_
      refine j_iadd dL_law_853 ?_
      refine j_sld hX dL_law_854 h (fun h => ?_)
      refine j_aload_n 0 dL_law_855 rfl rfl ?_
      refine j_iload_n 3 dL_law_856 rfl rfl ?_
      refine j_iconst (2 : Int32) dL_law_857 ki_2 ?_
      refine j_iadd dL_law_858 ?_
      refine j_sld hX dL_law_859 h (fun h => ?_)
      refine j_aload_n 0 dL_law_860 rfl rfl ?_
      refine j_iload_n 3 dL_law_861 rfl rfl ?_
      refine j_iconst (3 : Int32) dL_law_862 ki_3 ?_
      refine j_iadd dL_law_863 ?_
      refine j_sld hX dL_law_864 h (fun h => ?_)
      refine j_aload_n 0 dL_law_865 rfl rfl ?_
      refine j_iload_n 3 dL_law_866 rfl rfl ?_
      refine j_iconst (4 : Int32) dL_law_867 ki_4 ?_
      refine j_iadd dL_law_868 ?_
      refine j_sld hX dL_law_869 h (fun h => ?_)
      refine j_aload_n 0 dL_law_870 rfl rfl ?_
      refine j_iload_n 3 dL_law_871 rfl rfl ?_
      refine j_iconst (5 : Int32) dL_law_872 ki_5 ?_
      refine j_iadd dL_law_873 ?_
      refine j_sld hX dL_law_874 h (fun h => ?_)
      obtain ⟨q59, e60, h⟩ := ok_b h
      refine j_callV (As := [.int (xs (ix (s.1 + (1 : Int32)))), .int (xs (ix (s.1 + (2 : Int32)))), .int (xs (ix (s.1 + (3 : Int32)))), .int (xs (ix (s.1 + (4 : Int32)))), .int (xs (ix (s.1 + (5 : Int32))))]) (st := [.int q57.1]) [.int q59.1, .int q57.1] (c_X12_feed (kl κ) (gm κ) (kA κ) (xs (ix (s.1 + (1 : Int32)))) (xs (ix (s.1 + (2 : Int32)))) (xs (ix (s.1 + (3 : Int32)))) (xs (ix (s.1 + (4 : Int32)))) (xs (ix (s.1 + (5 : Int32)))) q57.2 q59 e60) ck_RL_89 im_X12_feed se_X12_feed sh_97 cx_12 ⟨rfl, rfl⟩ ⟨by decide, by decide⟩ rfl rfl (Nat.le_of_ble_eq_true rfl) dL_law_875 _ rfl ?_
      refine j_ic_eq 1725 dL_law_878 (by decide) h (fun h => ?_) (fun h => ?_)
      · refine j_loc [(0, .ref b), (1, .ref (ad (gm κ) 0)), (2, .ref (ad (gm κ) 97)), (3, .int s.1)] [0, 1, 2, 3] rfl ?_
        exact t_L_law_j1725 b L xs hX s.1 q59.2 (fun _ h => h) K0 h
      · exact ok_n h
    refine j_cs (16 : Int32) h (fun h => ?_) (fun n16 h => ?_)
    · refine j_tab 883 dL_law_33 (by decide) (by decide) rfl (by decide) ?_
      refine j_aload_n 1 dL_law_883 rfl rfl ?_
      refine j_aload_n 0 dL_law_884 rfl rfl ?_
      refine j_iload_n 3 dL_law_885 rfl rfl ?_
      refine j_iconst (1 : Int32) dL_law_886 ki_1 ?_
      refine j_iadd dL_law_887 ?_
      refine j_sld hX dL_law_888 h (fun h => ?_)
      refine j_aload_n 0 dL_law_889 rfl rfl ?_
      refine j_iload_n 3 dL_law_890 rfl rfl ?_
      refine j_iconst (2 : Int32) dL_law_891 ki_2 ?_
      refine j_iadd dL_law_892 ?_
      refine j_sld hX dL_law_893 h (fun h => ?_)
      refine j_aload_n 0 dL_law_894 rfl rfl ?_
      refine j_iload_n 3 dL_law_895 rfl rfl ?_
      refine j_iconst (3 : Int32) dL_law_896 ki_3 ?_
      refine j_iadd dL_law_897 ?_
      refine j_sld hX dL_law_898 h (fun h => ?_)
      obtain ⟨q61, e62, h⟩ := ok_b h
      refine j_callV (As := [.int (xs (ix (s.1 + (1 : Int32)))), .int (xs (ix (s.1 + (2 : Int32)))), .int (xs (ix (s.1 + (3 : Int32))))]) (st := []) [.int q61.1] (c_X11_orders (kl κ) (gm κ) (kA κ) (xs (ix (s.1 + (1 : Int32)))) (xs (ix (s.1 + (2 : Int32)))) (xs (ix (s.1 + (3 : Int32)))) s.2 q61 e62) ck_RL_90 im_X11_orders se_X11_orders sh_0 cx_11 ⟨rfl, rfl⟩ ⟨by decide, by decide⟩ rfl rfl (Nat.le_of_ble_eq_true rfl) dL_law_899 _ rfl ?_
      refine j_aload_n 2 dL_law_902 rfl rfl ?_
      refine j_aload_n 0 dL_law_903 rfl rfl ?_
      refine j_iload_n 3 dL_law_904 rfl rfl ?_
      refine j_iconst (1 : Int32) dL_law_905 ki_1 ?_
      refine j_iadd dL_law_906 ?_
      refine j_sld hX dL_law_907 h (fun h => ?_)
      refine j_aload_n 0 dL_law_908 rfl rfl ?_
      refine j_iload_n 3 dL_law_909 rfl rfl ?_
      refine j_iconst (2 : Int32) dL_law_910 ki_2 ?_
      refine j_iadd dL_law_911 ?_
      refine j_sld hX dL_law_912 h (fun h => ?_)
      refine j_aload_n 0 dL_law_913 rfl rfl ?_
      refine j_iload_n 3 dL_law_914 rfl rfl ?_
      refine j_iconst (3 : Int32) dL_law_915 ki_3 ?_
      refine j_iadd dL_law_916 ?_
      refine j_sld hX dL_law_917 h (fun h => ?_)
      obtain ⟨q63, e64, h⟩ := ok_b h
      refine j_callV (As := [.int (xs (ix (s.1 + (1 : Int32)))), .int (xs (ix (s.1 + (2 : Int32)))), .int (xs (ix (s.1 + (3 : Int32))))]) (st := [.int q61.1]) [.int q63.1, .int q61.1] (c_X12_orders (kl κ) (gm κ) (kA κ) (xs (ix (s.1 + (1 : Int32)))) (xs (ix (s.1 + (2 : Int32)))) (xs (ix (s.1 + (3 : Int32)))) q61.2 q63 e64) ck_RL_93 im_X12_orders se_X12_orders sh_97 cx_12 ⟨rfl, rfl⟩ ⟨by decide, by decide⟩ rfl rfl (Nat.le_of_ble_eq_true rfl) dL_law_918 _ rfl ?_
      refine j_ic_eq 1725 dL_law_921 (by decide) h (fun h => ?_) (fun h => ?_)
      · refine j_loc [(0, .ref b), (1, .ref (ad (gm κ) 0)), (2, .ref (ad (gm κ) 97)), (3, .int s.1)] [0, 1, 2, 3] rfl ?_
        exact t_L_law_j1725 b L xs hX s.1 q63.2 (fun _ h => h) K0 h
      · exact ok_n h
    refine j_cs (17 : Int32) h (fun h => ?_) (fun n17 h => ?_)
    · refine j_tab 926 dL_law_33 (by decide) (by decide) rfl (by decide) ?_
      refine j_aload_n 1 dL_law_926 rfl rfl ?_
      refine j_aload_n 0 dL_law_927 rfl rfl ?_
      refine j_iload_n 3 dL_law_928 rfl rfl ?_
      refine j_iconst (1 : Int32) dL_law_929 ki_1 ?_
      refine j_iadd dL_law_930 ?_
      refine j_sld hX dL_law_931 h (fun h => ?_)
      refine j_callV (As := [.int (xs (ix (s.1 + (1 : Int32))))]) (st := []) [.int (X11_fault (xs (ix (s.1 + (1 : Int32)))) s.2)] (c_X11_fault (kl κ) (gm κ) (kA κ) (xs (ix (s.1 + (1 : Int32)))) s.2) ck_RL_94 im_X11_fault se_X11_fault sh_0 cx_11 ⟨rfl, rfl⟩ ⟨by decide, by decide⟩ rfl rfl (Nat.le_of_ble_eq_true rfl) dL_law_932 _ rfl ?_
      refine j_aload_n 2 dL_law_935 rfl rfl ?_
      refine j_aload_n 0 dL_law_936 rfl rfl ?_
      refine j_iload_n 3 dL_law_937 rfl rfl ?_
      refine j_iconst (1 : Int32) dL_law_938 ki_1 ?_
      refine j_iadd dL_law_939 ?_
      refine j_sld hX dL_law_940 h (fun h => ?_)
      refine j_callV (As := [.int (xs (ix (s.1 + (1 : Int32))))]) (st := [.int (X11_fault (xs (ix (s.1 + (1 : Int32)))) s.2)]) [.int (X12_fault (xs (ix (s.1 + (1 : Int32)))) s.2), .int (X11_fault (xs (ix (s.1 + (1 : Int32)))) s.2)] (c_X12_fault (kl κ) (gm κ) (kA κ) (xs (ix (s.1 + (1 : Int32)))) s.2) ck_RL_97 im_X12_fault se_X12_fault sh_97 cx_12 ⟨rfl, rfl⟩ ⟨by decide, by decide⟩ rfl rfl (Nat.le_of_ble_eq_true rfl) dL_law_941 _ rfl ?_
      refine j_ic_eq 1725 dL_law_944 (by decide) h (fun h => ?_) (fun h => ?_)
      · refine j_loc [(0, .ref b), (1, .ref (ad (gm κ) 0)), (2, .ref (ad (gm κ) 97)), (3, .int s.1)] [0, 1, 2, 3] rfl ?_
        exact t_L_law_j1725 b L xs hX s.1 s.2 (fun _ h => h) K0 h
      · exact ok_n h
    refine j_cs (18 : Int32) h (fun h => ?_) (fun n18 h => ?_)
    · refine j_tab 949 dL_law_33 (by decide) (by decide) rfl (by decide) ?_
      refine j_aload_n 1 dL_law_949 rfl rfl ?_
      refine j_aload_n 0 dL_law_950 rfl rfl ?_
      refine j_iload_n 3 dL_law_951 rfl rfl ?_
      refine j_iconst (1 : Int32) dL_law_952 ki_1 ?_
      refine j_iadd dL_law_953 ?_
      refine j_sld hX dL_law_954 h (fun h => ?_)
      refine j_aload_n 0 dL_law_955 rfl rfl ?_
      refine j_iload_n 3 dL_law_956 rfl rfl ?_
      refine j_iconst (2 : Int32) dL_law_957 ki_2 ?_
      refine j_iadd dL_law_958 ?_
      refine j_sld hX dL_law_959 h (fun h => ?_)
      refine j_aload_n 0 dL_law_960 rfl rfl ?_
      refine j_iload_n 3 dL_law_961 rfl rfl ?_
      refine j_iconst (3 : Int32) dL_law_962 ki_3 ?_
      refine j_iadd dL_law_963 ?_
      refine j_sld hX dL_law_964 h (fun h => ?_)
      obtain ⟨q65, e66, h⟩ := ok_b h
      refine j_callV (As := [.int (xs (ix (s.1 + (1 : Int32)))), .int (xs (ix (s.1 + (2 : Int32)))), .int (xs (ix (s.1 + (3 : Int32))))]) (st := []) [.int q65.1] (c_X11_rules (kl κ) (gm κ) (kA κ) (xs (ix (s.1 + (1 : Int32)))) (xs (ix (s.1 + (2 : Int32)))) (xs (ix (s.1 + (3 : Int32)))) s.2 q65 e66) ck_RL_98 im_X11_rules se_X11_rules sh_0 cx_11 ⟨rfl, rfl⟩ ⟨by decide, by decide⟩ rfl rfl (Nat.le_of_ble_eq_true rfl) dL_law_965 _ rfl ?_
      refine j_aload_n 2 dL_law_968 rfl rfl ?_
      refine j_aload_n 0 dL_law_969 rfl rfl ?_
      refine j_iload_n 3 dL_law_970 rfl rfl ?_
      refine j_iconst (1 : Int32) dL_law_971 ki_1 ?_
      refine j_iadd dL_law_972 ?_
      refine j_sld hX dL_law_973 h (fun h => ?_)
      refine j_aload_n 0 dL_law_974 rfl rfl ?_
      refine j_iload_n 3 dL_law_975 rfl rfl ?_
      refine j_iconst (2 : Int32) dL_law_976 ki_2 ?_
      refine j_iadd dL_law_977 ?_
      refine j_sld hX dL_law_978 h (fun h => ?_)
      refine j_aload_n 0 dL_law_979 rfl rfl ?_
      refine j_iload_n 3 dL_law_980 rfl rfl ?_
      refine j_iconst (3 : Int32) dL_law_981 ki_3 ?_
      refine j_iadd dL_law_982 ?_
      refine j_sld hX dL_law_983 h (fun h => ?_)
      obtain ⟨q67, e68, h⟩ := ok_b h
      refine j_callV (As := [.int (xs (ix (s.1 + (1 : Int32)))), .int (xs (ix (s.1 + (2 : Int32)))), .int (xs (ix (s.1 + (3 : Int32))))]) (st := [.int q65.1]) [.int q67.1, .int q65.1] (c_X12_rules (kl κ) (gm κ) (kA κ) (xs (ix (s.1 + (1 : Int32)))) (xs (ix (s.1 + (2 : Int32)))) (xs (ix (s.1 + (3 : Int32)))) q65.2 q67 e68) ck_RL_101 im_X12_rules se_X12_rules sh_97 cx_12 ⟨rfl, rfl⟩ ⟨by decide, by decide⟩ rfl rfl (Nat.le_of_ble_eq_true rfl) dL_law_984 _ rfl ?_
      refine j_ic_eq 1725 dL_law_987 (by decide) h (fun h => ?_) (fun h => ?_)
      · refine j_loc [(0, .ref b), (1, .ref (ad (gm κ) 0)), (2, .ref (ad (gm κ) 97)), (3, .int s.1)] [0, 1, 2, 3] rfl ?_
        exact t_L_law_j1725 b L xs hX s.1 q67.2 (fun _ h => h) K0 h
      · exact ok_n h
    refine j_cs (19 : Int32) h (fun h => ?_) (fun n19 h => ?_)
    · refine j_tab 992 dL_law_33 (by decide) (by decide) rfl (by decide) ?_
      refine j_aload_n 1 dL_law_992 rfl rfl ?_
      refine j_aload_n 0 dL_law_993 rfl rfl ?_
      refine j_iload_n 3 dL_law_994 rfl rfl ?_
      refine j_iconst (1 : Int32) dL_law_995 ki_1 ?_
      refine j_iadd dL_law_996 ?_
      refine j_sld hX dL_law_997 h (fun h => ?_)
      refine j_aload_n 0 dL_law_998 rfl rfl ?_
      refine j_iload_n 3 dL_law_999 rfl rfl ?_
      refine j_iconst (2 : Int32) dL_law_1000 ki_2 ?_
      refine j_iadd dL_law_1001 ?_
      refine j_sld hX dL_law_1002 h (fun h => ?_)
      refine j_aload_n 0 dL_law_1003 rfl rfl ?_
      refine j_iload_n 3 dL_law_1004 rfl rfl ?_
      refine j_iconst (3 : Int32) dL_law_1005 ki_3 ?_
      refine j_iadd dL_law_1006 ?_
      refine j_sld hX dL_law_1007 h (fun h => ?_)
      obtain ⟨q69, e70, h⟩ := ok_b h
      refine j_callV (As := [.int (xs (ix (s.1 + (1 : Int32)))), .int (xs (ix (s.1 + (2 : Int32)))), .int (xs (ix (s.1 + (3 : Int32))))]) (st := []) [.int q69.1] (c_X11_struck (kl κ) (gm κ) (kA κ) (xs (ix (s.1 + (1 : Int32)))) (xs (ix (s.1 + (2 : Int32)))) (xs (ix (s.1 + (3 : Int32)))) s.2 q69 e70) ck_RL_102 im_X11_struck se_X11_struck sh_0 cx_11 ⟨rfl, rfl⟩ ⟨by decide, by decide⟩ rfl rfl (Nat.le_of_ble_eq_true rfl) dL_law_1008 _ rfl ?_
      refine j_aload_n 2 dL_law_1011 rfl rfl ?_
      refine j_aload_n 0 dL_law_1012 rfl rfl ?_
      refine j_iload_n 3 dL_law_1013 rfl rfl ?_
      refine j_iconst (1 : Int32) dL_law_1014 ki_1 ?_
      refine j_iadd dL_law_1015 ?_
      refine j_sld hX dL_law_1016 h (fun h => ?_)
      refine j_aload_n 0 dL_law_1017 rfl rfl ?_
      refine j_iload_n 3 dL_law_1018 rfl rfl ?_
      refine j_iconst (2 : Int32) dL_law_1019 ki_2 ?_
      refine j_iadd dL_law_1020 ?_
      refine j_sld hX dL_law_1021 h (fun h => ?_)
      refine j_aload_n 0 dL_law_1022 rfl rfl ?_
      refine j_iload_n 3 dL_law_1023 rfl rfl ?_
      refine j_iconst (3 : Int32) dL_law_1024 ki_3 ?_
      refine j_iadd dL_law_1025 ?_
      refine j_sld hX dL_law_1026 h (fun h => ?_)
      obtain ⟨q71, e72, h⟩ := ok_b h
      refine j_callV (As := [.int (xs (ix (s.1 + (1 : Int32)))), .int (xs (ix (s.1 + (2 : Int32)))), .int (xs (ix (s.1 + (3 : Int32))))]) (st := [.int q69.1]) [.int q71.1, .int q69.1] (c_X12_struck (kl κ) (gm κ) (kA κ) (xs (ix (s.1 + (1 : Int32)))) (xs (ix (s.1 + (2 : Int32)))) (xs (ix (s.1 + (3 : Int32)))) q69.2 q71 e72) ck_RL_105 im_X12_struck se_X12_struck sh_97 cx_12 ⟨rfl, rfl⟩ ⟨by decide, by decide⟩ rfl rfl (Nat.le_of_ble_eq_true rfl) dL_law_1027 _ rfl ?_
      refine j_ic_eq 1725 dL_law_1030 (by decide) h (fun h => ?_) (fun h => ?_)
      · refine j_loc [(0, .ref b), (1, .ref (ad (gm κ) 0)), (2, .ref (ad (gm κ) 97)), (3, .int s.1)] [0, 1, 2, 3] rfl ?_
        exact t_L_law_j1725 b L xs hX s.1 q71.2 (fun _ h => h) K0 h
      · exact ok_n h
    refine j_cs (20 : Int32) h (fun h => ?_) (fun n20 h => ?_)
    · refine j_tab 1035 dL_law_33 (by decide) (by decide) rfl (by decide) ?_
      refine j_aload_n 1 dL_law_1035 rfl rfl ?_
      refine j_aload_n 0 dL_law_1036 rfl rfl ?_
      refine j_iload_n 3 dL_law_1037 rfl rfl ?_
      refine j_iconst (1 : Int32) dL_law_1038 ki_1 ?_
      refine j_iadd dL_law_1039 ?_
      refine j_sld hX dL_law_1040 h (fun h => ?_)
      refine j_aload_n 0 dL_law_1041 rfl rfl ?_
      refine j_iload_n 3 dL_law_1042 rfl rfl ?_
      refine j_iconst (2 : Int32) dL_law_1043 ki_2 ?_
      refine j_iadd dL_law_1044 ?_
      refine j_sld hX dL_law_1045 h (fun h => ?_)
      refine j_aload_n 0 dL_law_1046 rfl rfl ?_
      refine j_iload_n 3 dL_law_1047 rfl rfl ?_
      refine j_iconst (3 : Int32) dL_law_1048 ki_3 ?_
      refine j_iadd dL_law_1049 ?_
      refine j_sld hX dL_law_1050 h (fun h => ?_)
      obtain ⟨q73, e74, h⟩ := ok_b h
      refine j_callV (As := [.int (xs (ix (s.1 + (1 : Int32)))), .int (xs (ix (s.1 + (2 : Int32)))), .int (xs (ix (s.1 + (3 : Int32))))]) (st := []) [.int q73.1] (c_X11_taught (kl κ) (gm κ) (kA κ) (xs (ix (s.1 + (1 : Int32)))) (xs (ix (s.1 + (2 : Int32)))) (xs (ix (s.1 + (3 : Int32)))) s.2 q73 e74) ck_RL_106 im_X11_taught se_X11_taught sh_0 cx_11 ⟨rfl, rfl⟩ ⟨by decide, by decide⟩ rfl rfl (Nat.le_of_ble_eq_true rfl) dL_law_1051 _ rfl ?_
      refine j_aload_n 2 dL_law_1054 rfl rfl ?_
      refine j_aload_n 0 dL_law_1055 rfl rfl ?_
      refine j_iload_n 3 dL_law_1056 rfl rfl ?_
      refine j_iconst (1 : Int32) dL_law_1057 ki_1 ?_
      refine j_iadd dL_law_1058 ?_
      refine j_sld hX dL_law_1059 h (fun h => ?_)
      refine j_aload_n 0 dL_law_1060 rfl rfl ?_
      refine j_iload_n 3 dL_law_1061 rfl rfl ?_
      refine j_iconst (2 : Int32) dL_law_1062 ki_2 ?_
      refine j_iadd dL_law_1063 ?_
      refine j_sld hX dL_law_1064 h (fun h => ?_)
      refine j_aload_n 0 dL_law_1065 rfl rfl ?_
      refine j_iload_n 3 dL_law_1066 rfl rfl ?_
      refine j_iconst (3 : Int32) dL_law_1067 ki_3 ?_
      refine j_iadd dL_law_1068 ?_
      refine j_sld hX dL_law_1069 h (fun h => ?_)
      obtain ⟨q75, e76, h⟩ := ok_b h
      refine j_callV (As := [.int (xs (ix (s.1 + (1 : Int32)))), .int (xs (ix (s.1 + (2 : Int32)))), .int (xs (ix (s.1 + (3 : Int32))))]) (st := [.int q73.1]) [.int q75.1, .int q73.1] (c_X12_taught (kl κ) (gm κ) (kA κ) (xs (ix (s.1 + (1 : Int32)))) (xs (ix (s.1 + (2 : Int32)))) (xs (ix (s.1 + (3 : Int32)))) q73.2 q75 e76) ck_RL_109 im_X12_taught se_X12_taught sh_97 cx_12 ⟨rfl, rfl⟩ ⟨by decide, by decide⟩ rfl rfl (Nat.le_of_ble_eq_true rfl) dL_law_1070 _ rfl ?_
      refine j_ic_eq 1725 dL_law_1073 (by decide) h (fun h => ?_) (fun h => ?_)
      · refine j_loc [(0, .ref b), (1, .ref (ad (gm κ) 0)), (2, .ref (ad (gm κ) 97)), (3, .int s.1)] [0, 1, 2, 3] rfl ?_
        exact t_L_law_j1725 b L xs hX s.1 q75.2 (fun _ h => h) K0 h
      · exact ok_n h
    refine j_cs (21 : Int32) h (fun h => ?_) (fun n21 h => ?_)
    · refine j_tab 1078 dL_law_33 (by decide) (by decide) rfl (by decide) ?_
      refine j_aload_n 1 dL_law_1078 rfl rfl ?_
      refine j_aload_n 0 dL_law_1079 rfl rfl ?_
      refine j_iload_n 3 dL_law_1080 rfl rfl ?_
      refine j_iconst (1 : Int32) dL_law_1081 ki_1 ?_
      refine j_iadd dL_law_1082 ?_
      refine j_sld hX dL_law_1083 h (fun h => ?_)
      refine j_aload_n 0 dL_law_1084 rfl rfl ?_
      refine j_iload_n 3 dL_law_1085 rfl rfl ?_
      refine j_iconst (2 : Int32) dL_law_1086 ki_2 ?_
      refine j_iadd dL_law_1087 ?_
      refine j_sld hX dL_law_1088 h (fun h => ?_)
      refine j_aload_n 0 dL_law_1089 rfl rfl ?_
      refine j_iload_n 3 dL_law_1090 rfl rfl ?_
      refine j_iconst (3 : Int32) dL_law_1091 ki_3 ?_
      refine j_iadd dL_law_1092 ?_
      refine j_sld hX dL_law_1093 h (fun h => ?_)
      refine j_aload_n 0 dL_law_1094 rfl rfl ?_
      refine j_iload_n 3 dL_law_1095 rfl rfl ?_
      refine j_iconst (4 : Int32) dL_law_1096 ki_4 ?_
      refine j_iadd dL_law_1097 ?_
      refine j_sld hX dL_law_1098 h (fun h => ?_)
      obtain ⟨q77, e78, h⟩ := ok_b h
      refine j_callV (As := [.int (xs (ix (s.1 + (1 : Int32)))), .int (xs (ix (s.1 + (2 : Int32)))), .int (xs (ix (s.1 + (3 : Int32)))), .int (xs (ix (s.1 + (4 : Int32))))]) (st := []) [.int q77.1] (c_X11_lesson (kl κ) (gm κ) (kA κ) (xs (ix (s.1 + (1 : Int32)))) (xs (ix (s.1 + (2 : Int32)))) (xs (ix (s.1 + (3 : Int32)))) (xs (ix (s.1 + (4 : Int32)))) s.2 q77 e78) ck_RL_110 im_X11_lesson se_X11_lesson sh_0 cx_11 ⟨rfl, rfl⟩ ⟨by decide, by decide⟩ rfl rfl (Nat.le_of_ble_eq_true rfl) dL_law_1099 _ rfl ?_
      refine j_aload_n 2 dL_law_1102 rfl rfl ?_
      refine j_aload_n 0 dL_law_1103 rfl rfl ?_
      refine j_iload_n 3 dL_law_1104 rfl rfl ?_
      refine j_iconst (1 : Int32) dL_law_1105 ki_1 ?_
      refine j_iadd dL_law_1106 ?_
      refine j_sld hX dL_law_1107 h (fun h => ?_)
      refine j_aload_n 0 dL_law_1108 rfl rfl ?_
      refine j_iload_n 3 dL_law_1109 rfl rfl ?_
      refine j_iconst (2 : Int32) dL_law_1110 ki_2 ?_
      refine j_iadd dL_law_1111 ?_
      refine j_sld hX dL_law_1112 h (fun h => ?_)
      refine j_aload_n 0 dL_law_1113 rfl rfl ?_
      refine j_iload_n 3 dL_law_1114 rfl rfl ?_
      refine j_iconst (3 : Int32) dL_law_1115 ki_3 ?_
      refine j_iadd dL_law_1116 ?_
      refine j_sld hX dL_law_1117 h (fun h => ?_)
      refine j_aload_n 0 dL_law_1118 rfl rfl ?_
      refine j_iload_n 3 dL_law_1119 rfl rfl ?_
      refine j_iconst (4 : Int32) dL_law_1120 ki_4 ?_
      refine j_iadd dL_law_1121 ?_
      refine j_sld hX dL_law_1122 h (fun h => ?_)
      obtain ⟨q79, e80, h⟩ := ok_b h
      refine j_callV (As := [.int (xs (ix (s.1 + (1 : Int32)))), .int (xs (ix (s.1 + (2 : Int32)))), .int (xs (ix (s.1 + (3 : Int32)))), .int (xs (ix (s.1 + (4 : Int32))))]) (st := [.int q77.1]) [.int q79.1, .int q77.1] (c_X12_lesson (kl κ) (gm κ) (kA κ) (xs (ix (s.1 + (1 : Int32)))) (xs (ix (s.1 + (2 : Int32)))) (xs (ix (s.1 + (3 : Int32)))) (xs (ix (s.1 + (4 : Int32)))) q77.2 q79 e80) ck_RL_114 im_X12_lesson se_X12_lesson sh_97 cx_12 ⟨rfl, rfl⟩ ⟨by decide, by decide⟩ rfl rfl (Nat.le_of_ble_eq_true rfl) dL_law_1123 _ rfl ?_
      refine j_ic_eq 1725 dL_law_1126 (by decide) h (fun h => ?_) (fun h => ?_)
      · refine j_loc [(0, .ref b), (1, .ref (ad (gm κ) 0)), (2, .ref (ad (gm κ) 97)), (3, .int s.1)] [0, 1, 2, 3] rfl ?_
        exact t_L_law_j1725 b L xs hX s.1 q79.2 (fun _ h => h) K0 h
      · exact ok_n h
    refine j_cs (22 : Int32) h (fun h => ?_) (fun n22 h => ?_)
    · refine j_tab 1131 dL_law_33 (by decide) (by decide) rfl (by decide) ?_
      refine j_aload_n 1 dL_law_1131 rfl rfl ?_
      refine j_aload_n 0 dL_law_1132 rfl rfl ?_
      refine j_iload_n 3 dL_law_1133 rfl rfl ?_
      refine j_iconst (1 : Int32) dL_law_1134 ki_1 ?_
      refine j_iadd dL_law_1135 ?_
      refine j_sld hX dL_law_1136 h (fun h => ?_)
      obtain ⟨q81, e82, h⟩ := ok_b h
      refine j_callV (As := [.int (xs (ix (s.1 + (1 : Int32))))]) (st := []) [.int q81.1] (c_X11_fade (kl κ) (gm κ) (kA κ) (xs (ix (s.1 + (1 : Int32)))) s.2 q81 e82) ck_RL_115 im_X11_fade se_X11_fade sh_0 cx_11 ⟨rfl, rfl⟩ ⟨by decide, by decide⟩ rfl rfl (Nat.le_of_ble_eq_true rfl) dL_law_1137 _ rfl ?_
      refine j_aload_n 2 dL_law_1140 rfl rfl ?_
      refine j_aload_n 0 dL_law_1141 rfl rfl ?_
      refine j_iload_n 3 dL_law_1142 rfl rfl ?_
      refine j_iconst (1 : Int32) dL_law_1143 ki_1 ?_
      refine j_iadd dL_law_1144 ?_
      refine j_sld hX dL_law_1145 h (fun h => ?_)
      obtain ⟨q83, e84, h⟩ := ok_b h
      refine j_callV (As := [.int (xs (ix (s.1 + (1 : Int32))))]) (st := [.int q81.1]) [.int q83.1, .int q81.1] (c_X12_fade (kl κ) (gm κ) (kA κ) (xs (ix (s.1 + (1 : Int32)))) q81.2 q83 e84) ck_RL_118 im_X12_fade se_X12_fade sh_97 cx_12 ⟨rfl, rfl⟩ ⟨by decide, by decide⟩ rfl rfl (Nat.le_of_ble_eq_true rfl) dL_law_1146 _ rfl ?_
      refine j_ic_eq 1725 dL_law_1149 (by decide) h (fun h => ?_) (fun h => ?_)
      · refine j_loc [(0, .ref b), (1, .ref (ad (gm κ) 0)), (2, .ref (ad (gm κ) 97)), (3, .int s.1)] [0, 1, 2, 3] rfl ?_
        exact t_L_law_j1725 b L xs hX s.1 q83.2 (fun _ h => h) K0 h
      · exact ok_n h
    refine j_cs (23 : Int32) h (fun h => ?_) (fun n23 h => ?_)
    · refine j_tab 1154 dL_law_33 (by decide) (by decide) rfl (by decide) ?_
      refine j_aload_n 1 dL_law_1154 rfl rfl ?_
      refine j_aload_n 0 dL_law_1155 rfl rfl ?_
      refine j_iload_n 3 dL_law_1156 rfl rfl ?_
      refine j_iconst (1 : Int32) dL_law_1157 ki_1 ?_
      refine j_iadd dL_law_1158 ?_
      refine j_sld hX dL_law_1159 h (fun h => ?_)
      refine j_aload_n 0 dL_law_1160 rfl rfl ?_
      refine j_iload_n 3 dL_law_1161 rfl rfl ?_
      refine j_iconst (2 : Int32) dL_law_1162 ki_2 ?_
      refine j_iadd dL_law_1163 ?_
      refine j_sld hX dL_law_1164 h (fun h => ?_)
      obtain ⟨q85, e86, h⟩ := ok_b h
      refine j_callV (As := [.int (xs (ix (s.1 + (1 : Int32)))), .int (xs (ix (s.1 + (2 : Int32))))]) (st := []) [.int q85.1] (c_X11_knows (kl κ) (gm κ) (kA κ) (xs (ix (s.1 + (1 : Int32)))) (xs (ix (s.1 + (2 : Int32)))) s.2 q85 e86) ck_RL_119 im_X11_knows se_X11_knows sh_0 cx_11 ⟨rfl, rfl⟩ ⟨by decide, by decide⟩ rfl rfl (Nat.le_of_ble_eq_true rfl) dL_law_1165 _ rfl ?_
      refine j_aload_n 2 dL_law_1168 rfl rfl ?_
      refine j_aload_n 0 dL_law_1169 rfl rfl ?_
      refine j_iload_n 3 dL_law_1170 rfl rfl ?_
      refine j_iconst (1 : Int32) dL_law_1171 ki_1 ?_
      refine j_iadd dL_law_1172 ?_
      refine j_sld hX dL_law_1173 h (fun h => ?_)
      refine j_aload_n 0 dL_law_1174 rfl rfl ?_
      refine j_iload_n 3 dL_law_1175 rfl rfl ?_
      refine j_iconst (2 : Int32) dL_law_1176 ki_2 ?_
      refine j_iadd dL_law_1177 ?_
      refine j_sld hX dL_law_1178 h (fun h => ?_)
      obtain ⟨q87, e88, h⟩ := ok_b h
      refine j_callV (As := [.int (xs (ix (s.1 + (1 : Int32)))), .int (xs (ix (s.1 + (2 : Int32))))]) (st := [.int q85.1]) [.int q87.1, .int q85.1] (c_X12_knows (kl κ) (gm κ) (kA κ) (xs (ix (s.1 + (1 : Int32)))) (xs (ix (s.1 + (2 : Int32)))) q85.2 q87 e88) ck_RL_122 im_X12_knows se_X12_knows sh_97 cx_12 ⟨rfl, rfl⟩ ⟨by decide, by decide⟩ rfl rfl (Nat.le_of_ble_eq_true rfl) dL_law_1179 _ rfl ?_
      refine j_ic_eq 1725 dL_law_1182 (by decide) h (fun h => ?_) (fun h => ?_)
      · refine j_loc [(0, .ref b), (1, .ref (ad (gm κ) 0)), (2, .ref (ad (gm κ) 97)), (3, .int s.1)] [0, 1, 2, 3] rfl ?_
        exact t_L_law_j1725 b L xs hX s.1 q87.2 (fun _ h => h) K0 h
      · exact ok_n h
    refine j_cs (24 : Int32) h (fun h => ?_) (fun n24 h => ?_)
    · refine j_tab 1187 dL_law_33 (by decide) (by decide) rfl (by decide) ?_
      refine j_aload_n 1 dL_law_1187 rfl rfl ?_
      refine j_aload_n 0 dL_law_1188 rfl rfl ?_
      refine j_iload_n 3 dL_law_1189 rfl rfl ?_
      refine j_iconst (1 : Int32) dL_law_1190 ki_1 ?_
      refine j_iadd dL_law_1191 ?_
      refine j_sld hX dL_law_1192 h (fun h => ?_)
      refine j_aload_n 0 dL_law_1193 rfl rfl ?_
      refine j_iload_n 3 dL_law_1194 rfl rfl ?_
      refine j_iconst (2 : Int32) dL_law_1195 ki_2 ?_
      refine j_iadd dL_law_1196 ?_
      refine j_sld hX dL_law_1197 h (fun h => ?_)
      refine j_aload_n 0 dL_law_1198 rfl rfl ?_
      refine j_iload_n 3 dL_law_1199 rfl rfl ?_
      refine j_iconst (3 : Int32) dL_law_1200 ki_3 ?_
      refine j_iadd dL_law_1201 ?_
      refine j_sld hX dL_law_1202 h (fun h => ?_)
      obtain ⟨q89, e90, h⟩ := ok_b h
      refine j_callV (As := [.int (xs (ix (s.1 + (1 : Int32)))), .int (xs (ix (s.1 + (2 : Int32)))), .int (xs (ix (s.1 + (3 : Int32))))]) (st := []) [.int q89.1] (c_X11_hours (kl κ) (gm κ) (kA κ) (xs (ix (s.1 + (1 : Int32)))) (xs (ix (s.1 + (2 : Int32)))) (xs (ix (s.1 + (3 : Int32)))) s.2 q89 e90) ck_RL_123 im_X11_hours se_X11_hours sh_0 cx_11 ⟨rfl, rfl⟩ ⟨by decide, by decide⟩ rfl rfl (Nat.le_of_ble_eq_true rfl) dL_law_1203 _ rfl ?_
      refine j_aload_n 2 dL_law_1206 rfl rfl ?_
      refine j_aload_n 0 dL_law_1207 rfl rfl ?_
      refine j_iload_n 3 dL_law_1208 rfl rfl ?_
      refine j_iconst (1 : Int32) dL_law_1209 ki_1 ?_
      refine j_iadd dL_law_1210 ?_
      refine j_sld hX dL_law_1211 h (fun h => ?_)
      refine j_aload_n 0 dL_law_1212 rfl rfl ?_
      refine j_iload_n 3 dL_law_1213 rfl rfl ?_
      refine j_iconst (2 : Int32) dL_law_1214 ki_2 ?_
      refine j_iadd dL_law_1215 ?_
      refine j_sld hX dL_law_1216 h (fun h => ?_)
      refine j_aload_n 0 dL_law_1217 rfl rfl ?_
      refine j_iload_n 3 dL_law_1218 rfl rfl ?_
      refine j_iconst (3 : Int32) dL_law_1219 ki_3 ?_
      refine j_iadd dL_law_1220 ?_
      refine j_sld hX dL_law_1221 h (fun h => ?_)
      obtain ⟨q91, e92, h⟩ := ok_b h
      refine j_callV (As := [.int (xs (ix (s.1 + (1 : Int32)))), .int (xs (ix (s.1 + (2 : Int32)))), .int (xs (ix (s.1 + (3 : Int32))))]) (st := [.int q89.1]) [.int q91.1, .int q89.1] (c_X12_hours (kl κ) (gm κ) (kA κ) (xs (ix (s.1 + (1 : Int32)))) (xs (ix (s.1 + (2 : Int32)))) (xs (ix (s.1 + (3 : Int32)))) q89.2 q91 e92) ck_RL_126 im_X12_hours se_X12_hours sh_97 cx_12 ⟨rfl, rfl⟩ ⟨by decide, by decide⟩ rfl rfl (Nat.le_of_ble_eq_true rfl) dL_law_1222 _ rfl ?_
      refine j_ic_eq 1725 dL_law_1225 (by decide) h (fun h => ?_) (fun h => ?_)
      · refine j_loc [(0, .ref b), (1, .ref (ad (gm κ) 0)), (2, .ref (ad (gm κ) 97)), (3, .int s.1)] [0, 1, 2, 3] rfl ?_
        exact t_L_law_j1725 b L xs hX s.1 q91.2 (fun _ h => h) K0 h
      · exact ok_n h
    refine j_cs (25 : Int32) h (fun h => ?_) (fun n25 h => ?_)
    · refine j_tab 1230 dL_law_33 (by decide) (by decide) rfl (by decide) ?_
      refine j_aload_n 1 dL_law_1230 rfl rfl ?_
      refine j_aload_n 0 dL_law_1231 rfl rfl ?_
      refine j_iload_n 3 dL_law_1232 rfl rfl ?_
      refine j_iconst (1 : Int32) dL_law_1233 ki_1 ?_
      refine j_iadd dL_law_1234 ?_
      refine j_sld hX dL_law_1235 h (fun h => ?_)
      refine j_aload_n 0 dL_law_1236 rfl rfl ?_
      refine j_iload_n 3 dL_law_1237 rfl rfl ?_
      refine j_iconst (2 : Int32) dL_law_1238 ki_2 ?_
      refine j_iadd dL_law_1239 ?_
      refine j_sld hX dL_law_1240 h (fun h => ?_)
      obtain ⟨q93, e94, h⟩ := ok_b h
      refine j_callV (As := [.int (xs (ix (s.1 + (1 : Int32)))), .int (xs (ix (s.1 + (2 : Int32))))]) (st := []) [.int q93.1] (c_X11_gap (kl κ) (gm κ) (kA κ) (xs (ix (s.1 + (1 : Int32)))) (xs (ix (s.1 + (2 : Int32)))) s.2 q93 e94) ck_RL_127 im_X11_gap se_X11_gap sh_0 cx_11 ⟨rfl, rfl⟩ ⟨by decide, by decide⟩ rfl rfl (Nat.le_of_ble_eq_true rfl) dL_law_1241 _ rfl ?_
      refine j_aload_n 2 dL_law_1244 rfl rfl ?_
      refine j_aload_n 0 dL_law_1245 rfl rfl ?_
      refine j_iload_n 3 dL_law_1246 rfl rfl ?_
      refine j_iconst (1 : Int32) dL_law_1247 ki_1 ?_
      refine j_iadd dL_law_1248 ?_
      refine j_sld hX dL_law_1249 h (fun h => ?_)
      refine j_aload_n 0 dL_law_1250 rfl rfl ?_
      refine j_iload_n 3 dL_law_1251 rfl rfl ?_
      refine j_iconst (2 : Int32) dL_law_1252 ki_2 ?_
      refine j_iadd dL_law_1253 ?_
      refine j_sld hX dL_law_1254 h (fun h => ?_)
      obtain ⟨q95, e96, h⟩ := ok_b h
      refine j_callV (As := [.int (xs (ix (s.1 + (1 : Int32)))), .int (xs (ix (s.1 + (2 : Int32))))]) (st := [.int q93.1]) [.int q95.1, .int q93.1] (c_X12_gap (kl κ) (gm κ) (kA κ) (xs (ix (s.1 + (1 : Int32)))) (xs (ix (s.1 + (2 : Int32)))) q93.2 q95 e96) ck_RL_130 im_X12_gap se_X12_gap sh_97 cx_12 ⟨rfl, rfl⟩ ⟨by decide, by decide⟩ rfl rfl (Nat.le_of_ble_eq_true rfl) dL_law_1255 _ rfl ?_
      refine j_ic_eq 1725 dL_law_1258 (by decide) h (fun h => ?_) (fun h => ?_)
      · refine j_loc [(0, .ref b), (1, .ref (ad (gm κ) 0)), (2, .ref (ad (gm κ) 97)), (3, .int s.1)] [0, 1, 2, 3] rfl ?_
        exact t_L_law_j1725 b L xs hX s.1 q95.2 (fun _ h => h) K0 h
      · exact ok_n h
    refine j_cs (26 : Int32) h (fun h => ?_) (fun n26 h => ?_)
    · refine j_tab 1263 dL_law_33 (by decide) (by decide) rfl (by decide) ?_
      refine j_aload_n 1 dL_law_1263 rfl rfl ?_
      refine j_aload_n 0 dL_law_1264 rfl rfl ?_
      refine j_iload_n 3 dL_law_1265 rfl rfl ?_
      refine j_iconst (1 : Int32) dL_law_1266 ki_1 ?_
      refine j_iadd dL_law_1267 ?_
      refine j_sld hX dL_law_1268 h (fun h => ?_)
      refine j_aload_n 0 dL_law_1269 rfl rfl ?_
      refine j_iload_n 3 dL_law_1270 rfl rfl ?_
      refine j_iconst (2 : Int32) dL_law_1271 ki_2 ?_
      refine j_iadd dL_law_1272 ?_
      refine j_sld hX dL_law_1273 h (fun h => ?_)
      refine j_aload_n 0 dL_law_1274 rfl rfl ?_
      refine j_iload_n 3 dL_law_1275 rfl rfl ?_
      refine j_iconst (3 : Int32) dL_law_1276 ki_3 ?_
      refine j_iadd dL_law_1277 ?_
      refine j_sld hX dL_law_1278 h (fun h => ?_)
      refine j_aload_n 0 dL_law_1279 rfl rfl ?_
      refine j_iload_n 3 dL_law_1280 rfl rfl ?_
      refine j_iconst (4 : Int32) dL_law_1281 ki_4 ?_
      refine j_iadd dL_law_1282 ?_
      refine j_sld hX dL_law_1283 h (fun h => ?_)
      obtain ⟨q97, e98, h⟩ := ok_b h
      refine j_callV (As := [.int (xs (ix (s.1 + (1 : Int32)))), .int (xs (ix (s.1 + (2 : Int32)))), .int (xs (ix (s.1 + (3 : Int32)))), .int (xs (ix (s.1 + (4 : Int32))))]) (st := []) [.int q97.1] (c_X11_foretold (kl κ) (gm κ) (kA κ) (xs (ix (s.1 + (1 : Int32)))) (xs (ix (s.1 + (2 : Int32)))) (xs (ix (s.1 + (3 : Int32)))) (xs (ix (s.1 + (4 : Int32)))) s.2 q97 e98) ck_RL_131 im_X11_foretold se_X11_foretold sh_0 cx_11 ⟨rfl, rfl⟩ ⟨by decide, by decide⟩ rfl rfl (Nat.le_of_ble_eq_true rfl) dL_law_1284 _ rfl ?_
      refine j_aload_n 2 dL_law_1287 rfl rfl ?_
      refine j_aload_n 0 dL_law_1288 rfl rfl ?_
      refine j_iload_n 3 dL_law_1289 rfl rfl ?_
      refine j_iconst (1 : Int32) dL_law_1290 ki_1 ?_
      refine j_iadd dL_law_1291 ?_
      refine j_sld hX dL_law_1292 h (fun h => ?_)
      refine j_aload_n 0 dL_law_1293 rfl rfl ?_
      refine j_iload_n 3 dL_law_1294 rfl rfl ?_
      refine j_iconst (2 : Int32) dL_law_1295 ki_2 ?_
      refine j_iadd dL_law_1296 ?_
      refine j_sld hX dL_law_1297 h (fun h => ?_)
      refine j_aload_n 0 dL_law_1298 rfl rfl ?_
      refine j_iload_n 3 dL_law_1299 rfl rfl ?_
      refine j_iconst (3 : Int32) dL_law_1300 ki_3 ?_
      refine j_iadd dL_law_1301 ?_
      refine j_sld hX dL_law_1302 h (fun h => ?_)
      refine j_aload_n 0 dL_law_1303 rfl rfl ?_
      refine j_iload_n 3 dL_law_1304 rfl rfl ?_
      refine j_iconst (4 : Int32) dL_law_1305 ki_4 ?_
      refine j_iadd dL_law_1306 ?_
      refine j_sld hX dL_law_1307 h (fun h => ?_)
      obtain ⟨q99, e100, h⟩ := ok_b h
      refine j_callV (As := [.int (xs (ix (s.1 + (1 : Int32)))), .int (xs (ix (s.1 + (2 : Int32)))), .int (xs (ix (s.1 + (3 : Int32)))), .int (xs (ix (s.1 + (4 : Int32))))]) (st := [.int q97.1]) [.int q99.1, .int q97.1] (c_X12_foretold (kl κ) (gm κ) (kA κ) (xs (ix (s.1 + (1 : Int32)))) (xs (ix (s.1 + (2 : Int32)))) (xs (ix (s.1 + (3 : Int32)))) (xs (ix (s.1 + (4 : Int32)))) q97.2 q99 e100) ck_RL_135 im_X12_foretold se_X12_foretold sh_97 cx_12 ⟨rfl, rfl⟩ ⟨by decide, by decide⟩ rfl rfl (Nat.le_of_ble_eq_true rfl) dL_law_1308 _ rfl ?_
      refine j_ic_eq 1725 dL_law_1311 (by decide) h (fun h => ?_) (fun h => ?_)
      · refine j_loc [(0, .ref b), (1, .ref (ad (gm κ) 0)), (2, .ref (ad (gm κ) 97)), (3, .int s.1)] [0, 1, 2, 3] rfl ?_
        exact t_L_law_j1725 b L xs hX s.1 q99.2 (fun _ h => h) K0 h
      · exact ok_n h
    refine j_cs (27 : Int32) h (fun h => ?_) (fun n27 h => ?_)
    · refine j_tab 1316 dL_law_33 (by decide) (by decide) rfl (by decide) ?_
      refine j_aload_n 1 dL_law_1316 rfl rfl ?_
      refine j_aload_n 0 dL_law_1317 rfl rfl ?_
      refine j_iload_n 3 dL_law_1318 rfl rfl ?_
      refine j_iconst (1 : Int32) dL_law_1319 ki_1 ?_
      refine j_iadd dL_law_1320 ?_
      refine j_sld hX dL_law_1321 h (fun h => ?_)
      refine j_aload_n 0 dL_law_1322 rfl rfl ?_
      refine j_iload_n 3 dL_law_1323 rfl rfl ?_
      refine j_iconst (2 : Int32) dL_law_1324 ki_2 ?_
      refine j_iadd dL_law_1325 ?_
      refine j_sld hX dL_law_1326 h (fun h => ?_)
      refine j_aload_n 0 dL_law_1327 rfl rfl ?_
      refine j_iload_n 3 dL_law_1328 rfl rfl ?_
      refine j_iconst (3 : Int32) dL_law_1329 ki_3 ?_
      refine j_iadd dL_law_1330 ?_
      refine j_sld hX dL_law_1331 h (fun h => ?_)
      refine j_i2l dL_law_1332 ?_
      refine j_bipush (32 : Int32) dL_law_1333 kb_32 ?_
      refine j_lshl dL_law_1335 ?_
      refine j_aload_n 0 dL_law_1336 rfl rfl ?_
      refine j_iload_n 3 dL_law_1337 rfl rfl ?_
      refine j_iconst (4 : Int32) dL_law_1338 ki_4 ?_
      refine j_iadd dL_law_1339 ?_
      refine j_sld hX dL_law_1340 h (fun h => ?_)
      refine j_i2l dL_law_1341 ?_
      refine j_ldc2 cl_RL_23 dL_law_1342 ?_
      refine j_land dL_law_1345 ?_
      refine j_lor dL_law_1346 ?_
      refine j_aload_n 0 dL_law_1347 rfl rfl ?_
      refine j_iload_n 3 dL_law_1348 rfl rfl ?_
      refine j_iconst (5 : Int32) dL_law_1349 ki_5 ?_
      refine j_iadd dL_law_1350 ?_
      refine j_sld hX dL_law_1351 h (fun h => ?_)
      refine j_i2l dL_law_1352 ?_
      refine j_bipush (32 : Int32) dL_law_1353 kb_32 ?_
      refine j_lshl dL_law_1355 ?_
      refine j_aload_n 0 dL_law_1356 rfl rfl ?_
      refine j_iload_n 3 dL_law_1357 rfl rfl ?_
      refine j_bipush (6 : Int32) dL_law_1358 kb_6 ?_
      refine j_iadd dL_law_1360 ?_
      refine j_sld hX dL_law_1361 h (fun h => ?_)
      refine j_i2l dL_law_1362 ?_
      refine j_ldc2 cl_RL_23 dL_law_1363 ?_
      refine j_land dL_law_1366 ?_
      refine j_lor dL_law_1367 ?_
      obtain ⟨q101, e102, h⟩ := ok_b h
      refine j_callV (As := [.int (xs (ix (s.1 + (1 : Int32)))), .int (xs (ix (s.1 + (2 : Int32)))), .long (((Int32.toInt64 (xs (ix (s.1 + (3 : Int32))))) <<< (Int32.toInt64 (32 : Int32) &&& 63)) ||| ((Int32.toInt64 (xs (ix (s.1 + (4 : Int32))))) &&& (4294967295 : Int64))), .long (((Int32.toInt64 (xs (ix (s.1 + (5 : Int32))))) <<< (Int32.toInt64 (32 : Int32) &&& 63)) ||| ((Int32.toInt64 (xs (ix (s.1 + (6 : Int32))))) &&& (4294967295 : Int64)))]) (st := []) [.int q101.1] (c_X11_proof (kl κ) (gm κ) (kA κ) (xs (ix (s.1 + (1 : Int32)))) (xs (ix (s.1 + (2 : Int32)))) (((Int32.toInt64 (xs (ix (s.1 + (3 : Int32))))) <<< (Int32.toInt64 (32 : Int32) &&& 63)) ||| ((Int32.toInt64 (xs (ix (s.1 + (4 : Int32))))) &&& (4294967295 : Int64))) (((Int32.toInt64 (xs (ix (s.1 + (5 : Int32))))) <<< (Int32.toInt64 (32 : Int32) &&& 63)) ||| ((Int32.toInt64 (xs (ix (s.1 + (6 : Int32))))) &&& (4294967295 : Int64))) s.2 q101 e102) ck_RL_136 im_X11_proof se_X11_proof sh_0 cx_11 ⟨rfl, rfl⟩ ⟨by decide, by decide⟩ rfl rfl (Nat.le_of_ble_eq_true rfl) dL_law_1368 _ rfl ?_
      refine j_aload_n 2 dL_law_1371 rfl rfl ?_
      refine j_aload_n 0 dL_law_1372 rfl rfl ?_
      refine j_iload_n 3 dL_law_1373 rfl rfl ?_
      refine j_iconst (1 : Int32) dL_law_1374 ki_1 ?_
      refine j_iadd dL_law_1375 ?_
      refine j_sld hX dL_law_1376 h (fun h => ?_)
      refine j_aload_n 0 dL_law_1377 rfl rfl ?_
      refine j_iload_n 3 dL_law_1378 rfl rfl ?_
      refine j_iconst (2 : Int32) dL_law_1379 ki_2 ?_
      refine j_iadd dL_law_1380 ?_
      refine j_sld hX dL_law_1381 h (fun h => ?_)
      refine j_aload_n 0 dL_law_1382 rfl rfl ?_
      refine j_iload_n 3 dL_law_1383 rfl rfl ?_
      refine j_iconst (3 : Int32) dL_law_1384 ki_3 ?_
      refine j_iadd dL_law_1385 ?_
      refine j_sld hX dL_law_1386 h (fun h => ?_)
      refine j_i2l dL_law_1387 ?_
      refine j_bipush (32 : Int32) dL_law_1388 kb_32 ?_
      refine j_lshl dL_law_1390 ?_
      refine j_aload_n 0 dL_law_1391 rfl rfl ?_
      refine j_iload_n 3 dL_law_1392 rfl rfl ?_
      refine j_iconst (4 : Int32) dL_law_1393 ki_4 ?_
      refine j_iadd dL_law_1394 ?_
      refine j_sld hX dL_law_1395 h (fun h => ?_)
      refine j_i2l dL_law_1396 ?_
      refine j_ldc2 cl_RL_23 dL_law_1397 ?_
      refine j_land dL_law_1400 ?_
      refine j_lor dL_law_1401 ?_
      refine j_aload_n 0 dL_law_1402 rfl rfl ?_
      refine j_iload_n 3 dL_law_1403 rfl rfl ?_
      refine j_iconst (5 : Int32) dL_law_1404 ki_5 ?_
      refine j_iadd dL_law_1405 ?_
      refine j_sld hX dL_law_1406 h (fun h => ?_)
      refine j_i2l dL_law_1407 ?_
      refine j_bipush (32 : Int32) dL_law_1408 kb_32 ?_
      refine j_lshl dL_law_1410 ?_
      refine j_aload_n 0 dL_law_1411 rfl rfl ?_
      refine j_iload_n 3 dL_law_1412 rfl rfl ?_
      refine j_bipush (6 : Int32) dL_law_1413 kb_6 ?_
      refine j_iadd dL_law_1415 ?_
      refine j_sld hX dL_law_1416 h (fun h => ?_)
      refine j_i2l dL_law_1417 ?_
      refine j_ldc2 cl_RL_23 dL_law_1418 ?_
      refine j_land dL_law_1421 ?_
      refine j_lor dL_law_1422 ?_
      obtain ⟨q103, e104, h⟩ := ok_b h
      refine j_callV (As := [.int (xs (ix (s.1 + (1 : Int32)))), .int (xs (ix (s.1 + (2 : Int32)))), .long (((Int32.toInt64 (xs (ix (s.1 + (3 : Int32))))) <<< (Int32.toInt64 (32 : Int32) &&& 63)) ||| ((Int32.toInt64 (xs (ix (s.1 + (4 : Int32))))) &&& (4294967295 : Int64))), .long (((Int32.toInt64 (xs (ix (s.1 + (5 : Int32))))) <<< (Int32.toInt64 (32 : Int32) &&& 63)) ||| ((Int32.toInt64 (xs (ix (s.1 + (6 : Int32))))) &&& (4294967295 : Int64)))]) (st := [.int q101.1]) [.int q103.1, .int q101.1] (c_X12_proof (kl κ) (gm κ) (kA κ) (xs (ix (s.1 + (1 : Int32)))) (xs (ix (s.1 + (2 : Int32)))) (((Int32.toInt64 (xs (ix (s.1 + (3 : Int32))))) <<< (Int32.toInt64 (32 : Int32) &&& 63)) ||| ((Int32.toInt64 (xs (ix (s.1 + (4 : Int32))))) &&& (4294967295 : Int64))) (((Int32.toInt64 (xs (ix (s.1 + (5 : Int32))))) <<< (Int32.toInt64 (32 : Int32) &&& 63)) ||| ((Int32.toInt64 (xs (ix (s.1 + (6 : Int32))))) &&& (4294967295 : Int64))) q101.2 q103 e104) ck_RL_140 im_X12_proof se_X12_proof sh_97 cx_12 ⟨rfl, rfl⟩ ⟨by decide, by decide⟩ rfl rfl (Nat.le_of_ble_eq_true rfl) dL_law_1423 _ rfl ?_
      refine j_ic_eq 1725 dL_law_1426 (by decide) h (fun h => ?_) (fun h => ?_)
      · refine j_loc [(0, .ref b), (1, .ref (ad (gm κ) 0)), (2, .ref (ad (gm κ) 97)), (3, .int s.1)] [0, 1, 2, 3] rfl ?_
        exact t_L_law_j1725 b L xs hX s.1 q103.2 (fun _ h => h) K0 h
      · exact ok_n h
    refine j_cs (28 : Int32) h (fun h => ?_) (fun n28 h => ?_)
    · refine j_tab 1431 dL_law_33 (by decide) (by decide) rfl (by decide) ?_
      refine j_aload_n 1 dL_law_1431 rfl rfl ?_
      refine j_aload_n 0 dL_law_1432 rfl rfl ?_
      refine j_iload_n 3 dL_law_1433 rfl rfl ?_
      refine j_iconst (1 : Int32) dL_law_1434 ki_1 ?_
      refine j_iadd dL_law_1435 ?_
      refine j_sld hX dL_law_1436 h (fun h => ?_)
      refine j_aload_n 0 dL_law_1437 rfl rfl ?_
      refine j_iload_n 3 dL_law_1438 rfl rfl ?_
      refine j_iconst (2 : Int32) dL_law_1439 ki_2 ?_
      refine j_iadd dL_law_1440 ?_
      refine j_sld hX dL_law_1441 h (fun h => ?_)
      obtain ⟨q105, e106, h⟩ := ok_b h
      refine j_callV (As := [.int (xs (ix (s.1 + (1 : Int32)))), .int (xs (ix (s.1 + (2 : Int32))))]) (st := []) [.int q105.1] (c_X11_slips (kl κ) (gm κ) (kA κ) (xs (ix (s.1 + (1 : Int32)))) (xs (ix (s.1 + (2 : Int32)))) s.2 q105 e106) ck_RL_141 im_X11_slips se_X11_slips sh_0 cx_11 ⟨rfl, rfl⟩ ⟨by decide, by decide⟩ rfl rfl (Nat.le_of_ble_eq_true rfl) dL_law_1442 _ rfl ?_
      refine j_aload_n 2 dL_law_1445 rfl rfl ?_
      refine j_aload_n 0 dL_law_1446 rfl rfl ?_
      refine j_iload_n 3 dL_law_1447 rfl rfl ?_
      refine j_iconst (1 : Int32) dL_law_1448 ki_1 ?_
      refine j_iadd dL_law_1449 ?_
      refine j_sld hX dL_law_1450 h (fun h => ?_)
      refine j_aload_n 0 dL_law_1451 rfl rfl ?_
      refine j_iload_n 3 dL_law_1452 rfl rfl ?_
      refine j_iconst (2 : Int32) dL_law_1453 ki_2 ?_
      refine j_iadd dL_law_1454 ?_
      refine j_sld hX dL_law_1455 h (fun h => ?_)
      obtain ⟨q107, e108, h⟩ := ok_b h
      refine j_callV (As := [.int (xs (ix (s.1 + (1 : Int32)))), .int (xs (ix (s.1 + (2 : Int32))))]) (st := [.int q105.1]) [.int q107.1, .int q105.1] (c_X12_slips (kl κ) (gm κ) (kA κ) (xs (ix (s.1 + (1 : Int32)))) (xs (ix (s.1 + (2 : Int32)))) q105.2 q107 e108) ck_RL_144 im_X12_slips se_X12_slips sh_97 cx_12 ⟨rfl, rfl⟩ ⟨by decide, by decide⟩ rfl rfl (Nat.le_of_ble_eq_true rfl) dL_law_1456 _ rfl ?_
      refine j_ic_eq 1725 dL_law_1459 (by decide) h (fun h => ?_) (fun h => ?_)
      · refine j_loc [(0, .ref b), (1, .ref (ad (gm κ) 0)), (2, .ref (ad (gm κ) 97)), (3, .int s.1)] [0, 1, 2, 3] rfl ?_
        exact t_L_law_j1725 b L xs hX s.1 q107.2 (fun _ h => h) K0 h
      · exact ok_n h
    refine j_cs (29 : Int32) h (fun h => ?_) (fun n29 h => ?_)
    · refine j_tab 1464 dL_law_33 (by decide) (by decide) rfl (by decide) ?_
      refine j_aload_n 1 dL_law_1464 rfl rfl ?_
      refine j_aload_n 0 dL_law_1465 rfl rfl ?_
      refine j_iload_n 3 dL_law_1466 rfl rfl ?_
      refine j_iconst (1 : Int32) dL_law_1467 ki_1 ?_
      refine j_iadd dL_law_1468 ?_
      refine j_sld hX dL_law_1469 h (fun h => ?_)
      refine j_aload_n 0 dL_law_1470 rfl rfl ?_
      refine j_iload_n 3 dL_law_1471 rfl rfl ?_
      refine j_iconst (2 : Int32) dL_law_1472 ki_2 ?_
      refine j_iadd dL_law_1473 ?_
      refine j_sld hX dL_law_1474 h (fun h => ?_)
      obtain ⟨q109, e110, h⟩ := ok_b h
      refine j_callV (As := [.int (xs (ix (s.1 + (1 : Int32)))), .int (xs (ix (s.1 + (2 : Int32))))]) (st := []) [.int q109.1] (c_X11_owed (kl κ) (gm κ) (kA κ) (xs (ix (s.1 + (1 : Int32)))) (xs (ix (s.1 + (2 : Int32)))) s.2 q109 e110) ck_RL_145 im_X11_owed se_X11_owed sh_0 cx_11 ⟨rfl, rfl⟩ ⟨by decide, by decide⟩ rfl rfl (Nat.le_of_ble_eq_true rfl) dL_law_1475 _ rfl ?_
      refine j_aload_n 2 dL_law_1478 rfl rfl ?_
      refine j_aload_n 0 dL_law_1479 rfl rfl ?_
      refine j_iload_n 3 dL_law_1480 rfl rfl ?_
      refine j_iconst (1 : Int32) dL_law_1481 ki_1 ?_
      refine j_iadd dL_law_1482 ?_
      refine j_sld hX dL_law_1483 h (fun h => ?_)
      refine j_aload_n 0 dL_law_1484 rfl rfl ?_
      refine j_iload_n 3 dL_law_1485 rfl rfl ?_
      refine j_iconst (2 : Int32) dL_law_1486 ki_2 ?_
      refine j_iadd dL_law_1487 ?_
      refine j_sld hX dL_law_1488 h (fun h => ?_)
      obtain ⟨q111, e112, h⟩ := ok_b h
      refine j_callV (As := [.int (xs (ix (s.1 + (1 : Int32)))), .int (xs (ix (s.1 + (2 : Int32))))]) (st := [.int q109.1]) [.int q111.1, .int q109.1] (c_X12_owed (kl κ) (gm κ) (kA κ) (xs (ix (s.1 + (1 : Int32)))) (xs (ix (s.1 + (2 : Int32)))) q109.2 q111 e112) ck_RL_148 im_X12_owed se_X12_owed sh_97 cx_12 ⟨rfl, rfl⟩ ⟨by decide, by decide⟩ rfl rfl (Nat.le_of_ble_eq_true rfl) dL_law_1489 _ rfl ?_
      refine j_ic_eq 1725 dL_law_1492 (by decide) h (fun h => ?_) (fun h => ?_)
      · refine j_loc [(0, .ref b), (1, .ref (ad (gm κ) 0)), (2, .ref (ad (gm κ) 97)), (3, .int s.1)] [0, 1, 2, 3] rfl ?_
        exact t_L_law_j1725 b L xs hX s.1 q111.2 (fun _ h => h) K0 h
      · exact ok_n h
    refine j_cs (30 : Int32) h (fun h => ?_) (fun n30 h => ?_)
    · refine j_tab 1497 dL_law_33 (by decide) (by decide) rfl (by decide) ?_
      refine j_aload_n 1 dL_law_1497 rfl rfl ?_
      refine j_aload_n 0 dL_law_1498 rfl rfl ?_
      refine j_iload_n 3 dL_law_1499 rfl rfl ?_
      refine j_iconst (1 : Int32) dL_law_1500 ki_1 ?_
      refine j_iadd dL_law_1501 ?_
      refine j_sld hX dL_law_1502 h (fun h => ?_)
      refine j_aload_n 0 dL_law_1503 rfl rfl ?_
      refine j_iload_n 3 dL_law_1504 rfl rfl ?_
      refine j_iconst (2 : Int32) dL_law_1505 ki_2 ?_
      refine j_iadd dL_law_1506 ?_
      refine j_sld hX dL_law_1507 h (fun h => ?_)
      obtain ⟨q113, e114, h⟩ := ok_b h
      refine j_callV (As := [.int (xs (ix (s.1 + (1 : Int32)))), .int (xs (ix (s.1 + (2 : Int32))))]) (st := []) [.int q113.1] (c_X11_reads (kl κ) (gm κ) (kA κ) (xs (ix (s.1 + (1 : Int32)))) (xs (ix (s.1 + (2 : Int32)))) s.2 q113 e114) ck_RL_149 im_X11_reads se_X11_reads sh_0 cx_11 ⟨rfl, rfl⟩ ⟨by decide, by decide⟩ rfl rfl (Nat.le_of_ble_eq_true rfl) dL_law_1508 _ rfl ?_
      refine j_aload_n 2 dL_law_1511 rfl rfl ?_
      refine j_aload_n 0 dL_law_1512 rfl rfl ?_
      refine j_iload_n 3 dL_law_1513 rfl rfl ?_
      refine j_iconst (1 : Int32) dL_law_1514 ki_1 ?_
      refine j_iadd dL_law_1515 ?_
      refine j_sld hX dL_law_1516 h (fun h => ?_)
      refine j_aload_n 0 dL_law_1517 rfl rfl ?_
      refine j_iload_n 3 dL_law_1518 rfl rfl ?_
      refine j_iconst (2 : Int32) dL_law_1519 ki_2 ?_
      refine j_iadd dL_law_1520 ?_
      refine j_sld hX dL_law_1521 h (fun h => ?_)
      obtain ⟨q115, e116, h⟩ := ok_b h
      refine j_callV (As := [.int (xs (ix (s.1 + (1 : Int32)))), .int (xs (ix (s.1 + (2 : Int32))))]) (st := [.int q113.1]) [.int q115.1, .int q113.1] (c_X12_reads (kl κ) (gm κ) (kA κ) (xs (ix (s.1 + (1 : Int32)))) (xs (ix (s.1 + (2 : Int32)))) q113.2 q115 e116) ck_RL_152 im_X12_reads se_X12_reads sh_97 cx_12 ⟨rfl, rfl⟩ ⟨by decide, by decide⟩ rfl rfl (Nat.le_of_ble_eq_true rfl) dL_law_1522 _ rfl ?_
      refine j_ic_eq 1725 dL_law_1525 (by decide) h (fun h => ?_) (fun h => ?_)
      · refine j_loc [(0, .ref b), (1, .ref (ad (gm κ) 0)), (2, .ref (ad (gm κ) 97)), (3, .int s.1)] [0, 1, 2, 3] rfl ?_
        exact t_L_law_j1725 b L xs hX s.1 q115.2 (fun _ h => h) K0 h
      · exact ok_n h
    refine j_cs (31 : Int32) h (fun h => ?_) (fun n31 h => ?_)
    · refine j_tab 1530 dL_law_33 (by decide) (by decide) rfl (by decide) ?_
      refine j_aload_n 1 dL_law_1530 rfl rfl ?_
      refine j_aload_n 0 dL_law_1531 rfl rfl ?_
      refine j_iload_n 3 dL_law_1532 rfl rfl ?_
      refine j_iconst (1 : Int32) dL_law_1533 ki_1 ?_
      refine j_iadd dL_law_1534 ?_
      refine j_sld hX dL_law_1535 h (fun h => ?_)
      refine j_aload_n 0 dL_law_1536 rfl rfl ?_
      refine j_iload_n 3 dL_law_1537 rfl rfl ?_
      refine j_iconst (2 : Int32) dL_law_1538 ki_2 ?_
      refine j_iadd dL_law_1539 ?_
      refine j_sld hX dL_law_1540 h (fun h => ?_)
      obtain ⟨q117, e118, h⟩ := ok_b h
      refine j_callV (As := [.int (xs (ix (s.1 + (1 : Int32)))), .int (xs (ix (s.1 + (2 : Int32))))]) (st := []) [.int q117.1] (c_X11_flag (kl κ) (gm κ) (kA κ) (xs (ix (s.1 + (1 : Int32)))) (xs (ix (s.1 + (2 : Int32)))) s.2 q117 e118) ck_RL_153 im_X11_flag se_X11_flag sh_0 cx_11 ⟨rfl, rfl⟩ ⟨by decide, by decide⟩ rfl rfl (Nat.le_of_ble_eq_true rfl) dL_law_1541 _ rfl ?_
      refine j_aload_n 2 dL_law_1544 rfl rfl ?_
      refine j_aload_n 0 dL_law_1545 rfl rfl ?_
      refine j_iload_n 3 dL_law_1546 rfl rfl ?_
      refine j_iconst (1 : Int32) dL_law_1547 ki_1 ?_
      refine j_iadd dL_law_1548 ?_
      refine j_sld hX dL_law_1549 h (fun h => ?_)
      refine j_aload_n 0 dL_law_1550 rfl rfl ?_
      refine j_iload_n 3 dL_law_1551 rfl rfl ?_
      refine j_iconst (2 : Int32) dL_law_1552 ki_2 ?_
      refine j_iadd dL_law_1553 ?_
      refine j_sld hX dL_law_1554 h (fun h => ?_)
      obtain ⟨q119, e120, h⟩ := ok_b h
      refine j_callV (As := [.int (xs (ix (s.1 + (1 : Int32)))), .int (xs (ix (s.1 + (2 : Int32))))]) (st := [.int q117.1]) [.int q119.1, .int q117.1] (c_X12_flag (kl κ) (gm κ) (kA κ) (xs (ix (s.1 + (1 : Int32)))) (xs (ix (s.1 + (2 : Int32)))) q117.2 q119 e120) ck_RL_156 im_X12_flag se_X12_flag sh_97 cx_12 ⟨rfl, rfl⟩ ⟨by decide, by decide⟩ rfl rfl (Nat.le_of_ble_eq_true rfl) dL_law_1555 _ rfl ?_
      refine j_ic_eq 1725 dL_law_1558 (by decide) h (fun h => ?_) (fun h => ?_)
      · refine j_loc [(0, .ref b), (1, .ref (ad (gm κ) 0)), (2, .ref (ad (gm κ) 97)), (3, .int s.1)] [0, 1, 2, 3] rfl ?_
        exact t_L_law_j1725 b L xs hX s.1 q119.2 (fun _ h => h) K0 h
      · exact ok_n h
    refine j_cs (32 : Int32) h (fun h => ?_) (fun n32 h => ?_)
    · refine j_tab 1563 dL_law_33 (by decide) (by decide) rfl (by decide) ?_
      refine j_aload_n 1 dL_law_1563 rfl rfl ?_
      refine j_aload_n 0 dL_law_1564 rfl rfl ?_
      refine j_iload_n 3 dL_law_1565 rfl rfl ?_
      refine j_iconst (1 : Int32) dL_law_1566 ki_1 ?_
      refine j_iadd dL_law_1567 ?_
      refine j_sld hX dL_law_1568 h (fun h => ?_)
      refine j_aload_n 0 dL_law_1569 rfl rfl ?_
      refine j_iload_n 3 dL_law_1570 rfl rfl ?_
      refine j_iconst (2 : Int32) dL_law_1571 ki_2 ?_
      refine j_iadd dL_law_1572 ?_
      refine j_sld hX dL_law_1573 h (fun h => ?_)
      refine j_aload_n 0 dL_law_1574 rfl rfl ?_
      refine j_iload_n 3 dL_law_1575 rfl rfl ?_
      refine j_iconst (3 : Int32) dL_law_1576 ki_3 ?_
      refine j_iadd dL_law_1577 ?_
      refine j_sld hX dL_law_1578 h (fun h => ?_)
      refine j_aload_n 0 dL_law_1579 rfl rfl ?_
      refine j_iload_n 3 dL_law_1580 rfl rfl ?_
      refine j_iconst (4 : Int32) dL_law_1581 ki_4 ?_
      refine j_iadd dL_law_1582 ?_
      refine j_sld hX dL_law_1583 h (fun h => ?_)
      obtain ⟨q121, e122, h⟩ := ok_b h
      refine j_callV (As := [.int (xs (ix (s.1 + (1 : Int32)))), .int (xs (ix (s.1 + (2 : Int32)))), .int (xs (ix (s.1 + (3 : Int32)))), .int (xs (ix (s.1 + (4 : Int32))))]) (st := []) [.int q121.1] (c_X11_send (kl κ) (gm κ) (kA κ) (xs (ix (s.1 + (1 : Int32)))) (xs (ix (s.1 + (2 : Int32)))) (xs (ix (s.1 + (3 : Int32)))) (xs (ix (s.1 + (4 : Int32)))) s.2 q121 e122) ck_RL_157 im_X11_send se_X11_send sh_0 cx_11 ⟨rfl, rfl⟩ ⟨by decide, by decide⟩ rfl rfl (Nat.le_of_ble_eq_true rfl) dL_law_1584 _ rfl ?_
      refine j_aload_n 2 dL_law_1587 rfl rfl ?_
      refine j_aload_n 0 dL_law_1588 rfl rfl ?_
      refine j_iload_n 3 dL_law_1589 rfl rfl ?_
      refine j_iconst (1 : Int32) dL_law_1590 ki_1 ?_
      refine j_iadd dL_law_1591 ?_
      refine j_sld hX dL_law_1592 h (fun h => ?_)
      refine j_aload_n 0 dL_law_1593 rfl rfl ?_
      refine j_iload_n 3 dL_law_1594 rfl rfl ?_
      refine j_iconst (2 : Int32) dL_law_1595 ki_2 ?_
      refine j_iadd dL_law_1596 ?_
      refine j_sld hX dL_law_1597 h (fun h => ?_)
      refine j_aload_n 0 dL_law_1598 rfl rfl ?_
      refine j_iload_n 3 dL_law_1599 rfl rfl ?_
      refine j_iconst (3 : Int32) dL_law_1600 ki_3 ?_
      refine j_iadd dL_law_1601 ?_
      refine j_sld hX dL_law_1602 h (fun h => ?_)
      refine j_aload_n 0 dL_law_1603 rfl rfl ?_
      refine j_iload_n 3 dL_law_1604 rfl rfl ?_
      refine j_iconst (4 : Int32) dL_law_1605 ki_4 ?_
      refine j_iadd dL_law_1606 ?_
      refine j_sld hX dL_law_1607 h (fun h => ?_)
      obtain ⟨q123, e124, h⟩ := ok_b h
      refine j_callV (As := [.int (xs (ix (s.1 + (1 : Int32)))), .int (xs (ix (s.1 + (2 : Int32)))), .int (xs (ix (s.1 + (3 : Int32)))), .int (xs (ix (s.1 + (4 : Int32))))]) (st := [.int q121.1]) [.int q123.1, .int q121.1] (c_X12_send (kl κ) (gm κ) (kA κ) (xs (ix (s.1 + (1 : Int32)))) (xs (ix (s.1 + (2 : Int32)))) (xs (ix (s.1 + (3 : Int32)))) (xs (ix (s.1 + (4 : Int32)))) q121.2 q123 e124) ck_RL_160 im_X12_send se_X12_send sh_97 cx_12 ⟨rfl, rfl⟩ ⟨by decide, by decide⟩ rfl rfl (Nat.le_of_ble_eq_true rfl) dL_law_1608 _ rfl ?_
      refine j_ic_eq 1725 dL_law_1611 (by decide) h (fun h => ?_) (fun h => ?_)
      · refine j_loc [(0, .ref b), (1, .ref (ad (gm κ) 0)), (2, .ref (ad (gm κ) 97)), (3, .int s.1)] [0, 1, 2, 3] rfl ?_
        exact t_L_law_j1725 b L xs hX s.1 q123.2 (fun _ h => h) K0 h
      · exact ok_n h
    refine j_cs (33 : Int32) h (fun h => ?_) (fun n33 h => ?_)
    · refine j_tab 1616 dL_law_33 (by decide) (by decide) rfl (by decide) ?_
      refine j_aload_n 1 dL_law_1616 rfl rfl ?_
      refine j_aload_n 0 dL_law_1617 rfl rfl ?_
      refine j_iload_n 3 dL_law_1618 rfl rfl ?_
      refine j_iconst (1 : Int32) dL_law_1619 ki_1 ?_
      refine j_iadd dL_law_1620 ?_
      refine j_sld hX dL_law_1621 h (fun h => ?_)
      obtain ⟨q125, e126, h⟩ := ok_b h
      refine j_callV (As := [.int (xs (ix (s.1 + (1 : Int32))))]) (st := []) [.int q125.1] (c_X11_sent (kl κ) (gm κ) (kA κ) (xs (ix (s.1 + (1 : Int32)))) s.2 q125 e126) ck_RL_161 im_X11_sent se_X11_sent sh_0 cx_11 ⟨rfl, rfl⟩ ⟨by decide, by decide⟩ rfl rfl (Nat.le_of_ble_eq_true rfl) dL_law_1622 _ rfl ?_
      refine j_aload_n 2 dL_law_1625 rfl rfl ?_
      refine j_aload_n 0 dL_law_1626 rfl rfl ?_
      refine j_iload_n 3 dL_law_1627 rfl rfl ?_
      refine j_iconst (1 : Int32) dL_law_1628 ki_1 ?_
      refine j_iadd dL_law_1629 ?_
      refine j_sld hX dL_law_1630 h (fun h => ?_)
      obtain ⟨q127, e128, h⟩ := ok_b h
      refine j_callV (As := [.int (xs (ix (s.1 + (1 : Int32))))]) (st := [.int q125.1]) [.int q127.1, .int q125.1] (c_X12_sent (kl κ) (gm κ) (kA κ) (xs (ix (s.1 + (1 : Int32)))) q125.2 q127 e128) ck_RL_164 im_X12_sent se_X12_sent sh_97 cx_12 ⟨rfl, rfl⟩ ⟨by decide, by decide⟩ rfl rfl (Nat.le_of_ble_eq_true rfl) dL_law_1631 _ rfl ?_
      refine j_ic_eq 1725 dL_law_1634 (by decide) h (fun h => ?_) (fun h => ?_)
      · refine j_loc [(0, .ref b), (1, .ref (ad (gm κ) 0)), (2, .ref (ad (gm κ) 97)), (3, .int s.1)] [0, 1, 2, 3] rfl ?_
        exact t_L_law_j1725 b L xs hX s.1 q127.2 (fun _ h => h) K0 h
      · exact ok_n h
    refine j_cs (34 : Int32) h (fun h => ?_) (fun n34 h => ?_)
    · refine j_tab 1639 dL_law_33 (by decide) (by decide) rfl (by decide) ?_
      refine j_aload_n 1 dL_law_1639 rfl rfl ?_
      refine j_aload_n 0 dL_law_1640 rfl rfl ?_
      refine j_iload_n 3 dL_law_1641 rfl rfl ?_
      refine j_iconst (1 : Int32) dL_law_1642 ki_1 ?_
      refine j_iadd dL_law_1643 ?_
      refine j_sld hX dL_law_1644 h (fun h => ?_)
      refine j_aload_n 0 dL_law_1645 rfl rfl ?_
      refine j_iload_n 3 dL_law_1646 rfl rfl ?_
      refine j_iconst (2 : Int32) dL_law_1647 ki_2 ?_
      refine j_iadd dL_law_1648 ?_
      refine j_sld hX dL_law_1649 h (fun h => ?_)
      refine j_aload_n 0 dL_law_1650 rfl rfl ?_
      refine j_iload_n 3 dL_law_1651 rfl rfl ?_
      refine j_iconst (3 : Int32) dL_law_1652 ki_3 ?_
      refine j_iadd dL_law_1653 ?_
      refine j_sld hX dL_law_1654 h (fun h => ?_)
      refine j_aload_n 0 dL_law_1655 rfl rfl ?_
      refine j_iload_n 3 dL_law_1656 rfl rfl ?_
      refine j_iconst (4 : Int32) dL_law_1657 ki_4 ?_
      refine j_iadd dL_law_1658 ?_
      refine j_sld hX dL_law_1659 h (fun h => ?_)
      obtain ⟨q129, e130, h⟩ := ok_b h
      refine j_callV (As := [.int (xs (ix (s.1 + (1 : Int32)))), .int (xs (ix (s.1 + (2 : Int32)))), .int (xs (ix (s.1 + (3 : Int32)))), .int (xs (ix (s.1 + (4 : Int32))))]) (st := []) [.int q129.1] (c_X11_count (kl κ) (gm κ) (kA κ) (xs (ix (s.1 + (1 : Int32)))) (xs (ix (s.1 + (2 : Int32)))) (xs (ix (s.1 + (3 : Int32)))) (xs (ix (s.1 + (4 : Int32)))) s.2 q129 e130) ck_RL_165 im_X11_count se_X11_count sh_0 cx_11 ⟨rfl, rfl⟩ ⟨by decide, by decide⟩ rfl rfl (Nat.le_of_ble_eq_true rfl) dL_law_1660 _ rfl ?_
      refine j_aload_n 2 dL_law_1663 rfl rfl ?_
      refine j_aload_n 0 dL_law_1664 rfl rfl ?_
      refine j_iload_n 3 dL_law_1665 rfl rfl ?_
      refine j_iconst (1 : Int32) dL_law_1666 ki_1 ?_
      refine j_iadd dL_law_1667 ?_
      refine j_sld hX dL_law_1668 h (fun h => ?_)
      refine j_aload_n 0 dL_law_1669 rfl rfl ?_
      refine j_iload_n 3 dL_law_1670 rfl rfl ?_
      refine j_iconst (2 : Int32) dL_law_1671 ki_2 ?_
      refine j_iadd dL_law_1672 ?_
      refine j_sld hX dL_law_1673 h (fun h => ?_)
      refine j_aload_n 0 dL_law_1674 rfl rfl ?_
      refine j_iload_n 3 dL_law_1675 rfl rfl ?_
      refine j_iconst (3 : Int32) dL_law_1676 ki_3 ?_
      refine j_iadd dL_law_1677 ?_
      refine j_sld hX dL_law_1678 h (fun h => ?_)
      refine j_aload_n 0 dL_law_1679 rfl rfl ?_
      refine j_iload_n 3 dL_law_1680 rfl rfl ?_
      refine j_iconst (4 : Int32) dL_law_1681 ki_4 ?_
      refine j_iadd dL_law_1682 ?_
      refine j_sld hX dL_law_1683 h (fun h => ?_)
      obtain ⟨q131, e132, h⟩ := ok_b h
      refine j_callV (As := [.int (xs (ix (s.1 + (1 : Int32)))), .int (xs (ix (s.1 + (2 : Int32)))), .int (xs (ix (s.1 + (3 : Int32)))), .int (xs (ix (s.1 + (4 : Int32))))]) (st := [.int q129.1]) [.int q131.1, .int q129.1] (c_X12_count (kl κ) (gm κ) (kA κ) (xs (ix (s.1 + (1 : Int32)))) (xs (ix (s.1 + (2 : Int32)))) (xs (ix (s.1 + (3 : Int32)))) (xs (ix (s.1 + (4 : Int32)))) q129.2 q131 e132) ck_RL_168 im_X12_count se_X12_count sh_97 cx_12 ⟨rfl, rfl⟩ ⟨by decide, by decide⟩ rfl rfl (Nat.le_of_ble_eq_true rfl) dL_law_1684 _ rfl ?_
      refine j_ic_eq 1725 dL_law_1687 (by decide) h (fun h => ?_) (fun h => ?_)
      · refine j_loc [(0, .ref b), (1, .ref (ad (gm κ) 0)), (2, .ref (ad (gm κ) 97)), (3, .int s.1)] [0, 1, 2, 3] rfl ?_
        exact t_L_law_j1725 b L xs hX s.1 q131.2 (fun _ h => h) K0 h
      · exact ok_n h
    refine j_cs (35 : Int32) h (fun h => ?_) (fun n35 h => ?_)
    · refine j_tab 1692 dL_law_33 (by decide) (by decide) rfl (by decide) ?_
      refine j_aload_n 1 dL_law_1692 rfl rfl ?_
      refine j_aload_n 0 dL_law_1693 rfl rfl ?_
      refine j_iload_n 3 dL_law_1694 rfl rfl ?_
      refine j_iconst (1 : Int32) dL_law_1695 ki_1 ?_
      refine j_iadd dL_law_1696 ?_
      refine j_sld hX dL_law_1697 h (fun h => ?_)
      refine j_aload_n 0 dL_law_1698 rfl rfl ?_
      refine j_iload_n 3 dL_law_1699 rfl rfl ?_
      refine j_iconst (2 : Int32) dL_law_1700 ki_2 ?_
      refine j_iadd dL_law_1701 ?_
      refine j_sld hX dL_law_1702 h (fun h => ?_)
      obtain ⟨q133, e134, h⟩ := ok_b h
      refine j_callV (As := [.int (xs (ix (s.1 + (1 : Int32)))), .int (xs (ix (s.1 + (2 : Int32))))]) (st := []) [.int q133.1] (c_X11_near (kl κ) (gm κ) (kA κ) (xs (ix (s.1 + (1 : Int32)))) (xs (ix (s.1 + (2 : Int32)))) s.2 q133 e134) ck_RL_169 im_X11_near se_X11_near sh_0 cx_11 ⟨rfl, rfl⟩ ⟨by decide, by decide⟩ rfl rfl (Nat.le_of_ble_eq_true rfl) dL_law_1703 _ rfl ?_
      refine j_aload_n 2 dL_law_1706 rfl rfl ?_
      refine j_aload_n 0 dL_law_1707 rfl rfl ?_
      refine j_iload_n 3 dL_law_1708 rfl rfl ?_
      refine j_iconst (1 : Int32) dL_law_1709 ki_1 ?_
      refine j_iadd dL_law_1710 ?_
      refine j_sld hX dL_law_1711 h (fun h => ?_)
      refine j_aload_n 0 dL_law_1712 rfl rfl ?_
      refine j_iload_n 3 dL_law_1713 rfl rfl ?_
      refine j_iconst (2 : Int32) dL_law_1714 ki_2 ?_
      refine j_iadd dL_law_1715 ?_
      refine j_sld hX dL_law_1716 h (fun h => ?_)
      obtain ⟨q135, e136, h⟩ := ok_b h
      refine j_callV (As := [.int (xs (ix (s.1 + (1 : Int32)))), .int (xs (ix (s.1 + (2 : Int32))))]) (st := [.int q133.1]) [.int q135.1, .int q133.1] (c_X12_near (kl κ) (gm κ) (kA κ) (xs (ix (s.1 + (1 : Int32)))) (xs (ix (s.1 + (2 : Int32)))) q133.2 q135 e136) ck_RL_172 im_X12_near se_X12_near sh_97 cx_12 ⟨rfl, rfl⟩ ⟨by decide, by decide⟩ rfl rfl (Nat.le_of_ble_eq_true rfl) dL_law_1717 _ rfl ?_
      refine j_ic_eq 1725 dL_law_1720 (by decide) h (fun h => ?_) (fun h => ?_)
      · refine j_loc [(0, .ref b), (1, .ref (ad (gm κ) 0)), (2, .ref (ad (gm κ) 97)), (3, .int s.1)] [0, 1, 2, 3] rfl ?_
        exact t_L_law_j1725 b L xs hX s.1 q135.2 (fun _ h => h) K0 h
      · exact ok_n h
    replace n0 := lv_neT n0 (show ((0 : Int32)).toInt = 0 by decide)
    replace n1 := lv_neT n1 (show ((1 : Int32)).toInt = 1 by decide)
    replace n2 := lv_neT n2 (show ((2 : Int32)).toInt = 2 by decide)
    replace n3 := lv_neT n3 (show ((3 : Int32)).toInt = 3 by decide)
    replace n4 := lv_neT n4 (show ((4 : Int32)).toInt = 4 by decide)
    replace n5 := lv_neT n5 (show ((5 : Int32)).toInt = 5 by decide)
    replace n6 := lv_neT n6 (show ((6 : Int32)).toInt = 6 by decide)
    replace n7 := lv_neT n7 (show ((7 : Int32)).toInt = 7 by decide)
    replace n8 := lv_neT n8 (show ((8 : Int32)).toInt = 8 by decide)
    replace n9 := lv_neT n9 (show ((9 : Int32)).toInt = 9 by decide)
    replace n10 := lv_neT n10 (show ((10 : Int32)).toInt = 10 by decide)
    replace n11 := lv_neT n11 (show ((11 : Int32)).toInt = 11 by decide)
    replace n12 := lv_neT n12 (show ((12 : Int32)).toInt = 12 by decide)
    replace n13 := lv_neT n13 (show ((13 : Int32)).toInt = 13 by decide)
    replace n14 := lv_neT n14 (show ((14 : Int32)).toInt = 14 by decide)
    replace n15 := lv_neT n15 (show ((15 : Int32)).toInt = 15 by decide)
    replace n16 := lv_neT n16 (show ((16 : Int32)).toInt = 16 by decide)
    replace n17 := lv_neT n17 (show ((17 : Int32)).toInt = 17 by decide)
    replace n18 := lv_neT n18 (show ((18 : Int32)).toInt = 18 by decide)
    replace n19 := lv_neT n19 (show ((19 : Int32)).toInt = 19 by decide)
    replace n20 := lv_neT n20 (show ((20 : Int32)).toInt = 20 by decide)
    replace n21 := lv_neT n21 (show ((21 : Int32)).toInt = 21 by decide)
    replace n22 := lv_neT n22 (show ((22 : Int32)).toInt = 22 by decide)
    replace n23 := lv_neT n23 (show ((23 : Int32)).toInt = 23 by decide)
    replace n24 := lv_neT n24 (show ((24 : Int32)).toInt = 24 by decide)
    replace n25 := lv_neT n25 (show ((25 : Int32)).toInt = 25 by decide)
    replace n26 := lv_neT n26 (show ((26 : Int32)).toInt = 26 by decide)
    replace n27 := lv_neT n27 (show ((27 : Int32)).toInt = 27 by decide)
    replace n28 := lv_neT n28 (show ((28 : Int32)).toInt = 28 by decide)
    replace n29 := lv_neT n29 (show ((29 : Int32)).toInt = 29 by decide)
    replace n30 := lv_neT n30 (show ((30 : Int32)).toInt = 30 by decide)
    replace n31 := lv_neT n31 (show ((31 : Int32)).toInt = 31 by decide)
    replace n32 := lv_neT n32 (show ((32 : Int32)).toInt = 32 by decide)
    replace n33 := lv_neT n33 (show ((33 : Int32)).toInt = 33 by decide)
    replace n34 := lv_neT n34 (show ((34 : Int32)).toInt = 34 by decide)
    replace n35 := lv_neT n35 (show ((35 : Int32)).toInt = 35 by decide)
    refine j_tabD 1725 dL_law_33 (by omega) (by decide) ?_
    refine j_loc [(0, .ref b), (1, .ref (ad (gm κ) 0)), (2, .ref (ad (gm κ) 97)), (3, .int s.1)] [0, 1, 2, 3] rfl ?_
    exact t_L_law_j1725 b L xs hX s.1 s.2 (fun _ h => h) K0 h
