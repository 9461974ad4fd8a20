theorem dX12_init_0 : decode cX12_init 0 = .ok (.aload_n 0, 1) := by decide +kernel
theorem dX12_init_1 : decode cX12_init 1 = .ok (.invokespecial 1, 3) := by decide +kernel
theorem dX12_init_4 : decode cX12_init 4 = .ok (.aload_n 0, 1) := by decide +kernel
theorem dX12_init_5 : decode cX12_init 5 = .ok (.iconst 4, 1) := by decide +kernel
theorem dX12_init_6 : decode cX12_init 6 = .ok (.newarray .int, 2) := by decide +kernel
theorem dX12_init_8 : decode cX12_init 8 = .ok (.putfield 7, 3) := by decide +kernel
theorem dX12_init_11 : decode cX12_init 11 = .ok (.aload_n 0, 1) := by decide +kernel
theorem dX12_init_12 : decode cX12_init 12 = .ok (.iconst 4, 1) := by decide +kernel
theorem dX12_init_13 : decode cX12_init 13 = .ok (.newarray .int, 2) := by decide +kernel
theorem dX12_init_15 : decode cX12_init 15 = .ok (.dup, 1) := by decide +kernel
theorem dX12_init_16 : decode cX12_init 16 = .ok (.iconst 0, 1) := by decide +kernel
theorem dX12_init_17 : decode cX12_init 17 = .ok (.iconst (-1), 1) := by decide +kernel
theorem dX12_init_18 : decode cX12_init 18 = .ok (.iastore, 1) := by decide +kernel
theorem dX12_init_19 : decode cX12_init 19 = .ok (.dup, 1) := by decide +kernel
theorem dX12_init_20 : decode cX12_init 20 = .ok (.iconst 1, 1) := by decide +kernel
theorem dX12_init_21 : decode cX12_init 21 = .ok (.iconst (-1), 1) := by decide +kernel
theorem dX12_init_22 : decode cX12_init 22 = .ok (.iastore, 1) := by decide +kernel
theorem dX12_init_23 : decode cX12_init 23 = .ok (.dup, 1) := by decide +kernel
theorem dX12_init_24 : decode cX12_init 24 = .ok (.iconst 2, 1) := by decide +kernel
theorem dX12_init_25 : decode cX12_init 25 = .ok (.iconst (-1), 1) := by decide +kernel
theorem dX12_init_26 : decode cX12_init 26 = .ok (.iastore, 1) := by decide +kernel
theorem dX12_init_27 : decode cX12_init 27 = .ok (.dup, 1) := by decide +kernel
theorem dX12_init_28 : decode cX12_init 28 = .ok (.iconst 3, 1) := by decide +kernel
theorem dX12_init_29 : decode cX12_init 29 = .ok (.iconst (-1), 1) := by decide +kernel
theorem dX12_init_30 : decode cX12_init 30 = .ok (.iastore, 1) := by decide +kernel
theorem dX12_init_31 : decode cX12_init 31 = .ok (.putfield 13, 3) := by decide +kernel
theorem dX12_init_34 : decode cX12_init 34 = .ok (.aload_n 0, 1) := by decide +kernel
theorem dX12_init_35 : decode cX12_init 35 = .ok (.sipush 240, 3) := by decide +kernel
theorem dX12_init_38 : decode cX12_init 38 = .ok (.newarray .long, 2) := by decide +kernel
theorem dX12_init_40 : decode cX12_init 40 = .ok (.putfield 16, 3) := by decide +kernel
theorem dX12_init_43 : decode cX12_init 43 = .ok (.aload_n 0, 1) := by decide +kernel
theorem dX12_init_44 : decode cX12_init 44 = .ok (.bipush 59, 2) := by decide +kernel
theorem dX12_init_46 : decode cX12_init 46 = .ok (.putfield 20, 3) := by decide +kernel
theorem dX12_init_49 : decode cX12_init 49 = .ok (.aload_n 0, 1) := by decide +kernel
theorem dX12_init_50 : decode cX12_init 50 = .ok (.bipush 16, 2) := by decide +kernel
theorem dX12_init_52 : decode cX12_init 52 = .ok (.newarray .int, 2) := by decide +kernel
theorem dX12_init_54 : decode cX12_init 54 = .ok (.putfield 24, 3) := by decide +kernel
theorem dX12_init_57 : decode cX12_init 57 = .ok (.aload_n 0, 1) := by decide +kernel
theorem dX12_init_58 : decode cX12_init 58 = .ok (.bipush 30, 2) := by decide +kernel
theorem dX12_init_60 : decode cX12_init 60 = .ok (.newarray .int, 2) := by decide +kernel
theorem dX12_init_62 : decode cX12_init 62 = .ok (.putfield 27, 3) := by decide +kernel
theorem dX12_init_65 : decode cX12_init 65 = .ok (.aload_n 0, 1) := by decide +kernel
theorem dX12_init_66 : decode cX12_init 66 = .ok (.bipush 30, 2) := by decide +kernel
theorem dX12_init_68 : decode cX12_init 68 = .ok (.newarray .int, 2) := by decide +kernel
theorem dX12_init_70 : decode cX12_init 70 = .ok (.putfield 30, 3) := by decide +kernel
theorem dX12_init_73 : decode cX12_init 73 = .ok (.aload_n 0, 1) := by decide +kernel
theorem dX12_init_74 : decode cX12_init 74 = .ok (.bipush 30, 2) := by decide +kernel
theorem dX12_init_76 : decode cX12_init 76 = .ok (.newarray .int, 2) := by decide +kernel
theorem dX12_init_78 : decode cX12_init 78 = .ok (.putfield 33, 3) := by decide +kernel
theorem dX12_init_81 : decode cX12_init 81 = .ok (.aload_n 0, 1) := by decide +kernel
theorem dX12_init_82 : decode cX12_init 82 = .ok (.bipush 30, 2) := by decide +kernel
theorem dX12_init_84 : decode cX12_init 84 = .ok (.newarray .int, 2) := by decide +kernel
theorem dX12_init_86 : decode cX12_init 86 = .ok (.putfield 36, 3) := by decide +kernel
theorem dX12_init_89 : decode cX12_init 89 = .ok (.aload_n 0, 1) := by decide +kernel
theorem dX12_init_90 : decode cX12_init 90 = .ok (.bipush 30, 2) := by decide +kernel
theorem dX12_init_92 : decode cX12_init 92 = .ok (.newarray .int, 2) := by decide +kernel
theorem dX12_init_94 : decode cX12_init 94 = .ok (.putfield 39, 3) := by decide +kernel
theorem dX12_init_97 : decode cX12_init 97 = .ok (.aload_n 0, 1) := by decide +kernel
theorem dX12_init_98 : decode cX12_init 98 = .ok (.bipush 16, 2) := by decide +kernel
theorem dX12_init_100 : decode cX12_init 100 = .ok (.newarray .int, 2) := by decide +kernel
theorem dX12_init_102 : decode cX12_init 102 = .ok (.putfield 42, 3) := by decide +kernel
theorem dX12_init_105 : decode cX12_init 105 = .ok (.aload_n 0, 1) := by decide +kernel
theorem dX12_init_106 : decode cX12_init 106 = .ok (.bipush 40, 2) := by decide +kernel
theorem dX12_init_108 : decode cX12_init 108 = .ok (.newarray .int, 2) := by decide +kernel
theorem dX12_init_110 : decode cX12_init 110 = .ok (.putfield 45, 3) := by decide +kernel
theorem dX12_init_113 : decode cX12_init 113 = .ok (.aload_n 0, 1) := by decide +kernel
theorem dX12_init_114 : decode cX12_init 114 = .ok (.bipush 40, 2) := by decide +kernel
theorem dX12_init_116 : decode cX12_init 116 = .ok (.newarray .int, 2) := by decide +kernel
theorem dX12_init_118 : decode cX12_init 118 = .ok (.putfield 48, 3) := by decide +kernel
theorem dX12_init_121 : decode cX12_init 121 = .ok (.aload_n 0, 1) := by decide +kernel
theorem dX12_init_122 : decode cX12_init 122 = .ok (.bipush 40, 2) := by decide +kernel
theorem dX12_init_124 : decode cX12_init 124 = .ok (.newarray .int, 2) := by decide +kernel
theorem dX12_init_126 : decode cX12_init 126 = .ok (.putfield 51, 3) := by decide +kernel
theorem dX12_init_129 : decode cX12_init 129 = .ok (.aload_n 0, 1) := by decide +kernel
theorem dX12_init_130 : decode cX12_init 130 = .ok (.bipush 20, 2) := by decide +kernel
theorem dX12_init_132 : decode cX12_init 132 = .ok (.newarray .int, 2) := by decide +kernel
theorem dX12_init_134 : decode cX12_init 134 = .ok (.putfield 54, 3) := by decide +kernel
theorem dX12_init_137 : decode cX12_init 137 = .ok (.aload_n 0, 1) := by decide +kernel
theorem dX12_init_138 : decode cX12_init 138 = .ok (.bipush 20, 2) := by decide +kernel
theorem dX12_init_140 : decode cX12_init 140 = .ok (.newarray .int, 2) := by decide +kernel
theorem dX12_init_142 : decode cX12_init 142 = .ok (.putfield 57, 3) := by decide +kernel
theorem dX12_init_145 : decode cX12_init 145 = .ok (.aload_n 0, 1) := by decide +kernel
theorem dX12_init_146 : decode cX12_init 146 = .ok (.bipush 12, 2) := by decide +kernel
theorem dX12_init_148 : decode cX12_init 148 = .ok (.newarray .int, 2) := by decide +kernel
theorem dX12_init_150 : decode cX12_init 150 = .ok (.putfield 60, 3) := by decide +kernel
theorem dX12_init_153 : decode cX12_init 153 = .ok (.aload_n 0, 1) := by decide +kernel
theorem dX12_init_154 : decode cX12_init 154 = .ok (.sipush 160, 3) := by decide +kernel
theorem dX12_init_157 : decode cX12_init 157 = .ok (.newarray .int, 2) := by decide +kernel
theorem dX12_init_159 : decode cX12_init 159 = .ok (.putfield 63, 3) := by decide +kernel
theorem dX12_init_162 : decode cX12_init 162 = .ok (.aload_n 0, 1) := by decide +kernel
theorem dX12_init_163 : decode cX12_init 163 = .ok (.sipush 160, 3) := by decide +kernel
theorem dX12_init_166 : decode cX12_init 166 = .ok (.newarray .int, 2) := by decide +kernel
theorem dX12_init_168 : decode cX12_init 168 = .ok (.putfield 66, 3) := by decide +kernel
theorem dX12_init_171 : decode cX12_init 171 = .ok (.aload_n 0, 1) := by decide +kernel
theorem dX12_init_172 : decode cX12_init 172 = .ok (.sipush 160, 3) := by decide +kernel
theorem dX12_init_175 : decode cX12_init 175 = .ok (.newarray .int, 2) := by decide +kernel
theorem dX12_init_177 : decode cX12_init 177 = .ok (.putfield 69, 3) := by decide +kernel
theorem dX12_init_180 : decode cX12_init 180 = .ok (.aload_n 0, 1) := by decide +kernel
theorem dX12_init_181 : decode cX12_init 181 = .ok (.sipush 160, 3) := by decide +kernel
theorem dX12_init_184 : decode cX12_init 184 = .ok (.newarray .int, 2) := by decide +kernel
theorem dX12_init_186 : decode cX12_init 186 = .ok (.putfield 72, 3) := by decide +kernel
theorem dX12_init_189 : decode cX12_init 189 = .ok (.aload_n 0, 1) := by decide +kernel
theorem dX12_init_190 : decode cX12_init 190 = .ok (.sipush 160, 3) := by decide +kernel
theorem dX12_init_193 : decode cX12_init 193 = .ok (.newarray .int, 2) := by decide +kernel
theorem dX12_init_195 : decode cX12_init 195 = .ok (.putfield 75, 3) := by decide +kernel
theorem dX12_init_198 : decode cX12_init 198 = .ok (.aload_n 0, 1) := by decide +kernel
theorem dX12_init_199 : decode cX12_init 199 = .ok (.sipush 160, 3) := by decide +kernel
theorem dX12_init_202 : decode cX12_init 202 = .ok (.newarray .int, 2) := by decide +kernel
theorem dX12_init_204 : decode cX12_init 204 = .ok (.putfield 78, 3) := by decide +kernel
theorem dX12_init_207 : decode cX12_init 207 = .ok (.aload_n 0, 1) := by decide +kernel
theorem dX12_init_208 : decode cX12_init 208 = .ok (.sipush 600, 3) := by decide +kernel
theorem dX12_init_211 : decode cX12_init 211 = .ok (.newarray .byte, 2) := by decide +kernel
theorem dX12_init_213 : decode cX12_init 213 = .ok (.putfield 81, 3) := by decide +kernel
theorem dX12_init_216 : decode cX12_init 216 = .ok (.aload_n 0, 1) := by decide +kernel
theorem dX12_init_217 : decode cX12_init 217 = .ok (.sipush 600, 3) := by decide +kernel
theorem dX12_init_220 : decode cX12_init 220 = .ok (.newarray .byte, 2) := by decide +kernel
theorem dX12_init_222 : decode cX12_init 222 = .ok (.putfield 85, 3) := by decide +kernel
theorem dX12_init_225 : decode cX12_init 225 = .ok (.aload_n 0, 1) := by decide +kernel
theorem dX12_init_226 : decode cX12_init 226 = .ok (.iconst (-1), 1) := by decide +kernel
theorem dX12_init_227 : decode cX12_init 227 = .ok (.putfield 88, 3) := by decide +kernel
theorem dX12_init_230 : decode cX12_init 230 = .ok (.aload_n 0, 1) := by decide +kernel
theorem dX12_init_231 : decode cX12_init 231 = .ok (.iconst (-1), 1) := by decide +kernel
theorem dX12_init_232 : decode cX12_init 232 = .ok (.putfield 91, 3) := by decide +kernel
theorem dX12_init_235 : decode cX12_init 235 = .ok (.aload_n 0, 1) := by decide +kernel
theorem dX12_init_236 : decode cX12_init 236 = .ok (.bipush 6, 2) := by decide +kernel
theorem dX12_init_238 : decode cX12_init 238 = .ok (.newarray .int, 2) := by decide +kernel
theorem dX12_init_240 : decode cX12_init 240 = .ok (.putfield 94, 3) := by decide +kernel
theorem dX12_init_243 : decode cX12_init 243 = .ok (.aload_n 0, 1) := by decide +kernel
theorem dX12_init_244 : decode cX12_init 244 = .ok (.bipush 6, 2) := by decide +kernel
theorem dX12_init_246 : decode cX12_init 246 = .ok (.newarray .int, 2) := by decide +kernel
theorem dX12_init_248 : decode cX12_init 248 = .ok (.putfield 97, 3) := by decide +kernel
theorem dX12_init_251 : decode cX12_init 251 = .ok (.aload_n 0, 1) := by decide +kernel
theorem dX12_init_252 : decode cX12_init 252 = .ok (.bipush 6, 2) := by decide +kernel
theorem dX12_init_254 : decode cX12_init 254 = .ok (.newarray .int, 2) := by decide +kernel
theorem dX12_init_256 : decode cX12_init 256 = .ok (.putfield 100, 3) := by decide +kernel
theorem dX12_init_259 : decode cX12_init 259 = .ok (.aload_n 0, 1) := by decide +kernel
theorem dX12_init_260 : decode cX12_init 260 = .ok (.bipush 120, 2) := by decide +kernel
theorem dX12_init_262 : decode cX12_init 262 = .ok (.newarray .int, 2) := by decide +kernel
theorem dX12_init_264 : decode cX12_init 264 = .ok (.putfield 103, 3) := by decide +kernel
theorem dX12_init_267 : decode cX12_init 267 = .ok (.aload_n 0, 1) := by decide +kernel
theorem dX12_init_268 : decode cX12_init 268 = .ok (.bipush 120, 2) := by decide +kernel
theorem dX12_init_270 : decode cX12_init 270 = .ok (.newarray .int, 2) := by decide +kernel
theorem dX12_init_272 : decode cX12_init 272 = .ok (.putfield 106, 3) := by decide +kernel
theorem dX12_init_275 : decode cX12_init 275 = .ok (.aload_n 0, 1) := by decide +kernel
theorem dX12_init_276 : decode cX12_init 276 = .ok (.bipush 120, 2) := by decide +kernel
theorem dX12_init_278 : decode cX12_init 278 = .ok (.newarray .int, 2) := by decide +kernel
theorem dX12_init_280 : decode cX12_init 280 = .ok (.putfield 109, 3) := by decide +kernel
theorem dX12_init_283 : decode cX12_init 283 = .ok (.aload_n 0, 1) := by decide +kernel
theorem dX12_init_284 : decode cX12_init 284 = .ok (.bipush 120, 2) := by decide +kernel
theorem dX12_init_286 : decode cX12_init 286 = .ok (.newarray .int, 2) := by decide +kernel
theorem dX12_init_288 : decode cX12_init 288 = .ok (.putfield 112, 3) := by decide +kernel
theorem dX12_init_291 : decode cX12_init 291 = .ok (.aload_n 0, 1) := by decide +kernel
theorem dX12_init_292 : decode cX12_init 292 = .ok (.bipush 120, 2) := by decide +kernel
theorem dX12_init_294 : decode cX12_init 294 = .ok (.newarray .int, 2) := by decide +kernel
theorem dX12_init_296 : decode cX12_init 296 = .ok (.putfield 115, 3) := by decide +kernel
theorem dX12_init_299 : decode cX12_init 299 = .ok (.aload_n 0, 1) := by decide +kernel
theorem dX12_init_300 : decode cX12_init 300 = .ok (.bipush 120, 2) := by decide +kernel
theorem dX12_init_302 : decode cX12_init 302 = .ok (.newarray .int, 2) := by decide +kernel
theorem dX12_init_304 : decode cX12_init 304 = .ok (.putfield 118, 3) := by decide +kernel
theorem dX12_init_307 : decode cX12_init 307 = .ok (.aload_n 0, 1) := by decide +kernel
theorem dX12_init_308 : decode cX12_init 308 = .ok (.bipush 120, 2) := by decide +kernel
theorem dX12_init_310 : decode cX12_init 310 = .ok (.newarray .int, 2) := by decide +kernel
theorem dX12_init_312 : decode cX12_init 312 = .ok (.putfield 121, 3) := by decide +kernel
theorem dX12_init_315 : decode cX12_init 315 = .ok (.aload_n 0, 1) := by decide +kernel
theorem dX12_init_316 : decode cX12_init 316 = .ok (.bipush 120, 2) := by decide +kernel
theorem dX12_init_318 : decode cX12_init 318 = .ok (.newarray .long, 2) := by decide +kernel
theorem dX12_init_320 : decode cX12_init 320 = .ok (.putfield 124, 3) := by decide +kernel
theorem dX12_init_323 : decode cX12_init 323 = .ok (.aload_n 0, 1) := by decide +kernel
theorem dX12_init_324 : decode cX12_init 324 = .ok (.bipush 120, 2) := by decide +kernel
theorem dX12_init_326 : decode cX12_init 326 = .ok (.newarray .long, 2) := by decide +kernel
theorem dX12_init_328 : decode cX12_init 328 = .ok (.putfield 127, 3) := by decide +kernel
theorem dX12_init_331 : decode cX12_init 331 = .ok (.aload_n 0, 1) := by decide +kernel
theorem dX12_init_332 : decode cX12_init 332 = .ok (.sipush 1500, 3) := by decide +kernel
theorem dX12_init_335 : decode cX12_init 335 = .ok (.newarray .int, 2) := by decide +kernel
theorem dX12_init_337 : decode cX12_init 337 = .ok (.putfield 130, 3) := by decide +kernel
theorem dX12_init_340 : decode cX12_init 340 = .ok (.aload_n 0, 1) := by decide +kernel
theorem dX12_init_341 : decode cX12_init 341 = .ok (.sipush 1500, 3) := by decide +kernel
theorem dX12_init_344 : decode cX12_init 344 = .ok (.newarray .int, 2) := by decide +kernel
theorem dX12_init_346 : decode cX12_init 346 = .ok (.putfield 133, 3) := by decide +kernel
theorem dX12_init_349 : decode cX12_init 349 = .ok (.aload_n 0, 1) := by decide +kernel
theorem dX12_init_350 : decode cX12_init 350 = .ok (.sipush 1500, 3) := by decide +kernel
theorem dX12_init_353 : decode cX12_init 353 = .ok (.newarray .int, 2) := by decide +kernel
theorem dX12_init_355 : decode cX12_init 355 = .ok (.putfield 136, 3) := by decide +kernel
theorem dX12_init_358 : decode cX12_init 358 = .ok (.aload_n 0, 1) := by decide +kernel
theorem dX12_init_359 : decode cX12_init 359 = .ok (.sipush 1500, 3) := by decide +kernel
theorem dX12_init_362 : decode cX12_init 362 = .ok (.newarray .int, 2) := by decide +kernel
theorem dX12_init_364 : decode cX12_init 364 = .ok (.putfield 139, 3) := by decide +kernel
theorem dX12_init_367 : decode cX12_init 367 = .ok (.aload_n 0, 1) := by decide +kernel
theorem dX12_init_368 : decode cX12_init 368 = .ok (.sipush 1500, 3) := by decide +kernel
theorem dX12_init_371 : decode cX12_init 371 = .ok (.newarray .boolean, 2) := by decide +kernel
theorem dX12_init_373 : decode cX12_init 373 = .ok (.putfield 142, 3) := by decide +kernel
theorem dX12_init_376 : decode cX12_init 376 = .ok (.aload_n 0, 1) := by decide +kernel
theorem dX12_init_377 : decode cX12_init 377 = .ok (.sipush 1500, 3) := by decide +kernel
theorem dX12_init_380 : decode cX12_init 380 = .ok (.newarray .boolean, 2) := by decide +kernel
theorem dX12_init_382 : decode cX12_init 382 = .ok (.putfield 146, 3) := by decide +kernel
theorem dX12_init_385 : decode cX12_init 385 = .ok (.aload_n 0, 1) := by decide +kernel
theorem dX12_init_386 : decode cX12_init 386 = .ok (.sipush 4000, 3) := by decide +kernel
theorem dX12_init_389 : decode cX12_init 389 = .ok (.newarray .int, 2) := by decide +kernel
theorem dX12_init_391 : decode cX12_init 391 = .ok (.putfield 149, 3) := by decide +kernel
theorem dX12_init_394 : decode cX12_init 394 = .ok (.aload_n 0, 1) := by decide +kernel
theorem dX12_init_395 : decode cX12_init 395 = .ok (.sipush 4000, 3) := by decide +kernel
theorem dX12_init_398 : decode cX12_init 398 = .ok (.newarray .int, 2) := by decide +kernel
theorem dX12_init_400 : decode cX12_init 400 = .ok (.putfield 152, 3) := by decide +kernel
theorem dX12_init_403 : decode cX12_init 403 = .ok (.aload_n 0, 1) := by decide +kernel
theorem dX12_init_404 : decode cX12_init 404 = .ok (.bipush 8, 2) := by decide +kernel
theorem dX12_init_406 : decode cX12_init 406 = .ok (.newarray .int, 2) := by decide +kernel
theorem dX12_init_408 : decode cX12_init 408 = .ok (.putfield 155, 3) := by decide +kernel
theorem dX12_init_411 : decode cX12_init 411 = .ok (.aload_n 0, 1) := by decide +kernel
theorem dX12_init_412 : decode cX12_init 412 = .ok (.bipush 8, 2) := by decide +kernel
theorem dX12_init_414 : decode cX12_init 414 = .ok (.newarray .int, 2) := by decide +kernel
theorem dX12_init_416 : decode cX12_init 416 = .ok (.putfield 158, 3) := by decide +kernel
theorem dX12_init_419 : decode cX12_init 419 = .ok (.aload_n 0, 1) := by decide +kernel
theorem dX12_init_420 : decode cX12_init 420 = .ok (.bipush 100, 2) := by decide +kernel
theorem dX12_init_422 : decode cX12_init 422 = .ok (.newarray .int, 2) := by decide +kernel
theorem dX12_init_424 : decode cX12_init 424 = .ok (.putfield 161, 3) := by decide +kernel
theorem dX12_init_427 : decode cX12_init 427 = .ok (.aload_n 0, 1) := by decide +kernel
theorem dX12_init_428 : decode cX12_init 428 = .ok (.iconst 5, 1) := by decide +kernel
theorem dX12_init_429 : decode cX12_init 429 = .ok (.newarray .int, 2) := by decide +kernel
theorem dX12_init_431 : decode cX12_init 431 = .ok (.putfield 164, 3) := by decide +kernel
theorem dX12_init_434 : decode cX12_init 434 = .ok (.aload_n 0, 1) := by decide +kernel
theorem dX12_init_435 : decode cX12_init 435 = .ok (.bipush 100, 2) := by decide +kernel
theorem dX12_init_437 : decode cX12_init 437 = .ok (.newarray .boolean, 2) := by decide +kernel
theorem dX12_init_439 : decode cX12_init 439 = .ok (.putfield 167, 3) := by decide +kernel
theorem dX12_init_442 : decode cX12_init 442 = .ok (.aload_n 0, 1) := by decide +kernel
theorem dX12_init_443 : decode cX12_init 443 = .ok (.bipush 15, 2) := by decide +kernel
theorem dX12_init_445 : decode cX12_init 445 = .ok (.newarray .int, 2) := by decide +kernel
theorem dX12_init_447 : decode cX12_init 447 = .ok (.dup, 1) := by decide +kernel
theorem dX12_init_448 : decode cX12_init 448 = .ok (.iconst 0, 1) := by decide +kernel
theorem dX12_init_449 : decode cX12_init 449 = .ok (.bipush 6, 2) := by decide +kernel
theorem dX12_init_451 : decode cX12_init 451 = .ok (.iastore, 1) := by decide +kernel
theorem dX12_init_452 : decode cX12_init 452 = .ok (.dup, 1) := by decide +kernel
theorem dX12_init_453 : decode cX12_init 453 = .ok (.iconst 1, 1) := by decide +kernel
theorem dX12_init_454 : decode cX12_init 454 = .ok (.bipush 6, 2) := by decide +kernel
theorem dX12_init_456 : decode cX12_init 456 = .ok (.iastore, 1) := by decide +kernel
theorem dX12_init_457 : decode cX12_init 457 = .ok (.dup, 1) := by decide +kernel
theorem dX12_init_458 : decode cX12_init 458 = .ok (.iconst 2, 1) := by decide +kernel
theorem dX12_init_459 : decode cX12_init 459 = .ok (.bipush 6, 2) := by decide +kernel
theorem dX12_init_461 : decode cX12_init 461 = .ok (.iastore, 1) := by decide +kernel
theorem dX12_init_462 : decode cX12_init 462 = .ok (.dup, 1) := by decide +kernel
theorem dX12_init_463 : decode cX12_init 463 = .ok (.iconst 3, 1) := by decide +kernel
theorem dX12_init_464 : decode cX12_init 464 = .ok (.bipush 6, 2) := by decide +kernel
theorem dX12_init_466 : decode cX12_init 466 = .ok (.iastore, 1) := by decide +kernel
theorem dX12_init_467 : decode cX12_init 467 = .ok (.dup, 1) := by decide +kernel
theorem dX12_init_468 : decode cX12_init 468 = .ok (.iconst 4, 1) := by decide +kernel
theorem dX12_init_469 : decode cX12_init 469 = .ok (.bipush 6, 2) := by decide +kernel
theorem dX12_init_471 : decode cX12_init 471 = .ok (.iastore, 1) := by decide +kernel
theorem dX12_init_472 : decode cX12_init 472 = .ok (.dup, 1) := by decide +kernel
theorem dX12_init_473 : decode cX12_init 473 = .ok (.iconst 5, 1) := by decide +kernel
theorem dX12_init_474 : decode cX12_init 474 = .ok (.bipush 6, 2) := by decide +kernel
theorem dX12_init_476 : decode cX12_init 476 = .ok (.iastore, 1) := by decide +kernel
theorem dX12_init_477 : decode cX12_init 477 = .ok (.dup, 1) := by decide +kernel
theorem dX12_init_478 : decode cX12_init 478 = .ok (.bipush 6, 2) := by decide +kernel
theorem dX12_init_480 : decode cX12_init 480 = .ok (.bipush 6, 2) := by decide +kernel
theorem dX12_init_482 : decode cX12_init 482 = .ok (.iastore, 1) := by decide +kernel
theorem dX12_init_483 : decode cX12_init 483 = .ok (.dup, 1) := by decide +kernel
theorem dX12_init_484 : decode cX12_init 484 = .ok (.bipush 7, 2) := by decide +kernel
theorem dX12_init_486 : decode cX12_init 486 = .ok (.bipush 6, 2) := by decide +kernel
theorem dX12_init_488 : decode cX12_init 488 = .ok (.iastore, 1) := by decide +kernel
theorem dX12_init_489 : decode cX12_init 489 = .ok (.dup, 1) := by decide +kernel
theorem dX12_init_490 : decode cX12_init 490 = .ok (.bipush 8, 2) := by decide +kernel
theorem dX12_init_492 : decode cX12_init 492 = .ok (.bipush 6, 2) := by decide +kernel
theorem dX12_init_494 : decode cX12_init 494 = .ok (.iastore, 1) := by decide +kernel
theorem dX12_init_495 : decode cX12_init 495 = .ok (.dup, 1) := by decide +kernel
theorem dX12_init_496 : decode cX12_init 496 = .ok (.bipush 9, 2) := by decide +kernel
theorem dX12_init_498 : decode cX12_init 498 = .ok (.bipush 6, 2) := by decide +kernel
theorem dX12_init_500 : decode cX12_init 500 = .ok (.iastore, 1) := by decide +kernel
theorem dX12_init_501 : decode cX12_init 501 = .ok (.dup, 1) := by decide +kernel
theorem dX12_init_502 : decode cX12_init 502 = .ok (.bipush 10, 2) := by decide +kernel
theorem dX12_init_504 : decode cX12_init 504 = .ok (.bipush 6, 2) := by decide +kernel
theorem dX12_init_506 : decode cX12_init 506 = .ok (.iastore, 1) := by decide +kernel
theorem dX12_init_507 : decode cX12_init 507 = .ok (.dup, 1) := by decide +kernel
theorem dX12_init_508 : decode cX12_init 508 = .ok (.bipush 11, 2) := by decide +kernel
theorem dX12_init_510 : decode cX12_init 510 = .ok (.bipush 6, 2) := by decide +kernel
theorem dX12_init_512 : decode cX12_init 512 = .ok (.iastore, 1) := by decide +kernel
theorem dX12_init_513 : decode cX12_init 513 = .ok (.dup, 1) := by decide +kernel
theorem dX12_init_514 : decode cX12_init 514 = .ok (.bipush 12, 2) := by decide +kernel
theorem dX12_init_516 : decode cX12_init 516 = .ok (.bipush 6, 2) := by decide +kernel
theorem dX12_init_518 : decode cX12_init 518 = .ok (.iastore, 1) := by decide +kernel
theorem dX12_init_519 : decode cX12_init 519 = .ok (.dup, 1) := by decide +kernel
theorem dX12_init_520 : decode cX12_init 520 = .ok (.bipush 13, 2) := by decide +kernel
theorem dX12_init_522 : decode cX12_init 522 = .ok (.bipush 6, 2) := by decide +kernel
theorem dX12_init_524 : decode cX12_init 524 = .ok (.iastore, 1) := by decide +kernel
theorem dX12_init_525 : decode cX12_init 525 = .ok (.dup, 1) := by decide +kernel
theorem dX12_init_526 : decode cX12_init 526 = .ok (.bipush 14, 2) := by decide +kernel
theorem dX12_init_528 : decode cX12_init 528 = .ok (.bipush 6, 2) := by decide +kernel
theorem dX12_init_530 : decode cX12_init 530 = .ok (.iastore, 1) := by decide +kernel
theorem dX12_init_531 : decode cX12_init 531 = .ok (.putfield 170, 3) := by decide +kernel
theorem dX12_init_534 : decode cX12_init 534 = .ok (.aload_n 0, 1) := by decide +kernel
theorem dX12_init_535 : decode cX12_init 535 = .ok (.bipush 15, 2) := by decide +kernel
theorem dX12_init_537 : decode cX12_init 537 = .ok (.newarray .int, 2) := by decide +kernel
theorem dX12_init_539 : decode cX12_init 539 = .ok (.putfield 173, 3) := by decide +kernel
theorem dX12_init_542 : decode cX12_init 542 = .ok (.aload_n 0, 1) := by decide +kernel
theorem dX12_init_543 : decode cX12_init 543 = .ok (.bipush 15, 2) := by decide +kernel
theorem dX12_init_545 : decode cX12_init 545 = .ok (.newarray .int, 2) := by decide +kernel
theorem dX12_init_547 : decode cX12_init 547 = .ok (.dup, 1) := by decide +kernel
theorem dX12_init_548 : decode cX12_init 548 = .ok (.iconst 0, 1) := by decide +kernel
theorem dX12_init_549 : decode cX12_init 549 = .ok (.ldc 176, 2) := by decide +kernel
theorem dX12_init_551 : decode cX12_init 551 = .ok (.iastore, 1) := by decide +kernel
theorem dX12_init_552 : decode cX12_init 552 = .ok (.dup, 1) := by decide +kernel
theorem dX12_init_553 : decode cX12_init 553 = .ok (.iconst 1, 1) := by decide +kernel
theorem dX12_init_554 : decode cX12_init 554 = .ok (.ldc 177, 2) := by decide +kernel
theorem dX12_init_556 : decode cX12_init 556 = .ok (.iastore, 1) := by decide +kernel
theorem dX12_init_557 : decode cX12_init 557 = .ok (.dup, 1) := by decide +kernel
theorem dX12_init_558 : decode cX12_init 558 = .ok (.iconst 2, 1) := by decide +kernel
theorem dX12_init_559 : decode cX12_init 559 = .ok (.ldc 178, 2) := by decide +kernel
theorem dX12_init_561 : decode cX12_init 561 = .ok (.iastore, 1) := by decide +kernel
theorem dX12_init_562 : decode cX12_init 562 = .ok (.dup, 1) := by decide +kernel
theorem dX12_init_563 : decode cX12_init 563 = .ok (.iconst 3, 1) := by decide +kernel
theorem dX12_init_564 : decode cX12_init 564 = .ok (.ldc 179, 2) := by decide +kernel
theorem dX12_init_566 : decode cX12_init 566 = .ok (.iastore, 1) := by decide +kernel
theorem dX12_init_567 : decode cX12_init 567 = .ok (.dup, 1) := by decide +kernel
theorem dX12_init_568 : decode cX12_init 568 = .ok (.iconst 4, 1) := by decide +kernel
theorem dX12_init_569 : decode cX12_init 569 = .ok (.ldc 180, 2) := by decide +kernel
theorem dX12_init_571 : decode cX12_init 571 = .ok (.iastore, 1) := by decide +kernel
theorem dX12_init_572 : decode cX12_init 572 = .ok (.dup, 1) := by decide +kernel
theorem dX12_init_573 : decode cX12_init 573 = .ok (.iconst 5, 1) := by decide +kernel
theorem dX12_init_574 : decode cX12_init 574 = .ok (.ldc 181, 2) := by decide +kernel
theorem dX12_init_576 : decode cX12_init 576 = .ok (.iastore, 1) := by decide +kernel
theorem dX12_init_577 : decode cX12_init 577 = .ok (.dup, 1) := by decide +kernel
theorem dX12_init_578 : decode cX12_init 578 = .ok (.bipush 6, 2) := by decide +kernel
theorem dX12_init_580 : decode cX12_init 580 = .ok (.ldc 182, 2) := by decide +kernel
theorem dX12_init_582 : decode cX12_init 582 = .ok (.iastore, 1) := by decide +kernel
theorem dX12_init_583 : decode cX12_init 583 = .ok (.dup, 1) := by decide +kernel
theorem dX12_init_584 : decode cX12_init 584 = .ok (.bipush 7, 2) := by decide +kernel
theorem dX12_init_586 : decode cX12_init 586 = .ok (.ldc 183, 2) := by decide +kernel
theorem dX12_init_588 : decode cX12_init 588 = .ok (.iastore, 1) := by decide +kernel
theorem dX12_init_589 : decode cX12_init 589 = .ok (.dup, 1) := by decide +kernel
theorem dX12_init_590 : decode cX12_init 590 = .ok (.bipush 8, 2) := by decide +kernel
theorem dX12_init_592 : decode cX12_init 592 = .ok (.ldc 184, 2) := by decide +kernel
theorem dX12_init_594 : decode cX12_init 594 = .ok (.iastore, 1) := by decide +kernel
theorem dX12_init_595 : decode cX12_init 595 = .ok (.dup, 1) := by decide +kernel
theorem dX12_init_596 : decode cX12_init 596 = .ok (.bipush 9, 2) := by decide +kernel
theorem dX12_init_598 : decode cX12_init 598 = .ok (.ldc 185, 2) := by decide +kernel
theorem dX12_init_600 : decode cX12_init 600 = .ok (.iastore, 1) := by decide +kernel
theorem dX12_init_601 : decode cX12_init 601 = .ok (.dup, 1) := by decide +kernel
theorem dX12_init_602 : decode cX12_init 602 = .ok (.bipush 10, 2) := by decide +kernel
theorem dX12_init_604 : decode cX12_init 604 = .ok (.ldc 186, 2) := by decide +kernel
theorem dX12_init_606 : decode cX12_init 606 = .ok (.iastore, 1) := by decide +kernel
theorem dX12_init_607 : decode cX12_init 607 = .ok (.dup, 1) := by decide +kernel
theorem dX12_init_608 : decode cX12_init 608 = .ok (.bipush 11, 2) := by decide +kernel
theorem dX12_init_610 : decode cX12_init 610 = .ok (.sipush 2048, 3) := by decide +kernel
theorem dX12_init_613 : decode cX12_init 613 = .ok (.iastore, 1) := by decide +kernel
theorem dX12_init_614 : decode cX12_init 614 = .ok (.dup, 1) := by decide +kernel
theorem dX12_init_615 : decode cX12_init 615 = .ok (.bipush 12, 2) := by decide +kernel
theorem dX12_init_617 : decode cX12_init 617 = .ok (.sipush 4096, 3) := by decide +kernel
theorem dX12_init_620 : decode cX12_init 620 = .ok (.iastore, 1) := by decide +kernel
theorem dX12_init_621 : decode cX12_init 621 = .ok (.dup, 1) := by decide +kernel
theorem dX12_init_622 : decode cX12_init 622 = .ok (.bipush 13, 2) := by decide +kernel
theorem dX12_init_624 : decode cX12_init 624 = .ok (.sipush 8192, 3) := by decide +kernel
theorem dX12_init_627 : decode cX12_init 627 = .ok (.iastore, 1) := by decide +kernel
theorem dX12_init_628 : decode cX12_init 628 = .ok (.dup, 1) := by decide +kernel
theorem dX12_init_629 : decode cX12_init 629 = .ok (.bipush 14, 2) := by decide +kernel
theorem dX12_init_631 : decode cX12_init 631 = .ok (.sipush 16384, 3) := by decide +kernel
theorem dX12_init_634 : decode cX12_init 634 = .ok (.iastore, 1) := by decide +kernel
theorem dX12_init_635 : decode cX12_init 635 = .ok (.putfield 187, 3) := by decide +kernel
theorem dX12_init_638 : decode cX12_init 638 = .ok (.aload_n 0, 1) := by decide +kernel
theorem dX12_init_639 : decode cX12_init 639 = .ok (.sipush 600, 3) := by decide +kernel
theorem dX12_init_642 : decode cX12_init 642 = .ok (.newarray .int, 2) := by decide +kernel
theorem dX12_init_644 : decode cX12_init 644 = .ok (.putfield 190, 3) := by decide +kernel
theorem dX12_init_647 : decode cX12_init 647 = .ok (.aload_n 0, 1) := by decide +kernel
theorem dX12_init_648 : decode cX12_init 648 = .ok (.bipush 40, 2) := by decide +kernel
theorem dX12_init_650 : decode cX12_init 650 = .ok (.newarray .int, 2) := by decide +kernel
theorem dX12_init_652 : decode cX12_init 652 = .ok (.putfield 193, 3) := by decide +kernel
theorem dX12_init_655 : decode cX12_init 655 = .ok (.aload_n 0, 1) := by decide +kernel
theorem dX12_init_656 : decode cX12_init 656 = .ok (.bipush 40, 2) := by decide +kernel
theorem dX12_init_658 : decode cX12_init 658 = .ok (.newarray .int, 2) := by decide +kernel
theorem dX12_init_660 : decode cX12_init 660 = .ok (.putfield 196, 3) := by decide +kernel
theorem dX12_init_663 : decode cX12_init 663 = .ok (.aload_n 0, 1) := by decide +kernel
theorem dX12_init_664 : decode cX12_init 664 = .ok (.bipush 40, 2) := by decide +kernel
theorem dX12_init_666 : decode cX12_init 666 = .ok (.newarray .int, 2) := by decide +kernel
theorem dX12_init_668 : decode cX12_init 668 = .ok (.putfield 199, 3) := by decide +kernel
theorem dX12_init_671 : decode cX12_init 671 = .ok (.aload_n 0, 1) := by decide +kernel
theorem dX12_init_672 : decode cX12_init 672 = .ok (.bipush 12, 2) := by decide +kernel
theorem dX12_init_674 : decode cX12_init 674 = .ok (.newarray .int, 2) := by decide +kernel
theorem dX12_init_676 : decode cX12_init 676 = .ok (.putfield 202, 3) := by decide +kernel
theorem dX12_init_679 : decode cX12_init 679 = .ok (.aload_n 0, 1) := by decide +kernel
theorem dX12_init_680 : decode cX12_init 680 = .ok (.bipush 12, 2) := by decide +kernel
theorem dX12_init_682 : decode cX12_init 682 = .ok (.newarray .int, 2) := by decide +kernel
theorem dX12_init_684 : decode cX12_init 684 = .ok (.putfield 205, 3) := by decide +kernel
theorem dX12_init_687 : decode cX12_init 687 = .ok (.aload_n 0, 1) := by decide +kernel
theorem dX12_init_688 : decode cX12_init 688 = .ok (.bipush 12, 2) := by decide +kernel
theorem dX12_init_690 : decode cX12_init 690 = .ok (.newarray .int, 2) := by decide +kernel
theorem dX12_init_692 : decode cX12_init 692 = .ok (.putfield 208, 3) := by decide +kernel
theorem dX12_init_695 : decode cX12_init 695 = .ok (.aload_n 0, 1) := by decide +kernel
theorem dX12_init_696 : decode cX12_init 696 = .ok (.bipush 40, 2) := by decide +kernel
theorem dX12_init_698 : decode cX12_init 698 = .ok (.newarray .boolean, 2) := by decide +kernel
theorem dX12_init_700 : decode cX12_init 700 = .ok (.putfield 211, 3) := by decide +kernel
theorem dX12_init_703 : decode cX12_init 703 = .ok (.aload_n 0, 1) := by decide +kernel
theorem dX12_init_704 : decode cX12_init 704 = .ok (.bipush 40, 2) := by decide +kernel
theorem dX12_init_706 : decode cX12_init 706 = .ok (.newarray .boolean, 2) := by decide +kernel
theorem dX12_init_708 : decode cX12_init 708 = .ok (.putfield 214, 3) := by decide +kernel
theorem dX12_init_711 : decode cX12_init 711 = .ok (.aload_n 0, 1) := by decide +kernel
theorem dX12_init_712 : decode cX12_init 712 = .ok (.iconst 4, 1) := by decide +kernel
theorem dX12_init_713 : decode cX12_init 713 = .ok (.putfield 217, 3) := by decide +kernel
theorem dX12_init_716 : decode cX12_init 716 = .ok (.aload_n 0, 1) := by decide +kernel
theorem dX12_init_717 : decode cX12_init 717 = .ok (.bipush 7, 2) := by decide +kernel
theorem dX12_init_719 : decode cX12_init 719 = .ok (.newarray .long, 2) := by decide +kernel
theorem dX12_init_721 : decode cX12_init 721 = .ok (.putfield 220, 3) := by decide +kernel
theorem dX12_init_724 : decode cX12_init 724 = .ok (.aload_n 0, 1) := by decide +kernel
theorem dX12_init_725 : decode cX12_init 725 = .ok (.sipush 700, 3) := by decide +kernel
theorem dX12_init_728 : decode cX12_init 728 = .ok (.newarray .long, 2) := by decide +kernel
theorem dX12_init_730 : decode cX12_init 730 = .ok (.putfield 223, 3) := by decide +kernel
theorem dX12_init_733 : decode cX12_init 733 = .ok (.aload_n 0, 1) := by decide +kernel
theorem dX12_init_734 : decode cX12_init 734 = .ok (.bipush 60, 2) := by decide +kernel
theorem dX12_init_736 : decode cX12_init 736 = .ok (.newarray .int, 2) := by decide +kernel
theorem dX12_init_738 : decode cX12_init 738 = .ok (.putfield 226, 3) := by decide +kernel
theorem dX12_init_741 : decode cX12_init 741 = .ok (.aload_n 0, 1) := by decide +kernel
theorem dX12_init_742 : decode cX12_init 742 = .ok (.bipush 60, 2) := by decide +kernel
theorem dX12_init_744 : decode cX12_init 744 = .ok (.newarray .int, 2) := by decide +kernel
theorem dX12_init_746 : decode cX12_init 746 = .ok (.putfield 229, 3) := by decide +kernel
theorem dX12_init_749 : decode cX12_init 749 = .ok (.aload_n 0, 1) := by decide +kernel
theorem dX12_init_750 : decode cX12_init 750 = .ok (.bipush 8, 2) := by decide +kernel
theorem dX12_init_752 : decode cX12_init 752 = .ok (.newarray .int, 2) := by decide +kernel
theorem dX12_init_754 : decode cX12_init 754 = .ok (.putfield 232, 3) := by decide +kernel
theorem dX12_init_757 : decode cX12_init 757 = .ok (.aload_n 0, 1) := by decide +kernel
theorem dX12_init_758 : decode cX12_init 758 = .ok (.bipush 8, 2) := by decide +kernel
theorem dX12_init_760 : decode cX12_init 760 = .ok (.newarray .int, 2) := by decide +kernel
theorem dX12_init_762 : decode cX12_init 762 = .ok (.putfield 235, 3) := by decide +kernel
theorem dX12_init_765 : decode cX12_init 765 = .ok (.aload_n 0, 1) := by decide +kernel
theorem dX12_init_766 : decode cX12_init 766 = .ok (.bipush 81, 2) := by decide +kernel
theorem dX12_init_768 : decode cX12_init 768 = .ok (.newarray .int, 2) := by decide +kernel
theorem dX12_init_770 : decode cX12_init 770 = .ok (.putfield 238, 3) := by decide +kernel
theorem dX12_init_773 : decode cX12_init 773 = .ok (.aload_n 0, 1) := by decide +kernel
theorem dX12_init_774 : decode cX12_init 774 = .ok (.bipush 16, 2) := by decide +kernel
theorem dX12_init_776 : decode cX12_init 776 = .ok (.newarray .int, 2) := by decide +kernel
theorem dX12_init_778 : decode cX12_init 778 = .ok (.putfield 241, 3) := by decide +kernel
theorem dX12_init_781 : decode cX12_init 781 = .ok (.aload_n 0, 1) := by decide +kernel
theorem dX12_init_782 : decode cX12_init 782 = .ok (.bipush 16, 2) := by decide +kernel
theorem dX12_init_784 : decode cX12_init 784 = .ok (.newarray .int, 2) := by decide +kernel
theorem dX12_init_786 : decode cX12_init 786 = .ok (.putfield 244, 3) := by decide +kernel
theorem dX12_init_789 : decode cX12_init 789 = .ok (.aload_n 0, 1) := by decide +kernel
theorem dX12_init_790 : decode cX12_init 790 = .ok (.bipush 60, 2) := by decide +kernel
theorem dX12_init_792 : decode cX12_init 792 = .ok (.newarray .long, 2) := by decide +kernel
theorem dX12_init_794 : decode cX12_init 794 = .ok (.putfield 247, 3) := by decide +kernel
theorem dX12_init_797 : decode cX12_init 797 = .ok (.aload_n 0, 1) := by decide +kernel
theorem dX12_init_798 : decode cX12_init 798 = .ok (.bipush 60, 2) := by decide +kernel
theorem dX12_init_800 : decode cX12_init 800 = .ok (.newarray .long, 2) := by decide +kernel
theorem dX12_init_802 : decode cX12_init 802 = .ok (.putfield 250, 3) := by decide +kernel
theorem dX12_init_805 : decode cX12_init 805 = .ok (.aload_n 0, 1) := by decide +kernel
theorem dX12_init_806 : decode cX12_init 806 = .ok (.bipush 7, 2) := by decide +kernel
theorem dX12_init_808 : decode cX12_init 808 = .ok (.newarray .int, 2) := by decide +kernel
theorem dX12_init_810 : decode cX12_init 810 = .ok (.putfield 253, 3) := by decide +kernel
theorem dX12_init_813 : decode cX12_init 813 = .ok (.aload_n 0, 1) := by decide +kernel
theorem dX12_init_814 : decode cX12_init 814 = .ok (.bipush 7, 2) := by decide +kernel
theorem dX12_init_816 : decode cX12_init 816 = .ok (.newarray .int, 2) := by decide +kernel
theorem dX12_init_818 : decode cX12_init 818 = .ok (.putfield 256, 3) := by decide +kernel
theorem dX12_init_821 : decode cX12_init 821 = .ok (.aload_n 0, 1) := by decide +kernel
theorem dX12_init_822 : decode cX12_init 822 = .ok (.bipush 7, 2) := by decide +kernel
theorem dX12_init_824 : decode cX12_init 824 = .ok (.newarray .int, 2) := by decide +kernel
theorem dX12_init_826 : decode cX12_init 826 = .ok (.putfield 259, 3) := by decide +kernel
theorem dX12_init_829 : decode cX12_init 829 = .ok (.aload_n 0, 1) := by decide +kernel
theorem dX12_init_830 : decode cX12_init 830 = .ok (.bipush 49, 2) := by decide +kernel
theorem dX12_init_832 : decode cX12_init 832 = .ok (.newarray .int, 2) := by decide +kernel
theorem dX12_init_834 : decode cX12_init 834 = .ok (.putfield 262, 3) := by decide +kernel
theorem dX12_init_837 : decode cX12_init 837 = .ok (.aload_n 0, 1) := by decide +kernel
theorem dX12_init_838 : decode cX12_init 838 = .ok (.bipush 7, 2) := by decide +kernel
theorem dX12_init_840 : decode cX12_init 840 = .ok (.newarray .int, 2) := by decide +kernel
theorem dX12_init_842 : decode cX12_init 842 = .ok (.putfield 265, 3) := by decide +kernel
theorem dX12_init_845 : decode cX12_init 845 = .ok (.aload_n 0, 1) := by decide +kernel
theorem dX12_init_846 : decode cX12_init 846 = .ok (.bipush 7, 2) := by decide +kernel
theorem dX12_init_848 : decode cX12_init 848 = .ok (.newarray .int, 2) := by decide +kernel
theorem dX12_init_850 : decode cX12_init 850 = .ok (.putfield 268, 3) := by decide +kernel
theorem dX12_init_853 : decode cX12_init 853 = .ok (.aload_n 0, 1) := by decide +kernel
theorem dX12_init_854 : decode cX12_init 854 = .ok (.bipush 7, 2) := by decide +kernel
theorem dX12_init_856 : decode cX12_init 856 = .ok (.newarray .int, 2) := by decide +kernel
theorem dX12_init_858 : decode cX12_init 858 = .ok (.putfield 271, 3) := by decide +kernel
theorem dX12_init_861 : decode cX12_init 861 = .ok (.aload_n 0, 1) := by decide +kernel
theorem dX12_init_862 : decode cX12_init 862 = .ok (.sipush 3721, 3) := by decide +kernel
theorem dX12_init_865 : decode cX12_init 865 = .ok (.newarray .long, 2) := by decide +kernel
theorem dX12_init_867 : decode cX12_init 867 = .ok (.putfield 274, 3) := by decide +kernel
theorem dX12_init_870 : decode cX12_init 870 = .ok (.return_, 1) := by decide +kernel
noncomputable def X12_init (w : Wd) : Option (Wd) :=
(some (puI w 97 1 1)).bind fun w1 =>
gd (vp_in (0 : Int32) 4) <|
(some (puI w1 99 (ix (0 : Int32)) (-1 : Int32))).bind fun w2 =>
gd (vp_in (1 : Int32) 4) <|
(some (puI w2 99 (ix (1 : Int32)) (-1 : Int32))).bind fun w3 =>
gd (vp_in (2 : Int32) 4) <|
(some (puI w3 99 (ix (2 : Int32)) (-1 : Int32))).bind fun w4 =>
gd (vp_in (3 : Int32) 4) <|
(some (puI w4 99 (ix (3 : Int32)) (-1 : Int32))).bind fun w5 =>
(some (puI w5 97 2 1)).bind fun w6 =>
(some (puI w6 97 3 1)).bind fun w7 =>
(some (puI w7 97 11 (59 : Int32))).bind fun w8 =>
(some (puI w8 97 12 1)).bind fun w9 =>
(some (puI w9 97 13 1)).bind fun w10 =>
(some (puI w10 97 14 1)).bind fun w11 =>
(some (puI w11 97 15 1)).bind fun w12 =>
(some (puI w12 97 16 1)).bind fun w13 =>
(some (puI w13 97 17 1)).bind fun w14 =>
(some (puI w14 97 18 1)).bind fun w15 =>
(some (puI w15 97 19 1)).bind fun w16 =>
(some (puI w16 97 20 1)).bind fun w17 =>
(some (puI w17 97 21 1)).bind fun w18 =>
(some (puI w18 97 22 1)).bind fun w19 =>
(some (puI w19 97 23 1)).bind fun w20 =>
(some (puI w20 97 24 1)).bind fun w21 =>
(some (puI w21 97 25 1)).bind fun w22 =>
(some (puI w22 97 26 1)).bind fun w23 =>
(some (puI w23 97 27 1)).bind fun w24 =>
(some (puI w24 97 28 1)).bind fun w25 =>
(some (puI w25 97 29 1)).bind fun w26 =>
(some (puI w26 97 30 1)).bind fun w27 =>
(some (puI w27 97 31 1)).bind fun w28 =>
(some (puI w28 97 32 1)).bind fun w29 =>
(some (puI w29 97 39 (-1 : Int32))).bind fun w30 =>
(some (puI w30 97 40 (-1 : Int32))).bind fun w31 =>
(some (puI w31 97 45 1)).bind fun w32 =>
(some (puI w32 97 46 1)).bind fun w33 =>
(some (puI w33 97 47 1)).bind fun w34 =>
(some (puI w34 97 48 1)).bind fun w35 =>
(some (puI w35 97 49 1)).bind fun w36 =>
(some (puI w36 97 50 1)).bind fun w37 =>
(some (puI w37 97 51 1)).bind fun w38 =>
(some (puI w38 97 52 1)).bind fun w39 =>
(some (puI w39 97 53 1)).bind fun w40 =>
(some (puI w40 97 54 1)).bind fun w41 =>
(some (puI w41 97 55 1)).bind fun w42 =>
(some (puI w42 97 56 1)).bind fun w43 =>
(some (puI w43 97 57 1)).bind fun w44 =>
(some (puI w44 97 58 1)).bind fun w45 =>
(some (puI w45 97 59 1)).bind fun w46 =>
(some (puI w46 97 60 1)).bind fun w47 =>
(some (puI w47 97 61 1)).bind fun w48 =>
(some (puI w48 97 62 1)).bind fun w49 =>
(some (puI w49 97 63 1)).bind fun w50 =>
(some (puI w50 97 64 1)).bind fun w51 =>
(some (puI w51 97 65 1)).bind fun w52 =>
(some (puI w52 97 66 1)).bind fun w53 =>
(some (puI w53 97 67 1)).bind fun w54 =>
(some (puI w54 97 68 1)).bind fun w55 =>
(some (puI w55 97 69 1)).bind fun w56 =>
gd (vp_in (0 : Int32) 15) <|
(some (puI w56 147 (ix (0 : Int32)) (6 : Int32))).bind fun w57 =>
gd (vp_in (1 : Int32) 15) <|
(some (puI w57 147 (ix (1 : Int32)) (6 : Int32))).bind fun w58 =>
gd (vp_in (2 : Int32) 15) <|
(some (puI w58 147 (ix (2 : Int32)) (6 : Int32))).bind fun w59 =>
gd (vp_in (3 : Int32) 15) <|
(some (puI w59 147 (ix (3 : Int32)) (6 : Int32))).bind fun w60 =>
gd (vp_in (4 : Int32) 15) <|
(some (puI w60 147 (ix (4 : Int32)) (6 : Int32))).bind fun w61 =>
gd (vp_in (5 : Int32) 15) <|
(some (puI w61 147 (ix (5 : Int32)) (6 : Int32))).bind fun w62 =>
gd (vp_in (6 : Int32) 15) <|
(some (puI w62 147 (ix (6 : Int32)) (6 : Int32))).bind fun w63 =>
gd (vp_in (7 : Int32) 15) <|
(some (puI w63 147 (ix (7 : Int32)) (6 : Int32))).bind fun w64 =>
gd (vp_in (8 : Int32) 15) <|
(some (puI w64 147 (ix (8 : Int32)) (6 : Int32))).bind fun w65 =>
gd (vp_in (9 : Int32) 15) <|
(some (puI w65 147 (ix (9 : Int32)) (6 : Int32))).bind fun w66 =>
gd (vp_in (10 : Int32) 15) <|
(some (puI w66 147 (ix (10 : Int32)) (6 : Int32))).bind fun w67 =>
gd (vp_in (11 : Int32) 15) <|
(some (puI w67 147 (ix (11 : Int32)) (6 : Int32))).bind fun w68 =>
gd (vp_in (12 : Int32) 15) <|
(some (puI w68 147 (ix (12 : Int32)) (6 : Int32))).bind fun w69 =>
gd (vp_in (13 : Int32) 15) <|
(some (puI w69 147 (ix (13 : Int32)) (6 : Int32))).bind fun w70 =>
gd (vp_in (14 : Int32) 15) <|
(some (puI w70 147 (ix (14 : Int32)) (6 : Int32))).bind fun w71 =>
(some (puI w71 97 71 1)).bind fun w72 =>
(some (puI w72 97 72 1)).bind fun w73 =>
gd (vp_in (0 : Int32) 15) <|
(some (puI w73 149 (ix (0 : Int32)) (32769 : Int32))).bind fun w74 =>
gd (vp_in (1 : Int32) 15) <|
(some (puI w74 149 (ix (1 : Int32)) (65538 : Int32))).bind fun w75 =>
gd (vp_in (2 : Int32) 15) <|
(some (puI w75 149 (ix (2 : Int32)) (131076 : Int32))).bind fun w76 =>
gd (vp_in (3 : Int32) 15) <|
(some (puI w76 149 (ix (3 : Int32)) (262152 : Int32))).bind fun w77 =>
gd (vp_in (4 : Int32) 15) <|
(some (puI w77 149 (ix (4 : Int32)) (524304 : Int32))).bind fun w78 =>
gd (vp_in (5 : Int32) 15) <|
(some (puI w78 149 (ix (5 : Int32)) (1048608 : Int32))).bind fun w79 =>
gd (vp_in (6 : Int32) 15) <|
(some (puI w79 149 (ix (6 : Int32)) (2097216 : Int32))).bind fun w80 =>
gd (vp_in (7 : Int32) 15) <|
(some (puI w80 149 (ix (7 : Int32)) (4194432 : Int32))).bind fun w81 =>
gd (vp_in (8 : Int32) 15) <|
(some (puI w81 149 (ix (8 : Int32)) (8388864 : Int32))).bind fun w82 =>
gd (vp_in (9 : Int32) 15) <|
(some (puI w82 149 (ix (9 : Int32)) (16777728 : Int32))).bind fun w83 =>
gd (vp_in (10 : Int32) 15) <|
(some (puI w83 149 (ix (10 : Int32)) (33555456 : Int32))).bind fun w84 =>
gd (vp_in (11 : Int32) 15) <|
(some (puI w84 149 (ix (11 : Int32)) (2048 : Int32))).bind fun w85 =>
gd (vp_in (12 : Int32) 15) <|
(some (puI w85 149 (ix (12 : Int32)) (4096 : Int32))).bind fun w86 =>
gd (vp_in (13 : Int32) 15) <|
(some (puI w86 149 (ix (13 : Int32)) (8192 : Int32))).bind fun w87 =>
gd (vp_in (14 : Int32) 15) <|
(some (puI w87 149 (ix (14 : Int32)) (16384 : Int32))).bind fun w88 =>
(some (puI w88 97 73 1)).bind fun w89 =>
(some (puI w89 97 74 1)).bind fun w90 =>
(some (puI w90 97 75 1)).bind fun w91 =>
(some (puI w91 97 76 1)).bind fun w92 =>
(some (puI w92 97 77 1)).bind fun w93 =>
(some (puI w93 97 78 1)).bind fun w94 =>
(some (puI w94 97 79 1)).bind fun w95 =>
(some (puI w95 97 80 1)).bind fun w96 =>
(some (puI w96 97 81 1)).bind fun w97 =>
(some (puI w97 97 82 1)).bind fun w98 =>
(some (puI w98 97 83 (4 : Int32))).bind fun w99 =>
(some (puI w99 97 84 1)).bind fun w100 =>
(some (puI w100 97 85 1)).bind fun w101 =>
(some (puI w101 97 87 1)).bind fun w102 =>
(some (puI w102 97 88 1)).bind fun w103 =>
(some (puI w103 97 89 1)).bind fun w104 =>
(some (puI w104 97 90 1)).bind fun w105 =>
(some (puI w105 97 91 1)).bind fun w106 =>
(some (puI w106 97 92 1)).bind fun w107 =>
(some (puI w107 97 93 1)).bind fun w108 =>
(some (puI w108 97 94 1)).bind fun w109 =>
(some (puI w109 97 95 1)).bind fun w110 =>
(some (puI w110 97 99 1)).bind fun w111 =>
(some (puI w111 97 100 1)).bind fun w112 =>
(some (puI w112 97 101 1)).bind fun w113 =>
(some (puI w113 97 102 1)).bind fun w114 =>
(some (puI w114 97 103 1)).bind fun w115 =>
(some (puI w115 97 104 1)).bind fun w116 =>
(some (puI w116 97 106 1)).bind fun w117 =>
(some (puI w117 97 107 1)).bind fun w118 =>
some w118
set_option maxRecDepth 20000 in
set_option maxHeartbeats 1000000 in
theorem tk_X12_init {κ : KxC} (w : Wd) (hi : (cmeth κ).name = "<init>") (h : ok (X12_init   w) (PVc κ 178 80 26850)) : JC κ RX12 cX12_init 1 none (rmc 1 20 80 26850) 0 [(0, .ref (ad (cg κ) 97))] [] (w, 98, 0, 0) := by
  unfold X12_init at h
  refine jc_aload_n 0 dX12_init_0 rfl rfl ?_
  refine jc_objInit oi_RX12_1 (by decide) (Nat.le_of_ble_eq_true rfl) dX12_init_1 ?_
  refine jc_aload_n 0 dX12_init_4 rfl rfl ?_
  refine jc_iconst (4 : Int32) dX12_init_5 ki_4 ?_
  refine jc_newI (m := 4) (by decide) sh_98 aw_I (by decide) (by decide) (by decide) (by decide) (by decide) dX12_init_6 ?_
  refine jc_putA fr_RX12_7 sh_97 (by decide) fk_97_1 (by decide) (fun _ => rfl) (fun _ => rfl) hi dX12_init_8 ?_
  refine jc_lW h (fun w1 h => ?_)
  refine jc_aload_n 0 dX12_init_11 rfl rfl ?_
  refine jc_iconst (4 : Int32) dX12_init_12 ki_4 ?_
  refine jc_newI (m := 4) (by decide) sh_99 aw_I (by decide) (by decide) (by decide) (by decide) (by decide) dX12_init_13 ?_
  refine jc_dup dX12_init_15 rfl ?_
  refine jc_iconst (0 : Int32) dX12_init_16 ki_0 ?_
  refine jc_iconst (-1 : Int32) dX12_init_17 ki_m1 ?_
  refine jc_iast sh_99 (by decide) dX12_init_18 h (fun h => ?_)
  refine jc_lW h (fun w2 h => ?_)
  refine jc_dup dX12_init_19 rfl ?_
  refine jc_iconst (1 : Int32) dX12_init_20 ki_1 ?_
  refine jc_iconst (-1 : Int32) dX12_init_21 ki_m1 ?_
  refine jc_iast sh_99 (by decide) dX12_init_22 h (fun h => ?_)
  refine jc_lW h (fun w3 h => ?_)
  refine jc_dup dX12_init_23 rfl ?_
  refine jc_iconst (2 : Int32) dX12_init_24 ki_2 ?_
  refine jc_iconst (-1 : Int32) dX12_init_25 ki_m1 ?_
  refine jc_iast sh_99 (by decide) dX12_init_26 h (fun h => ?_)
  refine jc_lW h (fun w4 h => ?_)
  refine jc_dup dX12_init_27 rfl ?_
  refine jc_iconst (3 : Int32) dX12_init_28 ki_3 ?_
  refine jc_iconst (-1 : Int32) dX12_init_29 ki_m1 ?_
  refine jc_iast sh_99 (by decide) dX12_init_30 h (fun h => ?_)
  refine jc_lW h (fun w5 h => ?_)
  refine jc_putA fr_RX12_13 sh_97 (by decide) fk_97_2 (by decide) (fun _ => rfl) (fun _ => rfl) hi dX12_init_31 ?_
  refine jc_lW h (fun w6 h => ?_)
  refine jc_aload_n 0 dX12_init_34 rfl rfl ?_
  refine jc_sipush (240 : Int32) dX12_init_35 ks_240 ?_
  refine jc_newJ (m := 240) (by decide) sh_100 aw_J (by decide) (by decide) (by decide) (by decide) (by decide) dX12_init_38 ?_
  refine jc_putA fr_RX12_16 sh_97 (by decide) fk_97_3 (by decide) (fun _ => rfl) (fun _ => rfl) hi dX12_init_40 ?_
  refine jc_lW h (fun w7 h => ?_)
  refine jc_aload_n 0 dX12_init_43 rfl rfl ?_
  refine jc_bipush (59 : Int32) dX12_init_44 kb_59 ?_
  refine jc_putI fp_RX12_20 sh_97 (by decide) fk_97_11 dX12_init_46 ?_
  refine jc_lW h (fun w8 h => ?_)
  refine jc_aload_n 0 dX12_init_49 rfl rfl ?_
  refine jc_bipush (16 : Int32) dX12_init_50 kb_16 ?_
  refine jc_newI (m := 16) (by decide) sh_101 aw_I (by decide) (by decide) (by decide) (by decide) (by decide) dX12_init_52 ?_
  refine jc_putA fr_RX12_24 sh_97 (by decide) fk_97_12 (by decide) (fun _ => rfl) (fun _ => rfl) hi dX12_init_54 ?_
  refine jc_lW h (fun w9 h => ?_)
  refine jc_aload_n 0 dX12_init_57 rfl rfl ?_
  refine jc_bipush (30 : Int32) dX12_init_58 kb_30 ?_
  refine jc_newI (m := 30) (by decide) sh_102 aw_I (by decide) (by decide) (by decide) (by decide) (by decide) dX12_init_60 ?_
  refine jc_putA fr_RX12_27 sh_97 (by decide) fk_97_13 (by decide) (fun _ => rfl) (fun _ => rfl) hi dX12_init_62 ?_
  refine jc_lW h (fun w10 h => ?_)
  refine jc_aload_n 0 dX12_init_65 rfl rfl ?_
  refine jc_bipush (30 : Int32) dX12_init_66 kb_30 ?_
  refine jc_newI (m := 30) (by decide) sh_103 aw_I (by decide) (by decide) (by decide) (by decide) (by decide) dX12_init_68 ?_
  refine jc_putA fr_RX12_30 sh_97 (by decide) fk_97_14 (by decide) (fun _ => rfl) (fun _ => rfl) hi dX12_init_70 ?_
  refine jc_lW h (fun w11 h => ?_)
  refine jc_aload_n 0 dX12_init_73 rfl rfl ?_
  refine jc_bipush (30 : Int32) dX12_init_74 kb_30 ?_
  refine jc_newI (m := 30) (by decide) sh_104 aw_I (by decide) (by decide) (by decide) (by decide) (by decide) dX12_init_76 ?_
  refine jc_putA fr_RX12_33 sh_97 (by decide) fk_97_15 (by decide) (fun _ => rfl) (fun _ => rfl) hi dX12_init_78 ?_
  refine jc_lW h (fun w12 h => ?_)
  refine jc_aload_n 0 dX12_init_81 rfl rfl ?_
  refine jc_bipush (30 : Int32) dX12_init_82 kb_30 ?_
  refine jc_newI (m := 30) (by decide) sh_105 aw_I (by decide) (by decide) (by decide) (by decide) (by decide) dX12_init_84 ?_
  refine jc_putA fr_RX12_36 sh_97 (by decide) fk_97_16 (by decide) (fun _ => rfl) (fun _ => rfl) hi dX12_init_86 ?_
  refine jc_lW h (fun w13 h => ?_)
  refine jc_aload_n 0 dX12_init_89 rfl rfl ?_
  refine jc_bipush (30 : Int32) dX12_init_90 kb_30 ?_
  refine jc_newI (m := 30) (by decide) sh_106 aw_I (by decide) (by decide) (by decide) (by decide) (by decide) dX12_init_92 ?_
  refine jc_putA fr_RX12_39 sh_97 (by decide) fk_97_17 (by decide) (fun _ => rfl) (fun _ => rfl) hi dX12_init_94 ?_
  refine jc_lW h (fun w14 h => ?_)
  refine jc_aload_n 0 dX12_init_97 rfl rfl ?_
  refine jc_bipush (16 : Int32) dX12_init_98 kb_16 ?_
  refine jc_newI (m := 16) (by decide) sh_107 aw_I (by decide) (by decide) (by decide) (by decide) (by decide) dX12_init_100 ?_
  refine jc_putA fr_RX12_42 sh_97 (by decide) fk_97_18 (by decide) (fun _ => rfl) (fun _ => rfl) hi dX12_init_102 ?_
  refine jc_lW h (fun w15 h => ?_)
  refine jc_aload_n 0 dX12_init_105 rfl rfl ?_
  refine jc_bipush (40 : Int32) dX12_init_106 kb_40 ?_
  refine jc_newI (m := 40) (by decide) sh_108 aw_I (by decide) (by decide) (by decide) (by decide) (by decide) dX12_init_108 ?_
  refine jc_putA fr_RX12_45 sh_97 (by decide) fk_97_19 (by decide) (fun _ => rfl) (fun _ => rfl) hi dX12_init_110 ?_
  refine jc_lW h (fun w16 h => ?_)
  refine jc_aload_n 0 dX12_init_113 rfl rfl ?_
  refine jc_bipush (40 : Int32) dX12_init_114 kb_40 ?_
  refine jc_newI (m := 40) (by decide) sh_109 aw_I (by decide) (by decide) (by decide) (by decide) (by decide) dX12_init_116 ?_
  refine jc_putA fr_RX12_48 sh_97 (by decide) fk_97_20 (by decide) (fun _ => rfl) (fun _ => rfl) hi dX12_init_118 ?_
  refine jc_lW h (fun w17 h => ?_)
  refine jc_aload_n 0 dX12_init_121 rfl rfl ?_
  refine jc_bipush (40 : Int32) dX12_init_122 kb_40 ?_
  refine jc_newI (m := 40) (by decide) sh_110 aw_I (by decide) (by decide) (by decide) (by decide) (by decide) dX12_init_124 ?_
  refine jc_putA fr_RX12_51 sh_97 (by decide) fk_97_21 (by decide) (fun _ => rfl) (fun _ => rfl) hi dX12_init_126 ?_
  refine jc_lW h (fun w18 h => ?_)
  refine jc_aload_n 0 dX12_init_129 rfl rfl ?_
  refine jc_bipush (20 : Int32) dX12_init_130 kb_20 ?_
  refine jc_newI (m := 20) (by decide) sh_111 aw_I (by decide) (by decide) (by decide) (by decide) (by decide) dX12_init_132 ?_
  refine jc_putA fr_RX12_54 sh_97 (by decide) fk_97_22 (by decide) (fun _ => rfl) (fun _ => rfl) hi dX12_init_134 ?_
  refine jc_lW h (fun w19 h => ?_)
  refine jc_aload_n 0 dX12_init_137 rfl rfl ?_
  refine jc_bipush (20 : Int32) dX12_init_138 kb_20 ?_
  refine jc_newI (m := 20) (by decide) sh_112 aw_I (by decide) (by decide) (by decide) (by decide) (by decide) dX12_init_140 ?_
  refine jc_putA fr_RX12_57 sh_97 (by decide) fk_97_23 (by decide) (fun _ => rfl) (fun _ => rfl) hi dX12_init_142 ?_
  refine jc_lW h (fun w20 h => ?_)
  refine jc_aload_n 0 dX12_init_145 rfl rfl ?_
  refine jc_bipush (12 : Int32) dX12_init_146 kb_12 ?_
  refine jc_newI (m := 12) (by decide) sh_113 aw_I (by decide) (by decide) (by decide) (by decide) (by decide) dX12_init_148 ?_
  refine jc_putA fr_RX12_60 sh_97 (by decide) fk_97_24 (by decide) (fun _ => rfl) (fun _ => rfl) hi dX12_init_150 ?_
  refine jc_lW h (fun w21 h => ?_)
  refine jc_aload_n 0 dX12_init_153 rfl rfl ?_
  refine jc_sipush (160 : Int32) dX12_init_154 ks_160 ?_
  refine jc_newI (m := 160) (by decide) sh_114 aw_I (by decide) (by decide) (by decide) (by decide) (by decide) dX12_init_157 ?_
  refine jc_putA fr_RX12_63 sh_97 (by decide) fk_97_25 (by decide) (fun _ => rfl) (fun _ => rfl) hi dX12_init_159 ?_
  refine jc_lW h (fun w22 h => ?_)
  refine jc_aload_n 0 dX12_init_162 rfl rfl ?_
  refine jc_sipush (160 : Int32) dX12_init_163 ks_160 ?_
  refine jc_newI (m := 160) (by decide) sh_115 aw_I (by decide) (by decide) (by decide) (by decide) (by decide) dX12_init_166 ?_
  refine jc_putA fr_RX12_66 sh_97 (by decide) fk_97_26 (by decide) (fun _ => rfl) (fun _ => rfl) hi dX12_init_168 ?_
  refine jc_lW h (fun w23 h => ?_)
  refine jc_aload_n 0 dX12_init_171 rfl rfl ?_
  refine jc_sipush (160 : Int32) dX12_init_172 ks_160 ?_
  refine jc_newI (m := 160) (by decide) sh_116 aw_I (by decide) (by decide) (by decide) (by decide) (by decide) dX12_init_175 ?_
  refine jc_putA fr_RX12_69 sh_97 (by decide) fk_97_27 (by decide) (fun _ => rfl) (fun _ => rfl) hi dX12_init_177 ?_
  refine jc_lW h (fun w24 h => ?_)
  refine jc_aload_n 0 dX12_init_180 rfl rfl ?_
  refine jc_sipush (160 : Int32) dX12_init_181 ks_160 ?_
  refine jc_newI (m := 160) (by decide) sh_117 aw_I (by decide) (by decide) (by decide) (by decide) (by decide) dX12_init_184 ?_
  refine jc_putA fr_RX12_72 sh_97 (by decide) fk_97_28 (by decide) (fun _ => rfl) (fun _ => rfl) hi dX12_init_186 ?_
  refine jc_lW h (fun w25 h => ?_)
  refine jc_aload_n 0 dX12_init_189 rfl rfl ?_
  refine jc_sipush (160 : Int32) dX12_init_190 ks_160 ?_
  refine jc_newI (m := 160) (by decide) sh_118 aw_I (by decide) (by decide) (by decide) (by decide) (by decide) dX12_init_193 ?_
  refine jc_putA fr_RX12_75 sh_97 (by decide) fk_97_29 (by decide) (fun _ => rfl) (fun _ => rfl) hi dX12_init_195 ?_
  refine jc_lW h (fun w26 h => ?_)
  refine jc_aload_n 0 dX12_init_198 rfl rfl ?_
  refine jc_sipush (160 : Int32) dX12_init_199 ks_160 ?_
  refine jc_newI (m := 160) (by decide) sh_119 aw_I (by decide) (by decide) (by decide) (by decide) (by decide) dX12_init_202 ?_
  refine jc_putA fr_RX12_78 sh_97 (by decide) fk_97_30 (by decide) (fun _ => rfl) (fun _ => rfl) hi dX12_init_204 ?_
  refine jc_lW h (fun w27 h => ?_)
  refine jc_aload_n 0 dX12_init_207 rfl rfl ?_
  refine jc_sipush (600 : Int32) dX12_init_208 ks_600 ?_
  refine jc_newB (m := 600) (by decide) sh_120 aw_B (by decide) (by decide) (by decide) (by decide) (by decide) dX12_init_211 ?_
  refine jc_putA fr_RX12_81 sh_97 (by decide) fk_97_31 (by decide) (fun _ => rfl) (fun _ => rfl) hi dX12_init_213 ?_
  refine jc_lW h (fun w28 h => ?_)
  refine jc_aload_n 0 dX12_init_216 rfl rfl ?_
  refine jc_sipush (600 : Int32) dX12_init_217 ks_600 ?_
  refine jc_newB (m := 600) (by decide) sh_121 aw_B (by decide) (by decide) (by decide) (by decide) (by decide) dX12_init_220 ?_
  refine jc_putA fr_RX12_85 sh_97 (by decide) fk_97_32 (by decide) (fun _ => rfl) (fun _ => rfl) hi dX12_init_222 ?_
  refine jc_lW h (fun w29 h => ?_)
  refine jc_aload_n 0 dX12_init_225 rfl rfl ?_
  refine jc_iconst (-1 : Int32) dX12_init_226 ki_m1 ?_
  refine jc_putI fp_RX12_88 sh_97 (by decide) fk_97_39 dX12_init_227 ?_
  refine jc_lW h (fun w30 h => ?_)
  refine jc_aload_n 0 dX12_init_230 rfl rfl ?_
  refine jc_iconst (-1 : Int32) dX12_init_231 ki_m1 ?_
  refine jc_putI fp_RX12_91 sh_97 (by decide) fk_97_40 dX12_init_232 ?_
  refine jc_lW h (fun w31 h => ?_)
  refine jc_aload_n 0 dX12_init_235 rfl rfl ?_
  refine jc_bipush (6 : Int32) dX12_init_236 kb_6 ?_
  refine jc_newI (m := 6) (by decide) sh_122 aw_I (by decide) (by decide) (by decide) (by decide) (by decide) dX12_init_238 ?_
  refine jc_putA fr_RX12_94 sh_97 (by decide) fk_97_45 (by decide) (fun _ => rfl) (fun _ => rfl) hi dX12_init_240 ?_
  refine jc_lW h (fun w32 h => ?_)
  refine jc_aload_n 0 dX12_init_243 rfl rfl ?_
  refine jc_bipush (6 : Int32) dX12_init_244 kb_6 ?_
  refine jc_newI (m := 6) (by decide) sh_123 aw_I (by decide) (by decide) (by decide) (by decide) (by decide) dX12_init_246 ?_
  refine jc_putA fr_RX12_97 sh_97 (by decide) fk_97_46 (by decide) (fun _ => rfl) (fun _ => rfl) hi dX12_init_248 ?_
  refine jc_lW h (fun w33 h => ?_)
  refine jc_aload_n 0 dX12_init_251 rfl rfl ?_
  refine jc_bipush (6 : Int32) dX12_init_252 kb_6 ?_
  refine jc_newI (m := 6) (by decide) sh_124 aw_I (by decide) (by decide) (by decide) (by decide) (by decide) dX12_init_254 ?_
  refine jc_putA fr_RX12_100 sh_97 (by decide) fk_97_47 (by decide) (fun _ => rfl) (fun _ => rfl) hi dX12_init_256 ?_
  refine jc_lW h (fun w34 h => ?_)
  refine jc_aload_n 0 dX12_init_259 rfl rfl ?_
  refine jc_bipush (120 : Int32) dX12_init_260 kb_120 ?_
  refine jc_newI (m := 120) (by decide) sh_125 aw_I (by decide) (by decide) (by decide) (by decide) (by decide) dX12_init_262 ?_
  refine jc_putA fr_RX12_103 sh_97 (by decide) fk_97_48 (by decide) (fun _ => rfl) (fun _ => rfl) hi dX12_init_264 ?_
  refine jc_lW h (fun w35 h => ?_)
  refine jc_aload_n 0 dX12_init_267 rfl rfl ?_
  refine jc_bipush (120 : Int32) dX12_init_268 kb_120 ?_
  refine jc_newI (m := 120) (by decide) sh_126 aw_I (by decide) (by decide) (by decide) (by decide) (by decide) dX12_init_270 ?_
  refine jc_putA fr_RX12_106 sh_97 (by decide) fk_97_49 (by decide) (fun _ => rfl) (fun _ => rfl) hi dX12_init_272 ?_
  refine jc_lW h (fun w36 h => ?_)
  refine jc_aload_n 0 dX12_init_275 rfl rfl ?_
  refine jc_bipush (120 : Int32) dX12_init_276 kb_120 ?_
  refine jc_newI (m := 120) (by decide) sh_127 aw_I (by decide) (by decide) (by decide) (by decide) (by decide) dX12_init_278 ?_
  refine jc_putA fr_RX12_109 sh_97 (by decide) fk_97_50 (by decide) (fun _ => rfl) (fun _ => rfl) hi dX12_init_280 ?_
  refine jc_lW h (fun w37 h => ?_)
  refine jc_aload_n 0 dX12_init_283 rfl rfl ?_
  refine jc_bipush (120 : Int32) dX12_init_284 kb_120 ?_
  refine jc_newI (m := 120) (by decide) sh_128 aw_I (by decide) (by decide) (by decide) (by decide) (by decide) dX12_init_286 ?_
  refine jc_putA fr_RX12_112 sh_97 (by decide) fk_97_51 (by decide) (fun _ => rfl) (fun _ => rfl) hi dX12_init_288 ?_
  refine jc_lW h (fun w38 h => ?_)
  refine jc_aload_n 0 dX12_init_291 rfl rfl ?_
  refine jc_bipush (120 : Int32) dX12_init_292 kb_120 ?_
  refine jc_newI (m := 120) (by decide) sh_129 aw_I (by decide) (by decide) (by decide) (by decide) (by decide) dX12_init_294 ?_
  refine jc_putA fr_RX12_115 sh_97 (by decide) fk_97_52 (by decide) (fun _ => rfl) (fun _ => rfl) hi dX12_init_296 ?_
  refine jc_lW h (fun w39 h => ?_)
  refine jc_aload_n 0 dX12_init_299 rfl rfl ?_
  refine jc_bipush (120 : Int32) dX12_init_300 kb_120 ?_
  refine jc_newI (m := 120) (by decide) sh_130 aw_I (by decide) (by decide) (by decide) (by decide) (by decide) dX12_init_302 ?_
  refine jc_putA fr_RX12_118 sh_97 (by decide) fk_97_53 (by decide) (fun _ => rfl) (fun _ => rfl) hi dX12_init_304 ?_
  refine jc_lW h (fun w40 h => ?_)
  refine jc_aload_n 0 dX12_init_307 rfl rfl ?_
  refine jc_bipush (120 : Int32) dX12_init_308 kb_120 ?_
  refine jc_newI (m := 120) (by decide) sh_131 aw_I (by decide) (by decide) (by decide) (by decide) (by decide) dX12_init_310 ?_
  refine jc_putA fr_RX12_121 sh_97 (by decide) fk_97_54 (by decide) (fun _ => rfl) (fun _ => rfl) hi dX12_init_312 ?_
  refine jc_lW h (fun w41 h => ?_)
  refine jc_aload_n 0 dX12_init_315 rfl rfl ?_
  refine jc_bipush (120 : Int32) dX12_init_316 kb_120 ?_
  refine jc_newJ (m := 120) (by decide) sh_132 aw_J (by decide) (by decide) (by decide) (by decide) (by decide) dX12_init_318 ?_
  refine jc_putA fr_RX12_124 sh_97 (by decide) fk_97_55 (by decide) (fun _ => rfl) (fun _ => rfl) hi dX12_init_320 ?_
  refine jc_lW h (fun w42 h => ?_)
  refine jc_aload_n 0 dX12_init_323 rfl rfl ?_
  refine jc_bipush (120 : Int32) dX12_init_324 kb_120 ?_
  refine jc_newJ (m := 120) (by decide) sh_133 aw_J (by decide) (by decide) (by decide) (by decide) (by decide) dX12_init_326 ?_
  refine jc_putA fr_RX12_127 sh_97 (by decide) fk_97_56 (by decide) (fun _ => rfl) (fun _ => rfl) hi dX12_init_328 ?_
  refine jc_lW h (fun w43 h => ?_)
  refine jc_aload_n 0 dX12_init_331 rfl rfl ?_
  refine jc_sipush (1500 : Int32) dX12_init_332 ks_1500 ?_
  refine jc_newI (m := 1500) (by decide) sh_134 aw_I (by decide) (by decide) (by decide) (by decide) (by decide) dX12_init_335 ?_
  refine jc_putA fr_RX12_130 sh_97 (by decide) fk_97_57 (by decide) (fun _ => rfl) (fun _ => rfl) hi dX12_init_337 ?_
  refine jc_lW h (fun w44 h => ?_)
  refine jc_aload_n 0 dX12_init_340 rfl rfl ?_
  refine jc_sipush (1500 : Int32) dX12_init_341 ks_1500 ?_
  refine jc_newI (m := 1500) (by decide) sh_135 aw_I (by decide) (by decide) (by decide) (by decide) (by decide) dX12_init_344 ?_
  refine jc_putA fr_RX12_133 sh_97 (by decide) fk_97_58 (by decide) (fun _ => rfl) (fun _ => rfl) hi dX12_init_346 ?_
  refine jc_lW h (fun w45 h => ?_)
  refine jc_aload_n 0 dX12_init_349 rfl rfl ?_
  refine jc_sipush (1500 : Int32) dX12_init_350 ks_1500 ?_
  refine jc_newI (m := 1500) (by decide) sh_136 aw_I (by decide) (by decide) (by decide) (by decide) (by decide) dX12_init_353 ?_
  refine jc_putA fr_RX12_136 sh_97 (by decide) fk_97_59 (by decide) (fun _ => rfl) (fun _ => rfl) hi dX12_init_355 ?_
  refine jc_lW h (fun w46 h => ?_)
  refine jc_aload_n 0 dX12_init_358 rfl rfl ?_
  refine jc_sipush (1500 : Int32) dX12_init_359 ks_1500 ?_
  refine jc_newI (m := 1500) (by decide) sh_137 aw_I (by decide) (by decide) (by decide) (by decide) (by decide) dX12_init_362 ?_
  refine jc_putA fr_RX12_139 sh_97 (by decide) fk_97_60 (by decide) (fun _ => rfl) (fun _ => rfl) hi dX12_init_364 ?_
  refine jc_lW h (fun w47 h => ?_)
  refine jc_aload_n 0 dX12_init_367 rfl rfl ?_
  refine jc_sipush (1500 : Int32) dX12_init_368 ks_1500 ?_
  refine jc_newZ (m := 1500) (by decide) sh_138 aw_Z (by decide) (by decide) (by decide) (by decide) (by decide) dX12_init_371 ?_
  refine jc_putA fr_RX12_142 sh_97 (by decide) fk_97_61 (by decide) (fun _ => rfl) (fun _ => rfl) hi dX12_init_373 ?_
  refine jc_lW h (fun w48 h => ?_)
  refine jc_aload_n 0 dX12_init_376 rfl rfl ?_
  refine jc_sipush (1500 : Int32) dX12_init_377 ks_1500 ?_
  refine jc_newZ (m := 1500) (by decide) sh_139 aw_Z (by decide) (by decide) (by decide) (by decide) (by decide) dX12_init_380 ?_
  refine jc_putA fr_RX12_146 sh_97 (by decide) fk_97_62 (by decide) (fun _ => rfl) (fun _ => rfl) hi dX12_init_382 ?_
  refine jc_lW h (fun w49 h => ?_)
  refine jc_aload_n 0 dX12_init_385 rfl rfl ?_
  refine jc_sipush (4000 : Int32) dX12_init_386 ks_4000 ?_
  refine jc_newI (m := 4000) (by decide) sh_140 aw_I (by decide) (by decide) (by decide) (by decide) (by decide) dX12_init_389 ?_
  refine jc_putA fr_RX12_149 sh_97 (by decide) fk_97_63 (by decide) (fun _ => rfl) (fun _ => rfl) hi dX12_init_391 ?_
  refine jc_lW h (fun w50 h => ?_)
  refine jc_aload_n 0 dX12_init_394 rfl rfl ?_
  refine jc_sipush (4000 : Int32) dX12_init_395 ks_4000 ?_
  refine jc_newI (m := 4000) (by decide) sh_141 aw_I (by decide) (by decide) (by decide) (by decide) (by decide) dX12_init_398 ?_
  refine jc_putA fr_RX12_152 sh_97 (by decide) fk_97_64 (by decide) (fun _ => rfl) (fun _ => rfl) hi dX12_init_400 ?_
  refine jc_lW h (fun w51 h => ?_)
  refine jc_aload_n 0 dX12_init_403 rfl rfl ?_
  refine jc_bipush (8 : Int32) dX12_init_404 kb_8 ?_
  refine jc_newI (m := 8) (by decide) sh_142 aw_I (by decide) (by decide) (by decide) (by decide) (by decide) dX12_init_406 ?_
  refine jc_putA fr_RX12_155 sh_97 (by decide) fk_97_65 (by decide) (fun _ => rfl) (fun _ => rfl) hi dX12_init_408 ?_
  refine jc_lW h (fun w52 h => ?_)
  refine jc_aload_n 0 dX12_init_411 rfl rfl ?_
  refine jc_bipush (8 : Int32) dX12_init_412 kb_8 ?_
  refine jc_newI (m := 8) (by decide) sh_143 aw_I (by decide) (by decide) (by decide) (by decide) (by decide) dX12_init_414 ?_
  refine jc_putA fr_RX12_158 sh_97 (by decide) fk_97_66 (by decide) (fun _ => rfl) (fun _ => rfl) hi dX12_init_416 ?_
  refine jc_lW h (fun w53 h => ?_)
  refine jc_aload_n 0 dX12_init_419 rfl rfl ?_
  refine jc_bipush (100 : Int32) dX12_init_420 kb_100 ?_
  refine jc_newI (m := 100) (by decide) sh_144 aw_I (by decide) (by decide) (by decide) (by decide) (by decide) dX12_init_422 ?_
  refine jc_putA fr_RX12_161 sh_97 (by decide) fk_97_67 (by decide) (fun _ => rfl) (fun _ => rfl) hi dX12_init_424 ?_
  refine jc_lW h (fun w54 h => ?_)
  refine jc_aload_n 0 dX12_init_427 rfl rfl ?_
  refine jc_iconst (5 : Int32) dX12_init_428 ki_5 ?_
  refine jc_newI (m := 5) (by decide) sh_145 aw_I (by decide) (by decide) (by decide) (by decide) (by decide) dX12_init_429 ?_
  refine jc_putA fr_RX12_164 sh_97 (by decide) fk_97_68 (by decide) (fun _ => rfl) (fun _ => rfl) hi dX12_init_431 ?_
  refine jc_lW h (fun w55 h => ?_)
  refine jc_aload_n 0 dX12_init_434 rfl rfl ?_
  refine jc_bipush (100 : Int32) dX12_init_435 kb_100 ?_
  refine jc_newZ (m := 100) (by decide) sh_146 aw_Z (by decide) (by decide) (by decide) (by decide) (by decide) dX12_init_437 ?_
  refine jc_putA fr_RX12_167 sh_97 (by decide) fk_97_69 (by decide) (fun _ => rfl) (fun _ => rfl) hi dX12_init_439 ?_
  refine jc_lW h (fun w56 h => ?_)
  refine jc_aload_n 0 dX12_init_442 rfl rfl ?_
  refine jc_bipush (15 : Int32) dX12_init_443 kb_15 ?_
  refine jc_newI (m := 15) (by decide) sh_147 aw_I (by decide) (by decide) (by decide) (by decide) (by decide) dX12_init_445 ?_
  refine jc_dup dX12_init_447 rfl ?_
  refine jc_iconst (0 : Int32) dX12_init_448 ki_0 ?_
  refine jc_bipush (6 : Int32) dX12_init_449 kb_6 ?_
  refine jc_iast sh_147 (by decide) dX12_init_451 h (fun h => ?_)
  refine jc_lW h (fun w57 h => ?_)
  refine jc_dup dX12_init_452 rfl ?_
  refine jc_iconst (1 : Int32) dX12_init_453 ki_1 ?_
  refine jc_bipush (6 : Int32) dX12_init_454 kb_6 ?_
  refine jc_iast sh_147 (by decide) dX12_init_456 h (fun h => ?_)
  refine jc_lW h (fun w58 h => ?_)
  refine jc_dup dX12_init_457 rfl ?_
  refine jc_iconst (2 : Int32) dX12_init_458 ki_2 ?_
  refine jc_bipush (6 : Int32) dX12_init_459 kb_6 ?_
  refine jc_iast sh_147 (by decide) dX12_init_461 h (fun h => ?_)
  refine jc_lW h (fun w59 h => ?_)
  refine jc_dup dX12_init_462 rfl ?_
  refine jc_iconst (3 : Int32) dX12_init_463 ki_3 ?_
  refine jc_bipush (6 : Int32) dX12_init_464 kb_6 ?_
  refine jc_iast sh_147 (by decide) dX12_init_466 h (fun h => ?_)
  refine jc_lW h (fun w60 h => ?_)
  refine jc_dup dX12_init_467 rfl ?_
  refine jc_iconst (4 : Int32) dX12_init_468 ki_4 ?_
  refine jc_bipush (6 : Int32) dX12_init_469 kb_6 ?_
  refine jc_iast sh_147 (by decide) dX12_init_471 h (fun h => ?_)
  refine jc_lW h (fun w61 h => ?_)
  refine jc_dup dX12_init_472 rfl ?_
  refine jc_iconst (5 : Int32) dX12_init_473 ki_5 ?_
  refine jc_bipush (6 : Int32) dX12_init_474 kb_6 ?_
  refine jc_iast sh_147 (by decide) dX12_init_476 h (fun h => ?_)
  refine jc_lW h (fun w62 h => ?_)
  refine jc_dup dX12_init_477 rfl ?_
  refine jc_bipush (6 : Int32) dX12_init_478 kb_6 ?_
  refine jc_bipush (6 : Int32) dX12_init_480 kb_6 ?_
  refine jc_iast sh_147 (by decide) dX12_init_482 h (fun h => ?_)
  refine jc_lW h (fun w63 h => ?_)
  refine jc_dup dX12_init_483 rfl ?_
  refine jc_bipush (7 : Int32) dX12_init_484 kb_7 ?_
  refine jc_bipush (6 : Int32) dX12_init_486 kb_6 ?_
  refine jc_iast sh_147 (by decide) dX12_init_488 h (fun h => ?_)
  refine jc_lW h (fun w64 h => ?_)
  refine jc_dup dX12_init_489 rfl ?_
  refine jc_bipush (8 : Int32) dX12_init_490 kb_8 ?_
  refine jc_bipush (6 : Int32) dX12_init_492 kb_6 ?_
  refine jc_iast sh_147 (by decide) dX12_init_494 h (fun h => ?_)
  refine jc_lW h (fun w65 h => ?_)
  refine jc_dup dX12_init_495 rfl ?_
  refine jc_bipush (9 : Int32) dX12_init_496 kb_9 ?_
  refine jc_bipush (6 : Int32) dX12_init_498 kb_6 ?_
  refine jc_iast sh_147 (by decide) dX12_init_500 h (fun h => ?_)
  refine jc_lW h (fun w66 h => ?_)
  refine jc_dup dX12_init_501 rfl ?_
  refine jc_bipush (10 : Int32) dX12_init_502 kb_10 ?_
  refine jc_bipush (6 : Int32) dX12_init_504 kb_6 ?_
  refine jc_iast sh_147 (by decide) dX12_init_506 h (fun h => ?_)
  refine jc_lW h (fun w67 h => ?_)
  refine jc_dup dX12_init_507 rfl ?_
  refine jc_bipush (11 : Int32) dX12_init_508 kb_11 ?_
  refine jc_bipush (6 : Int32) dX12_init_510 kb_6 ?_
  refine jc_iast sh_147 (by decide) dX12_init_512 h (fun h => ?_)
  refine jc_lW h (fun w68 h => ?_)
  refine jc_dup dX12_init_513 rfl ?_
  refine jc_bipush (12 : Int32) dX12_init_514 kb_12 ?_
  refine jc_bipush (6 : Int32) dX12_init_516 kb_6 ?_
  refine jc_iast sh_147 (by decide) dX12_init_518 h (fun h => ?_)
  refine jc_lW h (fun w69 h => ?_)
  refine jc_dup dX12_init_519 rfl ?_
  refine jc_bipush (13 : Int32) dX12_init_520 kb_13 ?_
  refine jc_bipush (6 : Int32) dX12_init_522 kb_6 ?_
  refine jc_iast sh_147 (by decide) dX12_init_524 h (fun h => ?_)
  refine jc_lW h (fun w70 h => ?_)
  refine jc_dup dX12_init_525 rfl ?_
  refine jc_bipush (14 : Int32) dX12_init_526 kb_14 ?_
  refine jc_bipush (6 : Int32) dX12_init_528 kb_6 ?_
  refine jc_iast sh_147 (by decide) dX12_init_530 h (fun h => ?_)
  refine jc_lW h (fun w71 h => ?_)
  refine jc_putA fr_RX12_170 sh_97 (by decide) fk_97_71 (by decide) (fun _ => rfl) (fun _ => rfl) hi dX12_init_531 ?_
  refine jc_lW h (fun w72 h => ?_)
  refine jc_aload_n 0 dX12_init_534 rfl rfl ?_
  refine jc_bipush (15 : Int32) dX12_init_535 kb_15 ?_
  refine jc_newI (m := 15) (by decide) sh_148 aw_I (by decide) (by decide) (by decide) (by decide) (by decide) dX12_init_537 ?_
  refine jc_putA fr_RX12_173 sh_97 (by decide) fk_97_72 (by decide) (fun _ => rfl) (fun _ => rfl) hi dX12_init_539 ?_
  refine jc_lW h (fun w73 h => ?_)
  refine jc_aload_n 0 dX12_init_542 rfl rfl ?_
  refine jc_bipush (15 : Int32) dX12_init_543 kb_15 ?_
  refine jc_newI (m := 15) (by decide) sh_149 aw_I (by decide) (by decide) (by decide) (by decide) (by decide) dX12_init_545 ?_
  refine jc_dup dX12_init_547 rfl ?_
  refine jc_iconst (0 : Int32) dX12_init_548 ki_0 ?_
  refine jc_ldc cw_RX12_176 dX12_init_549 ?_
  refine jc_iast sh_149 (by decide) dX12_init_551 h (fun h => ?_)
  refine jc_lW h (fun w74 h => ?_)
  refine jc_dup dX12_init_552 rfl ?_
  refine jc_iconst (1 : Int32) dX12_init_553 ki_1 ?_
  refine jc_ldc cw_RX12_177 dX12_init_554 ?_
  refine jc_iast sh_149 (by decide) dX12_init_556 h (fun h => ?_)
  refine jc_lW h (fun w75 h => ?_)
  refine jc_dup dX12_init_557 rfl ?_
  refine jc_iconst (2 : Int32) dX12_init_558 ki_2 ?_
  refine jc_ldc cw_RX12_178 dX12_init_559 ?_
  refine jc_iast sh_149 (by decide) dX12_init_561 h (fun h => ?_)
  refine jc_lW h (fun w76 h => ?_)
  refine jc_dup dX12_init_562 rfl ?_
  refine jc_iconst (3 : Int32) dX12_init_563 ki_3 ?_
  refine jc_ldc cw_RX12_179 dX12_init_564 ?_
  refine jc_iast sh_149 (by decide) dX12_init_566 h (fun h => ?_)
  refine jc_lW h (fun w77 h => ?_)
  refine jc_dup dX12_init_567 rfl ?_
  refine jc_iconst (4 : Int32) dX12_init_568 ki_4 ?_
  refine jc_ldc cw_RX12_180 dX12_init_569 ?_
  refine jc_iast sh_149 (by decide) dX12_init_571 h (fun h => ?_)
  refine jc_lW h (fun w78 h => ?_)
  refine jc_dup dX12_init_572 rfl ?_
  refine jc_iconst (5 : Int32) dX12_init_573 ki_5 ?_
  refine jc_ldc cw_RX12_181 dX12_init_574 ?_
  refine jc_iast sh_149 (by decide) dX12_init_576 h (fun h => ?_)
  refine jc_lW h (fun w79 h => ?_)
  refine jc_dup dX12_init_577 rfl ?_
  refine jc_bipush (6 : Int32) dX12_init_578 kb_6 ?_
  refine jc_ldc cw_RX12_182 dX12_init_580 ?_
  refine jc_iast sh_149 (by decide) dX12_init_582 h (fun h => ?_)
  refine jc_lW h (fun w80 h => ?_)
  refine jc_dup dX12_init_583 rfl ?_
  refine jc_bipush (7 : Int32) dX12_init_584 kb_7 ?_
  refine jc_ldc cw_RX12_183 dX12_init_586 ?_
  refine jc_iast sh_149 (by decide) dX12_init_588 h (fun h => ?_)
  refine jc_lW h (fun w81 h => ?_)
  refine jc_dup dX12_init_589 rfl ?_
  refine jc_bipush (8 : Int32) dX12_init_590 kb_8 ?_
  refine jc_ldc cw_RX12_184 dX12_init_592 ?_
  refine jc_iast sh_149 (by decide) dX12_init_594 h (fun h => ?_)
  refine jc_lW h (fun w82 h => ?_)
  refine jc_dup dX12_init_595 rfl ?_
  refine jc_bipush (9 : Int32) dX12_init_596 kb_9 ?_
  refine jc_ldc cw_RX12_185 dX12_init_598 ?_
  refine jc_iast sh_149 (by decide) dX12_init_600 h (fun h => ?_)
  refine jc_lW h (fun w83 h => ?_)
  refine jc_dup dX12_init_601 rfl ?_
  refine jc_bipush (10 : Int32) dX12_init_602 kb_10 ?_
  refine jc_ldc cw_RX12_186 dX12_init_604 ?_
  refine jc_iast sh_149 (by decide) dX12_init_606 h (fun h => ?_)
  refine jc_lW h (fun w84 h => ?_)
  refine jc_dup dX12_init_607 rfl ?_
  refine jc_bipush (11 : Int32) dX12_init_608 kb_11 ?_
  refine jc_sipush (2048 : Int32) dX12_init_610 ks_2048 ?_
  refine jc_iast sh_149 (by decide) dX12_init_613 h (fun h => ?_)
  refine jc_lW h (fun w85 h => ?_)
  refine jc_dup dX12_init_614 rfl ?_
  refine jc_bipush (12 : Int32) dX12_init_615 kb_12 ?_
  refine jc_sipush (4096 : Int32) dX12_init_617 ks_4096 ?_
  refine jc_iast sh_149 (by decide) dX12_init_620 h (fun h => ?_)
  refine jc_lW h (fun w86 h => ?_)
  refine jc_dup dX12_init_621 rfl ?_
  refine jc_bipush (13 : Int32) dX12_init_622 kb_13 ?_
  refine jc_sipush (8192 : Int32) dX12_init_624 ks_8192 ?_
  refine jc_iast sh_149 (by decide) dX12_init_627 h (fun h => ?_)
  refine jc_lW h (fun w87 h => ?_)
  refine jc_dup dX12_init_628 rfl ?_
  refine jc_bipush (14 : Int32) dX12_init_629 kb_14 ?_
  refine jc_sipush (16384 : Int32) dX12_init_631 ks_16384 ?_
  refine jc_iast sh_149 (by decide) dX12_init_634 h (fun h => ?_)
  refine jc_lW h (fun w88 h => ?_)
  refine jc_putA fr_RX12_187 sh_97 (by decide) fk_97_73 (by decide) (fun _ => rfl) (fun _ => rfl) hi dX12_init_635 ?_
  refine jc_lW h (fun w89 h => ?_)
  refine jc_aload_n 0 dX12_init_638 rfl rfl ?_
  refine jc_sipush (600 : Int32) dX12_init_639 ks_600 ?_
  refine jc_newI (m := 600) (by decide) sh_150 aw_I (by decide) (by decide) (by decide) (by decide) (by decide) dX12_init_642 ?_
  refine jc_putA fr_RX12_190 sh_97 (by decide) fk_97_74 (by decide) (fun _ => rfl) (fun _ => rfl) hi dX12_init_644 ?_
  refine jc_lW h (fun w90 h => ?_)
  refine jc_aload_n 0 dX12_init_647 rfl rfl ?_
  refine jc_bipush (40 : Int32) dX12_init_648 kb_40 ?_
  refine jc_newI (m := 40) (by decide) sh_151 aw_I (by decide) (by decide) (by decide) (by decide) (by decide) dX12_init_650 ?_
  refine jc_putA fr_RX12_193 sh_97 (by decide) fk_97_75 (by decide) (fun _ => rfl) (fun _ => rfl) hi dX12_init_652 ?_
  refine jc_lW h (fun w91 h => ?_)
  refine jc_aload_n 0 dX12_init_655 rfl rfl ?_
  refine jc_bipush (40 : Int32) dX12_init_656 kb_40 ?_
  refine jc_newI (m := 40) (by decide) sh_152 aw_I (by decide) (by decide) (by decide) (by decide) (by decide) dX12_init_658 ?_
  refine jc_putA fr_RX12_196 sh_97 (by decide) fk_97_76 (by decide) (fun _ => rfl) (fun _ => rfl) hi dX12_init_660 ?_
  refine jc_lW h (fun w92 h => ?_)
  refine jc_aload_n 0 dX12_init_663 rfl rfl ?_
  refine jc_bipush (40 : Int32) dX12_init_664 kb_40 ?_
  refine jc_newI (m := 40) (by decide) sh_153 aw_I (by decide) (by decide) (by decide) (by decide) (by decide) dX12_init_666 ?_
  refine jc_putA fr_RX12_199 sh_97 (by decide) fk_97_77 (by decide) (fun _ => rfl) (fun _ => rfl) hi dX12_init_668 ?_
  refine jc_lW h (fun w93 h => ?_)
  refine jc_aload_n 0 dX12_init_671 rfl rfl ?_
  refine jc_bipush (12 : Int32) dX12_init_672 kb_12 ?_
  refine jc_newI (m := 12) (by decide) sh_154 aw_I (by decide) (by decide) (by decide) (by decide) (by decide) dX12_init_674 ?_
  refine jc_putA fr_RX12_202 sh_97 (by decide) fk_97_78 (by decide) (fun _ => rfl) (fun _ => rfl) hi dX12_init_676 ?_
  refine jc_lW h (fun w94 h => ?_)
  refine jc_aload_n 0 dX12_init_679 rfl rfl ?_
  refine jc_bipush (12 : Int32) dX12_init_680 kb_12 ?_
  refine jc_newI (m := 12) (by decide) sh_155 aw_I (by decide) (by decide) (by decide) (by decide) (by decide) dX12_init_682 ?_
  refine jc_putA fr_RX12_205 sh_97 (by decide) fk_97_79 (by decide) (fun _ => rfl) (fun _ => rfl) hi dX12_init_684 ?_
  refine jc_lW h (fun w95 h => ?_)
  refine jc_aload_n 0 dX12_init_687 rfl rfl ?_
  refine jc_bipush (12 : Int32) dX12_init_688 kb_12 ?_
  refine jc_newI (m := 12) (by decide) sh_156 aw_I (by decide) (by decide) (by decide) (by decide) (by decide) dX12_init_690 ?_
  refine jc_putA fr_RX12_208 sh_97 (by decide) fk_97_80 (by decide) (fun _ => rfl) (fun _ => rfl) hi dX12_init_692 ?_
  refine jc_lW h (fun w96 h => ?_)
  refine jc_aload_n 0 dX12_init_695 rfl rfl ?_
  refine jc_bipush (40 : Int32) dX12_init_696 kb_40 ?_
  refine jc_newZ (m := 40) (by decide) sh_157 aw_Z (by decide) (by decide) (by decide) (by decide) (by decide) dX12_init_698 ?_
  refine jc_putA fr_RX12_211 sh_97 (by decide) fk_97_81 (by decide) (fun _ => rfl) (fun _ => rfl) hi dX12_init_700 ?_
  refine jc_lW h (fun w97 h => ?_)
  refine jc_aload_n 0 dX12_init_703 rfl rfl ?_
  refine jc_bipush (40 : Int32) dX12_init_704 kb_40 ?_
  refine jc_newZ (m := 40) (by decide) sh_158 aw_Z (by decide) (by decide) (by decide) (by decide) (by decide) dX12_init_706 ?_
  refine jc_putA fr_RX12_214 sh_97 (by decide) fk_97_82 (by decide) (fun _ => rfl) (fun _ => rfl) hi dX12_init_708 ?_
  refine jc_lW h (fun w98 h => ?_)
  refine jc_aload_n 0 dX12_init_711 rfl rfl ?_
  refine jc_iconst (4 : Int32) dX12_init_712 ki_4 ?_
  refine jc_putI fp_RX12_217 sh_97 (by decide) fk_97_83 dX12_init_713 ?_
  refine jc_lW h (fun w99 h => ?_)
  refine jc_aload_n 0 dX12_init_716 rfl rfl ?_
  refine jc_bipush (7 : Int32) dX12_init_717 kb_7 ?_
  refine jc_newJ (m := 7) (by decide) sh_159 aw_J (by decide) (by decide) (by decide) (by decide) (by decide) dX12_init_719 ?_
  refine jc_putA fr_RX12_220 sh_97 (by decide) fk_97_84 (by decide) (fun _ => rfl) (fun _ => rfl) hi dX12_init_721 ?_
  refine jc_lW h (fun w100 h => ?_)
  refine jc_aload_n 0 dX12_init_724 rfl rfl ?_
  refine jc_sipush (700 : Int32) dX12_init_725 ks_700 ?_
  refine jc_newJ (m := 700) (by decide) sh_160 aw_J (by decide) (by decide) (by decide) (by decide) (by decide) dX12_init_728 ?_
  refine jc_putA fr_RX12_223 sh_97 (by decide) fk_97_85 (by decide) (fun _ => rfl) (fun _ => rfl) hi dX12_init_730 ?_
  refine jc_lW h (fun w101 h => ?_)
  refine jc_aload_n 0 dX12_init_733 rfl rfl ?_
  refine jc_bipush (60 : Int32) dX12_init_734 kb_60 ?_
  refine jc_newI (m := 60) (by decide) sh_161 aw_I (by decide) (by decide) (by decide) (by decide) (by decide) dX12_init_736 ?_
  refine jc_putA fr_RX12_226 sh_97 (by decide) fk_97_87 (by decide) (fun _ => rfl) (fun _ => rfl) hi dX12_init_738 ?_
  refine jc_lW h (fun w102 h => ?_)
  refine jc_aload_n 0 dX12_init_741 rfl rfl ?_
  refine jc_bipush (60 : Int32) dX12_init_742 kb_60 ?_
  refine jc_newI (m := 60) (by decide) sh_162 aw_I (by decide) (by decide) (by decide) (by decide) (by decide) dX12_init_744 ?_
  refine jc_putA fr_RX12_229 sh_97 (by decide) fk_97_88 (by decide) (fun _ => rfl) (fun _ => rfl) hi dX12_init_746 ?_
  refine jc_lW h (fun w103 h => ?_)
  refine jc_aload_n 0 dX12_init_749 rfl rfl ?_
  refine jc_bipush (8 : Int32) dX12_init_750 kb_8 ?_
  refine jc_newI (m := 8) (by decide) sh_163 aw_I (by decide) (by decide) (by decide) (by decide) (by decide) dX12_init_752 ?_
  refine jc_putA fr_RX12_232 sh_97 (by decide) fk_97_89 (by decide) (fun _ => rfl) (fun _ => rfl) hi dX12_init_754 ?_
  refine jc_lW h (fun w104 h => ?_)
  refine jc_aload_n 0 dX12_init_757 rfl rfl ?_
  refine jc_bipush (8 : Int32) dX12_init_758 kb_8 ?_
  refine jc_newI (m := 8) (by decide) sh_164 aw_I (by decide) (by decide) (by decide) (by decide) (by decide) dX12_init_760 ?_
  refine jc_putA fr_RX12_235 sh_97 (by decide) fk_97_90 (by decide) (fun _ => rfl) (fun _ => rfl) hi dX12_init_762 ?_
  refine jc_lW h (fun w105 h => ?_)
  refine jc_aload_n 0 dX12_init_765 rfl rfl ?_
  refine jc_bipush (81 : Int32) dX12_init_766 kb_81 ?_
  refine jc_newI (m := 81) (by decide) sh_165 aw_I (by decide) (by decide) (by decide) (by decide) (by decide) dX12_init_768 ?_
  refine jc_putA fr_RX12_238 sh_97 (by decide) fk_97_91 (by decide) (fun _ => rfl) (fun _ => rfl) hi dX12_init_770 ?_
  refine jc_lW h (fun w106 h => ?_)
  refine jc_aload_n 0 dX12_init_773 rfl rfl ?_
  refine jc_bipush (16 : Int32) dX12_init_774 kb_16 ?_
  refine jc_newI (m := 16) (by decide) sh_166 aw_I (by decide) (by decide) (by decide) (by decide) (by decide) dX12_init_776 ?_
  refine jc_putA fr_RX12_241 sh_97 (by decide) fk_97_92 (by decide) (fun _ => rfl) (fun _ => rfl) hi dX12_init_778 ?_
  refine jc_lW h (fun w107 h => ?_)
  refine jc_aload_n 0 dX12_init_781 rfl rfl ?_
  refine jc_bipush (16 : Int32) dX12_init_782 kb_16 ?_
  refine jc_newI (m := 16) (by decide) sh_167 aw_I (by decide) (by decide) (by decide) (by decide) (by decide) dX12_init_784 ?_
  refine jc_putA fr_RX12_244 sh_97 (by decide) fk_97_93 (by decide) (fun _ => rfl) (fun _ => rfl) hi dX12_init_786 ?_
  refine jc_lW h (fun w108 h => ?_)
  refine jc_aload_n 0 dX12_init_789 rfl rfl ?_
  refine jc_bipush (60 : Int32) dX12_init_790 kb_60 ?_
  refine jc_newJ (m := 60) (by decide) sh_168 aw_J (by decide) (by decide) (by decide) (by decide) (by decide) dX12_init_792 ?_
  refine jc_putA fr_RX12_247 sh_97 (by decide) fk_97_94 (by decide) (fun _ => rfl) (fun _ => rfl) hi dX12_init_794 ?_
  refine jc_lW h (fun w109 h => ?_)
  refine jc_aload_n 0 dX12_init_797 rfl rfl ?_
  refine jc_bipush (60 : Int32) dX12_init_798 kb_60 ?_
  refine jc_newJ (m := 60) (by decide) sh_169 aw_J (by decide) (by decide) (by decide) (by decide) (by decide) dX12_init_800 ?_
  refine jc_putA fr_RX12_250 sh_97 (by decide) fk_97_95 (by decide) (fun _ => rfl) (fun _ => rfl) hi dX12_init_802 ?_
  refine jc_lW h (fun w110 h => ?_)
  refine jc_aload_n 0 dX12_init_805 rfl rfl ?_
  refine jc_bipush (7 : Int32) dX12_init_806 kb_7 ?_
  refine jc_newI (m := 7) (by decide) sh_170 aw_I (by decide) (by decide) (by decide) (by decide) (by decide) dX12_init_808 ?_
  refine jc_putA fr_RX12_253 sh_97 (by decide) fk_97_99 (by decide) (fun _ => rfl) (fun _ => rfl) hi dX12_init_810 ?_
  refine jc_lW h (fun w111 h => ?_)
  refine jc_aload_n 0 dX12_init_813 rfl rfl ?_
  refine jc_bipush (7 : Int32) dX12_init_814 kb_7 ?_
  refine jc_newI (m := 7) (by decide) sh_171 aw_I (by decide) (by decide) (by decide) (by decide) (by decide) dX12_init_816 ?_
  refine jc_putA fr_RX12_256 sh_97 (by decide) fk_97_100 (by decide) (fun _ => rfl) (fun _ => rfl) hi dX12_init_818 ?_
  refine jc_lW h (fun w112 h => ?_)
  refine jc_aload_n 0 dX12_init_821 rfl rfl ?_
  refine jc_bipush (7 : Int32) dX12_init_822 kb_7 ?_
  refine jc_newI (m := 7) (by decide) sh_172 aw_I (by decide) (by decide) (by decide) (by decide) (by decide) dX12_init_824 ?_
  refine jc_putA fr_RX12_259 sh_97 (by decide) fk_97_101 (by decide) (fun _ => rfl) (fun _ => rfl) hi dX12_init_826 ?_
  refine jc_lW h (fun w113 h => ?_)
  refine jc_aload_n 0 dX12_init_829 rfl rfl ?_
  refine jc_bipush (49 : Int32) dX12_init_830 kb_49 ?_
  refine jc_newI (m := 49) (by decide) sh_173 aw_I (by decide) (by decide) (by decide) (by decide) (by decide) dX12_init_832 ?_
  refine jc_putA fr_RX12_262 sh_97 (by decide) fk_97_102 (by decide) (fun _ => rfl) (fun _ => rfl) hi dX12_init_834 ?_
  refine jc_lW h (fun w114 h => ?_)
  refine jc_aload_n 0 dX12_init_837 rfl rfl ?_
  refine jc_bipush (7 : Int32) dX12_init_838 kb_7 ?_
  refine jc_newI (m := 7) (by decide) sh_174 aw_I (by decide) (by decide) (by decide) (by decide) (by decide) dX12_init_840 ?_
  refine jc_putA fr_RX12_265 sh_97 (by decide) fk_97_103 (by decide) (fun _ => rfl) (fun _ => rfl) hi dX12_init_842 ?_
  refine jc_lW h (fun w115 h => ?_)
  refine jc_aload_n 0 dX12_init_845 rfl rfl ?_
  refine jc_bipush (7 : Int32) dX12_init_846 kb_7 ?_
  refine jc_newI (m := 7) (by decide) sh_175 aw_I (by decide) (by decide) (by decide) (by decide) (by decide) dX12_init_848 ?_
  refine jc_putA fr_RX12_268 sh_97 (by decide) fk_97_104 (by decide) (fun _ => rfl) (fun _ => rfl) hi dX12_init_850 ?_
  refine jc_lW h (fun w116 h => ?_)
  refine jc_aload_n 0 dX12_init_853 rfl rfl ?_
  refine jc_bipush (7 : Int32) dX12_init_854 kb_7 ?_
  refine jc_newI (m := 7) (by decide) sh_176 aw_I (by decide) (by decide) (by decide) (by decide) (by decide) dX12_init_856 ?_
  refine jc_putA fr_RX12_271 sh_97 (by decide) fk_97_106 (by decide) (fun _ => rfl) (fun _ => rfl) hi dX12_init_858 ?_
  refine jc_lW h (fun w117 h => ?_)
  refine jc_aload_n 0 dX12_init_861 rfl rfl ?_
  refine jc_sipush (3721 : Int32) dX12_init_862 ks_3721 ?_
  refine jc_newJ (m := 3721) (by decide) sh_177 aw_J (by decide) (by decide) (by decide) (by decide) (by decide) dX12_init_865 ?_
  refine jc_putA fr_RX12_274 sh_97 (by decide) fk_97_107 (by decide) (fun _ => rfl) (fun _ => rfl) hi dX12_init_867 ?_
  refine jc_lW h (fun w118 h => ?_)
  have h := ok_s h
  exact jc_vret dX12_init_870 rfl h
theorem k_X12_init (l : Launch) (γ : Gm) (A : Nat → Prop) (N : Nat) (w : Wd) (q : Wd) (e : X12_init   w = some q) : MetC l γ A N yX12_init cX12_init 1 none (rmc 1 20 80 26850) [.ref (ad (γ) 97)] w 98 none q 178 80 26850 := by
  refine met_ofC pn_RX12 (Nat.le_of_ble_eq_true rfl) ?_
  intro κ hl hγ hA hN hρ hi
  subst hl; subst hγ; subst hA; subst hN
  exact tk_X12_init    w hi ⟨q, e, pVc hρ rfl rfl⟩
