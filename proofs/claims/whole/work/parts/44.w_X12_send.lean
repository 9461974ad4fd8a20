theorem dX12_send_0 : decode cX12_send 0 = .ok (.iload_n 1, 1) := by decide +kernel
theorem dX12_send_1 : decode cX12_send 1 = .ok (.invokestatic 280, 3) := by decide +kernel
theorem dX12_send_4 : decode cX12_send 4 = .ok (.ifCond .eq 29, 3) := by decide +kernel
theorem dX12_send_7 : decode cX12_send 7 = .ok (.iload_n 2, 1) := by decide +kernel
theorem dX12_send_8 : decode cX12_send 8 = .ok (.invokestatic 280, 3) := by decide +kernel
theorem dX12_send_11 : decode cX12_send 11 = .ok (.ifCond .eq 22, 3) := by decide +kernel
theorem dX12_send_14 : decode cX12_send 14 = .ok (.iload_n 3, 1) := by decide +kernel
theorem dX12_send_15 : decode cX12_send 15 = .ok (.iconst 1, 1) := by decide +kernel
theorem dX12_send_16 : decode cX12_send 16 = .ok (.if_icmp .lt 17, 3) := by decide +kernel
theorem dX12_send_19 : decode cX12_send 19 = .ok (.iload_n 3, 1) := by decide +kernel
theorem dX12_send_20 : decode cX12_send 20 = .ok (.bipush 7, 2) := by decide +kernel
theorem dX12_send_22 : decode cX12_send 22 = .ok (.if_icmp .gt 11, 3) := by decide +kernel
theorem dX12_send_25 : decode cX12_send 25 = .ok (.iload 4, 2) := by decide +kernel
theorem dX12_send_27 : decode cX12_send 27 = .ok (.invokestatic 322, 3) := by decide +kernel
theorem dX12_send_30 : decode cX12_send 30 = .ok (.ifCond .ne 9, 3) := by decide +kernel
theorem dX12_send_33 : decode cX12_send 33 = .ok (.aload_n 0, 1) := by decide +kernel
theorem dX12_send_34 : decode cX12_send 34 = .ok (.iconst 1, 1) := by decide +kernel
theorem dX12_send_35 : decode cX12_send 35 = .ok (.invokevirtual 312, 3) := by decide +kernel
theorem dX12_send_38 : decode cX12_send 38 = .ok (.ireturn, 1) := by decide +kernel
theorem dX12_send_39 : decode cX12_send 39 = .ok (.aload_n 0, 1) := by decide +kernel
theorem dX12_send_40 : decode cX12_send 40 = .ok (.getfield 13, 3) := by decide +kernel
theorem dX12_send_43 : decode cX12_send 43 = .ok (.iload_n 1, 1) := by decide +kernel
theorem dX12_send_44 : decode cX12_send 44 = .ok (.iaload, 1) := by decide +kernel
theorem dX12_send_45 : decode cX12_send 45 = .ok (.iconst (-1), 1) := by decide +kernel
theorem dX12_send_46 : decode cX12_send 46 = .ok (.if_icmp .eq 13, 3) := by decide +kernel
theorem dX12_send_49 : decode cX12_send 49 = .ok (.aload_n 0, 1) := by decide +kernel
theorem dX12_send_50 : decode cX12_send 50 = .ok (.getfield 13, 3) := by decide +kernel
theorem dX12_send_53 : decode cX12_send 53 = .ok (.iload_n 2, 1) := by decide +kernel
theorem dX12_send_54 : decode cX12_send 54 = .ok (.iaload, 1) := by decide +kernel
theorem dX12_send_55 : decode cX12_send 55 = .ok (.iconst (-1), 1) := by decide +kernel
theorem dX12_send_56 : decode cX12_send 56 = .ok (.if_icmp .ne 9, 3) := by decide +kernel
theorem dX12_send_59 : decode cX12_send 59 = .ok (.aload_n 0, 1) := by decide +kernel
theorem dX12_send_60 : decode cX12_send 60 = .ok (.iconst 2, 1) := by decide +kernel
theorem dX12_send_61 : decode cX12_send 61 = .ok (.invokevirtual 312, 3) := by decide +kernel
theorem dX12_send_64 : decode cX12_send 64 = .ok (.ireturn, 1) := by decide +kernel
theorem dX12_send_65 : decode cX12_send 65 = .ok (.aload_n 0, 1) := by decide +kernel
theorem dX12_send_66 : decode cX12_send 66 = .ok (.getfield 13, 3) := by decide +kernel
theorem dX12_send_69 : decode cX12_send 69 = .ok (.iload_n 1, 1) := by decide +kernel
theorem dX12_send_70 : decode cX12_send 70 = .ok (.iaload, 1) := by decide +kernel
theorem dX12_send_71 : decode cX12_send 71 = .ok (.iload_n 3, 1) := by decide +kernel
theorem dX12_send_72 : decode cX12_send 72 = .ok (.if_icmp .lt 13, 3) := by decide +kernel
theorem dX12_send_75 : decode cX12_send 75 = .ok (.aload_n 0, 1) := by decide +kernel
theorem dX12_send_76 : decode cX12_send 76 = .ok (.getfield 13, 3) := by decide +kernel
theorem dX12_send_79 : decode cX12_send 79 = .ok (.iload_n 2, 1) := by decide +kernel
theorem dX12_send_80 : decode cX12_send 80 = .ok (.iaload, 1) := by decide +kernel
theorem dX12_send_81 : decode cX12_send 81 = .ok (.iload_n 3, 1) := by decide +kernel
theorem dX12_send_82 : decode cX12_send 82 = .ok (.if_icmp .ge 9, 3) := by decide +kernel
theorem dX12_send_85 : decode cX12_send 85 = .ok (.aload_n 0, 1) := by decide +kernel
theorem dX12_send_86 : decode cX12_send 86 = .ok (.iconst 3, 1) := by decide +kernel
theorem dX12_send_87 : decode cX12_send 87 = .ok (.invokevirtual 312, 3) := by decide +kernel
theorem dX12_send_90 : decode cX12_send 90 = .ok (.ireturn, 1) := by decide +kernel
theorem dX12_send_91 : decode cX12_send 91 = .ok (.aload_n 0, 1) := by decide +kernel
theorem dX12_send_92 : decode cX12_send 92 = .ok (.iload_n 1, 1) := by decide +kernel
theorem dX12_send_93 : decode cX12_send 93 = .ok (.iload_n 3, 1) := by decide +kernel
theorem dX12_send_94 : decode cX12_send 94 = .ok (.aload_n 0, 1) := by decide +kernel
theorem dX12_send_95 : decode cX12_send 95 = .ok (.getfield 306, 3) := by decide +kernel
theorem dX12_send_98 : decode cX12_send 98 = .ok (.aload_n 0, 1) := by decide +kernel
theorem dX12_send_99 : decode cX12_send 99 = .ok (.getfield 253, 3) := by decide +kernel
theorem dX12_send_102 : decode cX12_send 102 = .ok (.invokevirtual 570, 3) := by decide +kernel
theorem dX12_send_105 : decode cX12_send 105 = .ok (.ifCond .eq 20, 3) := by decide +kernel
theorem dX12_send_108 : decode cX12_send 108 = .ok (.aload_n 0, 1) := by decide +kernel
theorem dX12_send_109 : decode cX12_send 109 = .ok (.iload_n 2, 1) := by decide +kernel
theorem dX12_send_110 : decode cX12_send 110 = .ok (.iload_n 3, 1) := by decide +kernel
theorem dX12_send_111 : decode cX12_send 111 = .ok (.aload_n 0, 1) := by decide +kernel
theorem dX12_send_112 : decode cX12_send 112 = .ok (.getfield 303, 3) := by decide +kernel
theorem dX12_send_115 : decode cX12_send 115 = .ok (.aload_n 0, 1) := by decide +kernel
theorem dX12_send_116 : decode cX12_send 116 = .ok (.getfield 256, 3) := by decide +kernel
theorem dX12_send_119 : decode cX12_send 119 = .ok (.invokevirtual 570, 3) := by decide +kernel
theorem dX12_send_122 : decode cX12_send 122 = .ok (.ifCond .ne 9, 3) := by decide +kernel
theorem dX12_send_125 : decode cX12_send 125 = .ok (.aload_n 0, 1) := by decide +kernel
theorem dX12_send_126 : decode cX12_send 126 = .ok (.iconst 1, 1) := by decide +kernel
theorem dX12_send_127 : decode cX12_send 127 = .ok (.invokevirtual 312, 3) := by decide +kernel
theorem dX12_send_130 : decode cX12_send 130 = .ok (.ireturn, 1) := by decide +kernel
theorem dX12_send_131 : decode cX12_send 131 = .ok (.iconst 0, 1) := by decide +kernel
theorem dX12_send_132 : decode cX12_send 132 = .ok (.istore 5, 2) := by decide +kernel
theorem dX12_send_134 : decode cX12_send 134 = .ok (.iload 5, 2) := by decide +kernel
theorem dX12_send_136 : decode cX12_send 136 = .ok (.iload_n 3, 1) := by decide +kernel
theorem dX12_send_137 : decode cX12_send 137 = .ok (.if_icmp .ge 147, 3) := by decide +kernel
theorem dX12_send_140 : decode cX12_send 140 = .ok (.aload_n 0, 1) := by decide +kernel
theorem dX12_send_141 : decode cX12_send 141 = .ok (.aload_n 0, 1) := by decide +kernel
theorem dX12_send_142 : decode cX12_send 142 = .ok (.getfield 57, 3) := by decide +kernel
theorem dX12_send_145 : decode cX12_send 145 = .ok (.aload_n 0, 1) := by decide +kernel
theorem dX12_send_146 : decode cX12_send 146 = .ok (.getfield 256, 3) := by decide +kernel
theorem dX12_send_149 : decode cX12_send 149 = .ok (.iload 5, 2) := by decide +kernel
theorem dX12_send_151 : decode cX12_send 151 = .ok (.iaload, 1) := by decide +kernel
theorem dX12_send_152 : decode cX12_send 152 = .ok (.iaload, 1) := by decide +kernel
theorem dX12_send_153 : decode cX12_send 153 = .ok (.iload 4, 2) := by decide +kernel
theorem dX12_send_155 : decode cX12_send 155 = .ok (.invokevirtual 332, 3) := by decide +kernel
theorem dX12_send_158 : decode cX12_send 158 = .ok (.iconst 0, 1) := by decide +kernel
theorem dX12_send_159 : decode cX12_send 159 = .ok (.istore 6, 2) := by decide +kernel
theorem dX12_send_161 : decode cX12_send 161 = .ok (.iload 6, 2) := by decide +kernel
theorem dX12_send_163 : decode cX12_send 163 = .ok (.iload_n 3, 1) := by decide +kernel
theorem dX12_send_164 : decode cX12_send 164 = .ok (.if_icmp .ge 114, 3) := by decide +kernel
theorem dX12_send_167 : decode cX12_send 167 = .ok (.aload_n 0, 1) := by decide +kernel
theorem dX12_send_168 : decode cX12_send 168 = .ok (.getfield 259, 3) := by decide +kernel
theorem dX12_send_171 : decode cX12_send 171 = .ok (.iload 6, 2) := by decide +kernel
theorem dX12_send_173 : decode cX12_send 173 = .ok (.aload_n 0, 1) := by decide +kernel
theorem dX12_send_174 : decode cX12_send 174 = .ok (.aload_n 0, 1) := by decide +kernel
theorem dX12_send_175 : decode cX12_send 175 = .ok (.getfield 253, 3) := by decide +kernel
theorem dX12_send_178 : decode cX12_send 178 = .ok (.iload 6, 2) := by decide +kernel
theorem dX12_send_180 : decode cX12_send 180 = .ok (.iaload, 1) := by decide +kernel
theorem dX12_send_181 : decode cX12_send 181 = .ok (.iload 4, 2) := by decide +kernel
theorem dX12_send_183 : decode cX12_send 183 = .ok (.invokevirtual 574, 3) := by decide +kernel
theorem dX12_send_186 : decode cX12_send 186 = .ok (.iastore, 1) := by decide +kernel
theorem dX12_send_187 : decode cX12_send 187 = .ok (.aload_n 0, 1) := by decide +kernel
theorem dX12_send_188 : decode cX12_send 188 = .ok (.getfield 259, 3) := by decide +kernel
theorem dX12_send_191 : decode cX12_send 191 = .ok (.iload 6, 2) := by decide +kernel
theorem dX12_send_193 : decode cX12_send 193 = .ok (.iaload, 1) := by decide +kernel
theorem dX12_send_194 : decode cX12_send 194 = .ok (.iconst (-1), 1) := by decide +kernel
theorem dX12_send_195 : decode cX12_send 195 = .ok (.if_icmp .eq 29, 3) := by decide +kernel
theorem dX12_send_198 : decode cX12_send 198 = .ok (.aload_n 0, 1) := by decide +kernel
theorem dX12_send_199 : decode cX12_send 199 = .ok (.getfield 54, 3) := by decide +kernel
theorem dX12_send_202 : decode cX12_send 202 = .ok (.aload_n 0, 1) := by decide +kernel
theorem dX12_send_203 : decode cX12_send 203 = .ok (.getfield 256, 3) := by decide +kernel
theorem dX12_send_206 : decode cX12_send 206 = .ok (.iload 5, 2) := by decide +kernel
theorem dX12_send_208 : decode cX12_send 208 = .ok (.iaload, 1) := by decide +kernel
theorem dX12_send_209 : decode cX12_send 209 = .ok (.iaload, 1) := by decide +kernel
theorem dX12_send_210 : decode cX12_send 210 = .ok (.aload_n 0, 1) := by decide +kernel
theorem dX12_send_211 : decode cX12_send 211 = .ok (.getfield 259, 3) := by decide +kernel
theorem dX12_send_214 : decode cX12_send 214 = .ok (.iload 6, 2) := by decide +kernel
theorem dX12_send_216 : decode cX12_send 216 = .ok (.iaload, 1) := by decide +kernel
theorem dX12_send_217 : decode cX12_send 217 = .ok (.ishr, 1) := by decide +kernel
theorem dX12_send_218 : decode cX12_send 218 = .ok (.iconst 1, 1) := by decide +kernel
theorem dX12_send_219 : decode cX12_send 219 = .ok (.iand, 1) := by decide +kernel
theorem dX12_send_220 : decode cX12_send 220 = .ok (.iconst 1, 1) := by decide +kernel
theorem dX12_send_221 : decode cX12_send 221 = .ok (.if_icmp .ne 7, 3) := by decide +kernel
theorem dX12_send_224 : decode cX12_send 224 = .ok (.iconst 1, 1) := by decide +kernel
theorem dX12_send_225 : decode cX12_send 225 = .ok (.goto 4, 3) := by decide +kernel
theorem dX12_send_228 : decode cX12_send 228 = .ok (.iconst 0, 1) := by decide +kernel
theorem dX12_send_229 : decode cX12_send 229 = .ok (.istore 7, 2) := by decide +kernel
theorem dX12_send_231 : decode cX12_send 231 = .ok (.aload_n 0, 1) := by decide +kernel
theorem dX12_send_232 : decode cX12_send 232 = .ok (.getfield 262, 3) := by decide +kernel
theorem dX12_send_235 : decode cX12_send 235 = .ok (.bipush 7, 2) := by decide +kernel
theorem dX12_send_237 : decode cX12_send 237 = .ok (.iload 6, 2) := by decide +kernel
theorem dX12_send_239 : decode cX12_send 239 = .ok (.imul, 1) := by decide +kernel
theorem dX12_send_240 : decode cX12_send 240 = .ok (.iload 5, 2) := by decide +kernel
theorem dX12_send_242 : decode cX12_send 242 = .ok (.iadd, 1) := by decide +kernel
theorem dX12_send_243 : decode cX12_send 243 = .ok (.iload 7, 2) := by decide +kernel
theorem dX12_send_245 : decode cX12_send 245 = .ok (.ifCond .eq 23, 3) := by decide +kernel
theorem dX12_send_248 : decode cX12_send 248 = .ok (.aload_n 0, 1) := by decide +kernel
theorem dX12_send_249 : decode cX12_send 249 = .ok (.getfield 42, 3) := by decide +kernel
theorem dX12_send_252 : decode cX12_send 252 = .ok (.aload_n 0, 1) := by decide +kernel
theorem dX12_send_253 : decode cX12_send 253 = .ok (.getfield 60, 3) := by decide +kernel
theorem dX12_send_256 : decode cX12_send 256 = .ok (.aload_n 0, 1) := by decide +kernel
theorem dX12_send_257 : decode cX12_send 257 = .ok (.getfield 253, 3) := by decide +kernel
theorem dX12_send_260 : decode cX12_send 260 = .ok (.iload 6, 2) := by decide +kernel
theorem dX12_send_262 : decode cX12_send 262 = .ok (.iaload, 1) := by decide +kernel
theorem dX12_send_263 : decode cX12_send 263 = .ok (.iaload, 1) := by decide +kernel
theorem dX12_send_264 : decode cX12_send 264 = .ok (.iaload, 1) := by decide +kernel
theorem dX12_send_265 : decode cX12_send 265 = .ok (.goto 6, 3) := by decide +kernel
theorem dX12_send_268 : decode cX12_send 268 = .ok (.sipush 1000, 3) := by decide +kernel
theorem dX12_send_271 : decode cX12_send 271 = .ok (.iastore, 1) := by decide +kernel
theorem dX12_send_272 : decode cX12_send 272 = .ok (.iinc 6 1, 3) := by decide +kernel
theorem dX12_send_275 : decode cX12_send 275 = .ok (.goto (-114), 3) := by decide +kernel
theorem dX12_send_278 : decode cX12_send 278 = .ok (.iinc 5 1, 3) := by decide +kernel
theorem dX12_send_281 : decode cX12_send 281 = .ok (.goto (-147), 3) := by decide +kernel
theorem dX12_send_284 : decode cX12_send 284 = .ok (.iconst 1, 1) := by decide +kernel
theorem dX12_send_285 : decode cX12_send 285 = .ok (.istore 5, 2) := by decide +kernel
theorem dX12_send_287 : decode cX12_send 287 = .ok (.iconst 0, 1) := by decide +kernel
theorem dX12_send_288 : decode cX12_send 288 = .ok (.istore 6, 2) := by decide +kernel
theorem dX12_send_290 : decode cX12_send 290 = .ok (.iload 6, 2) := by decide +kernel
theorem dX12_send_292 : decode cX12_send 292 = .ok (.iload_n 3, 1) := by decide +kernel
theorem dX12_send_293 : decode cX12_send 293 = .ok (.if_icmp .ge 15, 3) := by decide +kernel
theorem dX12_send_296 : decode cX12_send 296 = .ok (.iload 5, 2) := by decide +kernel
theorem dX12_send_298 : decode cX12_send 298 = .ok (.iload_n 3, 1) := by decide +kernel
theorem dX12_send_299 : decode cX12_send 299 = .ok (.imul, 1) := by decide +kernel
theorem dX12_send_300 : decode cX12_send 300 = .ok (.istore 5, 2) := by decide +kernel
theorem dX12_send_302 : decode cX12_send 302 = .ok (.iinc 6 1, 3) := by decide +kernel
theorem dX12_send_305 : decode cX12_send 305 = .ok (.goto (-15), 3) := by decide +kernel
theorem dX12_send_308 : decode cX12_send 308 = .ok (.iconst (-1), 1) := by decide +kernel
theorem dX12_send_309 : decode cX12_send 309 = .ok (.istore 6, 2) := by decide +kernel
theorem dX12_send_311 : decode cX12_send 311 = .ok (.iconst 0, 1) := by decide +kernel
theorem dX12_send_312 : decode cX12_send 312 = .ok (.istore 7, 2) := by decide +kernel
theorem dX12_send_314 : decode cX12_send 314 = .ok (.iload 7, 2) := by decide +kernel
theorem dX12_send_316 : decode cX12_send 316 = .ok (.iload 5, 2) := by decide +kernel
theorem dX12_send_318 : decode cX12_send 318 = .ok (.if_icmp .ge 128, 3) := by decide +kernel
theorem dX12_send_321 : decode cX12_send 321 = .ok (.iload 7, 2) := by decide +kernel
theorem dX12_send_323 : decode cX12_send 323 = .ok (.istore 8, 2) := by decide +kernel
theorem dX12_send_325 : decode cX12_send 325 = .ok (.iload_n 3, 1) := by decide +kernel
theorem dX12_send_326 : decode cX12_send 326 = .ok (.iconst 1, 1) := by decide +kernel
theorem dX12_send_327 : decode cX12_send 327 = .ok (.isub, 1) := by decide +kernel
theorem dX12_send_328 : decode cX12_send 328 = .ok (.istore 9, 2) := by decide +kernel
theorem dX12_send_330 : decode cX12_send 330 = .ok (.iload 9, 2) := by decide +kernel
theorem dX12_send_332 : decode cX12_send 332 = .ok (.ifCond .lt 26, 3) := by decide +kernel
theorem dX12_send_335 : decode cX12_send 335 = .ok (.aload_n 0, 1) := by decide +kernel
theorem dX12_send_336 : decode cX12_send 336 = .ok (.getfield 265, 3) := by decide +kernel
theorem dX12_send_339 : decode cX12_send 339 = .ok (.iload 9, 2) := by decide +kernel
theorem dX12_send_341 : decode cX12_send 341 = .ok (.iload 8, 2) := by decide +kernel
theorem dX12_send_343 : decode cX12_send 343 = .ok (.iload_n 3, 1) := by decide +kernel
theorem dX12_send_344 : decode cX12_send 344 = .ok (.irem, 1) := by decide +kernel
theorem dX12_send_345 : decode cX12_send 345 = .ok (.iastore, 1) := by decide +kernel
theorem dX12_send_346 : decode cX12_send 346 = .ok (.iload 8, 2) := by decide +kernel
theorem dX12_send_348 : decode cX12_send 348 = .ok (.iload_n 3, 1) := by decide +kernel
theorem dX12_send_349 : decode cX12_send 349 = .ok (.idiv, 1) := by decide +kernel
theorem dX12_send_350 : decode cX12_send 350 = .ok (.istore 8, 2) := by decide +kernel
theorem dX12_send_352 : decode cX12_send 352 = .ok (.iinc 9 (-1), 3) := by decide +kernel
theorem dX12_send_355 : decode cX12_send 355 = .ok (.goto (-25), 3) := by decide +kernel
theorem dX12_send_358 : decode cX12_send 358 = .ok (.aload_n 0, 1) := by decide +kernel
theorem dX12_send_359 : decode cX12_send 359 = .ok (.iload_n 3, 1) := by decide +kernel
theorem dX12_send_360 : decode cX12_send 360 = .ok (.invokevirtual 577, 3) := by decide +kernel
theorem dX12_send_363 : decode cX12_send 363 = .ok (.istore 9, 2) := by decide +kernel
theorem dX12_send_365 : decode cX12_send 365 = .ok (.iload 9, 2) := by decide +kernel
theorem dX12_send_367 : decode cX12_send 367 = .ok (.iconst (-1), 1) := by decide +kernel
theorem dX12_send_368 : decode cX12_send 368 = .ok (.if_icmp .eq 72, 3) := by decide +kernel
theorem dX12_send_371 : decode cX12_send 371 = .ok (.iload 6, 2) := by decide +kernel
theorem dX12_send_373 : decode cX12_send 373 = .ok (.iconst (-1), 1) := by decide +kernel
theorem dX12_send_374 : decode cX12_send 374 = .ok (.if_icmp .eq 28, 3) := by decide +kernel
theorem dX12_send_377 : decode cX12_send 377 = .ok (.iload 9, 2) := by decide +kernel
theorem dX12_send_379 : decode cX12_send 379 = .ok (.iload 6, 2) := by decide +kernel
theorem dX12_send_381 : decode cX12_send 381 = .ok (.if_icmp .gt 59, 3) := by decide +kernel
theorem dX12_send_384 : decode cX12_send 384 = .ok (.iload 9, 2) := by decide +kernel
theorem dX12_send_386 : decode cX12_send 386 = .ok (.iload 6, 2) := by decide +kernel
theorem dX12_send_388 : decode cX12_send 388 = .ok (.if_icmp .ne 14, 3) := by decide +kernel
theorem dX12_send_391 : decode cX12_send 391 = .ok (.aload_n 0, 1) := by decide +kernel
theorem dX12_send_392 : decode cX12_send 392 = .ok (.iload_n 3, 1) := by decide +kernel
theorem dX12_send_393 : decode cX12_send 393 = .ok (.invokevirtual 580, 3) := by decide +kernel
theorem dX12_send_396 : decode cX12_send 396 = .ok (.ifCond .ne 6, 3) := by decide +kernel
theorem dX12_send_399 : decode cX12_send 399 = .ok (.goto 41, 3) := by decide +kernel
theorem dX12_send_402 : decode cX12_send 402 = .ok (.iload 9, 2) := by decide +kernel
theorem dX12_send_404 : decode cX12_send 404 = .ok (.istore 6, 2) := by decide +kernel
theorem dX12_send_406 : decode cX12_send 406 = .ok (.iconst 0, 1) := by decide +kernel
theorem dX12_send_407 : decode cX12_send 407 = .ok (.istore 10, 2) := by decide +kernel
theorem dX12_send_409 : decode cX12_send 409 = .ok (.iload 10, 2) := by decide +kernel
theorem dX12_send_411 : decode cX12_send 411 = .ok (.iload_n 3, 1) := by decide +kernel
theorem dX12_send_412 : decode cX12_send 412 = .ok (.if_icmp .ge 28, 3) := by decide +kernel
theorem dX12_send_415 : decode cX12_send 415 = .ok (.aload_n 0, 1) := by decide +kernel
theorem dX12_send_416 : decode cX12_send 416 = .ok (.getfield 271, 3) := by decide +kernel
theorem dX12_send_419 : decode cX12_send 419 = .ok (.iload 10, 2) := by decide +kernel
theorem dX12_send_421 : decode cX12_send 421 = .ok (.aload_n 0, 1) := by decide +kernel
theorem dX12_send_422 : decode cX12_send 422 = .ok (.getfield 256, 3) := by decide +kernel
theorem dX12_send_425 : decode cX12_send 425 = .ok (.aload_n 0, 1) := by decide +kernel
theorem dX12_send_426 : decode cX12_send 426 = .ok (.getfield 265, 3) := by decide +kernel
theorem dX12_send_429 : decode cX12_send 429 = .ok (.iload 10, 2) := by decide +kernel
theorem dX12_send_431 : decode cX12_send 431 = .ok (.iaload, 1) := by decide +kernel
theorem dX12_send_432 : decode cX12_send 432 = .ok (.iaload, 1) := by decide +kernel
theorem dX12_send_433 : decode cX12_send 433 = .ok (.iastore, 1) := by decide +kernel
theorem dX12_send_434 : decode cX12_send 434 = .ok (.iinc 10 1, 3) := by decide +kernel
theorem dX12_send_437 : decode cX12_send 437 = .ok (.goto (-28), 3) := by decide +kernel
theorem dX12_send_440 : decode cX12_send 440 = .ok (.iinc 7 1, 3) := by decide +kernel
theorem dX12_send_443 : decode cX12_send 443 = .ok (.goto (-129), 3) := by decide +kernel
theorem dX12_send_446 : decode cX12_send 446 = .ok (.iload 6, 2) := by decide +kernel
theorem dX12_send_448 : decode cX12_send 448 = .ok (.iconst (-1), 1) := by decide +kernel
theorem dX12_send_449 : decode cX12_send 449 = .ok (.if_icmp .ne 10, 3) := by decide +kernel
theorem dX12_send_452 : decode cX12_send 452 = .ok (.aload_n 0, 1) := by decide +kernel
theorem dX12_send_453 : decode cX12_send 453 = .ok (.bipush 6, 2) := by decide +kernel
theorem dX12_send_455 : decode cX12_send 455 = .ok (.invokevirtual 312, 3) := by decide +kernel
theorem dX12_send_458 : decode cX12_send 458 = .ok (.ireturn, 1) := by decide +kernel
theorem dX12_send_459 : decode cX12_send 459 = .ok (.iconst 0, 1) := by decide +kernel
theorem dX12_send_460 : decode cX12_send 460 = .ok (.istore 7, 2) := by decide +kernel
theorem dX12_send_462 : decode cX12_send 462 = .ok (.iload 7, 2) := by decide +kernel
theorem dX12_send_464 : decode cX12_send 464 = .ok (.iload_n 3, 1) := by decide +kernel
theorem dX12_send_465 : decode cX12_send 465 = .ok (.if_icmp .ge 23, 3) := by decide +kernel
theorem dX12_send_468 : decode cX12_send 468 = .ok (.aload_n 0, 1) := by decide +kernel
theorem dX12_send_469 : decode cX12_send 469 = .ok (.getfield 268, 3) := by decide +kernel
theorem dX12_send_472 : decode cX12_send 472 = .ok (.iload 7, 2) := by decide +kernel
theorem dX12_send_474 : decode cX12_send 474 = .ok (.aload_n 0, 1) := by decide +kernel
theorem dX12_send_475 : decode cX12_send 475 = .ok (.getfield 271, 3) := by decide +kernel
theorem dX12_send_478 : decode cX12_send 478 = .ok (.iload 7, 2) := by decide +kernel
theorem dX12_send_480 : decode cX12_send 480 = .ok (.iaload, 1) := by decide +kernel
theorem dX12_send_481 : decode cX12_send 481 = .ok (.iastore, 1) := by decide +kernel
theorem dX12_send_482 : decode cX12_send 482 = .ok (.iinc 7 1, 3) := by decide +kernel
theorem dX12_send_485 : decode cX12_send 485 = .ok (.goto (-23), 3) := by decide +kernel
theorem dX12_send_488 : decode cX12_send 488 = .ok (.aload_n 0, 1) := by decide +kernel
theorem dX12_send_489 : decode cX12_send 489 = .ok (.iload_n 3, 1) := by decide +kernel
theorem dX12_send_490 : decode cX12_send 490 = .ok (.putfield 583, 3) := by decide +kernel
theorem dX12_send_493 : decode cX12_send 493 = .ok (.aload_n 0, 1) := by decide +kernel
theorem dX12_send_494 : decode cX12_send 494 = .ok (.iload 6, 2) := by decide +kernel
theorem dX12_send_496 : decode cX12_send 496 = .ok (.sipush 1000, 3) := by decide +kernel
theorem dX12_send_499 : decode cX12_send 499 = .ok (.idiv, 1) := by decide +kernel
theorem dX12_send_500 : decode cX12_send 500 = .ok (.invokevirtual 316, 3) := by decide +kernel
theorem dX12_send_503 : decode cX12_send 503 = .ok (.ireturn, 1) := by decide +kernel
noncomputable def X12_send_j33 (w : Wd) : Option (Int32 × Wd) :=
(X12_refuse (1 : Int32) w).bind fun q1 =>
some (q1.1, q1.2)
set_option maxRecDepth 20000 in
set_option maxHeartbeats 1000000 in
theorem t_X12_send_j33 {κ : Kx} (w : Wd) (h : ok (X12_send_j33  w) (PIw κ)) : J κ RX12 cX12_send 11 (some .int) (rmk 2 52) 33 [(0, .ref (ad (gm κ) 97))] [] w := by
  unfold X12_send_j33 at h
  refine j_aload_n 0 dX12_send_33 rfl rfl ?_
  refine j_iconst (1 : Int32) dX12_send_34 ki_1 ?_
  obtain ⟨q1, e2, h⟩ := ok_b h
  refine j_callV (As := [.int (1 : Int32)]) (st := []) [.int q1.1] (c_X12_refuse (kl κ) (gm κ) (kA κ) (1 : Int32) w q1 e2) ck_RX12_312 im_X12_refuse se_X12_refuse sh_97 cx_12 ⟨rfl, rfl⟩ ⟨by decide, by decide⟩ rfl rfl (Nat.le_of_ble_eq_true rfl) dX12_send_35 _ rfl ?_
  have h := ok_s h
  exact j_iret dX12_send_38 rfl rfl h
noncomputable def X12_send_j59 (w : Wd) : Option (Int32 × Wd) :=
(X12_refuse (2 : Int32) w).bind fun q3 =>
some (q3.1, q3.2)
set_option maxRecDepth 20000 in
set_option maxHeartbeats 1000000 in
theorem t_X12_send_j59 {κ : Kx} (w : Wd) (h : ok (X12_send_j59  w) (PIw κ)) : J κ RX12 cX12_send 11 (some .int) (rmk 2 52) 59 [(0, .ref (ad (gm κ) 97))] [] w := by
  unfold X12_send_j59 at h
  refine j_aload_n 0 dX12_send_59 rfl rfl ?_
  refine j_iconst (2 : Int32) dX12_send_60 ki_2 ?_
  obtain ⟨q3, e4, h⟩ := ok_b h
  refine j_callV (As := [.int (2 : Int32)]) (st := []) [.int q3.1] (c_X12_refuse (kl κ) (gm κ) (kA κ) (2 : Int32) w q3 e4) ck_RX12_312 im_X12_refuse se_X12_refuse sh_97 cx_12 ⟨rfl, rfl⟩ ⟨by decide, by decide⟩ rfl rfl (Nat.le_of_ble_eq_true rfl) dX12_send_61 _ rfl ?_
  have h := ok_s h
  exact j_iret dX12_send_64 rfl rfl h
noncomputable def X12_send_j85 (w : Wd) : Option (Int32 × Wd) :=
(X12_refuse (3 : Int32) w).bind fun q5 =>
some (q5.1, q5.2)
set_option maxRecDepth 20000 in
set_option maxHeartbeats 1000000 in
theorem t_X12_send_j85 {κ : Kx} (w : Wd) (h : ok (X12_send_j85  w) (PIw κ)) : J κ RX12 cX12_send 11 (some .int) (rmk 2 52) 85 [(0, .ref (ad (gm κ) 97))] [] w := by
  unfold X12_send_j85 at h
  refine j_aload_n 0 dX12_send_85 rfl rfl ?_
  refine j_iconst (3 : Int32) dX12_send_86 ki_3 ?_
  obtain ⟨q5, e6, h⟩ := ok_b h
  refine j_callV (As := [.int (3 : Int32)]) (st := []) [.int q5.1] (c_X12_refuse (kl κ) (gm κ) (kA κ) (3 : Int32) w q5 e6) ck_RX12_312 im_X12_refuse se_X12_refuse sh_97 cx_12 ⟨rfl, rfl⟩ ⟨by decide, by decide⟩ rfl rfl (Nat.le_of_ble_eq_true rfl) dX12_send_87 _ rfl ?_
  have h := ok_s h
  exact j_iret dX12_send_90 rfl rfl h
noncomputable def X12_send_j125 (w : Wd) : Option (Int32 × Wd) :=
(X12_refuse (1 : Int32) w).bind fun q9 =>
some (q9.1, q9.2)
set_option maxRecDepth 20000 in
set_option maxHeartbeats 1000000 in
theorem t_X12_send_j125 {κ : Kx} (w : Wd) (h : ok (X12_send_j125  w) (PIw κ)) : J κ RX12 cX12_send 11 (some .int) (rmk 2 52) 125 [(0, .ref (ad (gm κ) 97))] [] w := by
  unfold X12_send_j125 at h
  refine j_aload_n 0 dX12_send_125 rfl rfl ?_
  refine j_iconst (1 : Int32) dX12_send_126 ki_1 ?_
  obtain ⟨q9, e10, h⟩ := ok_b h
  refine j_callV (As := [.int (1 : Int32)]) (st := []) [.int q9.1] (c_X12_refuse (kl κ) (gm κ) (kA κ) (1 : Int32) w q9 e10) ck_RX12_312 im_X12_refuse se_X12_refuse sh_97 cx_12 ⟨rfl, rfl⟩ ⟨by decide, by decide⟩ rfl rfl (Nat.le_of_ble_eq_true rfl) dX12_send_127 _ rfl ?_
  have h := ok_s h
  exact j_iret dX12_send_130 rfl rfl h
noncomputable def X12_send_j271 (a3 : Int32) (a4 : Int32) (a5 : Int32) (a6 : Int32) (s0 : Int32) (s1 : Int32) (w : Wd) : Option ((Int32 × Wd) ⊕ Wd) :=
gd (vp_in s1 49) <|
(some (puI w 173 (ix s1) s0)).bind fun w18 =>
some (.inl ((a6 + (1 : Int32)), w18))
set_option maxRecDepth 20000 in
set_option maxHeartbeats 1000000 in
theorem t_X12_send_j271 {κ : Kx} (a3 : Int32) (a4 : Int32) (a5 : Int32) (a6 : Int32) (s0 : Int32) (s1 : Int32) (w : Wd) {G : (Int32 × Wd) → Prop} {P : Wd → Prop} (KG : ∀ s, G s → J κ RX12 cX12_send 11 (some .int) (rmk 2 52) 161 [(0, .ref (ad (gm κ) 97)), (3, .int a3), (4, .int a4), (5, .int a5), (6, .int s.1)] [] s.2) (K0 : ∀ e, P e → J κ RX12 cX12_send 11 (some .int) (rmk 2 52) 278 [(0, .ref (ad (gm κ) 97)), (3, .int a3), (4, .int a4), (5, .int a5)] [] e) (h : ok (X12_send_j271  a3 a4 a5 a6 s0 s1 w) (sel G P)) : J κ RX12 cX12_send 11 (some .int) (rmk 2 52) 271 [(0, .ref (ad (gm κ) 97)), (3, .int a3), (4, .int a4), (5, .int a5), (6, .int a6)] [.int s0, .int s1, .ref (ad (gm κ) 173)] w := by
  unfold X12_send_j271 at h
  refine j_iast sh_173 dX12_send_271 h (fun h => ?_)
  refine j_lW h (fun w18 h => ?_)
  refine j_iinc (a6 + (1 : Int32)) 4 [(6, .int (a6 + (1 : Int32))), (0, .ref (ad (gm κ) 97)), (3, .int a3), (4, .int a4), (5, .int a5)] dX12_send_272 rfl (by rw [kn_1]) (by decide) rfl ?_
  refine j_goto 161 dX12_send_275 (by decide) ?_
  refine j_loc [(0, .ref (ad (gm κ) 97)), (3, .int a3), (4, .int a4), (5, .int a5), (6, .int (a6 + (1 : Int32)))] [1, 2, 3, 4, 0] rfl ?_
  have h := sel_l h
  have h := KG _ h
  exact h
noncomputable def X12_send_j229 (a3 : Int32) (a4 : Int32) (a5 : Int32) (a6 : Int32) (s0 : Int32) (w : Wd) : Option ((Int32 × Wd) ⊕ Wd) :=
(if s0 = 0 then
X12_send_j271 a3 a4 a5 a6 (1000 : Int32) (((7 : Int32) * a6) + a5) w
else
gd (vp_in a6 7) <|
gd (vp_in (w.1 170 (ix a6)) 12) <|
gd (vp_in (w.1 113 (ix (w.1 170 (ix a6)))) 16) <|
(some (w.1 107 (ix (w.1 113 (ix (w.1 170 (ix a6))))))).bind fun z19 =>
X12_send_j271 a3 a4 a5 a6 z19 (((7 : Int32) * a6) + a5) w)
set_option maxRecDepth 20000 in
set_option maxHeartbeats 1000000 in
theorem t_X12_send_j229 {κ : Kx} (a3 : Int32) (a4 : Int32) (a5 : Int32) (a6 : Int32) (s0 : Int32) (w : Wd) {G : (Int32 × Wd) → Prop} {P : Wd → Prop} (KG : ∀ s, G s → J κ RX12 cX12_send 11 (some .int) (rmk 2 52) 161 [(0, .ref (ad (gm κ) 97)), (3, .int a3), (4, .int a4), (5, .int a5), (6, .int s.1)] [] s.2) (K0 : ∀ e, P e → J κ RX12 cX12_send 11 (some .int) (rmk 2 52) 278 [(0, .ref (ad (gm κ) 97)), (3, .int a3), (4, .int a4), (5, .int a5)] [] e) (h : ok (X12_send_j229  a3 a4 a5 a6 s0 w) (sel G P)) : J κ RX12 cX12_send 11 (some .int) (rmk 2 52) 229 [(0, .ref (ad (gm κ) 97)), (3, .int a3), (4, .int a4), (5, .int a5), (6, .int a6)] [.int s0] w := by
  unfold X12_send_j229 at h
  refine j_istore [(7, .int s0), (0, .ref (ad (gm κ) 97)), (3, .int a3), (4, .int a4), (5, .int a5), (6, .int a6)] dX12_send_229 (by decide) rfl ?_
  refine j_aload_n 1 dX12_send_231 rfl rfl ?_
  refine j_getA 173 fl_RX12_262 sh_97 fk_97_102 (by decide) dX12_send_232 ?_
  refine j_bipush (7 : Int32) dX12_send_235 kb_7 ?_
  refine j_iload 5 dX12_send_237 rfl ?_
  refine j_imul dX12_send_239 ?_
  refine j_iload 4 dX12_send_240 rfl ?_
  refine j_iadd dX12_send_242 ?_
  refine j_iload 0 dX12_send_243 rfl ?_
  refine j_if_eq 268 dX12_send_245 (by decide) h (fun h => ?_) (fun h => ?_)
  · refine j_sipush (1000 : Int32) dX12_send_268 ks_1000 ?_
    refine j_loc [(0, .ref (ad (gm κ) 97)), (3, .int a3), (4, .int a4), (5, .int a5), (6, .int a6)] [1, 2, 3, 4, 5] rfl ?_
    exact t_X12_send_j271 a3 a4 a5 a6 (1000 : Int32) (((7 : Int32) * a6) + a5) w KG K0 h
  · refine j_aload_n 1 dX12_send_248 rfl rfl ?_
    refine j_getA 107 fl_RX12_42 sh_97 fk_97_18 (by decide) dX12_send_249 ?_
    refine j_aload_n 1 dX12_send_252 rfl rfl ?_
    refine j_getA 113 fl_RX12_60 sh_97 fk_97_24 (by decide) dX12_send_253 ?_
    refine j_aload_n 1 dX12_send_256 rfl rfl ?_
    refine j_getA 170 fl_RX12_253 sh_97 fk_97_99 (by decide) dX12_send_257 ?_
    refine j_iload 5 dX12_send_260 rfl ?_
    refine j_iald sh_170 dX12_send_262 h (fun h => ?_)
    refine j_iald sh_113 dX12_send_263 h (fun h => ?_)
    refine j_iald sh_107 dX12_send_264 h (fun h => ?_)
    refine j_lI h (fun z19 h => ?_)
    refine j_goto 271 dX12_send_265 (by decide) ?_
    refine j_loc [(0, .ref (ad (gm κ) 97)), (3, .int a3), (4, .int a4), (5, .int a5), (6, .int a6)] [1, 2, 3, 4, 5] rfl ?_
    exact t_X12_send_j271 a3 a4 a5 a6 z19 (((7 : Int32) * a6) + a5) w KG K0 h
noncomputable def X12_send_j224 (a3 : Int32) (a4 : Int32) (a5 : Int32) (a6 : Int32) (w : Wd) : Option ((Int32 × Wd) ⊕ Wd) :=
X12_send_j229 a3 a4 a5 a6 (1 : Int32) w
set_option maxRecDepth 20000 in
set_option maxHeartbeats 1000000 in
theorem t_X12_send_j224 {κ : Kx} (a3 : Int32) (a4 : Int32) (a5 : Int32) (a6 : Int32) (w : Wd) {G : (Int32 × Wd) → Prop} {P : Wd → Prop} (KG : ∀ s, G s → J κ RX12 cX12_send 11 (some .int) (rmk 2 52) 161 [(0, .ref (ad (gm κ) 97)), (3, .int a3), (4, .int a4), (5, .int a5), (6, .int s.1)] [] s.2) (K0 : ∀ e, P e → J κ RX12 cX12_send 11 (some .int) (rmk 2 52) 278 [(0, .ref (ad (gm κ) 97)), (3, .int a3), (4, .int a4), (5, .int a5)] [] e) (h : ok (X12_send_j224  a3 a4 a5 a6 w) (sel G P)) : J κ RX12 cX12_send 11 (some .int) (rmk 2 52) 224 [(0, .ref (ad (gm κ) 97)), (3, .int a3), (4, .int a4), (5, .int a5), (6, .int a6)] [] w := by
  unfold X12_send_j224 at h
  refine j_iconst (1 : Int32) dX12_send_224 ki_1 ?_
  refine j_goto 229 dX12_send_225 (by decide) ?_
  refine j_loc [(0, .ref (ad (gm κ) 97)), (3, .int a3), (4, .int a4), (5, .int a5), (6, .int a6)] [0, 1, 2, 3, 4] rfl ?_
  exact t_X12_send_j229 a3 a4 a5 a6 (1 : Int32) w KG K0 h
noncomputable def X12_send_b161 (a3 : Int32) (a4 : Int32) (a5 : Int32) (s : (Int32 × Wd)) : Option ((Int32 × Wd) ⊕ Wd) :=
(if a3 ≤ s.1 then
some (.inr s.2)
else
gd (vp_in s.1 7) <|
(X12_tongueOf (s.2.1 170 (ix s.1)) a4 s.2).bind fun q15 =>
gd (vp_in s.1 7) <|
(some (puI s.2 172 (ix s.1) q15)).bind fun w17 =>
gd (vp_in s.1 7) <|
(if (w17.1 172 (ix s.1)) = (-1 : Int32) then
X12_send_j224 a3 a4 a5 s.1 w17
else
gd (vp_in a5 7) <|
gd (vp_in (w17.1 171 (ix a5)) 20) <|
gd (vp_in s.1 7) <|
(if (((w17.1 111 (ix (w17.1 171 (ix a5)))) >>> ((w17.1 172 (ix s.1)) &&& 31)) &&& (1 : Int32)) = (1 : Int32) then
X12_send_j224 a3 a4 a5 s.1 w17
else
X12_send_j229 a3 a4 a5 s.1 (0 : Int32) w17)))
set_option maxRecDepth 20000 in
set_option maxHeartbeats 1000000 in
theorem t_X12_send_b161 {κ : Kx} (a3 : Int32) (a4 : Int32) (a5 : Int32) {P : Wd → Prop} (K0 : ∀ e, P e → J κ RX12 cX12_send 11 (some .int) (rmk 2 52) 278 [(0, .ref (ad (gm κ) 97)), (3, .int a3), (4, .int a4), (5, .int a5)] [] e) (s : (Int32 × Wd)) (h : ok (lp (X12_send_b161  a3 a4 a5) s) P) : J κ RX12 cX12_send 11 (some .int) (rmk 2 52) 161 [(0, .ref (ad (gm κ) 97)), (3, .int a3), (4, .int a4), (5, .int a5), (6, .int s.1)] [] s.2 := by
  refine lp_ind (fun s => J κ RX12 cX12_send 11 (some .int) (rmk 2 52) 161 [(0, .ref (ad (gm κ) 97)), (3, .int a3), (4, .int a4), (5, .int a5), (6, .int s.1)] [] s.2) (fun s h => ?_) s h
  unfold X12_send_b161 at h
  refine j_iload 4 dX12_send_161 rfl ?_
  refine j_iload_n 1 dX12_send_163 rfl rfl ?_
  refine j_ic_ge 278 dX12_send_164 (by decide) h (fun h => ?_) (fun h => ?_)
  · refine j_loc [(0, .ref (ad (gm κ) 97)), (3, .int a3), (4, .int a4), (5, .int a5)] [0, 1, 2, 3] rfl ?_
    have h := sel_r h
    have h := K0 _ h
    exact h
  · refine j_aload_n 0 dX12_send_167 rfl rfl ?_
    refine j_getA 172 fl_RX12_259 sh_97 fk_97_101 (by decide) dX12_send_168 ?_
    refine j_iload 4 dX12_send_171 rfl ?_
    refine j_aload_n 0 dX12_send_173 rfl rfl ?_
    refine j_aload_n 0 dX12_send_174 rfl rfl ?_
    refine j_getA 170 fl_RX12_253 sh_97 fk_97_99 (by decide) dX12_send_175 ?_
    refine j_iload 4 dX12_send_178 rfl ?_
    refine j_iald sh_170 dX12_send_180 h (fun h => ?_)
    refine j_iload 2 dX12_send_181 rfl ?_
    obtain ⟨q15, e16, h⟩ := ok_b h
    refine j_callV (As := [.int (s.2.1 170 (ix s.1)), .int a4]) (st := [.int s.1, .ref (ad (gm κ) 172)]) [.int q15, .int s.1, .ref (ad (gm κ) 172)] (c_X12_tongueOf (kl κ) (gm κ) (kA κ) (s.2.1 170 (ix s.1)) a4 s.2 q15 e16) ck_RX12_574 im_X12_tongueOf se_X12_tongueOf sh_97 cx_12 ⟨rfl, rfl⟩ ⟨by decide, by decide⟩ rfl rfl (Nat.le_of_ble_eq_true rfl) dX12_send_183 _ rfl ?_
    refine j_iast sh_172 dX12_send_186 h (fun h => ?_)
    refine j_lW h (fun w17 h => ?_)
    refine j_aload_n 0 dX12_send_187 rfl rfl ?_
    refine j_getA 172 fl_RX12_259 sh_97 fk_97_101 (by decide) dX12_send_188 ?_
    refine j_iload 4 dX12_send_191 rfl ?_
    refine j_iald sh_172 dX12_send_193 h (fun h => ?_)
    refine j_iconst (-1 : Int32) dX12_send_194 ki_m1 ?_
    refine j_ic_eq 224 dX12_send_195 (by decide) h (fun h => ?_) (fun h => ?_)
    · refine j_loc [(0, .ref (ad (gm κ) 97)), (3, .int a3), (4, .int a4), (5, .int a5), (6, .int s.1)] [0, 1, 2, 3, 4] rfl ?_
      exact t_X12_send_j224 a3 a4 a5 s.1 w17 (fun _ h => h) K0 h
    · refine j_aload_n 0 dX12_send_198 rfl rfl ?_
      refine j_getA 111 fl_RX12_54 sh_97 fk_97_22 (by decide) dX12_send_199 ?_
      refine j_aload_n 0 dX12_send_202 rfl rfl ?_
      refine j_getA 171 fl_RX12_256 sh_97 fk_97_100 (by decide) dX12_send_203 ?_
      refine j_iload 3 dX12_send_206 rfl ?_
      refine j_iald sh_171 dX12_send_208 h (fun h => ?_)
      refine j_iald sh_111 dX12_send_209 h (fun h => ?_)
      refine j_aload_n 0 dX12_send_210 rfl rfl ?_
      refine j_getA 172 fl_RX12_259 sh_97 fk_97_101 (by decide) dX12_send_211 ?_
      refine j_iload 4 dX12_send_214 rfl ?_
      refine j_iald sh_172 dX12_send_216 h (fun h => ?_)
      refine j_ishr dX12_send_217 ?_
      refine j_iconst (1 : Int32) dX12_send_218 ki_1 ?_
      refine j_iand dX12_send_219 ?_
      refine j_iconst (1 : Int32) dX12_send_220 ki_1 ?_
      refine j_ic_ne 228 dX12_send_221 (by decide) h (fun h => ?_) (fun h => ?_)
      · refine j_iconst (0 : Int32) dX12_send_228 ki_0 ?_
        refine j_loc [(0, .ref (ad (gm κ) 97)), (3, .int a3), (4, .int a4), (5, .int a5), (6, .int s.1)] [0, 1, 2, 3, 4] rfl ?_
        exact t_X12_send_j229 a3 a4 a5 s.1 (0 : Int32) w17 (fun _ h => h) K0 h
      · refine j_loc [(0, .ref (ad (gm κ) 97)), (3, .int a3), (4, .int a4), (5, .int a5), (6, .int s.1)] [0, 1, 2, 3, 4] rfl ?_
        exact t_X12_send_j224 a3 a4 a5 s.1 w17 (fun _ h => h) K0 h
noncomputable def X12_send_b134 (a3 : Int32) (a4 : Int32) (s : (Int32 × Wd)) : Option ((Int32 × Wd) ⊕ Wd) :=
(if a3 ≤ s.1 then
some (.inr s.2)
else
gd (vp_in s.1 7) <|
gd (vp_in (s.2.1 171 (ix s.1)) 20) <|
(X12_travel (s.2.1 112 (ix (s.2.1 171 (ix s.1)))) a4 s.2).bind fun q13 =>
(lp (X12_send_b161 a3 a4 s.1) ((0 : Int32), q13)).bind fun e20 =>
some (.inl ((s.1 + (1 : Int32)), e20)))
set_option maxRecDepth 20000 in
set_option maxHeartbeats 1000000 in
theorem t_X12_send_b134 {κ : Kx} (a3 : Int32) (a4 : Int32) {P : Wd → Prop} (K0 : ∀ e, P e → J κ RX12 cX12_send 11 (some .int) (rmk 2 52) 284 [(0, .ref (ad (gm κ) 97)), (3, .int a3)] [] e) (s : (Int32 × Wd)) (h : ok (lp (X12_send_b134  a3 a4) s) P) : J κ RX12 cX12_send 11 (some .int) (rmk 2 52) 134 [(0, .ref (ad (gm κ) 97)), (3, .int a3), (4, .int a4), (5, .int s.1)] [] s.2 := by
  refine lp_ind (fun s => J κ RX12 cX12_send 11 (some .int) (rmk 2 52) 134 [(0, .ref (ad (gm κ) 97)), (3, .int a3), (4, .int a4), (5, .int s.1)] [] s.2) (fun s h => ?_) s h
  unfold X12_send_b134 at h
  refine j_iload 3 dX12_send_134 rfl ?_
  refine j_iload_n 1 dX12_send_136 rfl rfl ?_
  refine j_ic_ge 284 dX12_send_137 (by decide) h (fun h => ?_) (fun h => ?_)
  · refine j_loc [(0, .ref (ad (gm κ) 97)), (3, .int a3)] [0, 1] rfl ?_
    have h := sel_r h
    have h := K0 _ h
    exact h
  · refine j_aload_n 0 dX12_send_140 rfl rfl ?_
    refine j_aload_n 0 dX12_send_141 rfl rfl ?_
    refine j_getA 112 fl_RX12_57 sh_97 fk_97_23 (by decide) dX12_send_142 ?_
    refine j_aload_n 0 dX12_send_145 rfl rfl ?_
    refine j_getA 171 fl_RX12_256 sh_97 fk_97_100 (by decide) dX12_send_146 ?_
    refine j_iload 3 dX12_send_149 rfl ?_
    refine j_iald sh_171 dX12_send_151 h (fun h => ?_)
    refine j_iald sh_112 dX12_send_152 h (fun h => ?_)
    refine j_iload 2 dX12_send_153 rfl ?_
    obtain ⟨q13, e14, h⟩ := ok_b h
    refine j_callV (As := [.int (s.2.1 112 (ix (s.2.1 171 (ix s.1)))), .int a4]) (st := []) [] (c_X12_travel (kl κ) (gm κ) (kA κ) (s.2.1 112 (ix (s.2.1 171 (ix s.1)))) a4 s.2 q13 e14) ck_RX12_332 im_X12_travel se_X12_travel sh_97 cx_12 ⟨rfl, rfl⟩ ⟨by decide, by decide⟩ rfl rfl (Nat.le_of_ble_eq_true rfl) dX12_send_155 _ rfl ?_
    refine j_iconst (0 : Int32) dX12_send_158 ki_0 ?_
    refine j_istore [(6, .int (0 : Int32)), (0, .ref (ad (gm κ) 97)), (3, .int a3), (4, .int a4), (5, .int s.1)] dX12_send_159 (by decide) rfl ?_
    refine j_loc [(0, .ref (ad (gm κ) 97)), (3, .int a3), (4, .int a4), (5, .int s.1), (6, .int (0 : Int32))] [1, 2, 3, 4, 0] rfl ?_
    refine t_X12_send_b161 a3 a4 s.1 (fun e20 h => ?_) ((0 : Int32), q13) (ok_bb h)
    · refine j_iinc (s.1 + (1 : Int32)) 3 [(5, .int (s.1 + (1 : Int32))), (0, .ref (ad (gm κ) 97)), (3, .int a3), (4, .int a4)] dX12_send_278 rfl (by rw [kn_1]) (by decide) rfl ?_
      refine j_goto 134 dX12_send_281 (by decide) ?_
      refine j_loc [(0, .ref (ad (gm κ) 97)), (3, .int a3), (4, .int a4), (5, .int (s.1 + (1 : Int32)))] [1, 2, 3, 0] rfl ?_
      have h := sel_l h
      exact h
noncomputable def X12_send_b290 (a3 : Int32) (w : Wd) (s : (Int32 × Int32)) : Option ((Int32 × Int32) ⊕ Int32) :=
(if a3 ≤ s.2 then
some (.inr s.1)
else
some (.inl ((s.1 * a3), (s.2 + (1 : Int32)))))
set_option maxRecDepth 20000 in
set_option maxHeartbeats 1000000 in
theorem t_X12_send_b290 {κ : Kx} (a3 : Int32) (w : Wd) {P : Int32 → Prop} (K0 : ∀ e, P e → J κ RX12 cX12_send 11 (some .int) (rmk 2 52) 308 [(0, .ref (ad (gm κ) 97)), (3, .int a3), (5, .int e)] [] w) (s : (Int32 × Int32)) (h : ok (lp (X12_send_b290  a3 w) s) P) : J κ RX12 cX12_send 11 (some .int) (rmk 2 52) 290 [(0, .ref (ad (gm κ) 97)), (3, .int a3), (5, .int s.1), (6, .int s.2)] [] w := by
  refine lp_ind (fun s => J κ RX12 cX12_send 11 (some .int) (rmk 2 52) 290 [(0, .ref (ad (gm κ) 97)), (3, .int a3), (5, .int s.1), (6, .int s.2)] [] w) (fun s h => ?_) s h
  unfold X12_send_b290 at h
  refine j_iload 3 dX12_send_290 rfl ?_
  refine j_iload_n 1 dX12_send_292 rfl rfl ?_
  refine j_ic_ge 308 dX12_send_293 (by decide) h (fun h => ?_) (fun h => ?_)
  · refine j_loc [(0, .ref (ad (gm κ) 97)), (3, .int a3), (5, .int s.1)] [0, 1, 2] rfl ?_
    have h := sel_r h
    have h := K0 _ h
    exact h
  · refine j_iload 2 dX12_send_296 rfl ?_
    refine j_iload_n 1 dX12_send_298 rfl rfl ?_
    refine j_imul dX12_send_299 ?_
    refine j_istore [(5, .int (s.1 * a3)), (0, .ref (ad (gm κ) 97)), (3, .int a3), (6, .int s.2)] dX12_send_300 (by decide) rfl ?_
    refine j_iinc (s.2 + (1 : Int32)) 3 [(6, .int (s.2 + (1 : Int32))), (5, .int (s.1 * a3)), (0, .ref (ad (gm κ) 97)), (3, .int a3)] dX12_send_302 rfl (by rw [kn_1]) (by decide) rfl ?_
    refine j_goto 290 dX12_send_305 (by decide) ?_
    refine j_loc [(0, .ref (ad (gm κ) 97)), (3, .int a3), (5, .int (s.1 * a3)), (6, .int (s.2 + (1 : Int32)))] [2, 3, 1, 0] rfl ?_
    have h := sel_l h
    exact h
noncomputable def X12_send_b330 (a3 : Int32) (a5 : Int32) (a6 : Int32) (a7 : Int32) (s : (Int32 × Int32 × Wd)) : Option ((Int32 × Int32 × Wd) ⊕ Wd) :=
(if s.2.1 < 0 then
some (.inr s.2.2)
else
gd (¬ a3 = 0) <|
gd (vp_in s.2.1 7) <|
(some (puI s.2.2 174 (ix s.2.1) (s.1 - s.1 / a3 * a3))).bind fun w23 =>
gd (¬ a3 = 0) <|
some (.inl ((s.1 / a3), (s.2.1 + (-1 : Int32)), w23)))
set_option maxRecDepth 20000 in
set_option maxHeartbeats 1000000 in
theorem t_X12_send_b330 {κ : Kx} (a3 : Int32) (a5 : Int32) (a6 : Int32) (a7 : Int32) {P : Wd → Prop} (K0 : ∀ e, P e → J κ RX12 cX12_send 11 (some .int) (rmk 2 52) 358 [(0, .ref (ad (gm κ) 97)), (3, .int a3), (5, .int a5), (6, .int a6), (7, .int a7)] [] e) (s : (Int32 × Int32 × Wd)) (h : ok (lp (X12_send_b330  a3 a5 a6 a7) s) P) : J κ RX12 cX12_send 11 (some .int) (rmk 2 52) 330 [(0, .ref (ad (gm κ) 97)), (3, .int a3), (5, .int a5), (6, .int a6), (7, .int a7), (8, .int s.1), (9, .int s.2.1)] [] s.2.2 := by
  refine lp_ind (fun s => J κ RX12 cX12_send 11 (some .int) (rmk 2 52) 330 [(0, .ref (ad (gm κ) 97)), (3, .int a3), (5, .int a5), (6, .int a6), (7, .int a7), (8, .int s.1), (9, .int s.2.1)] [] s.2.2) (fun s h => ?_) s h
  unfold X12_send_b330 at h
  refine j_iload 6 dX12_send_330 rfl ?_
  refine j_if_lt 358 dX12_send_332 (by decide) h (fun h => ?_) (fun h => ?_)
  · refine j_loc [(0, .ref (ad (gm κ) 97)), (3, .int a3), (5, .int a5), (6, .int a6), (7, .int a7)] [0, 1, 2, 3, 4] rfl ?_
    have h := sel_r h
    have h := K0 _ h
    exact h
  · refine j_aload_n 0 dX12_send_335 rfl rfl ?_
    refine j_getA 174 fl_RX12_265 sh_97 fk_97_103 (by decide) dX12_send_336 ?_
    refine j_iload 6 dX12_send_339 rfl ?_
    refine j_iload 5 dX12_send_341 rfl ?_
    refine j_iload_n 1 dX12_send_343 rfl rfl ?_
    obtain ⟨hz, h⟩ := ok_g h
    refine j_irem dX12_send_344 hz ?_
    refine j_iast sh_174 dX12_send_345 h (fun h => ?_)
    refine j_lW h (fun w23 h => ?_)
    refine j_iload 5 dX12_send_346 rfl ?_
    refine j_iload_n 1 dX12_send_348 rfl rfl ?_
    obtain ⟨hz, h⟩ := ok_g h
    refine j_idiv dX12_send_349 hz ?_
    refine j_istore [(8, .int (s.1 / a3)), (0, .ref (ad (gm κ) 97)), (3, .int a3), (5, .int a5), (6, .int a6), (7, .int a7), (9, .int s.2.1)] dX12_send_350 (by decide) rfl ?_
    refine j_iinc (s.2.1 + (-1 : Int32)) 6 [(9, .int (s.2.1 + (-1 : Int32))), (8, .int (s.1 / a3)), (0, .ref (ad (gm κ) 97)), (3, .int a3), (5, .int a5), (6, .int a6), (7, .int a7)] dX12_send_352 rfl (by rw [kn_m1]) (by decide) rfl ?_
    refine j_goto 330 dX12_send_355 (by decide) ?_
    refine j_loc [(0, .ref (ad (gm κ) 97)), (3, .int a3), (5, .int a5), (6, .int a6), (7, .int a7), (8, .int (s.1 / a3)), (9, .int (s.2.1 + (-1 : Int32)))] [2, 3, 4, 5, 6, 1, 0] rfl ?_
    have h := sel_l h
    exact h
noncomputable def X12_send_j440 (a3 : Int32) (a5 : Int32) (a6 : Int32) (a7 : Int32) (w : Wd) : Option ((Int32 × Int32 × Wd) ⊕ (Int32 × Wd)) :=
some (.inl (a6, (a7 + (1 : Int32)), w))
set_option maxRecDepth 20000 in
set_option maxHeartbeats 1000000 in
theorem t_X12_send_j440 {κ : Kx} (a3 : Int32) (a5 : Int32) (a6 : Int32) (a7 : Int32) (w : Wd) {G : (Int32 × Int32 × Wd) → Prop} {P : (Int32 × Wd) → Prop} (KG : ∀ s, G s → J κ RX12 cX12_send 11 (some .int) (rmk 2 52) 314 [(0, .ref (ad (gm κ) 97)), (3, .int a3), (5, .int a5), (6, .int s.1), (7, .int s.2.1)] [] s.2.2) (K0 : ∀ e, P e → J κ RX12 cX12_send 11 (some .int) (rmk 2 52) 446 [(0, .ref (ad (gm κ) 97)), (3, .int a3), (6, .int e.1)] [] e.2) (h : ok (X12_send_j440  a3 a5 a6 a7 w) (sel G P)) : J κ RX12 cX12_send 11 (some .int) (rmk 2 52) 440 [(0, .ref (ad (gm κ) 97)), (3, .int a3), (5, .int a5), (6, .int a6), (7, .int a7)] [] w := by
  unfold X12_send_j440 at h
  refine j_iinc (a7 + (1 : Int32)) 4 [(7, .int (a7 + (1 : Int32))), (0, .ref (ad (gm κ) 97)), (3, .int a3), (5, .int a5), (6, .int a6)] dX12_send_440 rfl (by rw [kn_1]) (by decide) rfl ?_
  refine j_goto 314 dX12_send_443 (by decide) ?_
  refine j_loc [(0, .ref (ad (gm κ) 97)), (3, .int a3), (5, .int a5), (6, .int a6), (7, .int (a7 + (1 : Int32)))] [1, 2, 3, 4, 0] rfl ?_
  have h := sel_l h
  have h := KG _ h
  exact h
noncomputable def X12_send_b409 (a3 : Int32) (a5 : Int32) (a6 : Int32) (a7 : Int32) (s : (Int32 × Wd)) : Option ((Int32 × Wd) ⊕ Wd) :=
(if a3 ≤ s.1 then
some (.inr s.2)
else
gd (vp_in s.1 7) <|
gd (vp_in (s.2.1 174 (ix s.1)) 7) <|
gd (vp_in s.1 7) <|
(some (puI s.2 176 (ix s.1) (s.2.1 171 (ix (s.2.1 174 (ix s.1)))))).bind fun w27 =>
some (.inl ((s.1 + (1 : Int32)), w27)))
set_option maxRecDepth 20000 in
set_option maxHeartbeats 1000000 in
theorem t_X12_send_b409 {κ : Kx} (a3 : Int32) (a5 : Int32) (a6 : Int32) (a7 : Int32) {P : Wd → Prop} (K0 : ∀ e, P e → J κ RX12 cX12_send 11 (some .int) (rmk 2 52) 440 [(0, .ref (ad (gm κ) 97)), (3, .int a3), (5, .int a5), (6, .int a6), (7, .int a7)] [] e) (s : (Int32 × Wd)) (h : ok (lp (X12_send_b409  a3 a5 a6 a7) s) P) : J κ RX12 cX12_send 11 (some .int) (rmk 2 52) 409 [(0, .ref (ad (gm κ) 97)), (3, .int a3), (5, .int a5), (6, .int a6), (7, .int a7), (10, .int s.1)] [] s.2 := by
  refine lp_ind (fun s => J κ RX12 cX12_send 11 (some .int) (rmk 2 52) 409 [(0, .ref (ad (gm κ) 97)), (3, .int a3), (5, .int a5), (6, .int a6), (7, .int a7), (10, .int s.1)] [] s.2) (fun s h => ?_) s h
  unfold X12_send_b409 at h
  refine j_iload 5 dX12_send_409 rfl ?_
  refine j_iload_n 1 dX12_send_411 rfl rfl ?_
  refine j_ic_ge 440 dX12_send_412 (by decide) h (fun h => ?_) (fun h => ?_)
  · refine j_loc [(0, .ref (ad (gm κ) 97)), (3, .int a3), (5, .int a5), (6, .int a6), (7, .int a7)] [0, 1, 2, 3, 4] rfl ?_
    have h := sel_r h
    have h := K0 _ h
    exact h
  · refine j_aload_n 0 dX12_send_415 rfl rfl ?_
    refine j_getA 176 fl_RX12_271 sh_97 fk_97_106 (by decide) dX12_send_416 ?_
    refine j_iload 5 dX12_send_419 rfl ?_
    refine j_aload_n 0 dX12_send_421 rfl rfl ?_
    refine j_getA 171 fl_RX12_256 sh_97 fk_97_100 (by decide) dX12_send_422 ?_
    refine j_aload_n 0 dX12_send_425 rfl rfl ?_
    refine j_getA 174 fl_RX12_265 sh_97 fk_97_103 (by decide) dX12_send_426 ?_
    refine j_iload 5 dX12_send_429 rfl ?_
    refine j_iald sh_174 dX12_send_431 h (fun h => ?_)
    refine j_iald sh_171 dX12_send_432 h (fun h => ?_)
    refine j_iast sh_176 dX12_send_433 h (fun h => ?_)
    refine j_lW h (fun w27 h => ?_)
    refine j_iinc (s.1 + (1 : Int32)) 5 [(10, .int (s.1 + (1 : Int32))), (0, .ref (ad (gm κ) 97)), (3, .int a3), (5, .int a5), (6, .int a6), (7, .int a7)] dX12_send_434 rfl (by rw [kn_1]) (by decide) rfl ?_
    refine j_goto 409 dX12_send_437 (by decide) ?_
    refine j_loc [(0, .ref (ad (gm κ) 97)), (3, .int a3), (5, .int a5), (6, .int a6), (7, .int a7), (10, .int (s.1 + (1 : Int32)))] [1, 2, 3, 4, 5, 0] rfl ?_
    have h := sel_l h
    exact h
noncomputable def X12_send_j402 (a3 : Int32) (a5 : Int32) (a7 : Int32) (a9 : Int32) (w : Wd) : Option ((Int32 × Int32 × Wd) ⊕ (Int32 × Wd)) :=
(lp (X12_send_b409 a3 a5 a9 a7) ((0 : Int32), w)).bind fun e28 =>
X12_send_j440 a3 a5 a9 a7 e28
set_option maxRecDepth 20000 in
set_option maxHeartbeats 1000000 in
theorem t_X12_send_j402 {κ : Kx} (a3 : Int32) (a5 : Int32) (a7 : Int32) (a9 : Int32) (w : Wd) {G : (Int32 × Int32 × Wd) → Prop} {P : (Int32 × Wd) → Prop} (KG : ∀ s, G s → J κ RX12 cX12_send 11 (some .int) (rmk 2 52) 314 [(0, .ref (ad (gm κ) 97)), (3, .int a3), (5, .int a5), (6, .int s.1), (7, .int s.2.1)] [] s.2.2) (K0 : ∀ e, P e → J κ RX12 cX12_send 11 (some .int) (rmk 2 52) 446 [(0, .ref (ad (gm κ) 97)), (3, .int a3), (6, .int e.1)] [] e.2) (h : ok (X12_send_j402  a3 a5 a7 a9 w) (sel G P)) : J κ RX12 cX12_send 11 (some .int) (rmk 2 52) 402 [(0, .ref (ad (gm κ) 97)), (3, .int a3), (5, .int a5), (7, .int a7), (9, .int a9)] [] w := by
  unfold X12_send_j402 at h
  refine j_iload 4 dX12_send_402 rfl ?_
  refine j_istore [(6, .int a9), (0, .ref (ad (gm κ) 97)), (3, .int a3), (5, .int a5), (7, .int a7), (9, .int a9)] dX12_send_404 (by decide) rfl ?_
  refine j_iconst (0 : Int32) dX12_send_406 ki_0 ?_
  refine j_istore [(10, .int (0 : Int32)), (6, .int a9), (0, .ref (ad (gm κ) 97)), (3, .int a3), (5, .int a5), (7, .int a7), (9, .int a9)] dX12_send_407 (by decide) rfl ?_
  refine j_loc [(0, .ref (ad (gm κ) 97)), (3, .int a3), (5, .int a5), (6, .int a9), (7, .int a7), (10, .int (0 : Int32))] [2, 3, 4, 1, 5, 0] rfl ?_
  refine t_X12_send_b409 a3 a5 a9 a7 (fun e28 h => ?_) ((0 : Int32), w) (ok_bb h)
  · refine j_loc [(0, .ref (ad (gm κ) 97)), (3, .int a3), (5, .int a5), (6, .int a9), (7, .int a7)] [0, 1, 2, 3, 4] rfl ?_
    exact t_X12_send_j440 a3 a5 a9 a7 e28 KG K0 h
noncomputable def X12_send_b314 (a3 : Int32) (a5 : Int32) (s : (Int32 × Int32 × Wd)) : Option ((Int32 × Int32 × Wd) ⊕ (Int32 × Wd)) :=
(if a5 ≤ s.2.1 then
some (.inr (s.1, s.2.2))
else
(lp (X12_send_b330 a3 a5 s.1 s.2.1) (s.2.1, (a3 - (1 : Int32)), s.2.2)).bind fun e24 =>
(X12_keyOf a3 e24).bind fun q25 =>
(if q25 = (-1 : Int32) then
X12_send_j440 a3 a5 s.1 s.2.1 e24
else
(if s.1 = (-1 : Int32) then
X12_send_j402 a3 a5 s.2.1 q25 e24
else
(if s.1 < q25 then
X12_send_j440 a3 a5 s.1 s.2.1 e24
else
(if q25 = s.1 then
(X12_isLesser a3 e24).bind fun q29 =>
(if q29 = 0 then
X12_send_j440 a3 a5 s.1 s.2.1 e24
else
X12_send_j402 a3 a5 s.2.1 q25 e24)
else
X12_send_j402 a3 a5 s.2.1 q25 e24)))))
set_option maxRecDepth 20000 in
set_option maxHeartbeats 1000000 in
theorem t_X12_send_b314 {κ : Kx} (a3 : Int32) (a5 : Int32) {P : (Int32 × Wd) → Prop} (K0 : ∀ e, P e → J κ RX12 cX12_send 11 (some .int) (rmk 2 52) 446 [(0, .ref (ad (gm κ) 97)), (3, .int a3), (6, .int e.1)] [] e.2) (s : (Int32 × Int32 × Wd)) (h : ok (lp (X12_send_b314  a3 a5) s) P) : J κ RX12 cX12_send 11 (some .int) (rmk 2 52) 314 [(0, .ref (ad (gm κ) 97)), (3, .int a3), (5, .int a5), (6, .int s.1), (7, .int s.2.1)] [] s.2.2 := by
  refine lp_ind (fun s => J κ RX12 cX12_send 11 (some .int) (rmk 2 52) 314 [(0, .ref (ad (gm κ) 97)), (3, .int a3), (5, .int a5), (6, .int s.1), (7, .int s.2.1)] [] s.2.2) (fun s h => ?_) s h
  unfold X12_send_b314 at h
  refine j_iload 4 dX12_send_314 rfl ?_
  refine j_iload 2 dX12_send_316 rfl ?_
  refine j_ic_ge 446 dX12_send_318 (by decide) h (fun h => ?_) (fun h => ?_)
  · refine j_loc [(0, .ref (ad (gm κ) 97)), (3, .int a3), (6, .int s.1)] [0, 1, 3] rfl ?_
    have h := sel_r h
    have h := K0 _ h
    exact h
  · refine j_iload 4 dX12_send_321 rfl ?_
    refine j_istore [(8, .int s.2.1), (0, .ref (ad (gm κ) 97)), (3, .int a3), (5, .int a5), (6, .int s.1), (7, .int s.2.1)] dX12_send_323 (by decide) rfl ?_
    refine j_iload_n 2 dX12_send_325 rfl rfl ?_
    refine j_iconst (1 : Int32) dX12_send_326 ki_1 ?_
    refine j_isub dX12_send_327 ?_
    refine j_istore [(9, .int (a3 - (1 : Int32))), (8, .int s.2.1), (0, .ref (ad (gm κ) 97)), (3, .int a3), (5, .int a5), (6, .int s.1), (7, .int s.2.1)] dX12_send_328 (by decide) rfl ?_
    refine j_loc [(0, .ref (ad (gm κ) 97)), (3, .int a3), (5, .int a5), (6, .int s.1), (7, .int s.2.1), (8, .int s.2.1), (9, .int (a3 - (1 : Int32)))] [2, 3, 4, 5, 6, 1, 0] rfl ?_
    refine t_X12_send_b330 a3 a5 s.1 s.2.1 (fun e24 h => ?_) (s.2.1, (a3 - (1 : Int32)), s.2.2) (ok_bb h)
    · refine j_aload_n 0 dX12_send_358 rfl rfl ?_
      refine j_iload_n 1 dX12_send_359 rfl rfl ?_
      obtain ⟨q25, e26, h⟩ := ok_b h
      refine j_callV (As := [.int a3]) (st := []) [.int q25] (c_X12_keyOf (kl κ) (gm κ) (kA κ) a3 e24 q25 e26) ck_RX12_577 im_X12_keyOf se_X12_keyOf sh_97 cx_12 ⟨rfl, rfl⟩ ⟨by decide, by decide⟩ rfl rfl (Nat.le_of_ble_eq_true rfl) dX12_send_360 _ rfl ?_
      refine j_istore [(9, .int q25), (0, .ref (ad (gm κ) 97)), (3, .int a3), (5, .int a5), (6, .int s.1), (7, .int s.2.1)] dX12_send_363 (by decide) rfl ?_
      refine j_iload 0 dX12_send_365 rfl ?_
      refine j_iconst (-1 : Int32) dX12_send_367 ki_m1 ?_
      refine j_ic_eq 440 dX12_send_368 (by decide) h (fun h => ?_) (fun h => ?_)
      · refine j_loc [(0, .ref (ad (gm κ) 97)), (3, .int a3), (5, .int a5), (6, .int s.1), (7, .int s.2.1)] [1, 2, 3, 4, 5] rfl ?_
        exact t_X12_send_j440 a3 a5 s.1 s.2.1 e24 (fun _ h => h) K0 h
      · refine j_iload 4 dX12_send_371 rfl ?_
        refine j_iconst (-1 : Int32) dX12_send_373 ki_m1 ?_
        refine j_ic_eq 402 dX12_send_374 (by decide) h (fun h => ?_) (fun h => ?_)
        · refine j_loc [(0, .ref (ad (gm κ) 97)), (3, .int a3), (5, .int a5), (7, .int s.2.1), (9, .int q25)] [1, 2, 3, 5, 0] rfl ?_
          exact t_X12_send_j402 a3 a5 s.2.1 q25 e24 (fun _ h => h) K0 h
        · refine j_iload 0 dX12_send_377 rfl ?_
          refine j_iload 4 dX12_send_379 rfl ?_
          refine j_ic_gt 440 dX12_send_381 (by decide) h (fun h => ?_) (fun h => ?_)
          · refine j_loc [(0, .ref (ad (gm κ) 97)), (3, .int a3), (5, .int a5), (6, .int s.1), (7, .int s.2.1)] [1, 2, 3, 4, 5] rfl ?_
            exact t_X12_send_j440 a3 a5 s.1 s.2.1 e24 (fun _ h => h) K0 h
          · refine j_iload 0 dX12_send_384 rfl ?_
            refine j_iload 4 dX12_send_386 rfl ?_
            refine j_ic_ne 402 dX12_send_388 (by decide) h (fun h => ?_) (fun h => ?_)
            · refine j_loc [(0, .ref (ad (gm κ) 97)), (3, .int a3), (5, .int a5), (7, .int s.2.1), (9, .int q25)] [1, 2, 3, 5, 0] rfl ?_
              exact t_X12_send_j402 a3 a5 s.2.1 q25 e24 (fun _ h => h) K0 h
            · refine j_aload_n 1 dX12_send_391 rfl rfl ?_
              refine j_iload_n 2 dX12_send_392 rfl rfl ?_
              obtain ⟨q29, e30, h⟩ := ok_b h
              refine j_callV (As := [.int a3]) (st := []) [.int q29] (c_X12_isLesser (kl κ) (gm κ) (kA κ) a3 e24 q29 e30) ck_RX12_580 im_X12_isLesser se_X12_isLesser sh_97 cx_12 ⟨rfl, rfl⟩ ⟨by decide, by decide⟩ rfl rfl (Nat.le_of_ble_eq_true rfl) dX12_send_393 _ rfl ?_
              refine j_if_ne 402 dX12_send_396 (by decide) h (fun h => ?_) (fun h => ?_)
              · refine j_loc [(0, .ref (ad (gm κ) 97)), (3, .int a3), (5, .int a5), (7, .int s.2.1), (9, .int q25)] [1, 2, 3, 5, 0] rfl ?_
                exact t_X12_send_j402 a3 a5 s.2.1 q25 e24 (fun _ h => h) K0 h
              · refine j_goto 440 dX12_send_399 (by decide) ?_
                refine j_loc [(0, .ref (ad (gm κ) 97)), (3, .int a3), (5, .int a5), (6, .int s.1), (7, .int s.2.1)] [1, 2, 3, 4, 5] rfl ?_
                exact t_X12_send_j440 a3 a5 s.1 s.2.1 e24 (fun _ h => h) K0 h
noncomputable def X12_send_b462 (a3 : Int32) (a6 : Int32) (s : (Int32 × Wd)) : Option ((Int32 × Wd) ⊕ Wd) :=
(if a3 ≤ s.1 then
some (.inr s.2)
else
gd (vp_in s.1 7) <|
gd (vp_in s.1 7) <|
(some (puI s.2 175 (ix s.1) (s.2.1 176 (ix s.1)))).bind fun w32 =>
some (.inl ((s.1 + (1 : Int32)), w32)))
set_option maxRecDepth 20000 in
set_option maxHeartbeats 1000000 in
theorem t_X12_send_b462 {κ : Kx} (a3 : Int32) (a6 : Int32) {P : Wd → Prop} (K0 : ∀ e, P e → J κ RX12 cX12_send 11 (some .int) (rmk 2 52) 488 [(0, .ref (ad (gm κ) 97)), (3, .int a3), (6, .int a6)] [] e) (s : (Int32 × Wd)) (h : ok (lp (X12_send_b462  a3 a6) s) P) : J κ RX12 cX12_send 11 (some .int) (rmk 2 52) 462 [(0, .ref (ad (gm κ) 97)), (3, .int a3), (6, .int a6), (7, .int s.1)] [] s.2 := by
  refine lp_ind (fun s => J κ RX12 cX12_send 11 (some .int) (rmk 2 52) 462 [(0, .ref (ad (gm κ) 97)), (3, .int a3), (6, .int a6), (7, .int s.1)] [] s.2) (fun s h => ?_) s h
  unfold X12_send_b462 at h
  refine j_iload 3 dX12_send_462 rfl ?_
  refine j_iload_n 1 dX12_send_464 rfl rfl ?_
  refine j_ic_ge 488 dX12_send_465 (by decide) h (fun h => ?_) (fun h => ?_)
  · refine j_loc [(0, .ref (ad (gm κ) 97)), (3, .int a3), (6, .int a6)] [0, 1, 2] rfl ?_
    have h := sel_r h
    have h := K0 _ h
    exact h
  · refine j_aload_n 0 dX12_send_468 rfl rfl ?_
    refine j_getA 175 fl_RX12_268 sh_97 fk_97_104 (by decide) dX12_send_469 ?_
    refine j_iload 3 dX12_send_472 rfl ?_
    refine j_aload_n 0 dX12_send_474 rfl rfl ?_
    refine j_getA 176 fl_RX12_271 sh_97 fk_97_106 (by decide) dX12_send_475 ?_
    refine j_iload 3 dX12_send_478 rfl ?_
    refine j_iald sh_176 dX12_send_480 h (fun h => ?_)
    refine j_iast sh_175 dX12_send_481 h (fun h => ?_)
    refine j_lW h (fun w32 h => ?_)
    refine j_iinc (s.1 + (1 : Int32)) 3 [(7, .int (s.1 + (1 : Int32))), (0, .ref (ad (gm κ) 97)), (3, .int a3), (6, .int a6)] dX12_send_482 rfl (by rw [kn_1]) (by decide) rfl ?_
    refine j_goto 462 dX12_send_485 (by decide) ?_
    refine j_loc [(0, .ref (ad (gm κ) 97)), (3, .int a3), (6, .int a6), (7, .int (s.1 + (1 : Int32)))] [1, 2, 3, 0] rfl ?_
    have h := sel_l h
    exact h
noncomputable def X12_send (a1 : Int32) (a2 : Int32) (a3 : Int32) (a4 : Int32) (w : Wd) : Option (Int32 × Wd) :=
(if (X12_isTray a1 w) = 0 then
X12_send_j33 w
else
(if (X12_isTray a2 w) = 0 then
X12_send_j33 w
else
(if a3 < (1 : Int32) then
X12_send_j33 w
else
(if (7 : Int32) < a3 then
X12_send_j33 w
else
(if (X12_isWeek a4 w) = 0 then
X12_send_j33 w
else
gd (vp_in a1 4) <|
(if (w.1 99 (ix a1)) = (-1 : Int32) then
X12_send_j59 w
else
gd (vp_in a2 4) <|
(if (w.1 99 (ix a2)) = (-1 : Int32) then
X12_send_j59 w
else
gd (vp_in a1 4) <|
(if (w.1 99 (ix a1)) < a3 then
X12_send_j85 w
else
gd (vp_in a2 4) <|
(if a3 ≤ (w.1 99 (ix a2)) then
(X12_isRow 170 7 a1 a3 (w.1 97 8) w).bind fun q7 =>
(if q7.1 = 0 then
X12_send_j125 q7.2
else
(X12_isRow 171 7 a2 a3 (q7.2.1 97 7) q7.2).bind fun q11 =>
(if q11.1 = 0 then
X12_send_j125 q11.2
else
(lp (X12_send_b134 a3 a4) ((0 : Int32), q11.2)).bind fun e21 =>
(lp (X12_send_b290 a3 e21) ((1 : Int32), (0 : Int32))).bind fun e22 =>
(lp (X12_send_b314 a3 e22) ((-1 : Int32), (0 : Int32), e21)).bind fun e31 =>
(if e31.1 = (-1 : Int32) then
(X12_refuse (6 : Int32) e31.2).bind fun q37 =>
some (q37.1, q37.2)
else
(lp (X12_send_b462 a3 e31.1) ((0 : Int32), e31.2)).bind fun e33 =>
(some (puI e33 97 105 a3)).bind fun w34 =>
gd (¬ (1000 : Int32) = 0) <|
(X12_gives (e31.1 / (1000 : Int32)) w34).bind fun q35 =>
some (q35.1, q35.2))))
else
X12_send_j85 w)))))))))
set_option maxRecDepth 20000 in
set_option maxHeartbeats 1000000 in
theorem t_X12_send {κ : Kx} (a1 : Int32) (a2 : Int32) (a3 : Int32) (a4 : Int32) (w : Wd) (h : ok (X12_send  a1 a2 a3 a4 w) (PIw κ)) : J κ RX12 cX12_send 11 (some .int) (rmk 2 52) 0 [(0, .ref (ad (gm κ) 97)), (1, .int a1), (2, .int a2), (3, .int a3), (4, .int a4)] [] w := by
  unfold X12_send at h
  refine j_iload_n 1 dX12_send_0 rfl rfl ?_
  refine j_callS (As := [.int a1]) (st := []) [.int (X12_isTray a1 w)] (c_X12_isTray (kl κ) (gm κ) (kA κ) a1 w) ck_RX12_280 st_X12_isTray ⟨rfl, rfl⟩ ⟨by decide, by decide⟩ rfl rfl (Nat.le_of_ble_eq_true rfl) dX12_send_1 _ rfl ?_
  refine j_if_eq 33 dX12_send_4 (by decide) h (fun h => ?_) (fun h => ?_)
  · refine j_loc [(0, .ref (ad (gm κ) 97))] [0] rfl ?_
    exact t_X12_send_j33 w h
  · refine j_iload_n 2 dX12_send_7 rfl rfl ?_
    refine j_callS (As := [.int a2]) (st := []) [.int (X12_isTray a2 w)] (c_X12_isTray (kl κ) (gm κ) (kA κ) a2 w) ck_RX12_280 st_X12_isTray ⟨rfl, rfl⟩ ⟨by decide, by decide⟩ rfl rfl (Nat.le_of_ble_eq_true rfl) dX12_send_8 _ rfl ?_
    refine j_if_eq 33 dX12_send_11 (by decide) h (fun h => ?_) (fun h => ?_)
    · refine j_loc [(0, .ref (ad (gm κ) 97))] [0] rfl ?_
      exact t_X12_send_j33 w h
    · refine j_iload_n 3 dX12_send_14 rfl rfl ?_
      refine j_iconst (1 : Int32) dX12_send_15 ki_1 ?_
      refine j_ic_lt 33 dX12_send_16 (by decide) h (fun h => ?_) (fun h => ?_)
      · refine j_loc [(0, .ref (ad (gm κ) 97))] [0] rfl ?_
        exact t_X12_send_j33 w h
      · refine j_iload_n 3 dX12_send_19 rfl rfl ?_
        refine j_bipush (7 : Int32) dX12_send_20 kb_7 ?_
        refine j_ic_gt 33 dX12_send_22 (by decide) h (fun h => ?_) (fun h => ?_)
        · refine j_loc [(0, .ref (ad (gm κ) 97))] [0] rfl ?_
          exact t_X12_send_j33 w h
        · refine j_iload 4 dX12_send_25 rfl ?_
          refine j_callS (As := [.int a4]) (st := []) [.int (X12_isWeek a4 w)] (c_X12_isWeek (kl κ) (gm κ) (kA κ) a4 w) ck_RX12_322 st_X12_isWeek ⟨rfl, rfl⟩ ⟨by decide, by decide⟩ rfl rfl (Nat.le_of_ble_eq_true rfl) dX12_send_27 _ rfl ?_
          refine j_if_ne 39 dX12_send_30 (by decide) h (fun h => ?_) (fun h => ?_)
          · refine j_aload_n 0 dX12_send_39 rfl rfl ?_
            refine j_getA 99 fl_RX12_13 sh_97 fk_97_2 (by decide) dX12_send_40 ?_
            refine j_iload_n 1 dX12_send_43 rfl rfl ?_
            refine j_iald sh_99 dX12_send_44 h (fun h => ?_)
            refine j_iconst (-1 : Int32) dX12_send_45 ki_m1 ?_
            refine j_ic_eq 59 dX12_send_46 (by decide) h (fun h => ?_) (fun h => ?_)
            · refine j_loc [(0, .ref (ad (gm κ) 97))] [0] rfl ?_
              exact t_X12_send_j59 w h
            · refine j_aload_n 0 dX12_send_49 rfl rfl ?_
              refine j_getA 99 fl_RX12_13 sh_97 fk_97_2 (by decide) dX12_send_50 ?_
              refine j_iload_n 2 dX12_send_53 rfl rfl ?_
              refine j_iald sh_99 dX12_send_54 h (fun h => ?_)
              refine j_iconst (-1 : Int32) dX12_send_55 ki_m1 ?_
              refine j_ic_ne 65 dX12_send_56 (by decide) h (fun h => ?_) (fun h => ?_)
              · refine j_aload_n 0 dX12_send_65 rfl rfl ?_
                refine j_getA 99 fl_RX12_13 sh_97 fk_97_2 (by decide) dX12_send_66 ?_
                refine j_iload_n 1 dX12_send_69 rfl rfl ?_
                refine j_iald sh_99 dX12_send_70 h (fun h => ?_)
                refine j_iload_n 3 dX12_send_71 rfl rfl ?_
                refine j_ic_lt 85 dX12_send_72 (by decide) h (fun h => ?_) (fun h => ?_)
                · refine j_loc [(0, .ref (ad (gm κ) 97))] [0] rfl ?_
                  exact t_X12_send_j85 w h
                · refine j_aload_n 0 dX12_send_75 rfl rfl ?_
                  refine j_getA 99 fl_RX12_13 sh_97 fk_97_2 (by decide) dX12_send_76 ?_
                  refine j_iload_n 2 dX12_send_79 rfl rfl ?_
                  refine j_iald sh_99 dX12_send_80 h (fun h => ?_)
                  refine j_iload_n 3 dX12_send_81 rfl rfl ?_
                  refine j_ic_ge 91 dX12_send_82 (by decide) h (fun h => ?_) (fun h => ?_)
                  · refine j_aload_n 0 dX12_send_91 rfl rfl ?_
                    refine j_iload_n 1 dX12_send_92 rfl rfl ?_
                    refine j_iload_n 3 dX12_send_93 rfl rfl ?_
                    refine j_aload_n 0 dX12_send_94 rfl rfl ?_
                    refine j_getI fl_RX12_306 sh_97 fk_97_8 dX12_send_95 ?_
                    refine j_aload_n 0 dX12_send_98 rfl rfl ?_
                    refine j_getA 170 fl_RX12_253 sh_97 fk_97_99 (by decide) dX12_send_99 ?_
                    obtain ⟨q7, e8, h⟩ := ok_b h
                    refine j_callV (As := [.int a1, .int a3, .int (w.1 97 8), .ref (ad (gm κ) 170)]) (st := []) [.int q7.1] (c_X12_isRow (kl κ) (gm κ) (kA κ) 170 7 sh_170 a1 a3 (w.1 97 8) w q7 e8) ck_RX12_570 im_X12_isRow se_X12_isRow sh_97 cx_12 ⟨rfl, rfl⟩ ⟨by decide, by decide⟩ rfl rfl (Nat.le_of_ble_eq_true rfl) dX12_send_102 _ rfl ?_
                    refine j_if_eq 125 dX12_send_105 (by decide) h (fun h => ?_) (fun h => ?_)
                    · refine j_loc [(0, .ref (ad (gm κ) 97))] [0] rfl ?_
                      exact t_X12_send_j125 q7.2 h
                    · refine j_aload_n 0 dX12_send_108 rfl rfl ?_
                      refine j_iload_n 2 dX12_send_109 rfl rfl ?_
                      refine j_iload_n 3 dX12_send_110 rfl rfl ?_
                      refine j_aload_n 0 dX12_send_111 rfl rfl ?_
                      refine j_getI fl_RX12_303 sh_97 fk_97_7 dX12_send_112 ?_
                      refine j_aload_n 0 dX12_send_115 rfl rfl ?_
                      refine j_getA 171 fl_RX12_256 sh_97 fk_97_100 (by decide) dX12_send_116 ?_
                      obtain ⟨q11, e12, h⟩ := ok_b h
                      refine j_callV (As := [.int a2, .int a3, .int (q7.2.1 97 7), .ref (ad (gm κ) 171)]) (st := []) [.int q11.1] (c_X12_isRow (kl κ) (gm κ) (kA κ) 171 7 sh_171 a2 a3 (q7.2.1 97 7) q7.2 q11 e12) ck_RX12_570 im_X12_isRow se_X12_isRow sh_97 cx_12 ⟨rfl, rfl⟩ ⟨by decide, by decide⟩ rfl rfl (Nat.le_of_ble_eq_true rfl) dX12_send_119 _ rfl ?_
                      refine j_if_ne 131 dX12_send_122 (by decide) h (fun h => ?_) (fun h => ?_)
                      · refine j_iconst (0 : Int32) dX12_send_131 ki_0 ?_
                        refine j_istore [(5, .int (0 : Int32)), (0, .ref (ad (gm κ) 97)), (1, .int a1), (2, .int a2), (3, .int a3), (4, .int a4)] dX12_send_132 (by decide) rfl ?_
                        refine j_loc [(0, .ref (ad (gm κ) 97)), (3, .int a3), (4, .int a4), (5, .int (0 : Int32))] [1, 4, 5, 0] rfl ?_
                        refine t_X12_send_b134 a3 a4 (fun e21 h => ?_) ((0 : Int32), q11.2) (ok_bb h)
                        · refine j_iconst (1 : Int32) dX12_send_284 ki_1 ?_
                          refine j_istore [(5, .int (1 : Int32)), (0, .ref (ad (gm κ) 97)), (3, .int a3)] dX12_send_285 (by decide) rfl ?_
                          refine j_iconst (0 : Int32) dX12_send_287 ki_0 ?_
                          refine j_istore [(6, .int (0 : Int32)), (5, .int (1 : Int32)), (0, .ref (ad (gm κ) 97)), (3, .int a3)] dX12_send_288 (by decide) rfl ?_
                          refine j_loc [(0, .ref (ad (gm κ) 97)), (3, .int a3), (5, .int (1 : Int32)), (6, .int (0 : Int32))] [2, 3, 1, 0] rfl ?_
                          refine t_X12_send_b290 a3 e21 (fun e22 h => ?_) ((1 : Int32), (0 : Int32)) (ok_bb h)
                          · refine j_iconst (-1 : Int32) dX12_send_308 ki_m1 ?_
                            refine j_istore [(6, .int (-1 : Int32)), (0, .ref (ad (gm κ) 97)), (3, .int a3), (5, .int e22)] dX12_send_309 (by decide) rfl ?_
                            refine j_iconst (0 : Int32) dX12_send_311 ki_0 ?_
                            refine j_istore [(7, .int (0 : Int32)), (6, .int (-1 : Int32)), (0, .ref (ad (gm κ) 97)), (3, .int a3), (5, .int e22)] dX12_send_312 (by decide) rfl ?_
                            refine j_loc [(0, .ref (ad (gm κ) 97)), (3, .int a3), (5, .int e22), (6, .int (-1 : Int32)), (7, .int (0 : Int32))] [2, 3, 4, 1, 0] rfl ?_
                            refine t_X12_send_b314 a3 e22 (fun e31 h => ?_) ((-1 : Int32), (0 : Int32), e21) (ok_bb h)
                            · refine j_iload 2 dX12_send_446 rfl ?_
                              refine j_iconst (-1 : Int32) dX12_send_448 ki_m1 ?_
                              refine j_ic_ne 459 dX12_send_449 (by decide) h (fun h => ?_) (fun h => ?_)
                              · refine j_iconst (0 : Int32) dX12_send_459 ki_0 ?_
                                refine j_istore [(7, .int (0 : Int32)), (0, .ref (ad (gm κ) 97)), (3, .int a3), (6, .int e31.1)] dX12_send_460 (by decide) rfl ?_
                                refine j_loc [(0, .ref (ad (gm κ) 97)), (3, .int a3), (6, .int e31.1), (7, .int (0 : Int32))] [1, 2, 3, 0] rfl ?_
                                refine t_X12_send_b462 a3 e31.1 (fun e33 h => ?_) ((0 : Int32), e31.2) (ok_bb h)
                                · refine j_aload_n 0 dX12_send_488 rfl rfl ?_
                                  refine j_iload_n 1 dX12_send_489 rfl rfl ?_
                                  refine j_putI fp_RX12_583 sh_97 fk_97_105 dX12_send_490 ?_
                                  refine j_lW h (fun w34 h => ?_)
                                  refine j_aload_n 0 dX12_send_493 rfl rfl ?_
                                  refine j_iload 2 dX12_send_494 rfl ?_
                                  refine j_sipush (1000 : Int32) dX12_send_496 ks_1000 ?_
                                  obtain ⟨hz, h⟩ := ok_g h
                                  refine j_idiv dX12_send_499 hz ?_
                                  obtain ⟨q35, e36, h⟩ := ok_b h
                                  refine j_callV (As := [.int (e31.1 / (1000 : Int32))]) (st := []) [.int q35.1] (c_X12_gives (kl κ) (gm κ) (kA κ) (e31.1 / (1000 : Int32)) w34 q35 e36) ck_RX12_316 im_X12_gives se_X12_gives sh_97 cx_12 ⟨rfl, rfl⟩ ⟨by decide, by decide⟩ rfl rfl (Nat.le_of_ble_eq_true rfl) dX12_send_500 _ rfl ?_
                                  have h := ok_s h
                                  exact j_iret dX12_send_503 rfl rfl h
                              · refine j_aload_n 0 dX12_send_452 rfl rfl ?_
                                refine j_bipush (6 : Int32) dX12_send_453 kb_6 ?_
                                obtain ⟨q37, e38, h⟩ := ok_b h
                                refine j_callV (As := [.int (6 : Int32)]) (st := []) [.int q37.1] (c_X12_refuse (kl κ) (gm κ) (kA κ) (6 : Int32) e31.2 q37 e38) ck_RX12_312 im_X12_refuse se_X12_refuse sh_97 cx_12 ⟨rfl, rfl⟩ ⟨by decide, by decide⟩ rfl rfl (Nat.le_of_ble_eq_true rfl) dX12_send_455 _ rfl ?_
                                have h := ok_s h
                                exact j_iret dX12_send_458 rfl rfl h
                      · refine j_loc [(0, .ref (ad (gm κ) 97))] [0] rfl ?_
                        exact t_X12_send_j125 q11.2 h
                  · refine j_loc [(0, .ref (ad (gm κ) 97))] [0] rfl ?_
                    exact t_X12_send_j85 w h
              · refine j_loc [(0, .ref (ad (gm κ) 97))] [0] rfl ?_
                exact t_X12_send_j59 w h
          · refine j_loc [(0, .ref (ad (gm κ) 97))] [0] rfl ?_
            exact t_X12_send_j33 w h
theorem c_X12_send (l : Launch) (γ : Gm) (A : Nat → Prop) (a1 : Int32) (a2 : Int32) (a3 : Int32) (a4 : Int32) (w : Wd) (q : Int32 × Wd) (e : X12_send  a1 a2 a3 a4 w = some q) : MetG l γ A yX12_send cX12_send 11 (some .int) (rmk 2 52) [.ref (ad (γ) 97), .int a1, .int a2, .int a3, .int a4] w (some (.int q.1)) q.2 := by
  refine met_of pn_RX12 (Nat.le_of_ble_eq_true rfl) ?_
  intro κ hl hγ hA hρ
  subst hl; subst hγ; subst hA
  exact t_X12_send   a1 a2 a3 a4 w ⟨q, e, pIw hρ rfl rfl⟩
theorem dX12_sent_0 : decode cX12_sent 0 = .ok (.iload_n 1, 1) := by decide +kernel
theorem dX12_sent_1 : decode cX12_sent 1 = .ok (.ifCond .ge 11, 3) := by decide +kernel
theorem dX12_sent_4 : decode cX12_sent 4 = .ok (.aload_n 0, 1) := by decide +kernel
theorem dX12_sent_5 : decode cX12_sent 5 = .ok (.iconst 1, 1) := by decide +kernel
theorem dX12_sent_6 : decode cX12_sent 6 = .ok (.invokevirtual 312, 3) := by decide +kernel
theorem dX12_sent_9 : decode cX12_sent 9 = .ok (.goto 30, 3) := by decide +kernel
theorem dX12_sent_12 : decode cX12_sent 12 = .ok (.iload_n 1, 1) := by decide +kernel
theorem dX12_sent_13 : decode cX12_sent 13 = .ok (.aload_n 0, 1) := by decide +kernel
theorem dX12_sent_14 : decode cX12_sent 14 = .ok (.getfield 583, 3) := by decide +kernel
theorem dX12_sent_17 : decode cX12_sent 17 = .ok (.if_icmp .lt 12, 3) := by decide +kernel
theorem dX12_sent_20 : decode cX12_sent 20 = .ok (.aload_n 0, 1) := by decide +kernel
theorem dX12_sent_21 : decode cX12_sent 21 = .ok (.bipush 6, 2) := by decide +kernel
theorem dX12_sent_23 : decode cX12_sent 23 = .ok (.invokevirtual 312, 3) := by decide +kernel
theorem dX12_sent_26 : decode cX12_sent 26 = .ok (.goto 13, 3) := by decide +kernel
theorem dX12_sent_29 : decode cX12_sent 29 = .ok (.aload_n 0, 1) := by decide +kernel
theorem dX12_sent_30 : decode cX12_sent 30 = .ok (.aload_n 0, 1) := by decide +kernel
theorem dX12_sent_31 : decode cX12_sent 31 = .ok (.getfield 268, 3) := by decide +kernel
theorem dX12_sent_34 : decode cX12_sent 34 = .ok (.iload_n 1, 1) := by decide +kernel
theorem dX12_sent_35 : decode cX12_sent 35 = .ok (.iaload, 1) := by decide +kernel
theorem dX12_sent_36 : decode cX12_sent 36 = .ok (.invokevirtual 316, 3) := by decide +kernel
theorem dX12_sent_39 : decode cX12_sent 39 = .ok (.ireturn, 1) := by decide +kernel
noncomputable def X12_sent (a1 : Int32) (w : Wd) : Option (Int32 × Wd) :=
(if 0 ≤ a1 then
(if a1 < (w.1 97 105) then
gd (vp_in a1 7) <|
(X12_gives (w.1 175 (ix a1)) w).bind fun q1 =>
some (q1.1, q1.2)
else
(X12_refuse (6 : Int32) w).bind fun q3 =>
some (q3.1, q3.2))
else
(X12_refuse (1 : Int32) w).bind fun q5 =>
some (q5.1, q5.2))
set_option maxRecDepth 20000 in
set_option maxHeartbeats 1000000 in
theorem t_X12_sent {κ : Kx} (a1 : Int32) (w : Wd) (h : ok (X12_sent  a1 w) (PIw κ)) : J κ RX12 cX12_sent 2 (some .int) (rmk 1 21) 0 [(0, .ref (ad (gm κ) 97)), (1, .int a1)] [] w := by
  unfold X12_sent at h
  refine j_iload_n 1 dX12_sent_0 rfl rfl ?_
  refine j_if_ge 12 dX12_sent_1 (by decide) h (fun h => ?_) (fun h => ?_)
  · refine j_iload_n 1 dX12_sent_12 rfl rfl ?_
    refine j_aload_n 0 dX12_sent_13 rfl rfl ?_
    refine j_getI fl_RX12_583 sh_97 fk_97_105 dX12_sent_14 ?_
    refine j_ic_lt 29 dX12_sent_17 (by decide) h (fun h => ?_) (fun h => ?_)
    · refine j_aload_n 0 dX12_sent_29 rfl rfl ?_
      refine j_aload_n 0 dX12_sent_30 rfl rfl ?_
      refine j_getA 175 fl_RX12_268 sh_97 fk_97_104 (by decide) dX12_sent_31 ?_
      refine j_iload_n 1 dX12_sent_34 rfl rfl ?_
      refine j_iald sh_175 dX12_sent_35 h (fun h => ?_)
      obtain ⟨q1, e2, h⟩ := ok_b h
      refine j_callV (As := [.int (w.1 175 (ix a1))]) (st := []) [.int q1.1] (c_X12_gives (kl κ) (gm κ) (kA κ) (w.1 175 (ix a1)) w q1 e2) ck_RX12_316 im_X12_gives se_X12_gives sh_97 cx_12 ⟨rfl, rfl⟩ ⟨by decide, by decide⟩ rfl rfl (Nat.le_of_ble_eq_true rfl) dX12_sent_36 _ rfl ?_
      have h := ok_s h
      exact j_iret dX12_sent_39 rfl rfl h
    · refine j_aload_n 0 dX12_sent_20 rfl rfl ?_
      refine j_bipush (6 : Int32) dX12_sent_21 kb_6 ?_
      obtain ⟨q3, e4, h⟩ := ok_b h
      refine j_callV (As := [.int (6 : Int32)]) (st := []) [.int q3.1] (c_X12_refuse (kl κ) (gm κ) (kA κ) (6 : Int32) w q3 e4) ck_RX12_312 im_X12_refuse se_X12_refuse sh_97 cx_12 ⟨rfl, rfl⟩ ⟨by decide, by decide⟩ rfl rfl (Nat.le_of_ble_eq_true rfl) dX12_sent_23 _ rfl ?_
      refine j_goto 39 dX12_sent_26 (by decide) ?_
      have h := ok_s h
      exact j_iret dX12_sent_39 rfl rfl h
  · refine j_aload_n 0 dX12_sent_4 rfl rfl ?_
    refine j_iconst (1 : Int32) dX12_sent_5 ki_1 ?_
    obtain ⟨q5, e6, h⟩ := ok_b h
    refine j_callV (As := [.int (1 : Int32)]) (st := []) [.int q5.1] (c_X12_refuse (kl κ) (gm κ) (kA κ) (1 : Int32) w q5 e6) ck_RX12_312 im_X12_refuse se_X12_refuse sh_97 cx_12 ⟨rfl, rfl⟩ ⟨by decide, by decide⟩ rfl rfl (Nat.le_of_ble_eq_true rfl) dX12_sent_6 _ rfl ?_
    refine j_goto 39 dX12_sent_9 (by decide) ?_
    have h := ok_s h
    exact j_iret dX12_sent_39 rfl rfl h
theorem c_X12_sent (l : Launch) (γ : Gm) (A : Nat → Prop) (a1 : Int32) (w : Wd) (q : Int32 × Wd) (e : X12_sent  a1 w = some q) : MetG l γ A yX12_sent cX12_sent 2 (some .int) (rmk 1 21) [.ref (ad (γ) 97), .int a1] w (some (.int q.1)) q.2 := by
  refine met_of pn_RX12 (Nat.le_of_ble_eq_true rfl) ?_
  intro κ hl hγ hA hρ
  subst hl; subst hγ; subst hA
  exact t_X12_sent   a1 w ⟨q, e, pIw hρ rfl rfl⟩
