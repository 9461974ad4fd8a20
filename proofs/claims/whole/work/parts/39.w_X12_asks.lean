theorem dX12_asks_0 : decode cX12_asks 0 = .ok (.aload_n 0, 1) := by decide +kernel
theorem dX12_asks_1 : decode cX12_asks 1 = .ok (.getfield 196, 3) := by decide +kernel
theorem dX12_asks_4 : decode cX12_asks 4 = .ok (.iload_n 1, 1) := by decide +kernel
theorem dX12_asks_5 : decode cX12_asks 5 = .ok (.iaload, 1) := by decide +kernel
theorem dX12_asks_6 : decode cX12_asks 6 = .ok (.istore_n 3, 1) := by decide +kernel
theorem dX12_asks_7 : decode cX12_asks 7 = .ok (.aload_n 0, 1) := by decide +kernel
theorem dX12_asks_8 : decode cX12_asks 8 = .ok (.getfield 24, 3) := by decide +kernel
theorem dX12_asks_11 : decode cX12_asks 11 = .ok (.aload_n 0, 1) := by decide +kernel
theorem dX12_asks_12 : decode cX12_asks 12 = .ok (.getfield 60, 3) := by decide +kernel
theorem dX12_asks_15 : decode cX12_asks 15 = .ok (.iload_n 3, 1) := by decide +kernel
theorem dX12_asks_16 : decode cX12_asks 16 = .ok (.iaload, 1) := by decide +kernel
theorem dX12_asks_17 : decode cX12_asks 17 = .ok (.iaload, 1) := by decide +kernel
theorem dX12_asks_18 : decode cX12_asks 18 = .ok (.istore 4, 2) := by decide +kernel
theorem dX12_asks_20 : decode cX12_asks 20 = .ok (.aload_n 0, 1) := by decide +kernel
theorem dX12_asks_21 : decode cX12_asks 21 = .ok (.iload 4, 2) := by decide +kernel
theorem dX12_asks_23 : decode cX12_asks 23 = .ok (.iload_n 2, 1) := by decide +kernel
theorem dX12_asks_24 : decode cX12_asks 24 = .ok (.invokevirtual 471, 3) := by decide +kernel
theorem dX12_asks_27 : decode cX12_asks 27 = .ok (.aload_n 0, 1) := by decide +kernel
theorem dX12_asks_28 : decode cX12_asks 28 = .ok (.getfield 220, 3) := by decide +kernel
theorem dX12_asks_31 : decode cX12_asks 31 = .ok (.iconst 0, 1) := by decide +kernel
theorem dX12_asks_32 : decode cX12_asks 32 = .ok (.aload_n 0, 1) := by decide +kernel
theorem dX12_asks_33 : decode cX12_asks 33 = .ok (.getfield 48, 3) := by decide +kernel
theorem dX12_asks_36 : decode cX12_asks 36 = .ok (.iload_n 1, 1) := by decide +kernel
theorem dX12_asks_37 : decode cX12_asks 37 = .ok (.iaload, 1) := by decide +kernel
theorem dX12_asks_38 : decode cX12_asks 38 = .ok (.i2l, 1) := by decide +kernel
theorem dX12_asks_39 : decode cX12_asks 39 = .ok (.lastore, 1) := by decide +kernel
theorem dX12_asks_40 : decode cX12_asks 40 = .ok (.aload_n 0, 1) := by decide +kernel
theorem dX12_asks_41 : decode cX12_asks 41 = .ok (.getfield 220, 3) := by decide +kernel
theorem dX12_asks_44 : decode cX12_asks 44 = .ok (.iconst 1, 1) := by decide +kernel
theorem dX12_asks_45 : decode cX12_asks 45 = .ok (.aload_n 0, 1) := by decide +kernel
theorem dX12_asks_46 : decode cX12_asks 46 = .ok (.getfield 54, 3) := by decide +kernel
theorem dX12_asks_49 : decode cX12_asks 49 = .ok (.aload_n 0, 1) := by decide +kernel
theorem dX12_asks_50 : decode cX12_asks 50 = .ok (.getfield 208, 3) := by decide +kernel
theorem dX12_asks_53 : decode cX12_asks 53 = .ok (.iload_n 3, 1) := by decide +kernel
theorem dX12_asks_54 : decode cX12_asks 54 = .ok (.iaload, 1) := by decide +kernel
theorem dX12_asks_55 : decode cX12_asks 55 = .ok (.iaload, 1) := by decide +kernel
theorem dX12_asks_56 : decode cX12_asks 56 = .ok (.aload_n 0, 1) := by decide +kernel
theorem dX12_asks_57 : decode cX12_asks 57 = .ok (.getfield 51, 3) := by decide +kernel
theorem dX12_asks_60 : decode cX12_asks 60 = .ok (.iload_n 1, 1) := by decide +kernel
theorem dX12_asks_61 : decode cX12_asks 61 = .ok (.iaload, 1) := by decide +kernel
theorem dX12_asks_62 : decode cX12_asks 62 = .ok (.ishr, 1) := by decide +kernel
theorem dX12_asks_63 : decode cX12_asks 63 = .ok (.iconst 1, 1) := by decide +kernel
theorem dX12_asks_64 : decode cX12_asks 64 = .ok (.iand, 1) := by decide +kernel
theorem dX12_asks_65 : decode cX12_asks 65 = .ok (.i2l, 1) := by decide +kernel
theorem dX12_asks_66 : decode cX12_asks 66 = .ok (.lastore, 1) := by decide +kernel
theorem dX12_asks_67 : decode cX12_asks 67 = .ok (.aload_n 0, 1) := by decide +kernel
theorem dX12_asks_68 : decode cX12_asks 68 = .ok (.getfield 220, 3) := by decide +kernel
theorem dX12_asks_71 : decode cX12_asks 71 = .ok (.iconst 2, 1) := by decide +kernel
theorem dX12_asks_72 : decode cX12_asks 72 = .ok (.aload_n 0, 1) := by decide +kernel
theorem dX12_asks_73 : decode cX12_asks 73 = .ok (.getfield 202, 3) := by decide +kernel
theorem dX12_asks_76 : decode cX12_asks 76 = .ok (.iload_n 3, 1) := by decide +kernel
theorem dX12_asks_77 : decode cX12_asks 77 = .ok (.iaload, 1) := by decide +kernel
theorem dX12_asks_78 : decode cX12_asks 78 = .ok (.i2l, 1) := by decide +kernel
theorem dX12_asks_79 : decode cX12_asks 79 = .ok (.lastore, 1) := by decide +kernel
theorem dX12_asks_80 : decode cX12_asks 80 = .ok (.aload_n 0, 1) := by decide +kernel
theorem dX12_asks_81 : decode cX12_asks 81 = .ok (.getfield 220, 3) := by decide +kernel
theorem dX12_asks_84 : decode cX12_asks 84 = .ok (.iconst 3, 1) := by decide +kernel
theorem dX12_asks_85 : decode cX12_asks 85 = .ok (.iload_n 2, 1) := by decide +kernel
theorem dX12_asks_86 : decode cX12_asks 86 = .ok (.i2l, 1) := by decide +kernel
theorem dX12_asks_87 : decode cX12_asks 87 = .ok (.lastore, 1) := by decide +kernel
theorem dX12_asks_88 : decode cX12_asks 88 = .ok (.aload_n 0, 1) := by decide +kernel
theorem dX12_asks_89 : decode cX12_asks 89 = .ok (.getfield 220, 3) := by decide +kernel
theorem dX12_asks_92 : decode cX12_asks 92 = .ok (.iconst 4, 1) := by decide +kernel
theorem dX12_asks_93 : decode cX12_asks 93 = .ok (.aload_n 0, 1) := by decide +kernel
theorem dX12_asks_94 : decode cX12_asks 94 = .ok (.iload_n 1, 1) := by decide +kernel
theorem dX12_asks_95 : decode cX12_asks 95 = .ok (.invokevirtual 481, 3) := by decide +kernel
theorem dX12_asks_98 : decode cX12_asks 98 = .ok (.invokestatic 491, 3) := by decide +kernel
theorem dX12_asks_101 : decode cX12_asks 101 = .ok (.i2l, 1) := by decide +kernel
theorem dX12_asks_102 : decode cX12_asks 102 = .ok (.lastore, 1) := by decide +kernel
theorem dX12_asks_103 : decode cX12_asks 103 = .ok (.aload_n 0, 1) := by decide +kernel
theorem dX12_asks_104 : decode cX12_asks 104 = .ok (.getfield 220, 3) := by decide +kernel
theorem dX12_asks_107 : decode cX12_asks 107 = .ok (.iconst 5, 1) := by decide +kernel
theorem dX12_asks_108 : decode cX12_asks 108 = .ok (.aload_n 0, 1) := by decide +kernel
theorem dX12_asks_109 : decode cX12_asks 109 = .ok (.aload_n 0, 1) := by decide +kernel
theorem dX12_asks_110 : decode cX12_asks 110 = .ok (.getfield 60, 3) := by decide +kernel
theorem dX12_asks_113 : decode cX12_asks 113 = .ok (.iload_n 3, 1) := by decide +kernel
theorem dX12_asks_114 : decode cX12_asks 114 = .ok (.iaload, 1) := by decide +kernel
theorem dX12_asks_115 : decode cX12_asks 115 = .ok (.iload_n 2, 1) := by decide +kernel
theorem dX12_asks_116 : decode cX12_asks 116 = .ok (.invokevirtual 494, 3) := by decide +kernel
theorem dX12_asks_119 : decode cX12_asks 119 = .ok (.ifCond .eq 7, 3) := by decide +kernel
theorem dX12_asks_122 : decode cX12_asks 122 = .ok (.lconst 1, 1) := by decide +kernel
theorem dX12_asks_123 : decode cX12_asks 123 = .ok (.goto 4, 3) := by decide +kernel
theorem dX12_asks_126 : decode cX12_asks 126 = .ok (.lconst 0, 1) := by decide +kernel
theorem dX12_asks_127 : decode cX12_asks 127 = .ok (.lastore, 1) := by decide +kernel
theorem dX12_asks_128 : decode cX12_asks 128 = .ok (.aload_n 0, 1) := by decide +kernel
theorem dX12_asks_129 : decode cX12_asks 129 = .ok (.getfield 220, 3) := by decide +kernel
theorem dX12_asks_132 : decode cX12_asks 132 = .ok (.bipush 6, 2) := by decide +kernel
theorem dX12_asks_134 : decode cX12_asks 134 = .ok (.iload 4, 2) := by decide +kernel
theorem dX12_asks_136 : decode cX12_asks 136 = .ok (.i2l, 1) := by decide +kernel
theorem dX12_asks_137 : decode cX12_asks 137 = .ok (.lastore, 1) := by decide +kernel
theorem dX12_asks_138 : decode cX12_asks 138 = .ok (.iconst 0, 1) := by decide +kernel
theorem dX12_asks_139 : decode cX12_asks 139 = .ok (.istore 5, 2) := by decide +kernel
theorem dX12_asks_141 : decode cX12_asks 141 = .ok (.iconst 0, 1) := by decide +kernel
theorem dX12_asks_142 : decode cX12_asks 142 = .ok (.istore 6, 2) := by decide +kernel
theorem dX12_asks_144 : decode cX12_asks 144 = .ok (.iconst 0, 1) := by decide +kernel
theorem dX12_asks_145 : decode cX12_asks 145 = .ok (.istore 7, 2) := by decide +kernel
theorem dX12_asks_147 : decode cX12_asks 147 = .ok (.lconst 0, 1) := by decide +kernel
theorem dX12_asks_148 : decode cX12_asks 148 = .ok (.lstore 8, 2) := by decide +kernel
theorem dX12_asks_150 : decode cX12_asks 150 = .ok (.iconst 0, 1) := by decide +kernel
theorem dX12_asks_151 : decode cX12_asks 151 = .ok (.istore 10, 2) := by decide +kernel
theorem dX12_asks_153 : decode cX12_asks 153 = .ok (.iload 10, 2) := by decide +kernel
theorem dX12_asks_155 : decode cX12_asks 155 = .ok (.aload_n 0, 1) := by decide +kernel
theorem dX12_asks_156 : decode cX12_asks 156 = .ok (.getfield 468, 3) := by decide +kernel
theorem dX12_asks_159 : decode cX12_asks 159 = .ok (.if_icmp .ge 149, 3) := by decide +kernel
theorem dX12_asks_162 : decode cX12_asks 162 = .ok (.aload_n 0, 1) := by decide +kernel
theorem dX12_asks_163 : decode cX12_asks 163 = .ok (.getfield 161, 3) := by decide +kernel
theorem dX12_asks_166 : decode cX12_asks 166 = .ok (.iload 10, 2) := by decide +kernel
theorem dX12_asks_168 : decode cX12_asks 168 = .ok (.iaload, 1) := by decide +kernel
theorem dX12_asks_169 : decode cX12_asks 169 = .ok (.istore 11, 2) := by decide +kernel
theorem dX12_asks_171 : decode cX12_asks 171 = .ok (.aload_n 0, 1) := by decide +kernel
theorem dX12_asks_172 : decode cX12_asks 172 = .ok (.getfield 167, 3) := by decide +kernel
theorem dX12_asks_175 : decode cX12_asks 175 = .ok (.iload 10, 2) := by decide +kernel
theorem dX12_asks_177 : decode cX12_asks 177 = .ok (.baload, 1) := by decide +kernel
theorem dX12_asks_178 : decode cX12_asks 178 = .ok (.ifCond .eq 6, 3) := by decide +kernel
theorem dX12_asks_181 : decode cX12_asks 181 = .ok (.goto 121, 3) := by decide +kernel
theorem dX12_asks_184 : decode cX12_asks 184 = .ok (.aload_n 0, 1) := by decide +kernel
theorem dX12_asks_185 : decode cX12_asks 185 = .ok (.getfield 103, 3) := by decide +kernel
theorem dX12_asks_188 : decode cX12_asks 188 = .ok (.iload 11, 2) := by decide +kernel
theorem dX12_asks_190 : decode cX12_asks 190 = .ok (.iaload, 1) := by decide +kernel
theorem dX12_asks_191 : decode cX12_asks 191 = .ok (.iconst 1, 1) := by decide +kernel
theorem dX12_asks_192 : decode cX12_asks 192 = .ok (.if_icmp .ne 48, 3) := by decide +kernel
theorem dX12_asks_195 : decode cX12_asks 195 = .ok (.iconst 1, 1) := by decide +kernel
theorem dX12_asks_196 : decode cX12_asks 196 = .ok (.istore 5, 2) := by decide +kernel
theorem dX12_asks_198 : decode cX12_asks 198 = .ok (.iload 6, 2) := by decide +kernel
theorem dX12_asks_200 : decode cX12_asks 200 = .ok (.ifCond .ne 33, 3) := by decide +kernel
theorem dX12_asks_203 : decode cX12_asks 203 = .ok (.aload_n 0, 1) := by decide +kernel
theorem dX12_asks_204 : decode cX12_asks 204 = .ok (.aload_n 0, 1) := by decide +kernel
theorem dX12_asks_205 : decode cX12_asks 205 = .ok (.getfield 115, 3) := by decide +kernel
theorem dX12_asks_208 : decode cX12_asks 208 = .ok (.iload 11, 2) := by decide +kernel
theorem dX12_asks_210 : decode cX12_asks 210 = .ok (.iaload, 1) := by decide +kernel
theorem dX12_asks_211 : decode cX12_asks 211 = .ok (.aload_n 0, 1) := by decide +kernel
theorem dX12_asks_212 : decode cX12_asks 212 = .ok (.getfield 118, 3) := by decide +kernel
theorem dX12_asks_215 : decode cX12_asks 215 = .ok (.iload 11, 2) := by decide +kernel
theorem dX12_asks_217 : decode cX12_asks 217 = .ok (.iaload, 1) := by decide +kernel
theorem dX12_asks_218 : decode cX12_asks 218 = .ok (.invokevirtual 488, 3) := by decide +kernel
theorem dX12_asks_221 : decode cX12_asks 221 = .ok (.ifCond .eq 16, 3) := by decide +kernel
theorem dX12_asks_224 : decode cX12_asks 224 = .ok (.aload_n 0, 1) := by decide +kernel
theorem dX12_asks_225 : decode cX12_asks 225 = .ok (.iload 11, 2) := by decide +kernel
theorem dX12_asks_227 : decode cX12_asks 227 = .ok (.invokevirtual 497, 3) := by decide +kernel
theorem dX12_asks_230 : decode cX12_asks 230 = .ok (.ifCond .ne 7, 3) := by decide +kernel
theorem dX12_asks_233 : decode cX12_asks 233 = .ok (.iconst 1, 1) := by decide +kernel
theorem dX12_asks_234 : decode cX12_asks 234 = .ok (.goto 4, 3) := by decide +kernel
theorem dX12_asks_237 : decode cX12_asks 237 = .ok (.iconst 0, 1) := by decide +kernel
theorem dX12_asks_238 : decode cX12_asks 238 = .ok (.istore 6, 2) := by decide +kernel
theorem dX12_asks_240 : decode cX12_asks 240 = .ok (.aload_n 0, 1) := by decide +kernel
theorem dX12_asks_241 : decode cX12_asks 241 = .ok (.getfield 103, 3) := by decide +kernel
theorem dX12_asks_244 : decode cX12_asks 244 = .ok (.iload 11, 2) := by decide +kernel
theorem dX12_asks_246 : decode cX12_asks 246 = .ok (.iaload, 1) := by decide +kernel
theorem dX12_asks_247 : decode cX12_asks 247 = .ok (.iconst 2, 1) := by decide +kernel
theorem dX12_asks_248 : decode cX12_asks 248 = .ok (.if_icmp .ne 54, 3) := by decide +kernel
theorem dX12_asks_251 : decode cX12_asks 251 = .ok (.aload_n 0, 1) := by decide +kernel
theorem dX12_asks_252 : decode cX12_asks 252 = .ok (.iload 11, 2) := by decide +kernel
theorem dX12_asks_254 : decode cX12_asks 254 = .ok (.invokevirtual 497, 3) := by decide +kernel
theorem dX12_asks_257 : decode cX12_asks 257 = .ok (.ifCond .ne 45, 3) := by decide +kernel
theorem dX12_asks_260 : decode cX12_asks 260 = .ok (.aload_n 0, 1) := by decide +kernel
theorem dX12_asks_261 : decode cX12_asks 261 = .ok (.aload_n 0, 1) := by decide +kernel
theorem dX12_asks_262 : decode cX12_asks 262 = .ok (.getfield 109, 3) := by decide +kernel
theorem dX12_asks_265 : decode cX12_asks 265 = .ok (.iload 11, 2) := by decide +kernel
theorem dX12_asks_267 : decode cX12_asks 267 = .ok (.iaload, 1) := by decide +kernel
theorem dX12_asks_268 : decode cX12_asks 268 = .ok (.aload_n 0, 1) := by decide +kernel
theorem dX12_asks_269 : decode cX12_asks 269 = .ok (.getfield 112, 3) := by decide +kernel
theorem dX12_asks_272 : decode cX12_asks 272 = .ok (.iload 11, 2) := by decide +kernel
theorem dX12_asks_274 : decode cX12_asks 274 = .ok (.iaload, 1) := by decide +kernel
theorem dX12_asks_275 : decode cX12_asks 275 = .ok (.invokevirtual 484, 3) := by decide +kernel
theorem dX12_asks_278 : decode cX12_asks 278 = .ok (.lstore 12, 2) := by decide +kernel
theorem dX12_asks_280 : decode cX12_asks 280 = .ok (.iload 7, 2) := by decide +kernel
theorem dX12_asks_282 : decode cX12_asks 282 = .ok (.ifCond .eq 13, 3) := by decide +kernel
theorem dX12_asks_285 : decode cX12_asks 285 = .ok (.lload 8, 2) := by decide +kernel
theorem dX12_asks_287 : decode cX12_asks 287 = .ok (.lload 12, 2) := by decide +kernel
theorem dX12_asks_289 : decode cX12_asks 289 = .ok (.invokestatic 500, 3) := by decide +kernel
theorem dX12_asks_292 : decode cX12_asks 292 = .ok (.goto 5, 3) := by decide +kernel
theorem dX12_asks_295 : decode cX12_asks 295 = .ok (.lload 12, 2) := by decide +kernel
theorem dX12_asks_297 : decode cX12_asks 297 = .ok (.lstore 8, 2) := by decide +kernel
theorem dX12_asks_299 : decode cX12_asks 299 = .ok (.iconst 1, 1) := by decide +kernel
theorem dX12_asks_300 : decode cX12_asks 300 = .ok (.istore 7, 2) := by decide +kernel
theorem dX12_asks_302 : decode cX12_asks 302 = .ok (.iinc 10 1, 3) := by decide +kernel
theorem dX12_asks_305 : decode cX12_asks 305 = .ok (.goto (-152), 3) := by decide +kernel
theorem dX12_asks_308 : decode cX12_asks 308 = .ok (.aload_n 0, 1) := by decide +kernel
theorem dX12_asks_309 : decode cX12_asks 309 = .ok (.getfield 211, 3) := by decide +kernel
theorem dX12_asks_312 : decode cX12_asks 312 = .ok (.iload_n 1, 1) := by decide +kernel
theorem dX12_asks_313 : decode cX12_asks 313 = .ok (.iload 6, 2) := by decide +kernel
theorem dX12_asks_315 : decode cX12_asks 315 = .ok (.ifCond .ne 8, 3) := by decide +kernel
theorem dX12_asks_318 : decode cX12_asks 318 = .ok (.iload 5, 2) := by decide +kernel
theorem dX12_asks_320 : decode cX12_asks 320 = .ok (.ifCond .ne 7, 3) := by decide +kernel
theorem dX12_asks_323 : decode cX12_asks 323 = .ok (.iconst 1, 1) := by decide +kernel
theorem dX12_asks_324 : decode cX12_asks 324 = .ok (.goto 4, 3) := by decide +kernel
theorem dX12_asks_327 : decode cX12_asks 327 = .ok (.iconst 0, 1) := by decide +kernel
theorem dX12_asks_328 : decode cX12_asks 328 = .ok (.bastore, 1) := by decide +kernel
theorem dX12_asks_329 : decode cX12_asks 329 = .ok (.aload_n 0, 1) := by decide +kernel
theorem dX12_asks_330 : decode cX12_asks 330 = .ok (.getfield 199, 3) := by decide +kernel
theorem dX12_asks_333 : decode cX12_asks 333 = .ok (.iload_n 1, 1) := by decide +kernel
theorem dX12_asks_334 : decode cX12_asks 334 = .ok (.iload 7, 2) := by decide +kernel
theorem dX12_asks_336 : decode cX12_asks 336 = .ok (.ifCond .eq 19, 3) := by decide +kernel
theorem dX12_asks_339 : decode cX12_asks 339 = .ok (.lconst 0, 1) := by decide +kernel
theorem dX12_asks_340 : decode cX12_asks 340 = .ok (.ldc2_w 504, 3) := by decide +kernel
theorem dX12_asks_343 : decode cX12_asks 343 = .ok (.lload 8, 2) := by decide +kernel
theorem dX12_asks_345 : decode cX12_asks 345 = .ok (.invokestatic 506, 3) := by decide +kernel
theorem dX12_asks_348 : decode cX12_asks 348 = .ok (.invokestatic 500, 3) := by decide +kernel
theorem dX12_asks_351 : decode cX12_asks 351 = .ok (.l2i, 1) := by decide +kernel
theorem dX12_asks_352 : decode cX12_asks 352 = .ok (.goto 5, 3) := by decide +kernel
theorem dX12_asks_355 : decode cX12_asks 355 = .ok (.bipush 6, 2) := by decide +kernel
theorem dX12_asks_357 : decode cX12_asks 357 = .ok (.iastore, 1) := by decide +kernel
theorem dX12_asks_358 : decode cX12_asks 358 = .ok (.return_, 1) := by decide +kernel
noncomputable def X12_asks_j302 (a1 : Int32) (a5 : Int32) (a6 : Int32) (a7 : Int32) (a8 : Int64) (a10 : Int32) (w : Wd) : Option ((Int32 × Int32 × Int32 × Int64 × Int32 × Wd) ⊕ (Int32 × Int32 × Int32 × Int64 × Wd)) :=
some (.inl (a5, a6, a7, a8, (a10 + (1 : Int32)), w))
set_option maxRecDepth 20000 in
set_option maxHeartbeats 1000000 in
theorem t_X12_asks_j302 {κ : Kx} (a1 : Int32) (a5 : Int32) (a6 : Int32) (a7 : Int32) (a8 : Int64) (a10 : Int32) (w : Wd) {G : (Int32 × Int32 × Int32 × Int64 × Int32 × Wd) → Prop} {P : (Int32 × Int32 × Int32 × Int64 × Wd) → Prop} (KG : ∀ s, G s → J κ RX12 cX12_asks 14 none (rmk 3 79) 153 [(0, .ref (ad (gm κ) 97)), (1, .int a1), (5, .int s.1), (6, .int s.2.1), (7, .int s.2.2.1), (8, .long s.2.2.2.1), (10, .int s.2.2.2.2.1)] [] s.2.2.2.2.2) (K0 : ∀ e, P e → J κ RX12 cX12_asks 14 none (rmk 3 79) 308 [(0, .ref (ad (gm κ) 97)), (1, .int a1), (5, .int e.1), (6, .int e.2.1), (7, .int e.2.2.1), (8, .long e.2.2.2.1)] [] e.2.2.2.2) (h : ok (X12_asks_j302  a1 a5 a6 a7 a8 a10 w) (sel G P)) : J κ RX12 cX12_asks 14 none (rmk 3 79) 302 [(0, .ref (ad (gm κ) 97)), (1, .int a1), (5, .int a5), (6, .int a6), (7, .int a7), (8, .long a8), (10, .int a10)] [] w := by
  unfold X12_asks_j302 at h
  refine j_iinc (a10 + (1 : Int32)) 6 [(10, .int (a10 + (1 : Int32))), (0, .ref (ad (gm κ) 97)), (1, .int a1), (5, .int a5), (6, .int a6), (7, .int a7), (8, .long a8)] dX12_asks_302 rfl (by rw [kn_1]) (by decide) rfl ?_
  refine j_goto 153 dX12_asks_305 (by decide) ?_
  refine j_loc [(0, .ref (ad (gm κ) 97)), (1, .int a1), (5, .int a5), (6, .int a6), (7, .int a7), (8, .long a8), (10, .int (a10 + (1 : Int32)))] [1, 2, 3, 4, 5, 6, 0] rfl ?_
  have h := sel_l h
  have h := KG _ h
  exact h
noncomputable def X12_asks_j297 (a1 : Int32) (a5 : Int32) (a6 : Int32) (a10 : Int32) (s0 : Int64) (w : Wd) : Option ((Int32 × Int32 × Int32 × Int64 × Int32 × Wd) ⊕ (Int32 × Int32 × Int32 × Int64 × Wd)) :=
X12_asks_j302 a1 a5 a6 (1 : Int32) s0 a10 w
set_option maxRecDepth 20000 in
set_option maxHeartbeats 1000000 in
theorem t_X12_asks_j297 {κ : Kx} (a1 : Int32) (a5 : Int32) (a6 : Int32) (a10 : Int32) (s0 : Int64) (w : Wd) {G : (Int32 × Int32 × Int32 × Int64 × Int32 × Wd) → Prop} {P : (Int32 × Int32 × Int32 × Int64 × Wd) → Prop} (KG : ∀ s, G s → J κ RX12 cX12_asks 14 none (rmk 3 79) 153 [(0, .ref (ad (gm κ) 97)), (1, .int a1), (5, .int s.1), (6, .int s.2.1), (7, .int s.2.2.1), (8, .long s.2.2.2.1), (10, .int s.2.2.2.2.1)] [] s.2.2.2.2.2) (K0 : ∀ e, P e → J κ RX12 cX12_asks 14 none (rmk 3 79) 308 [(0, .ref (ad (gm κ) 97)), (1, .int a1), (5, .int e.1), (6, .int e.2.1), (7, .int e.2.2.1), (8, .long e.2.2.2.1)] [] e.2.2.2.2) (h : ok (X12_asks_j297  a1 a5 a6 a10 s0 w) (sel G P)) : J κ RX12 cX12_asks 14 none (rmk 3 79) 297 [(0, .ref (ad (gm κ) 97)), (1, .int a1), (5, .int a5), (6, .int a6), (10, .int a10)] [.long s0] w := by
  unfold X12_asks_j297 at h
  refine j_lstore [(8, .long s0), (0, .ref (ad (gm κ) 97)), (1, .int a1), (5, .int a5), (6, .int a6), (10, .int a10)] dX12_asks_297 (by decide) rfl ?_
  refine j_iconst (1 : Int32) dX12_asks_299 ki_1 ?_
  refine j_istore [(7, .int (1 : Int32)), (8, .long s0), (0, .ref (ad (gm κ) 97)), (1, .int a1), (5, .int a5), (6, .int a6), (10, .int a10)] dX12_asks_300 (by decide) rfl ?_
  refine j_loc [(0, .ref (ad (gm κ) 97)), (1, .int a1), (5, .int a5), (6, .int a6), (7, .int (1 : Int32)), (8, .long s0), (10, .int a10)] [2, 3, 4, 5, 0, 1, 6] rfl ?_
  exact t_X12_asks_j302 a1 a5 a6 (1 : Int32) s0 a10 w KG K0 h
noncomputable def X12_asks_j240 (a1 : Int32) (a5 : Int32) (a6 : Int32) (a7 : Int32) (a8 : Int64) (a10 : Int32) (a11 : Int32) (w : Wd) : Option ((Int32 × Int32 × Int32 × Int64 × Int32 × Wd) ⊕ (Int32 × Int32 × Int32 × Int64 × Wd)) :=
gd (vp_in a11 120) <|
(if (w.1 125 (ix a11)) = (2 : Int32) then
(X12_isUnless a11 w).bind fun q19 =>
(if q19.1 = 0 then
gd (vp_in a11 120) <|
gd (vp_in a11 120) <|
(X12_work (q19.2.1 127 (ix a11)) (q19.2.1 128 (ix a11)) q19.2).bind fun q21 =>
(if a7 = 0 then
X12_asks_j297 a1 a5 a6 a10 q21.1 q21.2
else
X12_asks_j297 a1 a5 a6 a10 (mxJ a8 q21.1) q21.2)
else
X12_asks_j302 a1 a5 a6 a7 a8 a10 q19.2)
else
X12_asks_j302 a1 a5 a6 a7 a8 a10 w)
set_option maxRecDepth 20000 in
set_option maxHeartbeats 1000000 in
theorem t_X12_asks_j240 {κ : Kx} (a1 : Int32) (a5 : Int32) (a6 : Int32) (a7 : Int32) (a8 : Int64) (a10 : Int32) (a11 : Int32) (w : Wd) {G : (Int32 × Int32 × Int32 × Int64 × Int32 × Wd) → Prop} {P : (Int32 × Int32 × Int32 × Int64 × Wd) → Prop} (KG : ∀ s, G s → J κ RX12 cX12_asks 14 none (rmk 3 79) 153 [(0, .ref (ad (gm κ) 97)), (1, .int a1), (5, .int s.1), (6, .int s.2.1), (7, .int s.2.2.1), (8, .long s.2.2.2.1), (10, .int s.2.2.2.2.1)] [] s.2.2.2.2.2) (K0 : ∀ e, P e → J κ RX12 cX12_asks 14 none (rmk 3 79) 308 [(0, .ref (ad (gm κ) 97)), (1, .int a1), (5, .int e.1), (6, .int e.2.1), (7, .int e.2.2.1), (8, .long e.2.2.2.1)] [] e.2.2.2.2) (h : ok (X12_asks_j240  a1 a5 a6 a7 a8 a10 a11 w) (sel G P)) : J κ RX12 cX12_asks 14 none (rmk 3 79) 240 [(0, .ref (ad (gm κ) 97)), (1, .int a1), (5, .int a5), (6, .int a6), (7, .int a7), (8, .long a8), (10, .int a10), (11, .int a11)] [] w := by
  unfold X12_asks_j240 at h
  refine j_aload_n 0 dX12_asks_240 rfl rfl ?_
  refine j_getA 125 fl_RX12_103 sh_97 fk_97_48 (by decide) dX12_asks_241 ?_
  refine j_iload 7 dX12_asks_244 rfl ?_
  refine j_iald sh_125 dX12_asks_246 h (fun h => ?_)
  refine j_iconst (2 : Int32) dX12_asks_247 ki_2 ?_
  refine j_ic_ne 302 dX12_asks_248 (by decide) h (fun h => ?_) (fun h => ?_)
  · refine j_loc [(0, .ref (ad (gm κ) 97)), (1, .int a1), (5, .int a5), (6, .int a6), (7, .int a7), (8, .long a8), (10, .int a10)] [0, 1, 2, 3, 4, 5, 6] rfl ?_
    exact t_X12_asks_j302 a1 a5 a6 a7 a8 a10 w KG K0 h
  · refine j_aload_n 0 dX12_asks_251 rfl rfl ?_
    refine j_iload 7 dX12_asks_252 rfl ?_
    obtain ⟨q19, e20, h⟩ := ok_b h
    refine j_callV (As := [.int a11]) (st := []) [.int q19.1] (c_X12_isUnless (kl κ) (gm κ) (kA κ) a11 w q19 e20) ck_RX12_497 im_X12_isUnless se_X12_isUnless sh_97 cx_12 ⟨rfl, rfl⟩ ⟨by decide, by decide⟩ rfl rfl (Nat.le_of_ble_eq_true rfl) dX12_asks_254 _ rfl ?_
    refine j_if_ne 302 dX12_asks_257 (by decide) h (fun h => ?_) (fun h => ?_)
    · refine j_loc [(0, .ref (ad (gm κ) 97)), (1, .int a1), (5, .int a5), (6, .int a6), (7, .int a7), (8, .long a8), (10, .int a10)] [0, 1, 2, 3, 4, 5, 6] rfl ?_
      exact t_X12_asks_j302 a1 a5 a6 a7 a8 a10 q19.2 KG K0 h
    · refine j_aload_n 0 dX12_asks_260 rfl rfl ?_
      refine j_aload_n 0 dX12_asks_261 rfl rfl ?_
      refine j_getA 127 fl_RX12_109 sh_97 fk_97_50 (by decide) dX12_asks_262 ?_
      refine j_iload 7 dX12_asks_265 rfl ?_
      refine j_iald sh_127 dX12_asks_267 h (fun h => ?_)
      refine j_aload_n 0 dX12_asks_268 rfl rfl ?_
      refine j_getA 128 fl_RX12_112 sh_97 fk_97_51 (by decide) dX12_asks_269 ?_
      refine j_iload 7 dX12_asks_272 rfl ?_
      refine j_iald sh_128 dX12_asks_274 h (fun h => ?_)
      obtain ⟨q21, e22, h⟩ := ok_b h
      refine j_callV (As := [.int (q19.2.1 127 (ix a11)), .int (q19.2.1 128 (ix a11))]) (st := []) [.long q21.1] (c_X12_work (kl κ) (gm κ) (kA κ) (q19.2.1 127 (ix a11)) (q19.2.1 128 (ix a11)) q19.2 q21 e22) ck_RX12_484 im_X12_work se_X12_work sh_97 cx_12 ⟨rfl, rfl⟩ ⟨by decide, by decide⟩ rfl rfl (Nat.le_of_ble_eq_true rfl) dX12_asks_275 _ rfl ?_
      refine j_lstore [(12, .long q21.1), (0, .ref (ad (gm κ) 97)), (1, .int a1), (5, .int a5), (6, .int a6), (7, .int a7), (8, .long a8), (10, .int a10), (11, .int a11)] dX12_asks_278 (by decide) rfl ?_
      refine j_iload 5 dX12_asks_280 rfl ?_
      refine j_if_eq 295 dX12_asks_282 (by decide) h (fun h => ?_) (fun h => ?_)
      · refine j_lload 0 dX12_asks_295 rfl ?_
        refine j_loc [(0, .ref (ad (gm κ) 97)), (1, .int a1), (5, .int a5), (6, .int a6), (10, .int a10)] [1, 2, 3, 4, 7] rfl ?_
        exact t_X12_asks_j297 a1 a5 a6 a10 q21.1 q21.2 KG K0 h
      · refine j_lload 6 dX12_asks_285 rfl ?_
        refine j_lload 0 dX12_asks_287 rfl ?_
        refine j_mxJ mt_RX12_500 (by decide) (Nat.le_of_ble_eq_true rfl) dX12_asks_289 ?_
        refine j_goto 297 dX12_asks_292 (by decide) ?_
        refine j_loc [(0, .ref (ad (gm κ) 97)), (1, .int a1), (5, .int a5), (6, .int a6), (10, .int a10)] [1, 2, 3, 4, 7] rfl ?_
        exact t_X12_asks_j297 a1 a5 a6 a10 (mxJ a8 q21.1) q21.2 KG K0 h
noncomputable def X12_asks_j238 (a1 : Int32) (a5 : Int32) (a7 : Int32) (a8 : Int64) (a10 : Int32) (a11 : Int32) (s0 : Int32) (w : Wd) : Option ((Int32 × Int32 × Int32 × Int64 × Int32 × Wd) ⊕ (Int32 × Int32 × Int32 × Int64 × Wd)) :=
X12_asks_j240 a1 a5 s0 a7 a8 a10 a11 w
set_option maxRecDepth 20000 in
set_option maxHeartbeats 1000000 in
theorem t_X12_asks_j238 {κ : Kx} (a1 : Int32) (a5 : Int32) (a7 : Int32) (a8 : Int64) (a10 : Int32) (a11 : Int32) (s0 : Int32) (w : Wd) {G : (Int32 × Int32 × Int32 × Int64 × Int32 × Wd) → Prop} {P : (Int32 × Int32 × Int32 × Int64 × Wd) → Prop} (KG : ∀ s, G s → J κ RX12 cX12_asks 14 none (rmk 3 79) 153 [(0, .ref (ad (gm κ) 97)), (1, .int a1), (5, .int s.1), (6, .int s.2.1), (7, .int s.2.2.1), (8, .long s.2.2.2.1), (10, .int s.2.2.2.2.1)] [] s.2.2.2.2.2) (K0 : ∀ e, P e → J κ RX12 cX12_asks 14 none (rmk 3 79) 308 [(0, .ref (ad (gm κ) 97)), (1, .int a1), (5, .int e.1), (6, .int e.2.1), (7, .int e.2.2.1), (8, .long e.2.2.2.1)] [] e.2.2.2.2) (h : ok (X12_asks_j238  a1 a5 a7 a8 a10 a11 s0 w) (sel G P)) : J κ RX12 cX12_asks 14 none (rmk 3 79) 238 [(0, .ref (ad (gm κ) 97)), (1, .int a1), (5, .int a5), (7, .int a7), (8, .long a8), (10, .int a10), (11, .int a11)] [.int s0] w := by
  unfold X12_asks_j238 at h
  refine j_istore [(6, .int s0), (0, .ref (ad (gm κ) 97)), (1, .int a1), (5, .int a5), (7, .int a7), (8, .long a8), (10, .int a10), (11, .int a11)] dX12_asks_238 (by decide) rfl ?_
  refine j_loc [(0, .ref (ad (gm κ) 97)), (1, .int a1), (5, .int a5), (6, .int s0), (7, .int a7), (8, .long a8), (10, .int a10), (11, .int a11)] [1, 2, 3, 0, 4, 5, 6, 7] rfl ?_
  exact t_X12_asks_j240 a1 a5 s0 a7 a8 a10 a11 w KG K0 h
noncomputable def X12_asks_j233 (a1 : Int32) (a5 : Int32) (a7 : Int32) (a8 : Int64) (a10 : Int32) (a11 : Int32) (w : Wd) : Option ((Int32 × Int32 × Int32 × Int64 × Int32 × Wd) ⊕ (Int32 × Int32 × Int32 × Int64 × Wd)) :=
X12_asks_j238 a1 a5 a7 a8 a10 a11 (1 : Int32) w
set_option maxRecDepth 20000 in
set_option maxHeartbeats 1000000 in
theorem t_X12_asks_j233 {κ : Kx} (a1 : Int32) (a5 : Int32) (a7 : Int32) (a8 : Int64) (a10 : Int32) (a11 : Int32) (w : Wd) {G : (Int32 × Int32 × Int32 × Int64 × Int32 × Wd) → Prop} {P : (Int32 × Int32 × Int32 × Int64 × Wd) → Prop} (KG : ∀ s, G s → J κ RX12 cX12_asks 14 none (rmk 3 79) 153 [(0, .ref (ad (gm κ) 97)), (1, .int a1), (5, .int s.1), (6, .int s.2.1), (7, .int s.2.2.1), (8, .long s.2.2.2.1), (10, .int s.2.2.2.2.1)] [] s.2.2.2.2.2) (K0 : ∀ e, P e → J κ RX12 cX12_asks 14 none (rmk 3 79) 308 [(0, .ref (ad (gm κ) 97)), (1, .int a1), (5, .int e.1), (6, .int e.2.1), (7, .int e.2.2.1), (8, .long e.2.2.2.1)] [] e.2.2.2.2) (h : ok (X12_asks_j233  a1 a5 a7 a8 a10 a11 w) (sel G P)) : J κ RX12 cX12_asks 14 none (rmk 3 79) 233 [(0, .ref (ad (gm κ) 97)), (1, .int a1), (5, .int a5), (7, .int a7), (8, .long a8), (10, .int a10), (11, .int a11)] [] w := by
  unfold X12_asks_j233 at h
  refine j_iconst (1 : Int32) dX12_asks_233 ki_1 ?_
  refine j_goto 238 dX12_asks_234 (by decide) ?_
  refine j_loc [(0, .ref (ad (gm κ) 97)), (1, .int a1), (5, .int a5), (7, .int a7), (8, .long a8), (10, .int a10), (11, .int a11)] [0, 1, 2, 3, 4, 5, 6] rfl ?_
  exact t_X12_asks_j238 a1 a5 a7 a8 a10 a11 (1 : Int32) w KG K0 h
noncomputable def X12_asks_j237 (a1 : Int32) (a5 : Int32) (a7 : Int32) (a8 : Int64) (a10 : Int32) (a11 : Int32) (w : Wd) : Option ((Int32 × Int32 × Int32 × Int64 × Int32 × Wd) ⊕ (Int32 × Int32 × Int32 × Int64 × Wd)) :=
X12_asks_j238 a1 a5 a7 a8 a10 a11 (0 : Int32) w
set_option maxRecDepth 20000 in
set_option maxHeartbeats 1000000 in
theorem t_X12_asks_j237 {κ : Kx} (a1 : Int32) (a5 : Int32) (a7 : Int32) (a8 : Int64) (a10 : Int32) (a11 : Int32) (w : Wd) {G : (Int32 × Int32 × Int32 × Int64 × Int32 × Wd) → Prop} {P : (Int32 × Int32 × Int32 × Int64 × Wd) → Prop} (KG : ∀ s, G s → J κ RX12 cX12_asks 14 none (rmk 3 79) 153 [(0, .ref (ad (gm κ) 97)), (1, .int a1), (5, .int s.1), (6, .int s.2.1), (7, .int s.2.2.1), (8, .long s.2.2.2.1), (10, .int s.2.2.2.2.1)] [] s.2.2.2.2.2) (K0 : ∀ e, P e → J κ RX12 cX12_asks 14 none (rmk 3 79) 308 [(0, .ref (ad (gm κ) 97)), (1, .int a1), (5, .int e.1), (6, .int e.2.1), (7, .int e.2.2.1), (8, .long e.2.2.2.1)] [] e.2.2.2.2) (h : ok (X12_asks_j237  a1 a5 a7 a8 a10 a11 w) (sel G P)) : J κ RX12 cX12_asks 14 none (rmk 3 79) 237 [(0, .ref (ad (gm κ) 97)), (1, .int a1), (5, .int a5), (7, .int a7), (8, .long a8), (10, .int a10), (11, .int a11)] [] w := by
  unfold X12_asks_j237 at h
  refine j_iconst (0 : Int32) dX12_asks_237 ki_0 ?_
  refine j_loc [(0, .ref (ad (gm κ) 97)), (1, .int a1), (5, .int a5), (7, .int a7), (8, .long a8), (10, .int a10), (11, .int a11)] [0, 1, 2, 3, 4, 5, 6] rfl ?_
  exact t_X12_asks_j238 a1 a5 a7 a8 a10 a11 (0 : Int32) w KG K0 h
noncomputable def X12_asks_b153 (a1 : Int32) (s : (Int32 × Int32 × Int32 × Int64 × Int32 × Wd)) : Option ((Int32 × Int32 × Int32 × Int64 × Int32 × Wd) ⊕ (Int32 × Int32 × Int32 × Int64 × Wd)) :=
(if (s.2.2.2.2.2.1 97 70) ≤ s.2.2.2.2.1 then
some (.inr (s.1, s.2.1, s.2.2.1, s.2.2.2.1, s.2.2.2.2.2))
else
gd (vp_in s.2.2.2.2.1 100) <|
(some (s.2.2.2.2.2.1 144 (ix s.2.2.2.2.1))).bind fun z18 =>
gd (vp_in s.2.2.2.2.1 100) <|
(if (s.2.2.2.2.2.1 146 (ix s.2.2.2.2.1)) = 0 then
gd (vp_in z18 120) <|
(if (s.2.2.2.2.2.1 125 (ix z18)) = (1 : Int32) then
(if s.2.1 = 0 then
gd (vp_in z18 120) <|
gd (vp_in z18 120) <|
(X12_holds (s.2.2.2.2.2.1 129 (ix z18)) (s.2.2.2.2.2.1 130 (ix z18)) s.2.2.2.2.2).bind fun q23 =>
(if q23.1 = 0 then
X12_asks_j237 a1 (1 : Int32) s.2.2.1 s.2.2.2.1 s.2.2.2.2.1 z18 q23.2
else
(X12_isUnless z18 q23.2).bind fun q25 =>
(if q25.1 = 0 then
X12_asks_j233 a1 (1 : Int32) s.2.2.1 s.2.2.2.1 s.2.2.2.2.1 z18 q25.2
else
X12_asks_j237 a1 (1 : Int32) s.2.2.1 s.2.2.2.1 s.2.2.2.2.1 z18 q25.2))
else
X12_asks_j233 a1 (1 : Int32) s.2.2.1 s.2.2.2.1 s.2.2.2.2.1 z18 s.2.2.2.2.2)
else
X12_asks_j240 a1 s.1 s.2.1 s.2.2.1 s.2.2.2.1 s.2.2.2.2.1 z18 s.2.2.2.2.2)
else
X12_asks_j302 a1 s.1 s.2.1 s.2.2.1 s.2.2.2.1 s.2.2.2.2.1 s.2.2.2.2.2))
set_option maxRecDepth 20000 in
set_option maxHeartbeats 1000000 in
theorem t_X12_asks_b153 {κ : Kx} (a1 : Int32) {P : (Int32 × Int32 × Int32 × Int64 × Wd) → Prop} (K0 : ∀ e, P e → J κ RX12 cX12_asks 14 none (rmk 3 79) 308 [(0, .ref (ad (gm κ) 97)), (1, .int a1), (5, .int e.1), (6, .int e.2.1), (7, .int e.2.2.1), (8, .long e.2.2.2.1)] [] e.2.2.2.2) (s : (Int32 × Int32 × Int32 × Int64 × Int32 × Wd)) (h : ok (lp (X12_asks_b153  a1) s) P) : J κ RX12 cX12_asks 14 none (rmk 3 79) 153 [(0, .ref (ad (gm κ) 97)), (1, .int a1), (5, .int s.1), (6, .int s.2.1), (7, .int s.2.2.1), (8, .long s.2.2.2.1), (10, .int s.2.2.2.2.1)] [] s.2.2.2.2.2 := by
  refine lp_ind (fun s => J κ RX12 cX12_asks 14 none (rmk 3 79) 153 [(0, .ref (ad (gm κ) 97)), (1, .int a1), (5, .int s.1), (6, .int s.2.1), (7, .int s.2.2.1), (8, .long s.2.2.2.1), (10, .int s.2.2.2.2.1)] [] s.2.2.2.2.2) (fun s h => ?_) s h
  unfold X12_asks_b153 at h
  refine j_iload 6 dX12_asks_153 rfl ?_
  refine j_aload_n 0 dX12_asks_155 rfl rfl ?_
  refine j_getI fl_RX12_468 sh_97 fk_97_70 dX12_asks_156 ?_
  refine j_ic_ge 308 dX12_asks_159 (by decide) h (fun h => ?_) (fun h => ?_)
  · refine j_loc [(0, .ref (ad (gm κ) 97)), (1, .int a1), (5, .int s.1), (6, .int s.2.1), (7, .int s.2.2.1), (8, .long s.2.2.2.1)] [0, 1, 2, 3, 4, 5] rfl ?_
    have h := sel_r h
    have h := K0 _ h
    exact h
  · refine j_aload_n 0 dX12_asks_162 rfl rfl ?_
    refine j_getA 144 fl_RX12_161 sh_97 fk_97_67 (by decide) dX12_asks_163 ?_
    refine j_iload 6 dX12_asks_166 rfl ?_
    refine j_iald sh_144 dX12_asks_168 h (fun h => ?_)
    refine j_lI h (fun z18 h => ?_)
    refine j_istore [(11, .int z18), (0, .ref (ad (gm κ) 97)), (1, .int a1), (5, .int s.1), (6, .int s.2.1), (7, .int s.2.2.1), (8, .long s.2.2.2.1), (10, .int s.2.2.2.2.1)] dX12_asks_169 (by decide) rfl ?_
    refine j_aload_n 1 dX12_asks_171 rfl rfl ?_
    refine j_getA 146 fl_RX12_167 sh_97 fk_97_69 (by decide) dX12_asks_172 ?_
    refine j_iload 7 dX12_asks_175 rfl ?_
    refine j_zald sh_146 dX12_asks_177 h (fun h => ?_)
    refine j_if_eq 184 dX12_asks_178 (by decide) h (fun h => ?_) (fun h => ?_)
    · refine j_aload_n 1 dX12_asks_184 rfl rfl ?_
      refine j_getA 125 fl_RX12_103 sh_97 fk_97_48 (by decide) dX12_asks_185 ?_
      refine j_iload 0 dX12_asks_188 rfl ?_
      refine j_iald sh_125 dX12_asks_190 h (fun h => ?_)
      refine j_iconst (1 : Int32) dX12_asks_191 ki_1 ?_
      refine j_ic_ne 240 dX12_asks_192 (by decide) h (fun h => ?_) (fun h => ?_)
      · refine j_loc [(0, .ref (ad (gm κ) 97)), (1, .int a1), (5, .int s.1), (6, .int s.2.1), (7, .int s.2.2.1), (8, .long s.2.2.2.1), (10, .int s.2.2.2.2.1), (11, .int z18)] [1, 2, 3, 4, 5, 6, 7, 0] rfl ?_
        exact t_X12_asks_j240 a1 s.1 s.2.1 s.2.2.1 s.2.2.2.1 s.2.2.2.2.1 z18 s.2.2.2.2.2 (fun _ h => h) K0 h
      · refine j_iconst (1 : Int32) dX12_asks_195 ki_1 ?_
        refine j_istore [(5, .int (1 : Int32)), (11, .int z18), (0, .ref (ad (gm κ) 97)), (1, .int a1), (6, .int s.2.1), (7, .int s.2.2.1), (8, .long s.2.2.2.1), (10, .int s.2.2.2.2.1)] dX12_asks_196 (by decide) rfl ?_
        refine j_iload 4 dX12_asks_198 rfl ?_
        refine j_if_ne 233 dX12_asks_200 (by decide) h (fun h => ?_) (fun h => ?_)
        · refine j_loc [(0, .ref (ad (gm κ) 97)), (1, .int a1), (5, .int (1 : Int32)), (7, .int s.2.2.1), (8, .long s.2.2.2.1), (10, .int s.2.2.2.2.1), (11, .int z18)] [2, 3, 0, 5, 6, 7, 1] rfl ?_
          exact t_X12_asks_j233 a1 (1 : Int32) s.2.2.1 s.2.2.2.1 s.2.2.2.2.1 z18 s.2.2.2.2.2 (fun _ h => h) K0 h
        · refine j_aload_n 2 dX12_asks_203 rfl rfl ?_
          refine j_aload_n 2 dX12_asks_204 rfl rfl ?_
          refine j_getA 129 fl_RX12_115 sh_97 fk_97_52 (by decide) dX12_asks_205 ?_
          refine j_iload 1 dX12_asks_208 rfl ?_
          refine j_iald sh_129 dX12_asks_210 h (fun h => ?_)
          refine j_aload_n 2 dX12_asks_211 rfl rfl ?_
          refine j_getA 130 fl_RX12_118 sh_97 fk_97_53 (by decide) dX12_asks_212 ?_
          refine j_iload 1 dX12_asks_215 rfl ?_
          refine j_iald sh_130 dX12_asks_217 h (fun h => ?_)
          obtain ⟨q23, e24, h⟩ := ok_b h
          refine j_callV (As := [.int (s.2.2.2.2.2.1 129 (ix z18)), .int (s.2.2.2.2.2.1 130 (ix z18))]) (st := []) [.int q23.1] (c_X12_holds (kl κ) (gm κ) (kA κ) (s.2.2.2.2.2.1 129 (ix z18)) (s.2.2.2.2.2.1 130 (ix z18)) s.2.2.2.2.2 q23 e24) ck_RX12_488 im_X12_holds se_X12_holds sh_97 cx_12 ⟨rfl, rfl⟩ ⟨by decide, by decide⟩ rfl rfl (Nat.le_of_ble_eq_true rfl) dX12_asks_218 _ rfl ?_
          refine j_if_eq 237 dX12_asks_221 (by decide) h (fun h => ?_) (fun h => ?_)
          · refine j_loc [(0, .ref (ad (gm κ) 97)), (1, .int a1), (5, .int (1 : Int32)), (7, .int s.2.2.1), (8, .long s.2.2.2.1), (10, .int s.2.2.2.2.1), (11, .int z18)] [2, 3, 0, 5, 6, 7, 1] rfl ?_
            exact t_X12_asks_j237 a1 (1 : Int32) s.2.2.1 s.2.2.2.1 s.2.2.2.2.1 z18 q23.2 (fun _ h => h) K0 h
          · refine j_aload_n 2 dX12_asks_224 rfl rfl ?_
            refine j_iload 1 dX12_asks_225 rfl ?_
            obtain ⟨q25, e26, h⟩ := ok_b h
            refine j_callV (As := [.int z18]) (st := []) [.int q25.1] (c_X12_isUnless (kl κ) (gm κ) (kA κ) z18 q23.2 q25 e26) ck_RX12_497 im_X12_isUnless se_X12_isUnless sh_97 cx_12 ⟨rfl, rfl⟩ ⟨by decide, by decide⟩ rfl rfl (Nat.le_of_ble_eq_true rfl) dX12_asks_227 _ rfl ?_
            refine j_if_ne 237 dX12_asks_230 (by decide) h (fun h => ?_) (fun h => ?_)
            · refine j_loc [(0, .ref (ad (gm κ) 97)), (1, .int a1), (5, .int (1 : Int32)), (7, .int s.2.2.1), (8, .long s.2.2.2.1), (10, .int s.2.2.2.2.1), (11, .int z18)] [2, 3, 0, 5, 6, 7, 1] rfl ?_
              exact t_X12_asks_j237 a1 (1 : Int32) s.2.2.1 s.2.2.2.1 s.2.2.2.2.1 z18 q25.2 (fun _ h => h) K0 h
            · refine j_loc [(0, .ref (ad (gm κ) 97)), (1, .int a1), (5, .int (1 : Int32)), (7, .int s.2.2.1), (8, .long s.2.2.2.1), (10, .int s.2.2.2.2.1), (11, .int z18)] [2, 3, 0, 5, 6, 7, 1] rfl ?_
              exact t_X12_asks_j233 a1 (1 : Int32) s.2.2.1 s.2.2.2.1 s.2.2.2.2.1 z18 q25.2 (fun _ h => h) K0 h
    · refine j_goto 302 dX12_asks_181 (by decide) ?_
      refine j_loc [(0, .ref (ad (gm κ) 97)), (1, .int a1), (5, .int s.1), (6, .int s.2.1), (7, .int s.2.2.1), (8, .long s.2.2.2.1), (10, .int s.2.2.2.2.1)] [1, 2, 3, 4, 5, 6, 7] rfl ?_
      exact t_X12_asks_j302 a1 s.1 s.2.1 s.2.2.1 s.2.2.2.1 s.2.2.2.2.1 s.2.2.2.2.2 (fun _ h => h) K0 h
noncomputable def X12_asks_j357 (s0 : Int32) (s1 : Int32) (w : Wd) : Option (Wd) :=
gd (vp_in s1 40) <|
(some (puI w 153 (ix s1) s0)).bind fun w29 =>
some w29
set_option maxRecDepth 20000 in
set_option maxHeartbeats 1000000 in
theorem t_X12_asks_j357 {κ : Kx} (s0 : Int32) (s1 : Int32) (w : Wd) (h : ok (X12_asks_j357  s0 s1 w) (PVw κ)) : J κ RX12 cX12_asks 14 none (rmk 3 79) 357 [] [.int s0, .int s1, .ref (ad (gm κ) 153)] w := by
  unfold X12_asks_j357 at h
  refine j_iast sh_153 dX12_asks_357 h (fun h => ?_)
  refine j_lW h (fun w29 h => ?_)
  have h := ok_s h
  exact j_vret dX12_asks_358 rfl h
noncomputable def X12_asks_j328 (a1 : Int32) (a7 : Int32) (a8 : Int64) (s0 : Int32) (s1 : Int32) (w : Wd) : Option (Wd) :=
gd (vp_in s1 40) <|
(some (puI w 157 (ix s1) (vp_nar .boolean s0))).bind fun w28 =>
(if a7 = 0 then
X12_asks_j357 (6 : Int32) a1 w28
else
X12_asks_j357 (Int64.toInt32 (mxJ (0 : Int64) (mnJ (60 : Int64) a8))) a1 w28)
set_option maxRecDepth 20000 in
set_option maxHeartbeats 1000000 in
theorem t_X12_asks_j328 {κ : Kx} (a1 : Int32) (a7 : Int32) (a8 : Int64) (s0 : Int32) (s1 : Int32) (w : Wd) (h : ok (X12_asks_j328  a1 a7 a8 s0 s1 w) (PVw κ)) : J κ RX12 cX12_asks 14 none (rmk 3 79) 328 [(0, .ref (ad (gm κ) 97)), (1, .int a1), (7, .int a7), (8, .long a8)] [.int s0, .int s1, .ref (ad (gm κ) 157)] w := by
  unfold X12_asks_j328 at h
  refine j_zast sh_157 dX12_asks_328 h (fun h => ?_)
  refine j_lW h (fun w28 h => ?_)
  refine j_aload_n 0 dX12_asks_329 rfl rfl ?_
  refine j_getA 153 fl_RX12_199 sh_97 fk_97_77 (by decide) dX12_asks_330 ?_
  refine j_iload_n 1 dX12_asks_333 rfl rfl ?_
  refine j_iload 2 dX12_asks_334 rfl ?_
  refine j_if_eq 355 dX12_asks_336 (by decide) h (fun h => ?_) (fun h => ?_)
  · refine j_bipush (6 : Int32) dX12_asks_355 kb_6 ?_
    refine j_loc [] [] rfl ?_
    exact t_X12_asks_j357 (6 : Int32) a1 w28 h
  · refine j_lconst (0 : Int64) dX12_asks_339 (by decide) ?_
    refine j_ldc2 cl_RX12_504 dX12_asks_340 ?_
    refine j_lload 3 dX12_asks_343 rfl ?_
    refine j_mnJ mt_RX12_506 (by decide) (Nat.le_of_ble_eq_true rfl) dX12_asks_345 ?_
    refine j_mxJ mt_RX12_500 (by decide) (Nat.le_of_ble_eq_true rfl) dX12_asks_348 ?_
    refine j_l2i dX12_asks_351 ?_
    refine j_goto 357 dX12_asks_352 (by decide) ?_
    refine j_loc [] [] rfl ?_
    exact t_X12_asks_j357 (Int64.toInt32 (mxJ (0 : Int64) (mnJ (60 : Int64) a8))) a1 w28 h
noncomputable def X12_asks_j323 (a1 : Int32) (a7 : Int32) (a8 : Int64) (s0 : Int32) (w : Wd) : Option (Wd) :=
X12_asks_j328 a1 a7 a8 (1 : Int32) s0 w
set_option maxRecDepth 20000 in
set_option maxHeartbeats 1000000 in
theorem t_X12_asks_j323 {κ : Kx} (a1 : Int32) (a7 : Int32) (a8 : Int64) (s0 : Int32) (w : Wd) (h : ok (X12_asks_j323  a1 a7 a8 s0 w) (PVw κ)) : J κ RX12 cX12_asks 14 none (rmk 3 79) 323 [(0, .ref (ad (gm κ) 97)), (1, .int a1), (7, .int a7), (8, .long a8)] [.int s0, .ref (ad (gm κ) 157)] w := by
  unfold X12_asks_j323 at h
  refine j_iconst (1 : Int32) dX12_asks_323 ki_1 ?_
  refine j_goto 328 dX12_asks_324 (by decide) ?_
  refine j_loc [(0, .ref (ad (gm κ) 97)), (1, .int a1), (7, .int a7), (8, .long a8)] [0, 1, 2, 3] rfl ?_
  exact t_X12_asks_j328 a1 a7 a8 (1 : Int32) s0 w h
noncomputable def X12_asks_j127 (a1 : Int32) (a4 : Int32) (s0 : Int64) (s1 : Int32) (w : Wd) : Option (Wd) :=
gd (vp_in s1 7) <|
(some (puJ w 159 (ix s1) s0)).bind fun w16 =>
gd (vp_in (6 : Int32) 7) <|
(some (puJ w16 159 (ix (6 : Int32)) (Int32.toInt64 a4))).bind fun w17 =>
(lp (X12_asks_b153 a1) ((0 : Int32), (0 : Int32), (0 : Int32), (0 : Int64), (0 : Int32), w17)).bind fun e27 =>
(if e27.2.1 = 0 then
(if e27.1 = 0 then
X12_asks_j323 a1 e27.2.2.1 e27.2.2.2.1 a1 e27.2.2.2.2
else
X12_asks_j328 a1 e27.2.2.1 e27.2.2.2.1 (0 : Int32) a1 e27.2.2.2.2)
else
X12_asks_j323 a1 e27.2.2.1 e27.2.2.2.1 a1 e27.2.2.2.2)
set_option maxRecDepth 20000 in
set_option maxHeartbeats 1000000 in
theorem t_X12_asks_j127 {κ : Kx} (a1 : Int32) (a4 : Int32) (s0 : Int64) (s1 : Int32) (w : Wd) (h : ok (X12_asks_j127  a1 a4 s0 s1 w) (PVw κ)) : J κ RX12 cX12_asks 14 none (rmk 3 79) 127 [(0, .ref (ad (gm κ) 97)), (1, .int a1), (4, .int a4)] [.long s0, .int s1, .ref (ad (gm κ) 159)] w := by
  unfold X12_asks_j127 at h
  refine j_last sh_159 dX12_asks_127 h (fun h => ?_)
  refine j_lW h (fun w16 h => ?_)
  refine j_aload_n 0 dX12_asks_128 rfl rfl ?_
  refine j_getA 159 fl_RX12_220 sh_97 fk_97_84 (by decide) dX12_asks_129 ?_
  refine j_bipush (6 : Int32) dX12_asks_132 kb_6 ?_
  refine j_iload 2 dX12_asks_134 rfl ?_
  refine j_i2l dX12_asks_136 ?_
  refine j_last sh_159 dX12_asks_137 h (fun h => ?_)
  refine j_lW h (fun w17 h => ?_)
  refine j_iconst (0 : Int32) dX12_asks_138 ki_0 ?_
  refine j_istore [(5, .int (0 : Int32)), (0, .ref (ad (gm κ) 97)), (1, .int a1), (4, .int a4)] dX12_asks_139 (by decide) rfl ?_
  refine j_iconst (0 : Int32) dX12_asks_141 ki_0 ?_
  refine j_istore [(6, .int (0 : Int32)), (5, .int (0 : Int32)), (0, .ref (ad (gm κ) 97)), (1, .int a1), (4, .int a4)] dX12_asks_142 (by decide) rfl ?_
  refine j_iconst (0 : Int32) dX12_asks_144 ki_0 ?_
  refine j_istore [(7, .int (0 : Int32)), (6, .int (0 : Int32)), (5, .int (0 : Int32)), (0, .ref (ad (gm κ) 97)), (1, .int a1), (4, .int a4)] dX12_asks_145 (by decide) rfl ?_
  refine j_lconst (0 : Int64) dX12_asks_147 (by decide) ?_
  refine j_lstore [(8, .long (0 : Int64)), (7, .int (0 : Int32)), (6, .int (0 : Int32)), (5, .int (0 : Int32)), (0, .ref (ad (gm κ) 97)), (1, .int a1), (4, .int a4)] dX12_asks_148 (by decide) rfl ?_
  refine j_iconst (0 : Int32) dX12_asks_150 ki_0 ?_
  refine j_istore [(10, .int (0 : Int32)), (8, .long (0 : Int64)), (7, .int (0 : Int32)), (6, .int (0 : Int32)), (5, .int (0 : Int32)), (0, .ref (ad (gm κ) 97)), (1, .int a1), (4, .int a4)] dX12_asks_151 (by decide) rfl ?_
  refine j_loc [(0, .ref (ad (gm κ) 97)), (1, .int a1), (5, .int (0 : Int32)), (6, .int (0 : Int32)), (7, .int (0 : Int32)), (8, .long (0 : Int64)), (10, .int (0 : Int32))] [5, 6, 4, 3, 2, 1, 0] rfl ?_
  refine t_X12_asks_b153 a1 (fun e27 h => ?_) ((0 : Int32), (0 : Int32), (0 : Int32), (0 : Int64), (0 : Int32), w17) (ok_bb h)
  · refine j_aload_n 0 dX12_asks_308 rfl rfl ?_
    refine j_getA 157 fl_RX12_211 sh_97 fk_97_81 (by decide) dX12_asks_309 ?_
    refine j_iload_n 1 dX12_asks_312 rfl rfl ?_
    refine j_iload 3 dX12_asks_313 rfl ?_
    refine j_if_ne 323 dX12_asks_315 (by decide) h (fun h => ?_) (fun h => ?_)
    · refine j_loc [(0, .ref (ad (gm κ) 97)), (1, .int a1), (7, .int e27.2.2.1), (8, .long e27.2.2.2.1)] [0, 1, 4, 5] rfl ?_
      exact t_X12_asks_j323 a1 e27.2.2.1 e27.2.2.2.1 a1 e27.2.2.2.2 h
    · refine j_iload 2 dX12_asks_318 rfl ?_
      refine j_if_ne 327 dX12_asks_320 (by decide) h (fun h => ?_) (fun h => ?_)
      · refine j_iconst (0 : Int32) dX12_asks_327 ki_0 ?_
        refine j_loc [(0, .ref (ad (gm κ) 97)), (1, .int a1), (7, .int e27.2.2.1), (8, .long e27.2.2.2.1)] [0, 1, 4, 5] rfl ?_
        exact t_X12_asks_j328 a1 e27.2.2.1 e27.2.2.2.1 (0 : Int32) a1 e27.2.2.2.2 h
      · refine j_loc [(0, .ref (ad (gm κ) 97)), (1, .int a1), (7, .int e27.2.2.1), (8, .long e27.2.2.2.1)] [0, 1, 4, 5] rfl ?_
        exact t_X12_asks_j323 a1 e27.2.2.1 e27.2.2.2.1 a1 e27.2.2.2.2 h
noncomputable def X12_asks (a1 : Int32) (a2 : Int32) (w : Wd) : Option (Wd) :=
gd (vp_in a1 40) <|
gd (vp_in (w.1 152 (ix a1)) 12) <|
gd (vp_in (w.1 113 (ix (w.1 152 (ix a1)))) 16) <|
(some (w.1 101 (ix (w.1 113 (ix (w.1 152 (ix a1))))))).bind fun z1 =>
(X12_stand z1 a2 w).bind fun q2 =>
gd (vp_in a1 40) <|
gd (vp_in (0 : Int32) 7) <|
(some (puJ q2 159 (ix (0 : Int32)) (Int32.toInt64 (q2.1 109 (ix a1))))).bind fun w4 =>
gd (vp_in (w.1 152 (ix a1)) 12) <|
gd (vp_in (w4.1 156 (ix (w.1 152 (ix a1)))) 20) <|
(some (w4.1 111 (ix (w4.1 156 (ix (w.1 152 (ix a1))))))).bind fun z5 =>
gd (vp_in a1 40) <|
gd (vp_in (1 : Int32) 7) <|
(some (puJ w4 159 (ix (1 : Int32)) (Int32.toInt64 ((z5 >>> ((w4.1 110 (ix a1)) &&& 31)) &&& (1 : Int32))))).bind fun w6 =>
gd (vp_in (w.1 152 (ix a1)) 12) <|
gd (vp_in (2 : Int32) 7) <|
(some (puJ w6 159 (ix (2 : Int32)) (Int32.toInt64 (w6.1 154 (ix (w.1 152 (ix a1))))))).bind fun w7 =>
gd (vp_in (3 : Int32) 7) <|
(some (puJ w7 159 (ix (3 : Int32)) (Int32.toInt64 a2))).bind fun w8 =>
(X12_doneSet a1 w8).bind fun q9 =>
(X12_bits q9 w8).bind fun q11 =>
gd (vp_in (4 : Int32) 7) <|
(some (puJ w8 159 (ix (4 : Int32)) (Int32.toInt64 q11))).bind fun w13 =>
gd (vp_in (w.1 152 (ix a1)) 12) <|
(X12_allShut (w13.1 113 (ix (w.1 152 (ix a1)))) a2 w13).bind fun q14 =>
(if q14 = 0 then
X12_asks_j127 a1 z1 (0 : Int64) (5 : Int32) w13
else
X12_asks_j127 a1 z1 (1 : Int64) (5 : Int32) w13)
set_option maxRecDepth 20000 in
set_option maxHeartbeats 1000000 in
theorem t_X12_asks {κ : Kx} (a1 : Int32) (a2 : Int32) (w : Wd) (h : ok (X12_asks  a1 a2 w) (PVw κ)) : J κ RX12 cX12_asks 14 none (rmk 3 79) 0 [(0, .ref (ad (gm κ) 97)), (1, .int a1), (2, .int a2)] [] w := by
  unfold X12_asks at h
  refine j_aload_n 0 dX12_asks_0 rfl rfl ?_
  refine j_getA 152 fl_RX12_196 sh_97 fk_97_76 (by decide) dX12_asks_1 ?_
  refine j_iload_n 1 dX12_asks_4 rfl rfl ?_
  refine j_iald sh_152 dX12_asks_5 h (fun h => ?_)
  refine j_istore_n [(3, .int (w.1 152 (ix a1))), (0, .ref (ad (gm κ) 97)), (1, .int a1), (2, .int a2)] dX12_asks_6 rfl (by decide) rfl ?_
  refine j_aload_n 1 dX12_asks_7 rfl rfl ?_
  refine j_getA 101 fl_RX12_24 sh_97 fk_97_12 (by decide) dX12_asks_8 ?_
  refine j_aload_n 1 dX12_asks_11 rfl rfl ?_
  refine j_getA 113 fl_RX12_60 sh_97 fk_97_24 (by decide) dX12_asks_12 ?_
  refine j_iload_n 0 dX12_asks_15 rfl rfl ?_
  refine j_iald sh_113 dX12_asks_16 h (fun h => ?_)
  refine j_iald sh_101 dX12_asks_17 h (fun h => ?_)
  refine j_lI h (fun z1 h => ?_)
  refine j_istore [(4, .int z1), (3, .int (w.1 152 (ix a1))), (0, .ref (ad (gm κ) 97)), (1, .int a1), (2, .int a2)] dX12_asks_18 (by decide) rfl ?_
  refine j_aload_n 2 dX12_asks_20 rfl rfl ?_
  refine j_iload 0 dX12_asks_21 rfl ?_
  refine j_iload_n 4 dX12_asks_23 rfl rfl ?_
  obtain ⟨q2, e3, h⟩ := ok_b h
  refine j_callV (As := [.int z1, .int a2]) (st := []) [] (c_X12_stand (kl κ) (gm κ) (kA κ) z1 a2 w q2 e3) ck_RX12_471 im_X12_stand se_X12_stand sh_97 cx_12 ⟨rfl, rfl⟩ ⟨by decide, by decide⟩ rfl rfl (Nat.le_of_ble_eq_true rfl) dX12_asks_24 _ rfl ?_
  refine j_aload_n 2 dX12_asks_27 rfl rfl ?_
  refine j_getA 159 fl_RX12_220 sh_97 fk_97_84 (by decide) dX12_asks_28 ?_
  refine j_iconst (0 : Int32) dX12_asks_31 ki_0 ?_
  refine j_aload_n 2 dX12_asks_32 rfl rfl ?_
  refine j_getA 109 fl_RX12_48 sh_97 fk_97_20 (by decide) dX12_asks_33 ?_
  refine j_iload_n 3 dX12_asks_36 rfl rfl ?_
  refine j_iald sh_109 dX12_asks_37 h (fun h => ?_)
  refine j_i2l dX12_asks_38 ?_
  refine j_last sh_159 dX12_asks_39 h (fun h => ?_)
  refine j_lW h (fun w4 h => ?_)
  refine j_aload_n 2 dX12_asks_40 rfl rfl ?_
  refine j_getA 159 fl_RX12_220 sh_97 fk_97_84 (by decide) dX12_asks_41 ?_
  refine j_iconst (1 : Int32) dX12_asks_44 ki_1 ?_
  refine j_aload_n 2 dX12_asks_45 rfl rfl ?_
  refine j_getA 111 fl_RX12_54 sh_97 fk_97_22 (by decide) dX12_asks_46 ?_
  refine j_aload_n 2 dX12_asks_49 rfl rfl ?_
  refine j_getA 156 fl_RX12_208 sh_97 fk_97_80 (by decide) dX12_asks_50 ?_
  refine j_iload_n 1 dX12_asks_53 rfl rfl ?_
  refine j_iald sh_156 dX12_asks_54 h (fun h => ?_)
  refine j_iald sh_111 dX12_asks_55 h (fun h => ?_)
  refine j_lI h (fun z5 h => ?_)
  refine j_aload_n 2 dX12_asks_56 rfl rfl ?_
  refine j_getA 110 fl_RX12_51 sh_97 fk_97_21 (by decide) dX12_asks_57 ?_
  refine j_iload_n 3 dX12_asks_60 rfl rfl ?_
  refine j_iald sh_110 dX12_asks_61 h (fun h => ?_)
  refine j_ishr dX12_asks_62 ?_
  refine j_iconst (1 : Int32) dX12_asks_63 ki_1 ?_
  refine j_iand dX12_asks_64 ?_
  refine j_i2l dX12_asks_65 ?_
  refine j_last sh_159 dX12_asks_66 h (fun h => ?_)
  refine j_lW h (fun w6 h => ?_)
  refine j_aload_n 2 dX12_asks_67 rfl rfl ?_
  refine j_getA 159 fl_RX12_220 sh_97 fk_97_84 (by decide) dX12_asks_68 ?_
  refine j_iconst (2 : Int32) dX12_asks_71 ki_2 ?_
  refine j_aload_n 2 dX12_asks_72 rfl rfl ?_
  refine j_getA 154 fl_RX12_202 sh_97 fk_97_78 (by decide) dX12_asks_73 ?_
  refine j_iload_n 1 dX12_asks_76 rfl rfl ?_
  refine j_iald sh_154 dX12_asks_77 h (fun h => ?_)
  refine j_i2l dX12_asks_78 ?_
  refine j_last sh_159 dX12_asks_79 h (fun h => ?_)
  refine j_lW h (fun w7 h => ?_)
  refine j_aload_n 2 dX12_asks_80 rfl rfl ?_
  refine j_getA 159 fl_RX12_220 sh_97 fk_97_84 (by decide) dX12_asks_81 ?_
  refine j_iconst (3 : Int32) dX12_asks_84 ki_3 ?_
  refine j_iload_n 4 dX12_asks_85 rfl rfl ?_
  refine j_i2l dX12_asks_86 ?_
  refine j_last sh_159 dX12_asks_87 h (fun h => ?_)
  refine j_lW h (fun w8 h => ?_)
  refine j_aload_n 2 dX12_asks_88 rfl rfl ?_
  refine j_getA 159 fl_RX12_220 sh_97 fk_97_84 (by decide) dX12_asks_89 ?_
  refine j_iconst (4 : Int32) dX12_asks_92 ki_4 ?_
  refine j_aload_n 2 dX12_asks_93 rfl rfl ?_
  refine j_iload_n 3 dX12_asks_94 rfl rfl ?_
  obtain ⟨q9, e10, h⟩ := ok_b h
  refine j_callV (As := [.int a1]) (st := [.int (4 : Int32), .ref (ad (gm κ) 159)]) [.int q9, .int (4 : Int32), .ref (ad (gm κ) 159)] (c_X12_doneSet (kl κ) (gm κ) (kA κ) a1 w8 q9 e10) ck_RX12_481 im_X12_doneSet se_X12_doneSet sh_97 cx_12 ⟨rfl, rfl⟩ ⟨by decide, by decide⟩ rfl rfl (Nat.le_of_ble_eq_true rfl) dX12_asks_95 _ rfl ?_
  obtain ⟨q11, e12, h⟩ := ok_b h
  refine j_callS (As := [.int q9]) (st := [.int (4 : Int32), .ref (ad (gm κ) 159)]) [.int q11, .int (4 : Int32), .ref (ad (gm κ) 159)] (c_X12_bits (kl κ) (gm κ) (kA κ) q9 w8 q11 e12) ck_RX12_491 st_X12_bits ⟨rfl, rfl⟩ ⟨by decide, by decide⟩ rfl rfl (Nat.le_of_ble_eq_true rfl) dX12_asks_98 _ rfl ?_
  refine j_i2l dX12_asks_101 ?_
  refine j_last sh_159 dX12_asks_102 h (fun h => ?_)
  refine j_lW h (fun w13 h => ?_)
  refine j_aload_n 2 dX12_asks_103 rfl rfl ?_
  refine j_getA 159 fl_RX12_220 sh_97 fk_97_84 (by decide) dX12_asks_104 ?_
  refine j_iconst (5 : Int32) dX12_asks_107 ki_5 ?_
  refine j_aload_n 2 dX12_asks_108 rfl rfl ?_
  refine j_aload_n 2 dX12_asks_109 rfl rfl ?_
  refine j_getA 113 fl_RX12_60 sh_97 fk_97_24 (by decide) dX12_asks_110 ?_
  refine j_iload_n 1 dX12_asks_113 rfl rfl ?_
  refine j_iald sh_113 dX12_asks_114 h (fun h => ?_)
  refine j_iload_n 4 dX12_asks_115 rfl rfl ?_
  obtain ⟨q14, e15, h⟩ := ok_b h
  refine j_callV (As := [.int (w13.1 113 (ix (w.1 152 (ix a1)))), .int a2]) (st := [.int (5 : Int32), .ref (ad (gm κ) 159)]) [.int q14, .int (5 : Int32), .ref (ad (gm κ) 159)] (c_X12_allShut (kl κ) (gm κ) (kA κ) (w13.1 113 (ix (w.1 152 (ix a1)))) a2 w13 q14 e15) ck_RX12_494 im_X12_allShut se_X12_allShut sh_97 cx_12 ⟨rfl, rfl⟩ ⟨by decide, by decide⟩ rfl rfl (Nat.le_of_ble_eq_true rfl) dX12_asks_116 _ rfl ?_
  refine j_if_eq 126 dX12_asks_119 (by decide) h (fun h => ?_) (fun h => ?_)
  · refine j_lconst (0 : Int64) dX12_asks_126 (by decide) ?_
    refine j_loc [(0, .ref (ad (gm κ) 97)), (1, .int a1), (4, .int z1)] [2, 3, 0] rfl ?_
    exact t_X12_asks_j127 a1 z1 (0 : Int64) (5 : Int32) w13 h
  · refine j_lconst (1 : Int64) dX12_asks_122 (by decide) ?_
    refine j_goto 127 dX12_asks_123 (by decide) ?_
    refine j_loc [(0, .ref (ad (gm κ) 97)), (1, .int a1), (4, .int z1)] [2, 3, 0] rfl ?_
    exact t_X12_asks_j127 a1 z1 (1 : Int64) (5 : Int32) w13 h
theorem c_X12_asks (l : Launch) (γ : Gm) (A : Nat → Prop) (a1 : Int32) (a2 : Int32) (w : Wd) (q : Wd) (e : X12_asks  a1 a2 w = some q) : MetG l γ A yX12_asks cX12_asks 14 none (rmk 3 79) [.ref (ad (γ) 97), .int a1, .int a2] w none q := by
  refine met_of pn_RX12 (Nat.le_of_ble_eq_true rfl) ?_
  intro κ hl hγ hA hρ
  subst hl; subst hγ; subst hA
  exact t_X12_asks   a1 a2 w ⟨q, e, pVw hρ rfl rfl⟩
theorem dX12_teach_0 : decode cX12_teach 0 = .ok (.iconst 0, 1) := by decide +kernel
theorem dX12_teach_1 : decode cX12_teach 1 = .ok (.istore_n 2, 1) := by decide +kernel
theorem dX12_teach_2 : decode cX12_teach 2 = .ok (.iload_n 2, 1) := by decide +kernel
theorem dX12_teach_3 : decode cX12_teach 3 = .ok (.aload_n 0, 1) := by decide +kernel
theorem dX12_teach_4 : decode cX12_teach 4 = .ok (.getfield 306, 3) := by decide +kernel
theorem dX12_teach_7 : decode cX12_teach 7 = .ok (.if_icmp .ge 35, 3) := by decide +kernel
theorem dX12_teach_10 : decode cX12_teach 10 = .ok (.aload_n 0, 1) := by decide +kernel
theorem dX12_teach_11 : decode cX12_teach 11 = .ok (.getfield 202, 3) := by decide +kernel
theorem dX12_teach_14 : decode cX12_teach 14 = .ok (.iload_n 2, 1) := by decide +kernel
theorem dX12_teach_15 : decode cX12_teach 15 = .ok (.iconst 0, 1) := by decide +kernel
theorem dX12_teach_16 : decode cX12_teach 16 = .ok (.iastore, 1) := by decide +kernel
theorem dX12_teach_17 : decode cX12_teach 17 = .ok (.aload_n 0, 1) := by decide +kernel
theorem dX12_teach_18 : decode cX12_teach 18 = .ok (.getfield 205, 3) := by decide +kernel
theorem dX12_teach_21 : decode cX12_teach 21 = .ok (.iload_n 2, 1) := by decide +kernel
theorem dX12_teach_22 : decode cX12_teach 22 = .ok (.iconst 0, 1) := by decide +kernel
theorem dX12_teach_23 : decode cX12_teach 23 = .ok (.iastore, 1) := by decide +kernel
theorem dX12_teach_24 : decode cX12_teach 24 = .ok (.aload_n 0, 1) := by decide +kernel
theorem dX12_teach_25 : decode cX12_teach 25 = .ok (.getfield 208, 3) := by decide +kernel
theorem dX12_teach_28 : decode cX12_teach 28 = .ok (.iload_n 2, 1) := by decide +kernel
theorem dX12_teach_29 : decode cX12_teach 29 = .ok (.aload_n 0, 1) := by decide +kernel
theorem dX12_teach_30 : decode cX12_teach 30 = .ok (.iload_n 2, 1) := by decide +kernel
theorem dX12_teach_31 : decode cX12_teach 31 = .ok (.iload_n 1, 1) := by decide +kernel
theorem dX12_teach_32 : decode cX12_teach 32 = .ok (.invokevirtual 355, 3) := by decide +kernel
theorem dX12_teach_35 : decode cX12_teach 35 = .ok (.iastore, 1) := by decide +kernel
theorem dX12_teach_36 : decode cX12_teach 36 = .ok (.iinc 2 1, 3) := by decide +kernel
theorem dX12_teach_39 : decode cX12_teach 39 = .ok (.goto (-37), 3) := by decide +kernel
theorem dX12_teach_42 : decode cX12_teach 42 = .ok (.iconst 0, 1) := by decide +kernel
theorem dX12_teach_43 : decode cX12_teach 43 = .ok (.istore_n 2, 1) := by decide +kernel
theorem dX12_teach_44 : decode cX12_teach 44 = .ok (.iload_n 2, 1) := by decide +kernel
theorem dX12_teach_45 : decode cX12_teach 45 = .ok (.aload_n 0, 1) := by decide +kernel
theorem dX12_teach_46 : decode cX12_teach 46 = .ok (.getfield 300, 3) := by decide +kernel
theorem dX12_teach_49 : decode cX12_teach 49 = .ok (.if_icmp .ge 47, 3) := by decide +kernel
theorem dX12_teach_52 : decode cX12_teach 52 = .ok (.aload_n 0, 1) := by decide +kernel
theorem dX12_teach_53 : decode cX12_teach 53 = .ok (.getfield 196, 3) := by decide +kernel
theorem dX12_teach_56 : decode cX12_teach 56 = .ok (.iload_n 2, 1) := by decide +kernel
theorem dX12_teach_57 : decode cX12_teach 57 = .ok (.aload_n 0, 1) := by decide +kernel
theorem dX12_teach_58 : decode cX12_teach 58 = .ok (.iconst 1, 1) := by decide +kernel
theorem dX12_teach_59 : decode cX12_teach 59 = .ok (.iload_n 2, 1) := by decide +kernel
theorem dX12_teach_60 : decode cX12_teach 60 = .ok (.iload_n 1, 1) := by decide +kernel
theorem dX12_teach_61 : decode cX12_teach 61 = .ok (.invokevirtual 351, 3) := by decide +kernel
theorem dX12_teach_64 : decode cX12_teach 64 = .ok (.iastore, 1) := by decide +kernel
theorem dX12_teach_65 : decode cX12_teach 65 = .ok (.aload_n 0, 1) := by decide +kernel
theorem dX12_teach_66 : decode cX12_teach 66 = .ok (.getfield 196, 3) := by decide +kernel
theorem dX12_teach_69 : decode cX12_teach 69 = .ok (.iload_n 2, 1) := by decide +kernel
theorem dX12_teach_70 : decode cX12_teach 70 = .ok (.iaload, 1) := by decide +kernel
theorem dX12_teach_71 : decode cX12_teach 71 = .ok (.iconst (-1), 1) := by decide +kernel
theorem dX12_teach_72 : decode cX12_teach 72 = .ok (.if_icmp .eq 18, 3) := by decide +kernel
theorem dX12_teach_75 : decode cX12_teach 75 = .ok (.aload_n 0, 1) := by decide +kernel
theorem dX12_teach_76 : decode cX12_teach 76 = .ok (.getfield 202, 3) := by decide +kernel
theorem dX12_teach_79 : decode cX12_teach 79 = .ok (.aload_n 0, 1) := by decide +kernel
theorem dX12_teach_80 : decode cX12_teach 80 = .ok (.getfield 196, 3) := by decide +kernel
theorem dX12_teach_83 : decode cX12_teach 83 = .ok (.iload_n 2, 1) := by decide +kernel
theorem dX12_teach_84 : decode cX12_teach 84 = .ok (.iaload, 1) := by decide +kernel
theorem dX12_teach_85 : decode cX12_teach 85 = .ok (.dup2, 1) := by decide +kernel
theorem dX12_teach_86 : decode cX12_teach 86 = .ok (.iaload, 1) := by decide +kernel
theorem dX12_teach_87 : decode cX12_teach 87 = .ok (.iconst 1, 1) := by decide +kernel
theorem dX12_teach_88 : decode cX12_teach 88 = .ok (.iadd, 1) := by decide +kernel
theorem dX12_teach_89 : decode cX12_teach 89 = .ok (.iastore, 1) := by decide +kernel
theorem dX12_teach_90 : decode cX12_teach 90 = .ok (.iinc 2 1, 3) := by decide +kernel
theorem dX12_teach_93 : decode cX12_teach 93 = .ok (.goto (-49), 3) := by decide +kernel
theorem dX12_teach_96 : decode cX12_teach 96 = .ok (.iconst 0, 1) := by decide +kernel
theorem dX12_teach_97 : decode cX12_teach 97 = .ok (.istore_n 2, 1) := by decide +kernel
theorem dX12_teach_98 : decode cX12_teach 98 = .ok (.iload_n 2, 1) := by decide +kernel
theorem dX12_teach_99 : decode cX12_teach 99 = .ok (.aload_n 0, 1) := by decide +kernel
theorem dX12_teach_100 : decode cX12_teach 100 = .ok (.getfield 300, 3) := by decide +kernel
theorem dX12_teach_103 : decode cX12_teach 103 = .ok (.if_icmp .ge 112, 3) := by decide +kernel
theorem dX12_teach_106 : decode cX12_teach 106 = .ok (.aload_n 0, 1) := by decide +kernel
theorem dX12_teach_107 : decode cX12_teach 107 = .ok (.getfield 211, 3) := by decide +kernel
theorem dX12_teach_110 : decode cX12_teach 110 = .ok (.iload_n 2, 1) := by decide +kernel
theorem dX12_teach_111 : decode cX12_teach 111 = .ok (.iconst 0, 1) := by decide +kernel
theorem dX12_teach_112 : decode cX12_teach 112 = .ok (.bastore, 1) := by decide +kernel
theorem dX12_teach_113 : decode cX12_teach 113 = .ok (.aload_n 0, 1) := by decide +kernel
theorem dX12_teach_114 : decode cX12_teach 114 = .ok (.getfield 214, 3) := by decide +kernel
theorem dX12_teach_117 : decode cX12_teach 117 = .ok (.iload_n 2, 1) := by decide +kernel
theorem dX12_teach_118 : decode cX12_teach 118 = .ok (.iconst 0, 1) := by decide +kernel
theorem dX12_teach_119 : decode cX12_teach 119 = .ok (.bastore, 1) := by decide +kernel
theorem dX12_teach_120 : decode cX12_teach 120 = .ok (.aload_n 0, 1) := by decide +kernel
theorem dX12_teach_121 : decode cX12_teach 121 = .ok (.getfield 196, 3) := by decide +kernel
theorem dX12_teach_124 : decode cX12_teach 124 = .ok (.iload_n 2, 1) := by decide +kernel
theorem dX12_teach_125 : decode cX12_teach 125 = .ok (.iaload, 1) := by decide +kernel
theorem dX12_teach_126 : decode cX12_teach 126 = .ok (.iconst (-1), 1) := by decide +kernel
theorem dX12_teach_127 : decode cX12_teach 127 = .ok (.if_icmp .eq 82, 3) := by decide +kernel
theorem dX12_teach_130 : decode cX12_teach 130 = .ok (.aload_n 0, 1) := by decide +kernel
theorem dX12_teach_131 : decode cX12_teach 131 = .ok (.getfield 208, 3) := by decide +kernel
theorem dX12_teach_134 : decode cX12_teach 134 = .ok (.aload_n 0, 1) := by decide +kernel
theorem dX12_teach_135 : decode cX12_teach 135 = .ok (.getfield 196, 3) := by decide +kernel
theorem dX12_teach_138 : decode cX12_teach 138 = .ok (.iload_n 2, 1) := by decide +kernel
theorem dX12_teach_139 : decode cX12_teach 139 = .ok (.iaload, 1) := by decide +kernel
theorem dX12_teach_140 : decode cX12_teach 140 = .ok (.iaload, 1) := by decide +kernel
theorem dX12_teach_141 : decode cX12_teach 141 = .ok (.iconst (-1), 1) := by decide +kernel
theorem dX12_teach_142 : decode cX12_teach 142 = .ok (.if_icmp .ne 6, 3) := by decide +kernel
theorem dX12_teach_145 : decode cX12_teach 145 = .ok (.goto 64, 3) := by decide +kernel
theorem dX12_teach_148 : decode cX12_teach 148 = .ok (.aload_n 0, 1) := by decide +kernel
theorem dX12_teach_149 : decode cX12_teach 149 = .ok (.iload_n 2, 1) := by decide +kernel
theorem dX12_teach_150 : decode cX12_teach 150 = .ok (.iload_n 1, 1) := by decide +kernel
theorem dX12_teach_151 : decode cX12_teach 151 = .ok (.invokevirtual 508, 3) := by decide +kernel
theorem dX12_teach_154 : decode cX12_teach 154 = .ok (.aload_n 0, 1) := by decide +kernel
theorem dX12_teach_155 : decode cX12_teach 155 = .ok (.getfield 211, 3) := by decide +kernel
theorem dX12_teach_158 : decode cX12_teach 158 = .ok (.iload_n 2, 1) := by decide +kernel
theorem dX12_teach_159 : decode cX12_teach 159 = .ok (.baload, 1) := by decide +kernel
theorem dX12_teach_160 : decode cX12_teach 160 = .ok (.ifCond .eq 49, 3) := by decide +kernel
theorem dX12_teach_163 : decode cX12_teach 163 = .ok (.aload_n 0, 1) := by decide +kernel
theorem dX12_teach_164 : decode cX12_teach 164 = .ok (.getfield 205, 3) := by decide +kernel
theorem dX12_teach_167 : decode cX12_teach 167 = .ok (.aload_n 0, 1) := by decide +kernel
theorem dX12_teach_168 : decode cX12_teach 168 = .ok (.getfield 196, 3) := by decide +kernel
theorem dX12_teach_171 : decode cX12_teach 171 = .ok (.iload_n 2, 1) := by decide +kernel
theorem dX12_teach_172 : decode cX12_teach 172 = .ok (.iaload, 1) := by decide +kernel
theorem dX12_teach_173 : decode cX12_teach 173 = .ok (.iaload, 1) := by decide +kernel
theorem dX12_teach_174 : decode cX12_teach 174 = .ok (.aload_n 0, 1) := by decide +kernel
theorem dX12_teach_175 : decode cX12_teach 175 = .ok (.iconst 3, 1) := by decide +kernel
theorem dX12_teach_176 : decode cX12_teach 176 = .ok (.bipush 40, 2) := by decide +kernel
theorem dX12_teach_178 : decode cX12_teach 178 = .ok (.invokevirtual 474, 3) := by decide +kernel
theorem dX12_teach_181 : decode cX12_teach 181 = .ok (.if_icmp .ne 6, 3) := by decide +kernel
theorem dX12_teach_184 : decode cX12_teach 184 = .ok (.goto 25, 3) := by decide +kernel
theorem dX12_teach_187 : decode cX12_teach 187 = .ok (.aload_n 0, 1) := by decide +kernel
theorem dX12_teach_188 : decode cX12_teach 188 = .ok (.getfield 205, 3) := by decide +kernel
theorem dX12_teach_191 : decode cX12_teach 191 = .ok (.aload_n 0, 1) := by decide +kernel
theorem dX12_teach_192 : decode cX12_teach 192 = .ok (.getfield 196, 3) := by decide +kernel
theorem dX12_teach_195 : decode cX12_teach 195 = .ok (.iload_n 2, 1) := by decide +kernel
theorem dX12_teach_196 : decode cX12_teach 196 = .ok (.iaload, 1) := by decide +kernel
theorem dX12_teach_197 : decode cX12_teach 197 = .ok (.dup2, 1) := by decide +kernel
theorem dX12_teach_198 : decode cX12_teach 198 = .ok (.iaload, 1) := by decide +kernel
theorem dX12_teach_199 : decode cX12_teach 199 = .ok (.iconst 1, 1) := by decide +kernel
theorem dX12_teach_200 : decode cX12_teach 200 = .ok (.iadd, 1) := by decide +kernel
theorem dX12_teach_201 : decode cX12_teach 201 = .ok (.iastore, 1) := by decide +kernel
theorem dX12_teach_202 : decode cX12_teach 202 = .ok (.aload_n 0, 1) := by decide +kernel
theorem dX12_teach_203 : decode cX12_teach 203 = .ok (.getfield 214, 3) := by decide +kernel
theorem dX12_teach_206 : decode cX12_teach 206 = .ok (.iload_n 2, 1) := by decide +kernel
theorem dX12_teach_207 : decode cX12_teach 207 = .ok (.iconst 1, 1) := by decide +kernel
theorem dX12_teach_208 : decode cX12_teach 208 = .ok (.bastore, 1) := by decide +kernel
theorem dX12_teach_209 : decode cX12_teach 209 = .ok (.iinc 2 1, 3) := by decide +kernel
theorem dX12_teach_212 : decode cX12_teach 212 = .ok (.goto (-114), 3) := by decide +kernel
theorem dX12_teach_215 : decode cX12_teach 215 = .ok (.return_, 1) := by decide +kernel
noncomputable def X12_teach_b2 (a1 : Int32) (s : (Int32 × Wd)) : Option ((Int32 × Wd) ⊕ Wd) :=
(if (s.2.1 97 8) ≤ s.1 then
some (.inr s.2)
else
gd (vp_in s.1 12) <|
(some (puI s.2 154 (ix s.1) (0 : Int32))).bind fun w1 =>
gd (vp_in s.1 12) <|
(some (puI w1 155 (ix s.1) (0 : Int32))).bind fun w2 =>
(X12_teacherAt s.1 a1 w2).bind fun q3 =>
gd (vp_in s.1 12) <|
(some (puI w2 156 (ix s.1) q3)).bind fun w5 =>
some (.inl ((s.1 + (1 : Int32)), w5)))
set_option maxRecDepth 20000 in
set_option maxHeartbeats 1000000 in
theorem t_X12_teach_b2 {κ : Kx} (a1 : Int32) {P : Wd → Prop} (K0 : ∀ e, P e → J κ RX12 cX12_teach 3 none (rmk 4 112) 42 [(0, .ref (ad (gm κ) 97)), (1, .int a1)] [] e) (s : (Int32 × Wd)) (h : ok (lp (X12_teach_b2  a1) s) P) : J κ RX12 cX12_teach 3 none (rmk 4 112) 2 [(0, .ref (ad (gm κ) 97)), (1, .int a1), (2, .int s.1)] [] s.2 := by
  refine lp_ind (fun s => J κ RX12 cX12_teach 3 none (rmk 4 112) 2 [(0, .ref (ad (gm κ) 97)), (1, .int a1), (2, .int s.1)] [] s.2) (fun s h => ?_) s h
  unfold X12_teach_b2 at h
  refine j_iload_n 2 dX12_teach_2 rfl rfl ?_
  refine j_aload_n 0 dX12_teach_3 rfl rfl ?_
  refine j_getI fl_RX12_306 sh_97 fk_97_8 dX12_teach_4 ?_
  refine j_ic_ge 42 dX12_teach_7 (by decide) h (fun h => ?_) (fun h => ?_)
  · refine j_loc [(0, .ref (ad (gm κ) 97)), (1, .int a1)] [0, 1] rfl ?_
    have h := sel_r h
    have h := K0 _ h
    exact h
  · refine j_aload_n 0 dX12_teach_10 rfl rfl ?_
    refine j_getA 154 fl_RX12_202 sh_97 fk_97_78 (by decide) dX12_teach_11 ?_
    refine j_iload_n 2 dX12_teach_14 rfl rfl ?_
    refine j_iconst (0 : Int32) dX12_teach_15 ki_0 ?_
    refine j_iast sh_154 dX12_teach_16 h (fun h => ?_)
    refine j_lW h (fun w1 h => ?_)
    refine j_aload_n 0 dX12_teach_17 rfl rfl ?_
    refine j_getA 155 fl_RX12_205 sh_97 fk_97_79 (by decide) dX12_teach_18 ?_
    refine j_iload_n 2 dX12_teach_21 rfl rfl ?_
    refine j_iconst (0 : Int32) dX12_teach_22 ki_0 ?_
    refine j_iast sh_155 dX12_teach_23 h (fun h => ?_)
    refine j_lW h (fun w2 h => ?_)
    refine j_aload_n 0 dX12_teach_24 rfl rfl ?_
    refine j_getA 156 fl_RX12_208 sh_97 fk_97_80 (by decide) dX12_teach_25 ?_
    refine j_iload_n 2 dX12_teach_28 rfl rfl ?_
    refine j_aload_n 0 dX12_teach_29 rfl rfl ?_
    refine j_iload_n 2 dX12_teach_30 rfl rfl ?_
    refine j_iload_n 1 dX12_teach_31 rfl rfl ?_
    obtain ⟨q3, e4, h⟩ := ok_b h
    refine j_callV (As := [.int s.1, .int a1]) (st := [.int s.1, .ref (ad (gm κ) 156)]) [.int q3, .int s.1, .ref (ad (gm κ) 156)] (c_X12_teacherAt (kl κ) (gm κ) (kA κ) s.1 a1 w2 q3 e4) ck_RX12_355 im_X12_teacherAt se_X12_teacherAt sh_97 cx_12 ⟨rfl, rfl⟩ ⟨by decide, by decide⟩ rfl rfl (Nat.le_of_ble_eq_true rfl) dX12_teach_32 _ rfl ?_
    refine j_iast sh_156 dX12_teach_35 h (fun h => ?_)
    refine j_lW h (fun w5 h => ?_)
    refine j_iinc (s.1 + (1 : Int32)) 2 [(2, .int (s.1 + (1 : Int32))), (0, .ref (ad (gm κ) 97)), (1, .int a1)] dX12_teach_36 rfl (by rw [kn_1]) (by decide) rfl ?_
    refine j_goto 2 dX12_teach_39 (by decide) ?_
    refine j_loc [(0, .ref (ad (gm κ) 97)), (1, .int a1), (2, .int (s.1 + (1 : Int32)))] [1, 2, 0] rfl ?_
    have h := sel_l h
    exact h
noncomputable def X12_teach_j90 (a1 : Int32) (a2 : Int32) (w : Wd) : Option ((Int32 × Wd) ⊕ Wd) :=
some (.inl ((a2 + (1 : Int32)), w))
set_option maxRecDepth 20000 in
set_option maxHeartbeats 1000000 in
theorem t_X12_teach_j90 {κ : Kx} (a1 : Int32) (a2 : Int32) (w : Wd) {G : (Int32 × Wd) → Prop} {P : Wd → Prop} (KG : ∀ s, G s → J κ RX12 cX12_teach 3 none (rmk 4 112) 44 [(0, .ref (ad (gm κ) 97)), (1, .int a1), (2, .int s.1)] [] s.2) (K0 : ∀ e, P e → J κ RX12 cX12_teach 3 none (rmk 4 112) 96 [(0, .ref (ad (gm κ) 97)), (1, .int a1)] [] e) (h : ok (X12_teach_j90  a1 a2 w) (sel G P)) : J κ RX12 cX12_teach 3 none (rmk 4 112) 90 [(0, .ref (ad (gm κ) 97)), (1, .int a1), (2, .int a2)] [] w := by
  unfold X12_teach_j90 at h
  refine j_iinc (a2 + (1 : Int32)) 2 [(2, .int (a2 + (1 : Int32))), (0, .ref (ad (gm κ) 97)), (1, .int a1)] dX12_teach_90 rfl (by rw [kn_1]) (by decide) rfl ?_
  refine j_goto 44 dX12_teach_93 (by decide) ?_
  refine j_loc [(0, .ref (ad (gm κ) 97)), (1, .int a1), (2, .int (a2 + (1 : Int32)))] [1, 2, 0] rfl ?_
  have h := sel_l h
  have h := KG _ h
  exact h
noncomputable def X12_teach_b44 (a1 : Int32) (s : (Int32 × Wd)) : Option ((Int32 × Wd) ⊕ Wd) :=
(if (s.2.1 97 6) ≤ s.1 then
some (.inr s.2)
else
(X12_lampOf (1 : Int32) s.1 a1 s.2).bind fun q7 =>
gd (vp_in s.1 40) <|
(some (puI s.2 152 (ix s.1) q7)).bind fun w9 =>
gd (vp_in s.1 40) <|
(if (w9.1 152 (ix s.1)) = (-1 : Int32) then
X12_teach_j90 a1 s.1 w9
else
gd (vp_in s.1 40) <|
gd (vp_in (w9.1 152 (ix s.1)) 12) <|
gd (vp_in (w9.1 152 (ix s.1)) 12) <|
(some (puI w9 154 (ix (w9.1 152 (ix s.1))) ((w9.1 154 (ix (w9.1 152 (ix s.1)))) + (1 : Int32)))).bind fun w10 =>
X12_teach_j90 a1 s.1 w10))
set_option maxRecDepth 20000 in
set_option maxHeartbeats 1000000 in
theorem t_X12_teach_b44 {κ : Kx} (a1 : Int32) {P : Wd → Prop} (K0 : ∀ e, P e → J κ RX12 cX12_teach 3 none (rmk 4 112) 96 [(0, .ref (ad (gm κ) 97)), (1, .int a1)] [] e) (s : (Int32 × Wd)) (h : ok (lp (X12_teach_b44  a1) s) P) : J κ RX12 cX12_teach 3 none (rmk 4 112) 44 [(0, .ref (ad (gm κ) 97)), (1, .int a1), (2, .int s.1)] [] s.2 := by
  refine lp_ind (fun s => J κ RX12 cX12_teach 3 none (rmk 4 112) 44 [(0, .ref (ad (gm κ) 97)), (1, .int a1), (2, .int s.1)] [] s.2) (fun s h => ?_) s h
  unfold X12_teach_b44 at h
  refine j_iload_n 2 dX12_teach_44 rfl rfl ?_
  refine j_aload_n 0 dX12_teach_45 rfl rfl ?_
  refine j_getI fl_RX12_300 sh_97 fk_97_6 dX12_teach_46 ?_
  refine j_ic_ge 96 dX12_teach_49 (by decide) h (fun h => ?_) (fun h => ?_)
  · refine j_loc [(0, .ref (ad (gm κ) 97)), (1, .int a1)] [0, 1] rfl ?_
    have h := sel_r h
    have h := K0 _ h
    exact h
  · refine j_aload_n 0 dX12_teach_52 rfl rfl ?_
    refine j_getA 152 fl_RX12_196 sh_97 fk_97_76 (by decide) dX12_teach_53 ?_
    refine j_iload_n 2 dX12_teach_56 rfl rfl ?_
    refine j_aload_n 0 dX12_teach_57 rfl rfl ?_
    refine j_iconst (1 : Int32) dX12_teach_58 ki_1 ?_
    refine j_iload_n 2 dX12_teach_59 rfl rfl ?_
    refine j_iload_n 1 dX12_teach_60 rfl rfl ?_
    obtain ⟨q7, e8, h⟩ := ok_b h
    refine j_callV (As := [.int (1 : Int32), .int s.1, .int a1]) (st := [.int s.1, .ref (ad (gm κ) 152)]) [.int q7, .int s.1, .ref (ad (gm κ) 152)] (c_X12_lampOf (kl κ) (gm κ) (kA κ) (1 : Int32) s.1 a1 s.2 q7 e8) ck_RX12_351 im_X12_lampOf se_X12_lampOf sh_97 cx_12 ⟨rfl, rfl⟩ ⟨by decide, by decide⟩ rfl rfl (Nat.le_of_ble_eq_true rfl) dX12_teach_61 _ rfl ?_
    refine j_iast sh_152 dX12_teach_64 h (fun h => ?_)
    refine j_lW h (fun w9 h => ?_)
    refine j_aload_n 0 dX12_teach_65 rfl rfl ?_
    refine j_getA 152 fl_RX12_196 sh_97 fk_97_76 (by decide) dX12_teach_66 ?_
    refine j_iload_n 2 dX12_teach_69 rfl rfl ?_
    refine j_iald sh_152 dX12_teach_70 h (fun h => ?_)
    refine j_iconst (-1 : Int32) dX12_teach_71 ki_m1 ?_
    refine j_ic_eq 90 dX12_teach_72 (by decide) h (fun h => ?_) (fun h => ?_)
    · refine j_loc [(0, .ref (ad (gm κ) 97)), (1, .int a1), (2, .int s.1)] [0, 1, 2] rfl ?_
      exact t_X12_teach_j90 a1 s.1 w9 (fun _ h => h) K0 h
    · refine j_aload_n 0 dX12_teach_75 rfl rfl ?_
      refine j_getA 154 fl_RX12_202 sh_97 fk_97_78 (by decide) dX12_teach_76 ?_
      refine j_aload_n 0 dX12_teach_79 rfl rfl ?_
      refine j_getA 152 fl_RX12_196 sh_97 fk_97_76 (by decide) dX12_teach_80 ?_
      refine j_iload_n 2 dX12_teach_83 rfl rfl ?_
      refine j_iald sh_152 dX12_teach_84 h (fun h => ?_)
      refine j_dup2 dX12_teach_85 rfl rfl ?_
      refine j_iald sh_154 dX12_teach_86 h (fun h => ?_)
      refine j_iconst (1 : Int32) dX12_teach_87 ki_1 ?_
      refine j_iadd dX12_teach_88 ?_
      refine j_iast sh_154 dX12_teach_89 h (fun h => ?_)
      refine j_lW h (fun w10 h => ?_)
      refine j_loc [(0, .ref (ad (gm κ) 97)), (1, .int a1), (2, .int s.1)] [0, 1, 2] rfl ?_
      exact t_X12_teach_j90 a1 s.1 w10 (fun _ h => h) K0 h
noncomputable def X12_teach_j209 (a1 : Int32) (a2 : Int32) (w : Wd) : Option ((Int32 × Wd) ⊕ Wd) :=
some (.inl ((a2 + (1 : Int32)), w))
set_option maxRecDepth 20000 in
set_option maxHeartbeats 1000000 in
theorem t_X12_teach_j209 {κ : Kx} (a1 : Int32) (a2 : Int32) (w : Wd) {G : (Int32 × Wd) → Prop} {P : Wd → Prop} (KG : ∀ s, G s → J κ RX12 cX12_teach 3 none (rmk 4 112) 98 [(0, .ref (ad (gm κ) 97)), (1, .int a1), (2, .int s.1)] [] s.2) (K0 : ∀ e, P e → J κ RX12 cX12_teach 3 none (rmk 4 112) 215 [] [] e) (h : ok (X12_teach_j209  a1 a2 w) (sel G P)) : J κ RX12 cX12_teach 3 none (rmk 4 112) 209 [(0, .ref (ad (gm κ) 97)), (1, .int a1), (2, .int a2)] [] w := by
  unfold X12_teach_j209 at h
  refine j_iinc (a2 + (1 : Int32)) 2 [(2, .int (a2 + (1 : Int32))), (0, .ref (ad (gm κ) 97)), (1, .int a1)] dX12_teach_209 rfl (by rw [kn_1]) (by decide) rfl ?_
  refine j_goto 98 dX12_teach_212 (by decide) ?_
  refine j_loc [(0, .ref (ad (gm κ) 97)), (1, .int a1), (2, .int (a2 + (1 : Int32)))] [1, 2, 0] rfl ?_
  have h := sel_l h
  have h := KG _ h
  exact h
noncomputable def X12_teach_b98 (a1 : Int32) (s : (Int32 × Wd)) : Option ((Int32 × Wd) ⊕ Wd) :=
(if (s.2.1 97 6) ≤ s.1 then
some (.inr s.2)
else
gd (vp_in s.1 40) <|
(some (puI s.2 157 (ix s.1) (vp_nar .boolean (0 : Int32)))).bind fun w12 =>
gd (vp_in s.1 40) <|
(some (puI w12 158 (ix s.1) (vp_nar .boolean (0 : Int32)))).bind fun w13 =>
gd (vp_in s.1 40) <|
(if (w13.1 152 (ix s.1)) = (-1 : Int32) then
X12_teach_j209 a1 s.1 w13
else
gd (vp_in s.1 40) <|
gd (vp_in (w13.1 152 (ix s.1)) 12) <|
(if (w13.1 156 (ix (w13.1 152 (ix s.1)))) = (-1 : Int32) then
X12_teach_j209 a1 s.1 w13
else
(X12_asks s.1 a1 w13).bind fun q14 =>
gd (vp_in s.1 40) <|
(if (q14.1 157 (ix s.1)) = 0 then
X12_teach_j209 a1 s.1 q14
else
gd (vp_in s.1 40) <|
gd (vp_in (q14.1 152 (ix s.1)) 12) <|
(X12_lastOf (3 : Int32) (40 : Int32) q14).bind fun q16 =>
(if (q14.1 155 (ix (q14.1 152 (ix s.1)))) = q16 then
X12_teach_j209 a1 s.1 q14
else
gd (vp_in s.1 40) <|
gd (vp_in (q14.1 152 (ix s.1)) 12) <|
gd (vp_in (q14.1 152 (ix s.1)) 12) <|
(some (puI q14 155 (ix (q14.1 152 (ix s.1))) ((q14.1 155 (ix (q14.1 152 (ix s.1)))) + (1 : Int32)))).bind fun w18 =>
gd (vp_in s.1 40) <|
(some (puI w18 158 (ix s.1) (vp_nar .boolean (1 : Int32)))).bind fun w19 =>
X12_teach_j209 a1 s.1 w19)))))
set_option maxRecDepth 20000 in
set_option maxHeartbeats 1000000 in
theorem t_X12_teach_b98 {κ : Kx} (a1 : Int32) {P : Wd → Prop} (K0 : ∀ e, P e → J κ RX12 cX12_teach 3 none (rmk 4 112) 215 [] [] e) (s : (Int32 × Wd)) (h : ok (lp (X12_teach_b98  a1) s) P) : J κ RX12 cX12_teach 3 none (rmk 4 112) 98 [(0, .ref (ad (gm κ) 97)), (1, .int a1), (2, .int s.1)] [] s.2 := by
  refine lp_ind (fun s => J κ RX12 cX12_teach 3 none (rmk 4 112) 98 [(0, .ref (ad (gm κ) 97)), (1, .int a1), (2, .int s.1)] [] s.2) (fun s h => ?_) s h
  unfold X12_teach_b98 at h
  refine j_iload_n 2 dX12_teach_98 rfl rfl ?_
  refine j_aload_n 0 dX12_teach_99 rfl rfl ?_
  refine j_getI fl_RX12_300 sh_97 fk_97_6 dX12_teach_100 ?_
  refine j_ic_ge 215 dX12_teach_103 (by decide) h (fun h => ?_) (fun h => ?_)
  · refine j_loc [] [] rfl ?_
    have h := sel_r h
    have h := K0 _ h
    exact h
  · refine j_aload_n 0 dX12_teach_106 rfl rfl ?_
    refine j_getA 157 fl_RX12_211 sh_97 fk_97_81 (by decide) dX12_teach_107 ?_
    refine j_iload_n 2 dX12_teach_110 rfl rfl ?_
    refine j_iconst (0 : Int32) dX12_teach_111 ki_0 ?_
    refine j_zast sh_157 dX12_teach_112 h (fun h => ?_)
    refine j_lW h (fun w12 h => ?_)
    refine j_aload_n 0 dX12_teach_113 rfl rfl ?_
    refine j_getA 158 fl_RX12_214 sh_97 fk_97_82 (by decide) dX12_teach_114 ?_
    refine j_iload_n 2 dX12_teach_117 rfl rfl ?_
    refine j_iconst (0 : Int32) dX12_teach_118 ki_0 ?_
    refine j_zast sh_158 dX12_teach_119 h (fun h => ?_)
    refine j_lW h (fun w13 h => ?_)
    refine j_aload_n 0 dX12_teach_120 rfl rfl ?_
    refine j_getA 152 fl_RX12_196 sh_97 fk_97_76 (by decide) dX12_teach_121 ?_
    refine j_iload_n 2 dX12_teach_124 rfl rfl ?_
    refine j_iald sh_152 dX12_teach_125 h (fun h => ?_)
    refine j_iconst (-1 : Int32) dX12_teach_126 ki_m1 ?_
    refine j_ic_eq 209 dX12_teach_127 (by decide) h (fun h => ?_) (fun h => ?_)
    · refine j_loc [(0, .ref (ad (gm κ) 97)), (1, .int a1), (2, .int s.1)] [0, 1, 2] rfl ?_
      exact t_X12_teach_j209 a1 s.1 w13 (fun _ h => h) K0 h
    · refine j_aload_n 0 dX12_teach_130 rfl rfl ?_
      refine j_getA 156 fl_RX12_208 sh_97 fk_97_80 (by decide) dX12_teach_131 ?_
      refine j_aload_n 0 dX12_teach_134 rfl rfl ?_
      refine j_getA 152 fl_RX12_196 sh_97 fk_97_76 (by decide) dX12_teach_135 ?_
      refine j_iload_n 2 dX12_teach_138 rfl rfl ?_
      refine j_iald sh_152 dX12_teach_139 h (fun h => ?_)
      refine j_iald sh_156 dX12_teach_140 h (fun h => ?_)
      refine j_iconst (-1 : Int32) dX12_teach_141 ki_m1 ?_
      refine j_ic_ne 148 dX12_teach_142 (by decide) h (fun h => ?_) (fun h => ?_)
      · refine j_aload_n 0 dX12_teach_148 rfl rfl ?_
        refine j_iload_n 2 dX12_teach_149 rfl rfl ?_
        refine j_iload_n 1 dX12_teach_150 rfl rfl ?_
        obtain ⟨q14, e15, h⟩ := ok_b h
        refine j_callV (As := [.int s.1, .int a1]) (st := []) [] (c_X12_asks (kl κ) (gm κ) (kA κ) s.1 a1 w13 q14 e15) ck_RX12_508 im_X12_asks se_X12_asks sh_97 cx_12 ⟨rfl, rfl⟩ ⟨by decide, by decide⟩ rfl rfl (Nat.le_of_ble_eq_true rfl) dX12_teach_151 _ rfl ?_
        refine j_aload_n 0 dX12_teach_154 rfl rfl ?_
        refine j_getA 157 fl_RX12_211 sh_97 fk_97_81 (by decide) dX12_teach_155 ?_
        refine j_iload_n 2 dX12_teach_158 rfl rfl ?_
        refine j_zald sh_157 dX12_teach_159 h (fun h => ?_)
        refine j_if_eq 209 dX12_teach_160 (by decide) h (fun h => ?_) (fun h => ?_)
        · refine j_loc [(0, .ref (ad (gm κ) 97)), (1, .int a1), (2, .int s.1)] [0, 1, 2] rfl ?_
          exact t_X12_teach_j209 a1 s.1 q14 (fun _ h => h) K0 h
        · refine j_aload_n 0 dX12_teach_163 rfl rfl ?_
          refine j_getA 155 fl_RX12_205 sh_97 fk_97_79 (by decide) dX12_teach_164 ?_
          refine j_aload_n 0 dX12_teach_167 rfl rfl ?_
          refine j_getA 152 fl_RX12_196 sh_97 fk_97_76 (by decide) dX12_teach_168 ?_
          refine j_iload_n 2 dX12_teach_171 rfl rfl ?_
          refine j_iald sh_152 dX12_teach_172 h (fun h => ?_)
          refine j_iald sh_155 dX12_teach_173 h (fun h => ?_)
          refine j_aload_n 0 dX12_teach_174 rfl rfl ?_
          refine j_iconst (3 : Int32) dX12_teach_175 ki_3 ?_
          refine j_bipush (40 : Int32) dX12_teach_176 kb_40 ?_
          obtain ⟨q16, e17, h⟩ := ok_b h
          refine j_callV (As := [.int (3 : Int32), .int (40 : Int32)]) (st := [.int (q14.1 155 (ix (q14.1 152 (ix s.1))))]) [.int q16, .int (q14.1 155 (ix (q14.1 152 (ix s.1))))] (c_X12_lastOf (kl κ) (gm κ) (kA κ) (3 : Int32) (40 : Int32) q14 q16 e17) ck_RX12_474 im_X12_lastOf se_X12_lastOf sh_97 cx_12 ⟨rfl, rfl⟩ ⟨by decide, by decide⟩ rfl rfl (Nat.le_of_ble_eq_true rfl) dX12_teach_178 _ rfl ?_
          refine j_ic_ne 187 dX12_teach_181 (by decide) h (fun h => ?_) (fun h => ?_)
          · refine j_aload_n 0 dX12_teach_187 rfl rfl ?_
            refine j_getA 155 fl_RX12_205 sh_97 fk_97_79 (by decide) dX12_teach_188 ?_
            refine j_aload_n 0 dX12_teach_191 rfl rfl ?_
            refine j_getA 152 fl_RX12_196 sh_97 fk_97_76 (by decide) dX12_teach_192 ?_
            refine j_iload_n 2 dX12_teach_195 rfl rfl ?_
            refine j_iald sh_152 dX12_teach_196 h (fun h => ?_)
            refine j_dup2 dX12_teach_197 rfl rfl ?_
            refine j_iald sh_155 dX12_teach_198 h (fun h => ?_)
            refine j_iconst (1 : Int32) dX12_teach_199 ki_1 ?_
            refine j_iadd dX12_teach_200 ?_
            refine j_iast sh_155 dX12_teach_201 h (fun h => ?_)
            refine j_lW h (fun w18 h => ?_)
            refine j_aload_n 0 dX12_teach_202 rfl rfl ?_
            refine j_getA 158 fl_RX12_214 sh_97 fk_97_82 (by decide) dX12_teach_203 ?_
            refine j_iload_n 2 dX12_teach_206 rfl rfl ?_
            refine j_iconst (1 : Int32) dX12_teach_207 ki_1 ?_
            refine j_zast sh_158 dX12_teach_208 h (fun h => ?_)
            refine j_lW h (fun w19 h => ?_)
            refine j_loc [(0, .ref (ad (gm κ) 97)), (1, .int a1), (2, .int s.1)] [0, 1, 2] rfl ?_
            exact t_X12_teach_j209 a1 s.1 w19 (fun _ h => h) K0 h
          · refine j_goto 209 dX12_teach_184 (by decide) ?_
            refine j_loc [(0, .ref (ad (gm κ) 97)), (1, .int a1), (2, .int s.1)] [0, 1, 2] rfl ?_
            exact t_X12_teach_j209 a1 s.1 q14 (fun _ h => h) K0 h
      · refine j_goto 209 dX12_teach_145 (by decide) ?_
        refine j_loc [(0, .ref (ad (gm κ) 97)), (1, .int a1), (2, .int s.1)] [0, 1, 2] rfl ?_
        exact t_X12_teach_j209 a1 s.1 w13 (fun _ h => h) K0 h
noncomputable def X12_teach (a1 : Int32) (w : Wd) : Option (Wd) :=
(lp (X12_teach_b2 a1) ((0 : Int32), w)).bind fun e6 =>
(lp (X12_teach_b44 a1) ((0 : Int32), e6)).bind fun e11 =>
(lp (X12_teach_b98 a1) ((0 : Int32), e11)).bind fun e20 =>
some e20
set_option maxRecDepth 20000 in
set_option maxHeartbeats 1000000 in
theorem t_X12_teach {κ : Kx} (a1 : Int32) (w : Wd) (h : ok (X12_teach  a1 w) (PVw κ)) : J κ RX12 cX12_teach 3 none (rmk 4 112) 0 [(0, .ref (ad (gm κ) 97)), (1, .int a1)] [] w := by
  unfold X12_teach at h
  refine j_iconst (0 : Int32) dX12_teach_0 ki_0 ?_
  refine j_istore_n [(2, .int (0 : Int32)), (0, .ref (ad (gm κ) 97)), (1, .int a1)] dX12_teach_1 rfl (by decide) rfl ?_
  refine j_loc [(0, .ref (ad (gm κ) 97)), (1, .int a1), (2, .int (0 : Int32))] [1, 2, 0] rfl ?_
  refine t_X12_teach_b2 a1 (fun e6 h => ?_) ((0 : Int32), w) (ok_bb h)
  · refine j_iconst (0 : Int32) dX12_teach_42 ki_0 ?_
    refine j_istore_n [(2, .int (0 : Int32)), (0, .ref (ad (gm κ) 97)), (1, .int a1)] dX12_teach_43 rfl (by decide) rfl ?_
    refine j_loc [(0, .ref (ad (gm κ) 97)), (1, .int a1), (2, .int (0 : Int32))] [1, 2, 0] rfl ?_
    refine t_X12_teach_b44 a1 (fun e11 h => ?_) ((0 : Int32), e6) (ok_bb h)
    · refine j_iconst (0 : Int32) dX12_teach_96 ki_0 ?_
      refine j_istore_n [(2, .int (0 : Int32)), (0, .ref (ad (gm κ) 97)), (1, .int a1)] dX12_teach_97 rfl (by decide) rfl ?_
      refine j_loc [(0, .ref (ad (gm κ) 97)), (1, .int a1), (2, .int (0 : Int32))] [1, 2, 0] rfl ?_
      refine t_X12_teach_b98 a1 (fun e20 h => ?_) ((0 : Int32), e11) (ok_bb h)
      · have h := ok_s h
        exact j_vret dX12_teach_215 rfl h
theorem c_X12_teach (l : Launch) (γ : Gm) (A : Nat → Prop) (a1 : Int32) (w : Wd) (q : Wd) (e : X12_teach  a1 w = some q) : MetG l γ A yX12_teach cX12_teach 3 none (rmk 4 112) [.ref (ad (γ) 97), .int a1] w none q := by
  refine met_of pn_RX12 (Nat.le_of_ble_eq_true rfl) ?_
  intro κ hl hγ hA hρ
  subst hl; subst hγ; subst hA
  exact t_X12_teach   a1 w ⟨q, e, pVw hρ rfl rfl⟩
