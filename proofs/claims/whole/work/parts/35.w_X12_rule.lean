theorem dX12_rule_0 : decode cX12_rule 0 = .ok (.aload_n 0, 1) := by decide +kernel
theorem dX12_rule_1 : decode cX12_rule 1 = .ok (.invokevirtual 448, 3) := by decide +kernel
theorem dX12_rule_4 : decode cX12_rule 4 = .ok (.lstore_n 1, 1) := by decide +kernel
theorem dX12_rule_5 : decode cX12_rule 5 = .ok (.lload_n 1, 1) := by decide +kernel
theorem dX12_rule_6 : decode cX12_rule 6 = .ok (.ldc2_w 295, 3) := by decide +kernel
theorem dX12_rule_9 : decode cX12_rule 9 = .ok (.lcmp, 1) := by decide +kernel
theorem dX12_rule_10 : decode cX12_rule 10 = .ok (.ifCond .ne 9, 3) := by decide +kernel
theorem dX12_rule_13 : decode cX12_rule 13 = .ok (.aload_n 0, 1) := by decide +kernel
theorem dX12_rule_14 : decode cX12_rule 14 = .ok (.iconst 2, 1) := by decide +kernel
theorem dX12_rule_15 : decode cX12_rule 15 = .ok (.invokevirtual 417, 3) := by decide +kernel
theorem dX12_rule_18 : decode cX12_rule 18 = .ok (.ireturn, 1) := by decide +kernel
theorem dX12_rule_19 : decode cX12_rule 19 = .ok (.aload_n 0, 1) := by decide +kernel
theorem dX12_rule_20 : decode cX12_rule 20 = .ok (.getfield 100, 3) := by decide +kernel
theorem dX12_rule_23 : decode cX12_rule 23 = .ok (.aload_n 0, 1) := by decide +kernel
theorem dX12_rule_24 : decode cX12_rule 24 = .ok (.getfield 452, 3) := by decide +kernel
theorem dX12_rule_27 : decode cX12_rule 27 = .ok (.iaload, 1) := by decide +kernel
theorem dX12_rule_28 : decode cX12_rule 28 = .ok (.bipush 20, 2) := by decide +kernel
theorem dX12_rule_30 : decode cX12_rule 30 = .ok (.if_icmp .ne 9, 3) := by decide +kernel
theorem dX12_rule_33 : decode cX12_rule 33 = .ok (.aload_n 0, 1) := by decide +kernel
theorem dX12_rule_34 : decode cX12_rule 34 = .ok (.iconst 3, 1) := by decide +kernel
theorem dX12_rule_35 : decode cX12_rule 35 = .ok (.invokevirtual 417, 3) := by decide +kernel
theorem dX12_rule_38 : decode cX12_rule 38 = .ok (.ireturn, 1) := by decide +kernel
theorem dX12_rule_39 : decode cX12_rule 39 = .ok (.bipush 20, 2) := by decide +kernel
theorem dX12_rule_41 : decode cX12_rule 41 = .ok (.aload_n 0, 1) := by decide +kernel
theorem dX12_rule_42 : decode cX12_rule 42 = .ok (.getfield 452, 3) := by decide +kernel
theorem dX12_rule_45 : decode cX12_rule 45 = .ok (.imul, 1) := by decide +kernel
theorem dX12_rule_46 : decode cX12_rule 46 = .ok (.aload_n 0, 1) := by decide +kernel
theorem dX12_rule_47 : decode cX12_rule 47 = .ok (.getfield 100, 3) := by decide +kernel
theorem dX12_rule_50 : decode cX12_rule 50 = .ok (.aload_n 0, 1) := by decide +kernel
theorem dX12_rule_51 : decode cX12_rule 51 = .ok (.getfield 452, 3) := by decide +kernel
theorem dX12_rule_54 : decode cX12_rule 54 = .ok (.iaload, 1) := by decide +kernel
theorem dX12_rule_55 : decode cX12_rule 55 = .ok (.iadd, 1) := by decide +kernel
theorem dX12_rule_56 : decode cX12_rule 56 = .ok (.istore_n 3, 1) := by decide +kernel
theorem dX12_rule_57 : decode cX12_rule 57 = .ok (.bipush 20, 2) := by decide +kernel
theorem dX12_rule_59 : decode cX12_rule 59 = .ok (.aload_n 0, 1) := by decide +kernel
theorem dX12_rule_60 : decode cX12_rule 60 = .ok (.getfield 452, 3) := by decide +kernel
theorem dX12_rule_63 : decode cX12_rule 63 = .ok (.imul, 1) := by decide +kernel
theorem dX12_rule_64 : decode cX12_rule 64 = .ok (.istore 4, 2) := by decide +kernel
theorem dX12_rule_66 : decode cX12_rule 66 = .ok (.iload 4, 2) := by decide +kernel
theorem dX12_rule_68 : decode cX12_rule 68 = .ok (.iload_n 3, 1) := by decide +kernel
theorem dX12_rule_69 : decode cX12_rule 69 = .ok (.if_icmp .ge 27, 3) := by decide +kernel
theorem dX12_rule_72 : decode cX12_rule 72 = .ok (.aload_n 0, 1) := by decide +kernel
theorem dX12_rule_73 : decode cX12_rule 73 = .ok (.getfield 124, 3) := by decide +kernel
theorem dX12_rule_76 : decode cX12_rule 76 = .ok (.iload 4, 2) := by decide +kernel
theorem dX12_rule_78 : decode cX12_rule 78 = .ok (.laload, 1) := by decide +kernel
theorem dX12_rule_79 : decode cX12_rule 79 = .ok (.lload_n 1, 1) := by decide +kernel
theorem dX12_rule_80 : decode cX12_rule 80 = .ok (.lcmp, 1) := by decide +kernel
theorem dX12_rule_81 : decode cX12_rule 81 = .ok (.ifCond .ne 9, 3) := by decide +kernel
theorem dX12_rule_84 : decode cX12_rule 84 = .ok (.aload_n 0, 1) := by decide +kernel
theorem dX12_rule_85 : decode cX12_rule 85 = .ok (.iconst 4, 1) := by decide +kernel
theorem dX12_rule_86 : decode cX12_rule 86 = .ok (.invokevirtual 417, 3) := by decide +kernel
theorem dX12_rule_89 : decode cX12_rule 89 = .ok (.ireturn, 1) := by decide +kernel
theorem dX12_rule_90 : decode cX12_rule 90 = .ok (.iinc 4 1, 3) := by decide +kernel
theorem dX12_rule_93 : decode cX12_rule 93 = .ok (.goto (-27), 3) := by decide +kernel
theorem dX12_rule_96 : decode cX12_rule 96 = .ok (.aload_n 0, 1) := by decide +kernel
theorem dX12_rule_97 : decode cX12_rule 97 = .ok (.getfield 124, 3) := by decide +kernel
theorem dX12_rule_100 : decode cX12_rule 100 = .ok (.iload_n 3, 1) := by decide +kernel
theorem dX12_rule_101 : decode cX12_rule 101 = .ok (.lload_n 1, 1) := by decide +kernel
theorem dX12_rule_102 : decode cX12_rule 102 = .ok (.lastore, 1) := by decide +kernel
theorem dX12_rule_103 : decode cX12_rule 103 = .ok (.aload_n 0, 1) := by decide +kernel
theorem dX12_rule_104 : decode cX12_rule 104 = .ok (.getfield 127, 3) := by decide +kernel
theorem dX12_rule_107 : decode cX12_rule 107 = .ok (.iload_n 3, 1) := by decide +kernel
theorem dX12_rule_108 : decode cX12_rule 108 = .ok (.ldc2_w 295, 3) := by decide +kernel
theorem dX12_rule_111 : decode cX12_rule 111 = .ok (.lastore, 1) := by decide +kernel
theorem dX12_rule_112 : decode cX12_rule 112 = .ok (.aload_n 0, 1) := by decide +kernel
theorem dX12_rule_113 : decode cX12_rule 113 = .ok (.invokevirtual 420, 3) := by decide +kernel
theorem dX12_rule_116 : decode cX12_rule 116 = .ok (.aload_n 0, 1) := by decide +kernel
theorem dX12_rule_117 : decode cX12_rule 117 = .ok (.iconst 0, 1) := by decide +kernel
theorem dX12_rule_118 : decode cX12_rule 118 = .ok (.invokevirtual 437, 3) := by decide +kernel
theorem dX12_rule_121 : decode cX12_rule 121 = .ok (.ifCond .eq 40, 3) := by decide +kernel
theorem dX12_rule_124 : decode cX12_rule 124 = .ok (.aload_n 0, 1) := by decide +kernel
theorem dX12_rule_125 : decode cX12_rule 125 = .ok (.invokevirtual 420, 3) := by decide +kernel
theorem dX12_rule_128 : decode cX12_rule 128 = .ok (.aload_n 0, 1) := by decide +kernel
theorem dX12_rule_129 : decode cX12_rule 129 = .ok (.getfield 127, 3) := by decide +kernel
theorem dX12_rule_132 : decode cX12_rule 132 = .ok (.iload_n 3, 1) := by decide +kernel
theorem dX12_rule_133 : decode cX12_rule 133 = .ok (.aload_n 0, 1) := by decide +kernel
theorem dX12_rule_134 : decode cX12_rule 134 = .ok (.invokevirtual 448, 3) := by decide +kernel
theorem dX12_rule_137 : decode cX12_rule 137 = .ok (.lastore, 1) := by decide +kernel
theorem dX12_rule_138 : decode cX12_rule 138 = .ok (.aload_n 0, 1) := by decide +kernel
theorem dX12_rule_139 : decode cX12_rule 139 = .ok (.getfield 127, 3) := by decide +kernel
theorem dX12_rule_142 : decode cX12_rule 142 = .ok (.iload_n 3, 1) := by decide +kernel
theorem dX12_rule_143 : decode cX12_rule 143 = .ok (.laload, 1) := by decide +kernel
theorem dX12_rule_144 : decode cX12_rule 144 = .ok (.ldc2_w 295, 3) := by decide +kernel
theorem dX12_rule_147 : decode cX12_rule 147 = .ok (.lcmp, 1) := by decide +kernel
theorem dX12_rule_148 : decode cX12_rule 148 = .ok (.ifCond .ne 9, 3) := by decide +kernel
theorem dX12_rule_151 : decode cX12_rule 151 = .ok (.aload_n 0, 1) := by decide +kernel
theorem dX12_rule_152 : decode cX12_rule 152 = .ok (.iconst 2, 1) := by decide +kernel
theorem dX12_rule_153 : decode cX12_rule 153 = .ok (.invokevirtual 417, 3) := by decide +kernel
theorem dX12_rule_156 : decode cX12_rule 156 = .ok (.ireturn, 1) := by decide +kernel
theorem dX12_rule_157 : decode cX12_rule 157 = .ok (.aload_n 0, 1) := by decide +kernel
theorem dX12_rule_158 : decode cX12_rule 158 = .ok (.invokevirtual 420, 3) := by decide +kernel
theorem dX12_rule_161 : decode cX12_rule 161 = .ok (.aload_n 0, 1) := by decide +kernel
theorem dX12_rule_162 : decode cX12_rule 162 = .ok (.bipush 58, 2) := by decide +kernel
theorem dX12_rule_164 : decode cX12_rule 164 = .ok (.invokevirtual 431, 3) := by decide +kernel
theorem dX12_rule_167 : decode cX12_rule 167 = .ok (.ifCond .ne 5, 3) := by decide +kernel
theorem dX12_rule_170 : decode cX12_rule 170 = .ok (.iconst 0, 1) := by decide +kernel
theorem dX12_rule_171 : decode cX12_rule 171 = .ok (.ireturn, 1) := by decide +kernel
theorem dX12_rule_172 : decode cX12_rule 172 = .ok (.aload_n 0, 1) := by decide +kernel
theorem dX12_rule_173 : decode cX12_rule 173 = .ok (.getfield 103, 3) := by decide +kernel
theorem dX12_rule_176 : decode cX12_rule 176 = .ok (.iload_n 3, 1) := by decide +kernel
theorem dX12_rule_177 : decode cX12_rule 177 = .ok (.aload_n 0, 1) := by decide +kernel
theorem dX12_rule_178 : decode cX12_rule 178 = .ok (.ldc_w 405, 3) := by decide +kernel
theorem dX12_rule_181 : decode cX12_rule 181 = .ok (.invokevirtual 407, 3) := by decide +kernel
theorem dX12_rule_184 : decode cX12_rule 184 = .ok (.iastore, 1) := by decide +kernel
theorem dX12_rule_185 : decode cX12_rule 185 = .ok (.aload_n 0, 1) := by decide +kernel
theorem dX12_rule_186 : decode cX12_rule 186 = .ok (.getfield 103, 3) := by decide +kernel
theorem dX12_rule_189 : decode cX12_rule 189 = .ok (.iload_n 3, 1) := by decide +kernel
theorem dX12_rule_190 : decode cX12_rule 190 = .ok (.iaload, 1) := by decide +kernel
theorem dX12_rule_191 : decode cX12_rule 191 = .ok (.iconst 1, 1) := by decide +kernel
theorem dX12_rule_192 : decode cX12_rule 192 = .ok (.if_icmp .lt 13, 3) := by decide +kernel
theorem dX12_rule_195 : decode cX12_rule 195 = .ok (.aload_n 0, 1) := by decide +kernel
theorem dX12_rule_196 : decode cX12_rule 196 = .ok (.getfield 103, 3) := by decide +kernel
theorem dX12_rule_199 : decode cX12_rule 199 = .ok (.iload_n 3, 1) := by decide +kernel
theorem dX12_rule_200 : decode cX12_rule 200 = .ok (.iaload, 1) := by decide +kernel
theorem dX12_rule_201 : decode cX12_rule 201 = .ok (.iconst 5, 1) := by decide +kernel
theorem dX12_rule_202 : decode cX12_rule 202 = .ok (.if_icmp .le 9, 3) := by decide +kernel
theorem dX12_rule_205 : decode cX12_rule 205 = .ok (.aload_n 0, 1) := by decide +kernel
theorem dX12_rule_206 : decode cX12_rule 206 = .ok (.iconst 2, 1) := by decide +kernel
theorem dX12_rule_207 : decode cX12_rule 207 = .ok (.invokevirtual 417, 3) := by decide +kernel
theorem dX12_rule_210 : decode cX12_rule 210 = .ok (.ireturn, 1) := by decide +kernel
theorem dX12_rule_211 : decode cX12_rule 211 = .ok (.aload_n 0, 1) := by decide +kernel
theorem dX12_rule_212 : decode cX12_rule 212 = .ok (.invokevirtual 420, 3) := by decide +kernel
theorem dX12_rule_215 : decode cX12_rule 215 = .ok (.aload_n 0, 1) := by decide +kernel
theorem dX12_rule_216 : decode cX12_rule 216 = .ok (.getfield 103, 3) := by decide +kernel
theorem dX12_rule_219 : decode cX12_rule 219 = .ok (.iload_n 3, 1) := by decide +kernel
theorem dX12_rule_220 : decode cX12_rule 220 = .ok (.iaload, 1) := by decide +kernel
theorem dX12_rule_221 : decode cX12_rule 221 = .ok (.iconst 3, 1) := by decide +kernel
theorem dX12_rule_222 : decode cX12_rule 222 = .ok (.if_icmp .ne 14, 3) := by decide +kernel
theorem dX12_rule_225 : decode cX12_rule 225 = .ok (.aload_n 0, 1) := by decide +kernel
theorem dX12_rule_226 : decode cX12_rule 226 = .ok (.iload_n 3, 1) := by decide +kernel
theorem dX12_rule_227 : decode cX12_rule 227 = .ok (.iconst 1, 1) := by decide +kernel
theorem dX12_rule_228 : decode cX12_rule 228 = .ok (.bipush 40, 2) := by decide +kernel
theorem dX12_rule_230 : decode cX12_rule 230 = .ok (.invokevirtual 455, 3) := by decide +kernel
theorem dX12_rule_233 : decode cX12_rule 233 = .ok (.goto 50, 3) := by decide +kernel
theorem dX12_rule_236 : decode cX12_rule 236 = .ok (.aload_n 0, 1) := by decide +kernel
theorem dX12_rule_237 : decode cX12_rule 237 = .ok (.getfield 103, 3) := by decide +kernel
theorem dX12_rule_240 : decode cX12_rule 240 = .ok (.iload_n 3, 1) := by decide +kernel
theorem dX12_rule_241 : decode cX12_rule 241 = .ok (.iaload, 1) := by decide +kernel
theorem dX12_rule_242 : decode cX12_rule 242 = .ok (.iconst 4, 1) := by decide +kernel
theorem dX12_rule_243 : decode cX12_rule 243 = .ok (.if_icmp .ne 14, 3) := by decide +kernel
theorem dX12_rule_246 : decode cX12_rule 246 = .ok (.aload_n 0, 1) := by decide +kernel
theorem dX12_rule_247 : decode cX12_rule 247 = .ok (.iload_n 3, 1) := by decide +kernel
theorem dX12_rule_248 : decode cX12_rule 248 = .ok (.iconst 0, 1) := by decide +kernel
theorem dX12_rule_249 : decode cX12_rule 249 = .ok (.bipush 40, 2) := by decide +kernel
theorem dX12_rule_251 : decode cX12_rule 251 = .ok (.invokevirtual 455, 3) := by decide +kernel
theorem dX12_rule_254 : decode cX12_rule 254 = .ok (.goto 29, 3) := by decide +kernel
theorem dX12_rule_257 : decode cX12_rule 257 = .ok (.aload_n 0, 1) := by decide +kernel
theorem dX12_rule_258 : decode cX12_rule 258 = .ok (.getfield 103, 3) := by decide +kernel
theorem dX12_rule_261 : decode cX12_rule 261 = .ok (.iload_n 3, 1) := by decide +kernel
theorem dX12_rule_262 : decode cX12_rule 262 = .ok (.iaload, 1) := by decide +kernel
theorem dX12_rule_263 : decode cX12_rule 263 = .ok (.iconst 5, 1) := by decide +kernel
theorem dX12_rule_264 : decode cX12_rule 264 = .ok (.if_icmp .ne 14, 3) := by decide +kernel
theorem dX12_rule_267 : decode cX12_rule 267 = .ok (.aload_n 0, 1) := by decide +kernel
theorem dX12_rule_268 : decode cX12_rule 268 = .ok (.iload_n 3, 1) := by decide +kernel
theorem dX12_rule_269 : decode cX12_rule 269 = .ok (.iconst 1, 1) := by decide +kernel
theorem dX12_rule_270 : decode cX12_rule 270 = .ok (.bipush 100, 2) := by decide +kernel
theorem dX12_rule_272 : decode cX12_rule 272 = .ok (.invokevirtual 455, 3) := by decide +kernel
theorem dX12_rule_275 : decode cX12_rule 275 = .ok (.goto 8, 3) := by decide +kernel
theorem dX12_rule_278 : decode cX12_rule 278 = .ok (.aload_n 0, 1) := by decide +kernel
theorem dX12_rule_279 : decode cX12_rule 279 = .ok (.iload_n 3, 1) := by decide +kernel
theorem dX12_rule_280 : decode cX12_rule 280 = .ok (.invokevirtual 459, 3) := by decide +kernel
theorem dX12_rule_283 : decode cX12_rule 283 = .ok (.istore 4, 2) := by decide +kernel
theorem dX12_rule_285 : decode cX12_rule 285 = .ok (.iload 4, 2) := by decide +kernel
theorem dX12_rule_287 : decode cX12_rule 287 = .ok (.ifCond .ne 5, 3) := by decide +kernel
theorem dX12_rule_290 : decode cX12_rule 290 = .ok (.iconst 0, 1) := by decide +kernel
theorem dX12_rule_291 : decode cX12_rule 291 = .ok (.ireturn, 1) := by decide +kernel
theorem dX12_rule_292 : decode cX12_rule 292 = .ok (.aload_n 0, 1) := by decide +kernel
theorem dX12_rule_293 : decode cX12_rule 293 = .ok (.getfield 100, 3) := by decide +kernel
theorem dX12_rule_296 : decode cX12_rule 296 = .ok (.aload_n 0, 1) := by decide +kernel
theorem dX12_rule_297 : decode cX12_rule 297 = .ok (.getfield 452, 3) := by decide +kernel
theorem dX12_rule_300 : decode cX12_rule 300 = .ok (.dup2, 1) := by decide +kernel
theorem dX12_rule_301 : decode cX12_rule 301 = .ok (.iaload, 1) := by decide +kernel
theorem dX12_rule_302 : decode cX12_rule 302 = .ok (.iconst 1, 1) := by decide +kernel
theorem dX12_rule_303 : decode cX12_rule 303 = .ok (.iadd, 1) := by decide +kernel
theorem dX12_rule_304 : decode cX12_rule 304 = .ok (.iastore, 1) := by decide +kernel
theorem dX12_rule_305 : decode cX12_rule 305 = .ok (.aload_n 0, 1) := by decide +kernel
theorem dX12_rule_306 : decode cX12_rule 306 = .ok (.bipush 59, 2) := by decide +kernel
theorem dX12_rule_308 : decode cX12_rule 308 = .ok (.invokevirtual 431, 3) := by decide +kernel
theorem dX12_rule_311 : decode cX12_rule 311 = .ok (.ireturn, 1) := by decide +kernel
noncomputable def X12_rule_b66 (a1 : Int64) (a3 : Int32) (w : Wd) (s : Int32) : Option (Int32 ⊕ (Unit ⊕ Unit)) :=
(if a3 ≤ s then
some (.inr (.inr ()))
else
gd (vp_in s 120) <|
(if (lg_cmp (w.2 132 (ix s)) a1) = 0 then
some (.inr (.inl ()))
else
some (.inl (s + (1 : Int32)))))
set_option maxRecDepth 20000 in
set_option maxHeartbeats 1000000 in
theorem t_X12_rule_b66 {κ : Kx} (a1 : Int64) (a3 : Int32) (w : Wd) {P : (Unit ⊕ Unit) → Prop} (K0 : ∀ e, P (.inl e) → J κ RX12 cX12_rule 5 (some .boolean) (rmk 9 199) 84 [(0, .ref (ad (gm κ) 97))] [] w) (K1 : ∀ e, P (.inr e) → J κ RX12 cX12_rule 5 (some .boolean) (rmk 9 199) 96 [(0, .ref (ad (gm κ) 97)), (1, .long a1), (3, .int a3)] [] w) (s : Int32) (h : ok (lp (X12_rule_b66  a1 a3 w) s) P) : J κ RX12 cX12_rule 5 (some .boolean) (rmk 9 199) 66 [(0, .ref (ad (gm κ) 97)), (1, .long a1), (3, .int a3), (4, .int s)] [] w := by
  refine lp_ind (fun s => J κ RX12 cX12_rule 5 (some .boolean) (rmk 9 199) 66 [(0, .ref (ad (gm κ) 97)), (1, .long a1), (3, .int a3), (4, .int s)] [] w) (fun s h => ?_) s h
  unfold X12_rule_b66 at h
  refine j_iload 3 dX12_rule_66 rfl ?_
  refine j_iload_n 2 dX12_rule_68 rfl rfl ?_
  refine j_ic_ge 96 dX12_rule_69 (by decide) h (fun h => ?_) (fun h => ?_)
  · refine j_loc [(0, .ref (ad (gm κ) 97)), (1, .long a1), (3, .int a3)] [0, 1, 2] rfl ?_
    have h := sel_r h
    have h := K1 _ h
    exact h
  · refine j_aload_n 0 dX12_rule_72 rfl rfl ?_
    refine j_getA 132 fl_RX12_124 sh_97 fk_97_55 (by decide) dX12_rule_73 ?_
    refine j_iload 3 dX12_rule_76 rfl ?_
    refine j_lald sh_132 dX12_rule_78 h (fun h => ?_)
    refine j_lload_n 1 dX12_rule_79 rfl rfl ?_
    refine j_lcmp dX12_rule_80 ?_
    refine j_if_ne 90 dX12_rule_81 (by decide) h (fun h => ?_) (fun h => ?_)
    · refine j_iinc (s + (1 : Int32)) 3 [(4, .int (s + (1 : Int32))), (0, .ref (ad (gm κ) 97)), (1, .long a1), (3, .int a3)] dX12_rule_90 rfl (by rw [kn_1]) (by decide) rfl ?_
      refine j_goto 66 dX12_rule_93 (by decide) ?_
      refine j_loc [(0, .ref (ad (gm κ) 97)), (1, .long a1), (3, .int a3), (4, .int (s + (1 : Int32)))] [1, 2, 3, 0] rfl ?_
      have h := sel_l h
      exact h
    · refine j_loc [(0, .ref (ad (gm κ) 97))] [0] rfl ?_
      have h := sel_r h
      have h := K0 _ h
      exact h
noncomputable def X12_rule_j205 (w : Wd) : Option (Int32 × Wd) :=
(X12_fails (2 : Int32) w).bind fun q21 =>
gd (narrow .boolean (.int q21.1) = .int q21.1) <|
some (q21.1, q21.2)
set_option maxRecDepth 20000 in
set_option maxHeartbeats 1000000 in
theorem t_X12_rule_j205 {κ : Kx} (w : Wd) (h : ok (X12_rule_j205  w) (PIw κ)) : J κ RX12 cX12_rule 5 (some .boolean) (rmk 9 199) 205 [(0, .ref (ad (gm κ) 97))] [] w := by
  unfold X12_rule_j205 at h
  refine j_aload_n 0 dX12_rule_205 rfl rfl ?_
  refine j_iconst (2 : Int32) dX12_rule_206 ki_2 ?_
  obtain ⟨q21, e22, h⟩ := ok_b h
  refine j_callV (As := [.int (2 : Int32)]) (st := []) [.int q21.1] (c_X12_fails (kl κ) (gm κ) (kA κ) (2 : Int32) w q21 e22) ck_RX12_417 im_X12_fails se_X12_fails sh_97 cx_12 ⟨rfl, rfl⟩ ⟨by decide, by decide⟩ rfl rfl (Nat.le_of_ble_eq_true rfl) dX12_rule_207 _ rfl ?_
  obtain ⟨hz, h⟩ := ok_g h
  have h := ok_s h
  exact j_iret dX12_rule_210 rfl hz h
noncomputable def X12_rule_j283 (s0 : Int32) (w : Wd) : Option (Int32 × Wd) :=
(if s0 = 0 then
some ((0 : Int32), w)
else
gd (vp_in (w.1 97 42) 6) <|
gd (vp_in (w.1 97 42) 6) <|
(some (puI w 124 (ix (w.1 97 42)) ((w.1 124 (ix (w.1 97 42))) + (1 : Int32)))).bind fun w27 =>
(X12_want (59 : Int32) w27).bind fun q28 =>
gd (narrow .boolean (.int q28.1) = .int q28.1) <|
some (q28.1, q28.2))
set_option maxRecDepth 20000 in
set_option maxHeartbeats 1000000 in
theorem t_X12_rule_j283 {κ : Kx} (s0 : Int32) (w : Wd) (h : ok (X12_rule_j283  s0 w) (PIw κ)) : J κ RX12 cX12_rule 5 (some .boolean) (rmk 9 199) 283 [(0, .ref (ad (gm κ) 97))] [.int s0] w := by
  unfold X12_rule_j283 at h
  refine j_istore [(4, .int s0), (0, .ref (ad (gm κ) 97))] dX12_rule_283 (by decide) rfl ?_
  refine j_iload 0 dX12_rule_285 rfl ?_
  refine j_if_ne 292 dX12_rule_287 (by decide) h (fun h => ?_) (fun h => ?_)
  · refine j_aload_n 1 dX12_rule_292 rfl rfl ?_
    refine j_getA 124 fl_RX12_100 sh_97 fk_97_47 (by decide) dX12_rule_293 ?_
    refine j_aload_n 1 dX12_rule_296 rfl rfl ?_
    refine j_getI fl_RX12_452 sh_97 fk_97_42 dX12_rule_297 ?_
    refine j_dup2 dX12_rule_300 rfl rfl ?_
    refine j_iald sh_124 dX12_rule_301 h (fun h => ?_)
    refine j_iconst (1 : Int32) dX12_rule_302 ki_1 ?_
    refine j_iadd dX12_rule_303 ?_
    refine j_iast sh_124 dX12_rule_304 h (fun h => ?_)
    refine j_lW h (fun w27 h => ?_)
    refine j_aload_n 1 dX12_rule_305 rfl rfl ?_
    refine j_bipush (59 : Int32) dX12_rule_306 kb_59 ?_
    obtain ⟨q28, e29, h⟩ := ok_b h
    refine j_callV (As := [.int (59 : Int32)]) (st := []) [.int q28.1] (c_X12_want (kl κ) (gm κ) (kA κ) (59 : Int32) w27 q28 e29) ck_RX12_431 im_X12_want se_X12_want sh_97 cx_12 ⟨rfl, rfl⟩ ⟨by decide, by decide⟩ rfl rfl (Nat.le_of_ble_eq_true rfl) dX12_rule_308 _ rfl ?_
    obtain ⟨hz, h⟩ := ok_g h
    have h := ok_s h
    exact j_iret dX12_rule_311 rfl hz h
  · refine j_iconst (0 : Int32) dX12_rule_290 ki_0 ?_
    have h := ok_s h
    exact j_iret dX12_rule_291 rfl (by decide) h
noncomputable def X12_rule_j161 (a3 : Int32) (w : Wd) : Option (Int32 × Wd) :=
(X12_want (58 : Int32) w).bind fun q16 =>
(if q16.1 = 0 then
some ((0 : Int32), q16.2)
else
(X12_inWords 2 q16.2).bind fun q18 =>
gd (vp_in a3 120) <|
(some (puI q16.2 125 (ix a3) q18)).bind fun w20 =>
gd (vp_in a3 120) <|
(if (w20.1 125 (ix a3)) < (1 : Int32) then
X12_rule_j205 w20
else
gd (vp_in a3 120) <|
(if (w20.1 125 (ix a3)) ≤ (5 : Int32) then
(X12_next w20).bind fun q23 =>
gd (vp_in a3 120) <|
(if (q23.1 125 (ix a3)) = (3 : Int32) then
(X12_numberIn a3 (1 : Int32) (40 : Int32) q23).bind fun q34 =>
X12_rule_j283 q34.1 q34.2
else
gd (vp_in a3 120) <|
(if (q23.1 125 (ix a3)) = (4 : Int32) then
(X12_numberIn a3 (0 : Int32) (40 : Int32) q23).bind fun q32 =>
X12_rule_j283 q32.1 q32.2
else
gd (vp_in a3 120) <|
(if (q23.1 125 (ix a3)) = (5 : Int32) then
(X12_numberIn a3 (1 : Int32) (100 : Int32) q23).bind fun q30 =>
X12_rule_j283 q30.1 q30.2
else
(X12_says a3 q23).bind fun q25 =>
X12_rule_j283 q25.1 q25.2)))
else
X12_rule_j205 w20)))
set_option maxRecDepth 20000 in
set_option maxHeartbeats 1000000 in
theorem t_X12_rule_j161 {κ : Kx} (a3 : Int32) (w : Wd) (h : ok (X12_rule_j161  a3 w) (PIw κ)) : J κ RX12 cX12_rule 5 (some .boolean) (rmk 9 199) 161 [(0, .ref (ad (gm κ) 97)), (3, .int a3)] [] w := by
  unfold X12_rule_j161 at h
  refine j_aload_n 0 dX12_rule_161 rfl rfl ?_
  refine j_bipush (58 : Int32) dX12_rule_162 kb_58 ?_
  obtain ⟨q16, e17, h⟩ := ok_b h
  refine j_callV (As := [.int (58 : Int32)]) (st := []) [.int q16.1] (c_X12_want (kl κ) (gm κ) (kA κ) (58 : Int32) w q16 e17) ck_RX12_431 im_X12_want se_X12_want sh_97 cx_12 ⟨rfl, rfl⟩ ⟨by decide, by decide⟩ rfl rfl (Nat.le_of_ble_eq_true rfl) dX12_rule_164 _ rfl ?_
  refine j_if_ne 172 dX12_rule_167 (by decide) h (fun h => ?_) (fun h => ?_)
  · refine j_aload_n 0 dX12_rule_172 rfl rfl ?_
    refine j_getA 125 fl_RX12_103 sh_97 fk_97_48 (by decide) dX12_rule_173 ?_
    refine j_iload_n 1 dX12_rule_176 rfl rfl ?_
    refine j_aload_n 0 dX12_rule_177 rfl rfl ?_
    refine j_ldcSw (i := 2) rfl rfl rfl dX12_rule_178 ?_
    obtain ⟨q18, e19, h⟩ := ok_b h
    refine j_callV (As := [.ref (sK (gm κ) 2)]) (st := [.int a3, .ref (ad (gm κ) 125)]) [.int q18, .int a3, .ref (ad (gm κ) 125)] (c_X12_inWords (kl κ) (gm κ) (kA κ) 2 (by decide) q16.2 q18 e19) ck_RX12_407 im_X12_inWords se_X12_inWords sh_97 cx_12 ⟨rfl, rfl⟩ ⟨by decide, by decide⟩ rfl rfl (Nat.le_of_ble_eq_true rfl) dX12_rule_181 _ rfl ?_
    refine j_iast sh_125 dX12_rule_184 h (fun h => ?_)
    refine j_lW h (fun w20 h => ?_)
    refine j_aload_n 0 dX12_rule_185 rfl rfl ?_
    refine j_getA 125 fl_RX12_103 sh_97 fk_97_48 (by decide) dX12_rule_186 ?_
    refine j_iload_n 1 dX12_rule_189 rfl rfl ?_
    refine j_iald sh_125 dX12_rule_190 h (fun h => ?_)
    refine j_iconst (1 : Int32) dX12_rule_191 ki_1 ?_
    refine j_ic_lt 205 dX12_rule_192 (by decide) h (fun h => ?_) (fun h => ?_)
    · refine j_loc [(0, .ref (ad (gm κ) 97))] [0] rfl ?_
      exact t_X12_rule_j205 w20 h
    · refine j_aload_n 0 dX12_rule_195 rfl rfl ?_
      refine j_getA 125 fl_RX12_103 sh_97 fk_97_48 (by decide) dX12_rule_196 ?_
      refine j_iload_n 1 dX12_rule_199 rfl rfl ?_
      refine j_iald sh_125 dX12_rule_200 h (fun h => ?_)
      refine j_iconst (5 : Int32) dX12_rule_201 ki_5 ?_
      refine j_ic_le 211 dX12_rule_202 (by decide) h (fun h => ?_) (fun h => ?_)
      · refine j_aload_n 0 dX12_rule_211 rfl rfl ?_
        obtain ⟨q23, e24, h⟩ := ok_b h
        refine j_callV (As := []) (st := []) [] (c_X12_next (kl κ) (gm κ) (kA κ) w20 q23 e24) ck_RX12_420 im_X12_next se_X12_next sh_97 cx_12 ⟨rfl, rfl⟩ ⟨by decide, by decide⟩ rfl rfl (Nat.le_of_ble_eq_true rfl) dX12_rule_212 _ rfl ?_
        refine j_aload_n 0 dX12_rule_215 rfl rfl ?_
        refine j_getA 125 fl_RX12_103 sh_97 fk_97_48 (by decide) dX12_rule_216 ?_
        refine j_iload_n 1 dX12_rule_219 rfl rfl ?_
        refine j_iald sh_125 dX12_rule_220 h (fun h => ?_)
        refine j_iconst (3 : Int32) dX12_rule_221 ki_3 ?_
        refine j_ic_ne 236 dX12_rule_222 (by decide) h (fun h => ?_) (fun h => ?_)
        · refine j_aload_n 0 dX12_rule_236 rfl rfl ?_
          refine j_getA 125 fl_RX12_103 sh_97 fk_97_48 (by decide) dX12_rule_237 ?_
          refine j_iload_n 1 dX12_rule_240 rfl rfl ?_
          refine j_iald sh_125 dX12_rule_241 h (fun h => ?_)
          refine j_iconst (4 : Int32) dX12_rule_242 ki_4 ?_
          refine j_ic_ne 257 dX12_rule_243 (by decide) h (fun h => ?_) (fun h => ?_)
          · refine j_aload_n 0 dX12_rule_257 rfl rfl ?_
            refine j_getA 125 fl_RX12_103 sh_97 fk_97_48 (by decide) dX12_rule_258 ?_
            refine j_iload_n 1 dX12_rule_261 rfl rfl ?_
            refine j_iald sh_125 dX12_rule_262 h (fun h => ?_)
            refine j_iconst (5 : Int32) dX12_rule_263 ki_5 ?_
            refine j_ic_ne 278 dX12_rule_264 (by decide) h (fun h => ?_) (fun h => ?_)
            · refine j_aload_n 0 dX12_rule_278 rfl rfl ?_
              refine j_iload_n 1 dX12_rule_279 rfl rfl ?_
              obtain ⟨q25, e26, h⟩ := ok_b h
              refine j_callV (As := [.int a3]) (st := []) [.int q25.1] (c_X12_says (kl κ) (gm κ) (kA κ) a3 q23 q25 e26) ck_RX12_459 im_X12_says se_X12_says sh_97 cx_12 ⟨rfl, rfl⟩ ⟨by decide, by decide⟩ rfl rfl (Nat.le_of_ble_eq_true rfl) dX12_rule_280 _ rfl ?_
              refine j_loc [(0, .ref (ad (gm κ) 97))] [0] rfl ?_
              exact t_X12_rule_j283 q25.1 q25.2 h
            · refine j_aload_n 0 dX12_rule_267 rfl rfl ?_
              refine j_iload_n 1 dX12_rule_268 rfl rfl ?_
              refine j_iconst (1 : Int32) dX12_rule_269 ki_1 ?_
              refine j_bipush (100 : Int32) dX12_rule_270 kb_100 ?_
              obtain ⟨q30, e31, h⟩ := ok_b h
              refine j_callV (As := [.int a3, .int (1 : Int32), .int (100 : Int32)]) (st := []) [.int q30.1] (c_X12_numberIn (kl κ) (gm κ) (kA κ) a3 (1 : Int32) (100 : Int32) q23 q30 e31) ck_RX12_455 im_X12_numberIn se_X12_numberIn sh_97 cx_12 ⟨rfl, rfl⟩ ⟨by decide, by decide⟩ rfl rfl (Nat.le_of_ble_eq_true rfl) dX12_rule_272 _ rfl ?_
              refine j_goto 283 dX12_rule_275 (by decide) ?_
              refine j_loc [(0, .ref (ad (gm κ) 97))] [0] rfl ?_
              exact t_X12_rule_j283 q30.1 q30.2 h
          · refine j_aload_n 0 dX12_rule_246 rfl rfl ?_
            refine j_iload_n 1 dX12_rule_247 rfl rfl ?_
            refine j_iconst (0 : Int32) dX12_rule_248 ki_0 ?_
            refine j_bipush (40 : Int32) dX12_rule_249 kb_40 ?_
            obtain ⟨q32, e33, h⟩ := ok_b h
            refine j_callV (As := [.int a3, .int (0 : Int32), .int (40 : Int32)]) (st := []) [.int q32.1] (c_X12_numberIn (kl κ) (gm κ) (kA κ) a3 (0 : Int32) (40 : Int32) q23 q32 e33) ck_RX12_455 im_X12_numberIn se_X12_numberIn sh_97 cx_12 ⟨rfl, rfl⟩ ⟨by decide, by decide⟩ rfl rfl (Nat.le_of_ble_eq_true rfl) dX12_rule_251 _ rfl ?_
            refine j_goto 283 dX12_rule_254 (by decide) ?_
            refine j_loc [(0, .ref (ad (gm κ) 97))] [0] rfl ?_
            exact t_X12_rule_j283 q32.1 q32.2 h
        · refine j_aload_n 0 dX12_rule_225 rfl rfl ?_
          refine j_iload_n 1 dX12_rule_226 rfl rfl ?_
          refine j_iconst (1 : Int32) dX12_rule_227 ki_1 ?_
          refine j_bipush (40 : Int32) dX12_rule_228 kb_40 ?_
          obtain ⟨q34, e35, h⟩ := ok_b h
          refine j_callV (As := [.int a3, .int (1 : Int32), .int (40 : Int32)]) (st := []) [.int q34.1] (c_X12_numberIn (kl κ) (gm κ) (kA κ) a3 (1 : Int32) (40 : Int32) q23 q34 e35) ck_RX12_455 im_X12_numberIn se_X12_numberIn sh_97 cx_12 ⟨rfl, rfl⟩ ⟨by decide, by decide⟩ rfl rfl (Nat.le_of_ble_eq_true rfl) dX12_rule_230 _ rfl ?_
          refine j_goto 283 dX12_rule_233 (by decide) ?_
          refine j_loc [(0, .ref (ad (gm κ) 97))] [0] rfl ?_
          exact t_X12_rule_j283 q34.1 q34.2 h
      · refine j_loc [(0, .ref (ad (gm κ) 97))] [0] rfl ?_
        exact t_X12_rule_j205 w20 h
  · refine j_iconst (0 : Int32) dX12_rule_170 ki_0 ?_
    have h := ok_s h
    exact j_iret dX12_rule_171 rfl (by decide) h
noncomputable def X12_rule (w : Wd) : Option (Int32 × Wd) :=
(X12_labelHere w).bind fun q1 =>
(if (lg_cmp q1 (-1 : Int64)) = 0 then
(X12_fails (2 : Int32) w).bind fun q47 =>
gd (narrow .boolean (.int q47.1) = .int q47.1) <|
some (q47.1, q47.2)
else
gd (vp_in (w.1 97 42) 6) <|
(if (w.1 124 (ix (w.1 97 42))) = (20 : Int32) then
(X12_fails (3 : Int32) w).bind fun q45 =>
gd (narrow .boolean (.int q45.1) = .int q45.1) <|
some (q45.1, q45.2)
else
gd (vp_in (w.1 97 42) 6) <|
(some (((20 : Int32) * (w.1 97 42)) + (w.1 124 (ix (w.1 97 42))))).bind fun z3 =>
(some ((20 : Int32) * (w.1 97 42))).bind fun z4 =>
(lp (X12_rule_b66 q1 z3 w) z4).bind fun e5 => match e5 with
| (.inl e6) => ((X12_fails (4 : Int32) w).bind fun q7 =>
gd (narrow .boolean (.int q7.1) = .int q7.1) <|
some (q7.1, q7.2))
| (.inr e9) => (gd (vp_in z3 120) <|
(some (puJ w 132 (ix z3) q1)).bind fun w10 =>
gd (vp_in z3 120) <|
(some (puJ w10 133 (ix z3) (-1 : Int64))).bind fun w11 =>
(X12_next w11).bind fun q12 =>
(X12_isKey (0 : Int32) q12).bind fun q14 =>
(if q14 = 0 then
X12_rule_j161 z3 q12
else
(X12_next q12).bind fun q36 =>
(X12_labelHere q36).bind fun q38 =>
gd (vp_in z3 120) <|
(some (puJ q36 133 (ix z3) q38)).bind fun w40 =>
gd (vp_in z3 120) <|
(if (lg_cmp (w40.2 133 (ix z3)) (-1 : Int64)) = 0 then
(X12_fails (2 : Int32) w40).bind fun q43 =>
gd (narrow .boolean (.int q43.1) = .int q43.1) <|
some (q43.1, q43.2)
else
(X12_next w40).bind fun q41 =>
X12_rule_j161 z3 q41)))))
set_option maxRecDepth 20000 in
set_option maxHeartbeats 1000000 in
theorem t_X12_rule {κ : Kx} (w : Wd) (h : ok (X12_rule   w) (PIw κ)) : J κ RX12 cX12_rule 5 (some .boolean) (rmk 9 199) 0 [(0, .ref (ad (gm κ) 97))] [] w := by
  unfold X12_rule at h
  refine j_aload_n 0 dX12_rule_0 rfl rfl ?_
  obtain ⟨q1, e2, h⟩ := ok_b h
  refine j_callV (As := []) (st := []) [.long q1] (c_X12_labelHere (kl κ) (gm κ) (kA κ) w q1 e2) ck_RX12_448 im_X12_labelHere se_X12_labelHere sh_97 cx_12 ⟨rfl, rfl⟩ ⟨by decide, by decide⟩ rfl rfl (Nat.le_of_ble_eq_true rfl) dX12_rule_1 _ rfl ?_
  refine j_lstore_n [(1, .long q1), (0, .ref (ad (gm κ) 97))] dX12_rule_4 rfl (by decide) rfl ?_
  refine j_lload_n 0 dX12_rule_5 rfl rfl ?_
  refine j_ldc2 cl_RX12_295 dX12_rule_6 ?_
  refine j_lcmp dX12_rule_9 ?_
  refine j_if_ne 19 dX12_rule_10 (by decide) h (fun h => ?_) (fun h => ?_)
  · refine j_aload_n 1 dX12_rule_19 rfl rfl ?_
    refine j_getA 124 fl_RX12_100 sh_97 fk_97_47 (by decide) dX12_rule_20 ?_
    refine j_aload_n 1 dX12_rule_23 rfl rfl ?_
    refine j_getI fl_RX12_452 sh_97 fk_97_42 dX12_rule_24 ?_
    refine j_iald sh_124 dX12_rule_27 h (fun h => ?_)
    refine j_bipush (20 : Int32) dX12_rule_28 kb_20 ?_
    refine j_ic_ne 39 dX12_rule_30 (by decide) h (fun h => ?_) (fun h => ?_)
    · refine j_bipush (20 : Int32) dX12_rule_39 kb_20 ?_
      refine j_aload_n 1 dX12_rule_41 rfl rfl ?_
      refine j_getI fl_RX12_452 sh_97 fk_97_42 dX12_rule_42 ?_
      refine j_imul dX12_rule_45 ?_
      refine j_aload_n 1 dX12_rule_46 rfl rfl ?_
      refine j_getA 124 fl_RX12_100 sh_97 fk_97_47 (by decide) dX12_rule_47 ?_
      refine j_aload_n 1 dX12_rule_50 rfl rfl ?_
      refine j_getI fl_RX12_452 sh_97 fk_97_42 dX12_rule_51 ?_
      refine j_iald sh_124 dX12_rule_54 h (fun h => ?_)
      refine j_iadd dX12_rule_55 ?_
      refine j_lI h (fun z3 h => ?_)
      refine j_istore_n [(3, .int z3), (1, .long q1), (0, .ref (ad (gm κ) 97))] dX12_rule_56 rfl (by decide) rfl ?_
      refine j_bipush (20 : Int32) dX12_rule_57 kb_20 ?_
      refine j_aload_n 2 dX12_rule_59 rfl rfl ?_
      refine j_getI fl_RX12_452 sh_97 fk_97_42 dX12_rule_60 ?_
      refine j_imul dX12_rule_63 ?_
      refine j_lI h (fun z4 h => ?_)
      refine j_istore [(4, .int z4), (3, .int z3), (1, .long q1), (0, .ref (ad (gm κ) 97))] dX12_rule_64 (by decide) rfl ?_
      refine j_loc [(0, .ref (ad (gm κ) 97)), (1, .long q1), (3, .int z3), (4, .int z4)] [3, 2, 1, 0] rfl ?_
      refine t_X12_rule_b66 q1 z3 w (fun e6 h => ?_) (fun e9 h => ?_) z4 (ok_bb h)
      · refine j_aload_n 0 dX12_rule_84 rfl rfl ?_
        refine j_iconst (4 : Int32) dX12_rule_85 ki_4 ?_
        obtain ⟨q7, e8, h⟩ := ok_b h
        refine j_callV (As := [.int (4 : Int32)]) (st := []) [.int q7.1] (c_X12_fails (kl κ) (gm κ) (kA κ) (4 : Int32) w q7 e8) ck_RX12_417 im_X12_fails se_X12_fails sh_97 cx_12 ⟨rfl, rfl⟩ ⟨by decide, by decide⟩ rfl rfl (Nat.le_of_ble_eq_true rfl) dX12_rule_86 _ rfl ?_
        obtain ⟨hz, h⟩ := ok_g h
        have h := ok_s h
        exact j_iret dX12_rule_89 rfl hz h
      · refine j_aload_n 0 dX12_rule_96 rfl rfl ?_
        refine j_getA 132 fl_RX12_124 sh_97 fk_97_55 (by decide) dX12_rule_97 ?_
        refine j_iload_n 2 dX12_rule_100 rfl rfl ?_
        refine j_lload_n 1 dX12_rule_101 rfl rfl ?_
        refine j_last sh_132 dX12_rule_102 h (fun h => ?_)
        refine j_lW h (fun w10 h => ?_)
        refine j_aload_n 0 dX12_rule_103 rfl rfl ?_
        refine j_getA 133 fl_RX12_127 sh_97 fk_97_56 (by decide) dX12_rule_104 ?_
        refine j_iload_n 2 dX12_rule_107 rfl rfl ?_
        refine j_ldc2 cl_RX12_295 dX12_rule_108 ?_
        refine j_last sh_133 dX12_rule_111 h (fun h => ?_)
        refine j_lW h (fun w11 h => ?_)
        refine j_aload_n 0 dX12_rule_112 rfl rfl ?_
        obtain ⟨q12, e13, h⟩ := ok_b h
        refine j_callV (As := []) (st := []) [] (c_X12_next (kl κ) (gm κ) (kA κ) w11 q12 e13) ck_RX12_420 im_X12_next se_X12_next sh_97 cx_12 ⟨rfl, rfl⟩ ⟨by decide, by decide⟩ rfl rfl (Nat.le_of_ble_eq_true rfl) dX12_rule_113 _ rfl ?_
        refine j_aload_n 0 dX12_rule_116 rfl rfl ?_
        refine j_iconst (0 : Int32) dX12_rule_117 ki_0 ?_
        obtain ⟨q14, e15, h⟩ := ok_b h
        refine j_callV (As := [.int (0 : Int32)]) (st := []) [.int q14] (c_X12_isKey (kl κ) (gm κ) (kA κ) (0 : Int32) q12 q14 e15) ck_RX12_437 im_X12_isKey se_X12_isKey sh_97 cx_12 ⟨rfl, rfl⟩ ⟨by decide, by decide⟩ rfl rfl (Nat.le_of_ble_eq_true rfl) dX12_rule_118 _ rfl ?_
        refine j_if_eq 161 dX12_rule_121 (by decide) h (fun h => ?_) (fun h => ?_)
        · refine j_loc [(0, .ref (ad (gm κ) 97)), (3, .int z3)] [0, 2] rfl ?_
          exact t_X12_rule_j161 z3 q12 h
        · refine j_aload_n 0 dX12_rule_124 rfl rfl ?_
          obtain ⟨q36, e37, h⟩ := ok_b h
          refine j_callV (As := []) (st := []) [] (c_X12_next (kl κ) (gm κ) (kA κ) q12 q36 e37) ck_RX12_420 im_X12_next se_X12_next sh_97 cx_12 ⟨rfl, rfl⟩ ⟨by decide, by decide⟩ rfl rfl (Nat.le_of_ble_eq_true rfl) dX12_rule_125 _ rfl ?_
          refine j_aload_n 0 dX12_rule_128 rfl rfl ?_
          refine j_getA 133 fl_RX12_127 sh_97 fk_97_56 (by decide) dX12_rule_129 ?_
          refine j_iload_n 2 dX12_rule_132 rfl rfl ?_
          refine j_aload_n 0 dX12_rule_133 rfl rfl ?_
          obtain ⟨q38, e39, h⟩ := ok_b h
          refine j_callV (As := []) (st := [.int z3, .ref (ad (gm κ) 133)]) [.long q38, .int z3, .ref (ad (gm κ) 133)] (c_X12_labelHere (kl κ) (gm κ) (kA κ) q36 q38 e39) ck_RX12_448 im_X12_labelHere se_X12_labelHere sh_97 cx_12 ⟨rfl, rfl⟩ ⟨by decide, by decide⟩ rfl rfl (Nat.le_of_ble_eq_true rfl) dX12_rule_134 _ rfl ?_
          refine j_last sh_133 dX12_rule_137 h (fun h => ?_)
          refine j_lW h (fun w40 h => ?_)
          refine j_aload_n 0 dX12_rule_138 rfl rfl ?_
          refine j_getA 133 fl_RX12_127 sh_97 fk_97_56 (by decide) dX12_rule_139 ?_
          refine j_iload_n 2 dX12_rule_142 rfl rfl ?_
          refine j_lald sh_133 dX12_rule_143 h (fun h => ?_)
          refine j_ldc2 cl_RX12_295 dX12_rule_144 ?_
          refine j_lcmp dX12_rule_147 ?_
          refine j_if_ne 157 dX12_rule_148 (by decide) h (fun h => ?_) (fun h => ?_)
          · refine j_aload_n 0 dX12_rule_157 rfl rfl ?_
            obtain ⟨q41, e42, h⟩ := ok_b h
            refine j_callV (As := []) (st := []) [] (c_X12_next (kl κ) (gm κ) (kA κ) w40 q41 e42) ck_RX12_420 im_X12_next se_X12_next sh_97 cx_12 ⟨rfl, rfl⟩ ⟨by decide, by decide⟩ rfl rfl (Nat.le_of_ble_eq_true rfl) dX12_rule_158 _ rfl ?_
            refine j_loc [(0, .ref (ad (gm κ) 97)), (3, .int z3)] [0, 2] rfl ?_
            exact t_X12_rule_j161 z3 q41 h
          · refine j_aload_n 0 dX12_rule_151 rfl rfl ?_
            refine j_iconst (2 : Int32) dX12_rule_152 ki_2 ?_
            obtain ⟨q43, e44, h⟩ := ok_b h
            refine j_callV (As := [.int (2 : Int32)]) (st := []) [.int q43.1] (c_X12_fails (kl κ) (gm κ) (kA κ) (2 : Int32) w40 q43 e44) ck_RX12_417 im_X12_fails se_X12_fails sh_97 cx_12 ⟨rfl, rfl⟩ ⟨by decide, by decide⟩ rfl rfl (Nat.le_of_ble_eq_true rfl) dX12_rule_153 _ rfl ?_
            obtain ⟨hz, h⟩ := ok_g h
            have h := ok_s h
            exact j_iret dX12_rule_156 rfl hz h
    · refine j_aload_n 1 dX12_rule_33 rfl rfl ?_
      refine j_iconst (3 : Int32) dX12_rule_34 ki_3 ?_
      obtain ⟨q45, e46, h⟩ := ok_b h
      refine j_callV (As := [.int (3 : Int32)]) (st := []) [.int q45.1] (c_X12_fails (kl κ) (gm κ) (kA κ) (3 : Int32) w q45 e46) ck_RX12_417 im_X12_fails se_X12_fails sh_97 cx_12 ⟨rfl, rfl⟩ ⟨by decide, by decide⟩ rfl rfl (Nat.le_of_ble_eq_true rfl) dX12_rule_35 _ rfl ?_
      obtain ⟨hz, h⟩ := ok_g h
      have h := ok_s h
      exact j_iret dX12_rule_38 rfl hz h
  · refine j_aload_n 1 dX12_rule_13 rfl rfl ?_
    refine j_iconst (2 : Int32) dX12_rule_14 ki_2 ?_
    obtain ⟨q47, e48, h⟩ := ok_b h
    refine j_callV (As := [.int (2 : Int32)]) (st := []) [.int q47.1] (c_X12_fails (kl κ) (gm κ) (kA κ) (2 : Int32) w q47 e48) ck_RX12_417 im_X12_fails se_X12_fails sh_97 cx_12 ⟨rfl, rfl⟩ ⟨by decide, by decide⟩ rfl rfl (Nat.le_of_ble_eq_true rfl) dX12_rule_15 _ rfl ?_
    obtain ⟨hz, h⟩ := ok_g h
    have h := ok_s h
    exact j_iret dX12_rule_18 rfl hz h
theorem c_X12_rule (l : Launch) (γ : Gm) (A : Nat → Prop) (w : Wd) (q : Int32 × Wd) (e : X12_rule   w = some q) : MetG l γ A yX12_rule cX12_rule 5 (some .boolean) (rmk 9 199) [.ref (ad (γ) 97)] w (some (.int q.1)) q.2 := by
  refine met_of pn_RX12 (Nat.le_of_ble_eq_true rfl) ?_
  intro κ hl hγ hA hρ
  subst hl; subst hγ; subst hA
  exact t_X12_rule    w ⟨q, e, pIw hρ rfl rfl⟩
theorem dX12_orders_0 : decode cX12_orders 0 = .ok (.iload_n 1, 1) := by decide +kernel
theorem dX12_orders_1 : decode cX12_orders 1 = .ok (.ifCond .lt 29, 3) := by decide +kernel
theorem dX12_orders_4 : decode cX12_orders 4 = .ok (.iload_n 1, 1) := by decide +kernel
theorem dX12_orders_5 : decode cX12_orders 5 = .ok (.aload_n 0, 1) := by decide +kernel
theorem dX12_orders_6 : decode cX12_orders 6 = .ok (.getfield 358, 3) := by decide +kernel
theorem dX12_orders_9 : decode cX12_orders 9 = .ok (.if_icmp .gt 21, 3) := by decide +kernel
theorem dX12_orders_12 : decode cX12_orders 12 = .ok (.iload_n 2, 1) := by decide +kernel
theorem dX12_orders_13 : decode cX12_orders 13 = .ok (.invokestatic 322, 3) := by decide +kernel
theorem dX12_orders_16 : decode cX12_orders 16 = .ok (.ifCond .eq 14, 3) := by decide +kernel
theorem dX12_orders_19 : decode cX12_orders 19 = .ok (.iload_n 3, 1) := by decide +kernel
theorem dX12_orders_20 : decode cX12_orders 20 = .ok (.iconst 1, 1) := by decide +kernel
theorem dX12_orders_21 : decode cX12_orders 21 = .ok (.if_icmp .lt 9, 3) := by decide +kernel
theorem dX12_orders_24 : decode cX12_orders 24 = .ok (.iload_n 3, 1) := by decide +kernel
theorem dX12_orders_25 : decode cX12_orders 25 = .ok (.bipush 15, 2) := by decide +kernel
theorem dX12_orders_27 : decode cX12_orders 27 = .ok (.if_icmp .le 9, 3) := by decide +kernel
theorem dX12_orders_30 : decode cX12_orders 30 = .ok (.aload_n 0, 1) := by decide +kernel
theorem dX12_orders_31 : decode cX12_orders 31 = .ok (.iconst 1, 1) := by decide +kernel
theorem dX12_orders_32 : decode cX12_orders 32 = .ok (.invokevirtual 312, 3) := by decide +kernel
theorem dX12_orders_35 : decode cX12_orders 35 = .ok (.ireturn, 1) := by decide +kernel
theorem dX12_orders_36 : decode cX12_orders 36 = .ok (.aload_n 0, 1) := by decide +kernel
theorem dX12_orders_37 : decode cX12_orders 37 = .ok (.getfield 452, 3) := by decide +kernel
theorem dX12_orders_40 : decode cX12_orders 40 = .ok (.iconst 5, 1) := by decide +kernel
theorem dX12_orders_41 : decode cX12_orders 41 = .ok (.if_icmp .ne 9, 3) := by decide +kernel
theorem dX12_orders_44 : decode cX12_orders 44 = .ok (.aload_n 0, 1) := by decide +kernel
theorem dX12_orders_45 : decode cX12_orders 45 = .ok (.iconst 4, 1) := by decide +kernel
theorem dX12_orders_46 : decode cX12_orders 46 = .ok (.invokevirtual 312, 3) := by decide +kernel
theorem dX12_orders_49 : decode cX12_orders 49 = .ok (.ireturn, 1) := by decide +kernel
theorem dX12_orders_50 : decode cX12_orders 50 = .ok (.aload_n 0, 1) := by decide +kernel
theorem dX12_orders_51 : decode cX12_orders 51 = .ok (.iload_n 1, 1) := by decide +kernel
theorem dX12_orders_52 : decode cX12_orders 52 = .ok (.putfield 365, 3) := by decide +kernel
theorem dX12_orders_55 : decode cX12_orders 55 = .ok (.iconst 0, 1) := by decide +kernel
theorem dX12_orders_56 : decode cX12_orders 56 = .ok (.istore 4, 2) := by decide +kernel
theorem dX12_orders_58 : decode cX12_orders 58 = .ok (.iload 4, 2) := by decide +kernel
theorem dX12_orders_60 : decode cX12_orders 60 = .ok (.iload_n 1, 1) := by decide +kernel
theorem dX12_orders_61 : decode cX12_orders 61 = .ok (.if_icmp .ge 23, 3) := by decide +kernel
theorem dX12_orders_64 : decode cX12_orders 64 = .ok (.aload_n 0, 1) := by decide +kernel
theorem dX12_orders_65 : decode cX12_orders 65 = .ok (.getfield 85, 3) := by decide +kernel
theorem dX12_orders_68 : decode cX12_orders 68 = .ok (.iload 4, 2) := by decide +kernel
theorem dX12_orders_70 : decode cX12_orders 70 = .ok (.aload_n 0, 1) := by decide +kernel
theorem dX12_orders_71 : decode cX12_orders 71 = .ok (.getfield 81, 3) := by decide +kernel
theorem dX12_orders_74 : decode cX12_orders 74 = .ok (.iload 4, 2) := by decide +kernel
theorem dX12_orders_76 : decode cX12_orders 76 = .ok (.baload, 1) := by decide +kernel
theorem dX12_orders_77 : decode cX12_orders 77 = .ok (.bastore, 1) := by decide +kernel
theorem dX12_orders_78 : decode cX12_orders 78 = .ok (.iinc 4 1, 3) := by decide +kernel
theorem dX12_orders_81 : decode cX12_orders 81 = .ok (.goto (-23), 3) := by decide +kernel
theorem dX12_orders_84 : decode cX12_orders 84 = .ok (.aload_n 0, 1) := by decide +kernel
theorem dX12_orders_85 : decode cX12_orders 85 = .ok (.iconst 0, 1) := by decide +kernel
theorem dX12_orders_86 : decode cX12_orders 86 = .ok (.putfield 358, 3) := by decide +kernel
theorem dX12_orders_89 : decode cX12_orders 89 = .ok (.aload_n 0, 1) := by decide +kernel
theorem dX12_orders_90 : decode cX12_orders 90 = .ok (.iconst 0, 1) := by decide +kernel
theorem dX12_orders_91 : decode cX12_orders 91 = .ok (.putfield 411, 3) := by decide +kernel
theorem dX12_orders_94 : decode cX12_orders 94 = .ok (.aload_n 0, 1) := by decide +kernel
theorem dX12_orders_95 : decode cX12_orders 95 = .ok (.iconst (-1), 1) := by decide +kernel
theorem dX12_orders_96 : decode cX12_orders 96 = .ok (.putfield 91, 3) := by decide +kernel
theorem dX12_orders_99 : decode cX12_orders 99 = .ok (.aload_n 0, 1) := by decide +kernel
theorem dX12_orders_100 : decode cX12_orders 100 = .ok (.iconst 0, 1) := by decide +kernel
theorem dX12_orders_101 : decode cX12_orders 101 = .ok (.putfield 368, 3) := by decide +kernel
theorem dX12_orders_104 : decode cX12_orders 104 = .ok (.aload_n 0, 1) := by decide +kernel
theorem dX12_orders_105 : decode cX12_orders 105 = .ok (.getfield 100, 3) := by decide +kernel
theorem dX12_orders_108 : decode cX12_orders 108 = .ok (.aload_n 0, 1) := by decide +kernel
theorem dX12_orders_109 : decode cX12_orders 109 = .ok (.getfield 452, 3) := by decide +kernel
theorem dX12_orders_112 : decode cX12_orders 112 = .ok (.iconst 0, 1) := by decide +kernel
theorem dX12_orders_113 : decode cX12_orders 113 = .ok (.iastore, 1) := by decide +kernel
theorem dX12_orders_114 : decode cX12_orders 114 = .ok (.aload_n 0, 1) := by decide +kernel
theorem dX12_orders_115 : decode cX12_orders 115 = .ok (.getfield 423, 3) := by decide +kernel
theorem dX12_orders_118 : decode cX12_orders 118 = .ok (.istore 4, 2) := by decide +kernel
theorem dX12_orders_120 : decode cX12_orders 120 = .ok (.aload_n 0, 1) := by decide +kernel
theorem dX12_orders_121 : decode cX12_orders 121 = .ok (.getfield 434, 3) := by decide +kernel
theorem dX12_orders_124 : decode cX12_orders 124 = .ok (.istore 5, 2) := by decide +kernel
theorem dX12_orders_126 : decode cX12_orders 126 = .ok (.aload_n 0, 1) := by decide +kernel
theorem dX12_orders_127 : decode cX12_orders 127 = .ok (.invokevirtual 420, 3) := by decide +kernel
theorem dX12_orders_130 : decode cX12_orders 130 = .ok (.aload_n 0, 1) := by decide +kernel
theorem dX12_orders_131 : decode cX12_orders 131 = .ok (.getfield 380, 3) := by decide +kernel
theorem dX12_orders_134 : decode cX12_orders 134 = .ok (.ifCond .eq 7, 3) := by decide +kernel
theorem dX12_orders_137 : decode cX12_orders 137 = .ok (.iconst 1, 1) := by decide +kernel
theorem dX12_orders_138 : decode cX12_orders 138 = .ok (.goto 4, 3) := by decide +kernel
theorem dX12_orders_141 : decode cX12_orders 141 = .ok (.iconst 0, 1) := by decide +kernel
theorem dX12_orders_142 : decode cX12_orders 142 = .ok (.istore 6, 2) := by decide +kernel
theorem dX12_orders_144 : decode cX12_orders 144 = .ok (.iload 6, 2) := by decide +kernel
theorem dX12_orders_146 : decode cX12_orders 146 = .ok (.ifCond .eq 27, 3) := by decide +kernel
theorem dX12_orders_149 : decode cX12_orders 149 = .ok (.aload_n 0, 1) := by decide +kernel
theorem dX12_orders_150 : decode cX12_orders 150 = .ok (.invokevirtual 465, 3) := by decide +kernel
theorem dX12_orders_153 : decode cX12_orders 153 = .ok (.ifCond .eq 14, 3) := by decide +kernel
theorem dX12_orders_156 : decode cX12_orders 156 = .ok (.aload_n 0, 1) := by decide +kernel
theorem dX12_orders_157 : decode cX12_orders 157 = .ok (.getfield 380, 3) := by decide +kernel
theorem dX12_orders_160 : decode cX12_orders 160 = .ok (.ifCond .eq 7, 3) := by decide +kernel
theorem dX12_orders_163 : decode cX12_orders 163 = .ok (.iconst 1, 1) := by decide +kernel
theorem dX12_orders_164 : decode cX12_orders 164 = .ok (.goto 4, 3) := by decide +kernel
theorem dX12_orders_167 : decode cX12_orders 167 = .ok (.iconst 0, 1) := by decide +kernel
theorem dX12_orders_168 : decode cX12_orders 168 = .ok (.istore 6, 2) := by decide +kernel
theorem dX12_orders_170 : decode cX12_orders 170 = .ok (.goto (-26), 3) := by decide +kernel
theorem dX12_orders_173 : decode cX12_orders 173 = .ok (.aload_n 0, 1) := by decide +kernel
theorem dX12_orders_174 : decode cX12_orders 174 = .ok (.aload_n 0, 1) := by decide +kernel
theorem dX12_orders_175 : decode cX12_orders 175 = .ok (.getfield 411, 3) := by decide +kernel
theorem dX12_orders_178 : decode cX12_orders 178 = .ok (.putfield 88, 3) := by decide +kernel
theorem dX12_orders_181 : decode cX12_orders 181 = .ok (.aload_n 0, 1) := by decide +kernel
theorem dX12_orders_182 : decode cX12_orders 182 = .ok (.getfield 411, 3) := by decide +kernel
theorem dX12_orders_185 : decode cX12_orders 185 = .ok (.ifCond .le 22, 3) := by decide +kernel
theorem dX12_orders_188 : decode cX12_orders 188 = .ok (.aload_n 0, 1) := by decide +kernel
theorem dX12_orders_189 : decode cX12_orders 189 = .ok (.iload 4, 2) := by decide +kernel
theorem dX12_orders_191 : decode cX12_orders 191 = .ok (.putfield 423, 3) := by decide +kernel
theorem dX12_orders_194 : decode cX12_orders 194 = .ok (.aload_n 0, 1) := by decide +kernel
theorem dX12_orders_195 : decode cX12_orders 195 = .ok (.iload 5, 2) := by decide +kernel
theorem dX12_orders_197 : decode cX12_orders 197 = .ok (.putfield 434, 3) := by decide +kernel
theorem dX12_orders_200 : decode cX12_orders 200 = .ok (.aload_n 0, 1) := by decide +kernel
theorem dX12_orders_201 : decode cX12_orders 201 = .ok (.bipush 9, 2) := by decide +kernel
theorem dX12_orders_203 : decode cX12_orders 203 = .ok (.invokevirtual 312, 3) := by decide +kernel
theorem dX12_orders_206 : decode cX12_orders 206 = .ok (.ireturn, 1) := by decide +kernel
theorem dX12_orders_207 : decode cX12_orders 207 = .ok (.aload_n 0, 1) := by decide +kernel
theorem dX12_orders_208 : decode cX12_orders 208 = .ok (.getfield 94, 3) := by decide +kernel
theorem dX12_orders_211 : decode cX12_orders 211 = .ok (.aload_n 0, 1) := by decide +kernel
theorem dX12_orders_212 : decode cX12_orders 212 = .ok (.getfield 452, 3) := by decide +kernel
theorem dX12_orders_215 : decode cX12_orders 215 = .ok (.iload_n 2, 1) := by decide +kernel
theorem dX12_orders_216 : decode cX12_orders 216 = .ok (.iastore, 1) := by decide +kernel
theorem dX12_orders_217 : decode cX12_orders 217 = .ok (.aload_n 0, 1) := by decide +kernel
theorem dX12_orders_218 : decode cX12_orders 218 = .ok (.getfield 97, 3) := by decide +kernel
theorem dX12_orders_221 : decode cX12_orders 221 = .ok (.aload_n 0, 1) := by decide +kernel
theorem dX12_orders_222 : decode cX12_orders 222 = .ok (.getfield 452, 3) := by decide +kernel
theorem dX12_orders_225 : decode cX12_orders 225 = .ok (.iload_n 3, 1) := by decide +kernel
theorem dX12_orders_226 : decode cX12_orders 226 = .ok (.iastore, 1) := by decide +kernel
theorem dX12_orders_227 : decode cX12_orders 227 = .ok (.aload_n 0, 1) := by decide +kernel
theorem dX12_orders_228 : decode cX12_orders 228 = .ok (.dup, 1) := by decide +kernel
theorem dX12_orders_229 : decode cX12_orders 229 = .ok (.getfield 452, 3) := by decide +kernel
theorem dX12_orders_232 : decode cX12_orders 232 = .ok (.iconst 1, 1) := by decide +kernel
theorem dX12_orders_233 : decode cX12_orders 233 = .ok (.iadd, 1) := by decide +kernel
theorem dX12_orders_234 : decode cX12_orders 234 = .ok (.putfield 452, 3) := by decide +kernel
theorem dX12_orders_237 : decode cX12_orders 237 = .ok (.aload_n 0, 1) := by decide +kernel
theorem dX12_orders_238 : decode cX12_orders 238 = .ok (.aload_n 0, 1) := by decide +kernel
theorem dX12_orders_239 : decode cX12_orders 239 = .ok (.getfield 100, 3) := by decide +kernel
theorem dX12_orders_242 : decode cX12_orders 242 = .ok (.aload_n 0, 1) := by decide +kernel
theorem dX12_orders_243 : decode cX12_orders 243 = .ok (.getfield 452, 3) := by decide +kernel
theorem dX12_orders_246 : decode cX12_orders 246 = .ok (.iconst 1, 1) := by decide +kernel
theorem dX12_orders_247 : decode cX12_orders 247 = .ok (.isub, 1) := by decide +kernel
theorem dX12_orders_248 : decode cX12_orders 248 = .ok (.iaload, 1) := by decide +kernel
theorem dX12_orders_249 : decode cX12_orders 249 = .ok (.invokevirtual 316, 3) := by decide +kernel
theorem dX12_orders_252 : decode cX12_orders 252 = .ok (.ireturn, 1) := by decide +kernel
noncomputable def X12_orders_j30 (w : Wd) : Option (Int32 × Wd) :=
(X12_refuse (1 : Int32) w).bind fun q1 =>
some (q1.1, q1.2)
set_option maxRecDepth 20000 in
set_option maxHeartbeats 1000000 in
theorem t_X12_orders_j30 {κ : Kx} (w : Wd) (h : ok (X12_orders_j30  w) (PIw κ)) : J κ RX12 cX12_orders 7 (some .int) (rmk 10 223) 30 [(0, .ref (ad (gm κ) 97))] [] w := by
  unfold X12_orders_j30 at h
  refine j_aload_n 0 dX12_orders_30 rfl rfl ?_
  refine j_iconst (1 : Int32) dX12_orders_31 ki_1 ?_
  obtain ⟨q1, e2, h⟩ := ok_b h
  refine j_callV (As := [.int (1 : Int32)]) (st := []) [.int q1.1] (c_X12_refuse (kl κ) (gm κ) (kA κ) (1 : Int32) w q1 e2) ck_RX12_312 im_X12_refuse se_X12_refuse sh_97 cx_12 ⟨rfl, rfl⟩ ⟨by decide, by decide⟩ rfl rfl (Nat.le_of_ble_eq_true rfl) dX12_orders_32 _ rfl ?_
  have h := ok_s h
  exact j_iret dX12_orders_35 rfl rfl h
noncomputable def X12_orders_b58 (a1 : Int32) (a2 : Int32) (a3 : Int32) (s : (Int32 × Wd)) : Option ((Int32 × Wd) ⊕ Wd) :=
(if a1 ≤ s.1 then
some (.inr s.2)
else
gd (vp_in s.1 600) <|
gd (vp_in s.1 600) <|
(some (puI s.2 121 (ix s.1) (vp_nar .byte (s.2.1 120 (ix s.1))))).bind fun w4 =>
some (.inl ((s.1 + (1 : Int32)), w4)))
set_option maxRecDepth 20000 in
set_option maxHeartbeats 1000000 in
theorem t_X12_orders_b58 {κ : Kx} (a1 : Int32) (a2 : Int32) (a3 : Int32) {P : Wd → Prop} (K0 : ∀ e, P e → J κ RX12 cX12_orders 7 (some .int) (rmk 10 223) 84 [(0, .ref (ad (gm κ) 97)), (2, .int a2), (3, .int a3)] [] e) (s : (Int32 × Wd)) (h : ok (lp (X12_orders_b58  a1 a2 a3) s) P) : J κ RX12 cX12_orders 7 (some .int) (rmk 10 223) 58 [(0, .ref (ad (gm κ) 97)), (1, .int a1), (2, .int a2), (3, .int a3), (4, .int s.1)] [] s.2 := by
  refine lp_ind (fun s => J κ RX12 cX12_orders 7 (some .int) (rmk 10 223) 58 [(0, .ref (ad (gm κ) 97)), (1, .int a1), (2, .int a2), (3, .int a3), (4, .int s.1)] [] s.2) (fun s h => ?_) s h
  unfold X12_orders_b58 at h
  refine j_iload 4 dX12_orders_58 rfl ?_
  refine j_iload_n 1 dX12_orders_60 rfl rfl ?_
  refine j_ic_ge 84 dX12_orders_61 (by decide) h (fun h => ?_) (fun h => ?_)
  · refine j_loc [(0, .ref (ad (gm κ) 97)), (2, .int a2), (3, .int a3)] [0, 2, 3] rfl ?_
    have h := sel_r h
    have h := K0 _ h
    exact h
  · refine j_aload_n 0 dX12_orders_64 rfl rfl ?_
    refine j_getA 121 fl_RX12_85 sh_97 fk_97_32 (by decide) dX12_orders_65 ?_
    refine j_iload 4 dX12_orders_68 rfl ?_
    refine j_aload_n 0 dX12_orders_70 rfl rfl ?_
    refine j_getA 120 fl_RX12_81 sh_97 fk_97_31 (by decide) dX12_orders_71 ?_
    refine j_iload 4 dX12_orders_74 rfl ?_
    refine j_bald sh_120 dX12_orders_76 h (fun h => ?_)
    refine j_bast sh_121 dX12_orders_77 h (fun h => ?_)
    refine j_lW h (fun w4 h => ?_)
    refine j_iinc (s.1 + (1 : Int32)) 4 [(4, .int (s.1 + (1 : Int32))), (0, .ref (ad (gm κ) 97)), (1, .int a1), (2, .int a2), (3, .int a3)] dX12_orders_78 rfl (by rw [kn_1]) (by decide) rfl ?_
    refine j_goto 58 dX12_orders_81 (by decide) ?_
    refine j_loc [(0, .ref (ad (gm κ) 97)), (1, .int a1), (2, .int a2), (3, .int a3), (4, .int (s.1 + (1 : Int32)))] [1, 2, 3, 4, 0] rfl ?_
    have h := sel_l h
    exact h
noncomputable def X12_orders_j168 (a2 : Int32) (a3 : Int32) (a4 : Int32) (a5 : Int32) (s0 : Int32) (w : Wd) : Option ((Int32 × Wd) ⊕ Wd) :=
some (.inl (s0, w))
set_option maxRecDepth 20000 in
set_option maxHeartbeats 1000000 in
theorem t_X12_orders_j168 {κ : Kx} (a2 : Int32) (a3 : Int32) (a4 : Int32) (a5 : Int32) (s0 : Int32) (w : Wd) {G : (Int32 × Wd) → Prop} {P : Wd → Prop} (KG : ∀ s, G s → J κ RX12 cX12_orders 7 (some .int) (rmk 10 223) 144 [(0, .ref (ad (gm κ) 97)), (2, .int a2), (3, .int a3), (4, .int a4), (5, .int a5), (6, .int s.1)] [] s.2) (K0 : ∀ e, P e → J κ RX12 cX12_orders 7 (some .int) (rmk 10 223) 173 [(0, .ref (ad (gm κ) 97)), (2, .int a2), (3, .int a3), (4, .int a4), (5, .int a5)] [] e) (h : ok (X12_orders_j168  a2 a3 a4 a5 s0 w) (sel G P)) : J κ RX12 cX12_orders 7 (some .int) (rmk 10 223) 168 [(0, .ref (ad (gm κ) 97)), (2, .int a2), (3, .int a3), (4, .int a4), (5, .int a5)] [.int s0] w := by
  unfold X12_orders_j168 at h
  refine j_istore [(6, .int s0), (0, .ref (ad (gm κ) 97)), (2, .int a2), (3, .int a3), (4, .int a4), (5, .int a5)] dX12_orders_168 (by decide) rfl ?_
  refine j_goto 144 dX12_orders_170 (by decide) ?_
  refine j_loc [(0, .ref (ad (gm κ) 97)), (2, .int a2), (3, .int a3), (4, .int a4), (5, .int a5), (6, .int s0)] [1, 2, 3, 4, 5, 0] rfl ?_
  have h := sel_l h
  have h := KG _ h
  exact h
noncomputable def X12_orders_j167 (a2 : Int32) (a3 : Int32) (a4 : Int32) (a5 : Int32) (w : Wd) : Option ((Int32 × Wd) ⊕ Wd) :=
X12_orders_j168 a2 a3 a4 a5 (0 : Int32) w
set_option maxRecDepth 20000 in
set_option maxHeartbeats 1000000 in
theorem t_X12_orders_j167 {κ : Kx} (a2 : Int32) (a3 : Int32) (a4 : Int32) (a5 : Int32) (w : Wd) {G : (Int32 × Wd) → Prop} {P : Wd → Prop} (KG : ∀ s, G s → J κ RX12 cX12_orders 7 (some .int) (rmk 10 223) 144 [(0, .ref (ad (gm κ) 97)), (2, .int a2), (3, .int a3), (4, .int a4), (5, .int a5), (6, .int s.1)] [] s.2) (K0 : ∀ e, P e → J κ RX12 cX12_orders 7 (some .int) (rmk 10 223) 173 [(0, .ref (ad (gm κ) 97)), (2, .int a2), (3, .int a3), (4, .int a4), (5, .int a5)] [] e) (h : ok (X12_orders_j167  a2 a3 a4 a5 w) (sel G P)) : J κ RX12 cX12_orders 7 (some .int) (rmk 10 223) 167 [(0, .ref (ad (gm κ) 97)), (2, .int a2), (3, .int a3), (4, .int a4), (5, .int a5)] [] w := by
  unfold X12_orders_j167 at h
  refine j_iconst (0 : Int32) dX12_orders_167 ki_0 ?_
  refine j_loc [(0, .ref (ad (gm κ) 97)), (2, .int a2), (3, .int a3), (4, .int a4), (5, .int a5)] [0, 1, 2, 3, 4] rfl ?_
  exact t_X12_orders_j168 a2 a3 a4 a5 (0 : Int32) w KG K0 h
noncomputable def X12_orders_b144 (a2 : Int32) (a3 : Int32) (a4 : Int32) (a5 : Int32) (s : (Int32 × Wd)) : Option ((Int32 × Wd) ⊕ Wd) :=
(if s.1 = 0 then
some (.inr s.2)
else
(X12_rule s.2).bind fun q13 =>
(if q13.1 = 0 then
X12_orders_j167 a2 a3 a4 a5 q13.2
else
(if (q13.2.1 97 35) = 0 then
X12_orders_j167 a2 a3 a4 a5 q13.2
else
X12_orders_j168 a2 a3 a4 a5 (1 : Int32) q13.2)))
set_option maxRecDepth 20000 in
set_option maxHeartbeats 1000000 in
theorem t_X12_orders_b144 {κ : Kx} (a2 : Int32) (a3 : Int32) (a4 : Int32) (a5 : Int32) {P : Wd → Prop} (K0 : ∀ e, P e → J κ RX12 cX12_orders 7 (some .int) (rmk 10 223) 173 [(0, .ref (ad (gm κ) 97)), (2, .int a2), (3, .int a3), (4, .int a4), (5, .int a5)] [] e) (s : (Int32 × Wd)) (h : ok (lp (X12_orders_b144  a2 a3 a4 a5) s) P) : J κ RX12 cX12_orders 7 (some .int) (rmk 10 223) 144 [(0, .ref (ad (gm κ) 97)), (2, .int a2), (3, .int a3), (4, .int a4), (5, .int a5), (6, .int s.1)] [] s.2 := by
  refine lp_ind (fun s => J κ RX12 cX12_orders 7 (some .int) (rmk 10 223) 144 [(0, .ref (ad (gm κ) 97)), (2, .int a2), (3, .int a3), (4, .int a4), (5, .int a5), (6, .int s.1)] [] s.2) (fun s h => ?_) s h
  unfold X12_orders_b144 at h
  refine j_iload 5 dX12_orders_144 rfl ?_
  refine j_if_eq 173 dX12_orders_146 (by decide) h (fun h => ?_) (fun h => ?_)
  · refine j_loc [(0, .ref (ad (gm κ) 97)), (2, .int a2), (3, .int a3), (4, .int a4), (5, .int a5)] [0, 1, 2, 3, 4] rfl ?_
    have h := sel_r h
    have h := K0 _ h
    exact h
  · refine j_aload_n 0 dX12_orders_149 rfl rfl ?_
    obtain ⟨q13, e14, h⟩ := ok_b h
    refine j_callV (As := []) (st := []) [.int q13.1] (c_X12_rule (kl κ) (gm κ) (kA κ) s.2 q13 e14) ck_RX12_465 im_X12_rule se_X12_rule sh_97 cx_12 ⟨rfl, rfl⟩ ⟨by decide, by decide⟩ rfl rfl (Nat.le_of_ble_eq_true rfl) dX12_orders_150 _ rfl ?_
    refine j_if_eq 167 dX12_orders_153 (by decide) h (fun h => ?_) (fun h => ?_)
    · refine j_loc [(0, .ref (ad (gm κ) 97)), (2, .int a2), (3, .int a3), (4, .int a4), (5, .int a5)] [0, 1, 2, 3, 4] rfl ?_
      exact t_X12_orders_j167 a2 a3 a4 a5 q13.2 (fun _ h => h) K0 h
    · refine j_aload_n 0 dX12_orders_156 rfl rfl ?_
      refine j_getI fl_RX12_380 sh_97 fk_97_35 dX12_orders_157 ?_
      refine j_if_eq 167 dX12_orders_160 (by decide) h (fun h => ?_) (fun h => ?_)
      · refine j_loc [(0, .ref (ad (gm κ) 97)), (2, .int a2), (3, .int a3), (4, .int a4), (5, .int a5)] [0, 1, 2, 3, 4] rfl ?_
        exact t_X12_orders_j167 a2 a3 a4 a5 q13.2 (fun _ h => h) K0 h
      · refine j_iconst (1 : Int32) dX12_orders_163 ki_1 ?_
        refine j_goto 168 dX12_orders_164 (by decide) ?_
        refine j_loc [(0, .ref (ad (gm κ) 97)), (2, .int a2), (3, .int a3), (4, .int a4), (5, .int a5)] [0, 1, 2, 3, 4] rfl ?_
        exact t_X12_orders_j168 a2 a3 a4 a5 (1 : Int32) q13.2 (fun _ h => h) K0 h
noncomputable def X12_orders_j142 (a2 : Int32) (a3 : Int32) (a4 : Int32) (a5 : Int32) (s0 : Int32) (w : Wd) : Option (Int32 × Wd) :=
(lp (X12_orders_b144 a2 a3 a4 a5) (s0, w)).bind fun e15 =>
(some (puI e15 97 39 (e15.1 97 41))).bind fun w16 =>
(if (w16.1 97 41) ≤ 0 then
gd (vp_in (w16.1 97 42) 6) <|
(some (puI w16 122 (ix (w16.1 97 42)) a2)).bind fun w17 =>
gd (vp_in (w17.1 97 42) 6) <|
(some (puI w17 123 (ix (w17.1 97 42)) a3)).bind fun w18 =>
(some (puI w18 97 42 ((w18.1 97 42) + (1 : Int32)))).bind fun w19 =>
gd (vp_in ((w19.1 97 42) - (1 : Int32)) 6) <|
(some (w19.1 124 (ix ((w19.1 97 42) - (1 : Int32))))).bind fun z20 =>
(X12_gives z20 w19).bind fun q21 =>
some (q21.1, q21.2)
else
(some (puI w16 97 43 a4)).bind fun w23 =>
(some (puI w23 97 44 a5)).bind fun w24 =>
(X12_refuse (9 : Int32) w24).bind fun q25 =>
some (q25.1, q25.2))
set_option maxRecDepth 20000 in
set_option maxHeartbeats 1000000 in
theorem t_X12_orders_j142 {κ : Kx} (a2 : Int32) (a3 : Int32) (a4 : Int32) (a5 : Int32) (s0 : Int32) (w : Wd) (h : ok (X12_orders_j142  a2 a3 a4 a5 s0 w) (PIw κ)) : J κ RX12 cX12_orders 7 (some .int) (rmk 10 223) 142 [(0, .ref (ad (gm κ) 97)), (2, .int a2), (3, .int a3), (4, .int a4), (5, .int a5)] [.int s0] w := by
  unfold X12_orders_j142 at h
  refine j_istore [(6, .int s0), (0, .ref (ad (gm κ) 97)), (2, .int a2), (3, .int a3), (4, .int a4), (5, .int a5)] dX12_orders_142 (by decide) rfl ?_
  refine j_loc [(0, .ref (ad (gm κ) 97)), (2, .int a2), (3, .int a3), (4, .int a4), (5, .int a5), (6, .int s0)] [1, 2, 3, 4, 5, 0] rfl ?_
  refine t_X12_orders_b144 a2 a3 a4 a5 (fun e15 h => ?_) (s0, w) (ok_bb h)
  · refine j_aload_n 0 dX12_orders_173 rfl rfl ?_
    refine j_aload_n 0 dX12_orders_174 rfl rfl ?_
    refine j_getI fl_RX12_411 sh_97 fk_97_41 dX12_orders_175 ?_
    refine j_putI fp_RX12_88 sh_97 fk_97_39 dX12_orders_178 ?_
    refine j_lW h (fun w16 h => ?_)
    refine j_aload_n 0 dX12_orders_181 rfl rfl ?_
    refine j_getI fl_RX12_411 sh_97 fk_97_41 dX12_orders_182 ?_
    refine j_if_le 207 dX12_orders_185 (by decide) h (fun h => ?_) (fun h => ?_)
    · refine j_aload_n 0 dX12_orders_207 rfl rfl ?_
      refine j_getA 122 fl_RX12_94 sh_97 fk_97_45 (by decide) dX12_orders_208 ?_
      refine j_aload_n 0 dX12_orders_211 rfl rfl ?_
      refine j_getI fl_RX12_452 sh_97 fk_97_42 dX12_orders_212 ?_
      refine j_iload_n 1 dX12_orders_215 rfl rfl ?_
      refine j_iast sh_122 dX12_orders_216 h (fun h => ?_)
      refine j_lW h (fun w17 h => ?_)
      refine j_aload_n 0 dX12_orders_217 rfl rfl ?_
      refine j_getA 123 fl_RX12_97 sh_97 fk_97_46 (by decide) dX12_orders_218 ?_
      refine j_aload_n 0 dX12_orders_221 rfl rfl ?_
      refine j_getI fl_RX12_452 sh_97 fk_97_42 dX12_orders_222 ?_
      refine j_iload_n 2 dX12_orders_225 rfl rfl ?_
      refine j_iast sh_123 dX12_orders_226 h (fun h => ?_)
      refine j_lW h (fun w18 h => ?_)
      refine j_aload_n 0 dX12_orders_227 rfl rfl ?_
      refine j_dup dX12_orders_228 rfl ?_
      refine j_getI fl_RX12_452 sh_97 fk_97_42 dX12_orders_229 ?_
      refine j_iconst (1 : Int32) dX12_orders_232 ki_1 ?_
      refine j_iadd dX12_orders_233 ?_
      refine j_putI fp_RX12_452 sh_97 fk_97_42 dX12_orders_234 ?_
      refine j_lW h (fun w19 h => ?_)
      refine j_aload_n 0 dX12_orders_237 rfl rfl ?_
      refine j_aload_n 0 dX12_orders_238 rfl rfl ?_
      refine j_getA 124 fl_RX12_100 sh_97 fk_97_47 (by decide) dX12_orders_239 ?_
      refine j_aload_n 0 dX12_orders_242 rfl rfl ?_
      refine j_getI fl_RX12_452 sh_97 fk_97_42 dX12_orders_243 ?_
      refine j_iconst (1 : Int32) dX12_orders_246 ki_1 ?_
      refine j_isub dX12_orders_247 ?_
      refine j_iald sh_124 dX12_orders_248 h (fun h => ?_)
      refine j_lI h (fun z20 h => ?_)
      obtain ⟨q21, e22, h⟩ := ok_b h
      refine j_callV (As := [.int z20]) (st := []) [.int q21.1] (c_X12_gives (kl κ) (gm κ) (kA κ) z20 w19 q21 e22) ck_RX12_316 im_X12_gives se_X12_gives sh_97 cx_12 ⟨rfl, rfl⟩ ⟨by decide, by decide⟩ rfl rfl (Nat.le_of_ble_eq_true rfl) dX12_orders_249 _ rfl ?_
      have h := ok_s h
      exact j_iret dX12_orders_252 rfl rfl h
    · refine j_aload_n 0 dX12_orders_188 rfl rfl ?_
      refine j_iload 3 dX12_orders_189 rfl ?_
      refine j_putI fp_RX12_423 sh_97 fk_97_43 dX12_orders_191 ?_
      refine j_lW h (fun w23 h => ?_)
      refine j_aload_n 0 dX12_orders_194 rfl rfl ?_
      refine j_iload 4 dX12_orders_195 rfl ?_
      refine j_putI fp_RX12_434 sh_97 fk_97_44 dX12_orders_197 ?_
      refine j_lW h (fun w24 h => ?_)
      refine j_aload_n 0 dX12_orders_200 rfl rfl ?_
      refine j_bipush (9 : Int32) dX12_orders_201 kb_9 ?_
      obtain ⟨q25, e26, h⟩ := ok_b h
      refine j_callV (As := [.int (9 : Int32)]) (st := []) [.int q25.1] (c_X12_refuse (kl κ) (gm κ) (kA κ) (9 : Int32) w24 q25 e26) ck_RX12_312 im_X12_refuse se_X12_refuse sh_97 cx_12 ⟨rfl, rfl⟩ ⟨by decide, by decide⟩ rfl rfl (Nat.le_of_ble_eq_true rfl) dX12_orders_203 _ rfl ?_
      have h := ok_s h
      exact j_iret dX12_orders_206 rfl rfl h
noncomputable def X12_orders (a1 : Int32) (a2 : Int32) (a3 : Int32) (w : Wd) : Option (Int32 × Wd) :=
(if a1 < 0 then
X12_orders_j30 w
else
(if (w.1 97 33) < a1 then
X12_orders_j30 w
else
(if (X12_isWeek a2 w) = 0 then
X12_orders_j30 w
else
(if a3 < (1 : Int32) then
X12_orders_j30 w
else
(if a3 ≤ (15 : Int32) then
(if (w.1 97 42) = (5 : Int32) then
(X12_refuse (4 : Int32) w).bind fun q27 =>
some (q27.1, q27.2)
else
(some (puI w 97 34 a1)).bind fun w3 =>
(lp (X12_orders_b58 a1 a2 a3) ((0 : Int32), w3)).bind fun e5 =>
(some (puI e5 97 33 (0 : Int32))).bind fun w6 =>
(some (puI w6 97 41 (0 : Int32))).bind fun w7 =>
(some (puI w7 97 40 (-1 : Int32))).bind fun w8 =>
(some (puI w8 97 37 (0 : Int32))).bind fun w9 =>
gd (vp_in (w9.1 97 42) 6) <|
(some (puI w9 124 (ix (w9.1 97 42)) (0 : Int32))).bind fun w10 =>
(X12_next w10).bind fun q11 =>
(if (q11.1 97 35) = 0 then
X12_orders_j142 a2 a3 (w10.1 97 43) (w10.1 97 44) (0 : Int32) q11
else
X12_orders_j142 a2 a3 (w10.1 97 43) (w10.1 97 44) (1 : Int32) q11))
else
X12_orders_j30 w)))))
set_option maxRecDepth 20000 in
set_option maxHeartbeats 1000000 in
theorem t_X12_orders {κ : Kx} (a1 : Int32) (a2 : Int32) (a3 : Int32) (w : Wd) (h : ok (X12_orders  a1 a2 a3 w) (PIw κ)) : J κ RX12 cX12_orders 7 (some .int) (rmk 10 223) 0 [(0, .ref (ad (gm κ) 97)), (1, .int a1), (2, .int a2), (3, .int a3)] [] w := by
  unfold X12_orders at h
  refine j_iload_n 1 dX12_orders_0 rfl rfl ?_
  refine j_if_lt 30 dX12_orders_1 (by decide) h (fun h => ?_) (fun h => ?_)
  · refine j_loc [(0, .ref (ad (gm κ) 97))] [0] rfl ?_
    exact t_X12_orders_j30 w h
  · refine j_iload_n 1 dX12_orders_4 rfl rfl ?_
    refine j_aload_n 0 dX12_orders_5 rfl rfl ?_
    refine j_getI fl_RX12_358 sh_97 fk_97_33 dX12_orders_6 ?_
    refine j_ic_gt 30 dX12_orders_9 (by decide) h (fun h => ?_) (fun h => ?_)
    · refine j_loc [(0, .ref (ad (gm κ) 97))] [0] rfl ?_
      exact t_X12_orders_j30 w h
    · refine j_iload_n 2 dX12_orders_12 rfl rfl ?_
      refine j_callS (As := [.int a2]) (st := []) [.int (X12_isWeek a2 w)] (c_X12_isWeek (kl κ) (gm κ) (kA κ) a2 w) ck_RX12_322 st_X12_isWeek ⟨rfl, rfl⟩ ⟨by decide, by decide⟩ rfl rfl (Nat.le_of_ble_eq_true rfl) dX12_orders_13 _ rfl ?_
      refine j_if_eq 30 dX12_orders_16 (by decide) h (fun h => ?_) (fun h => ?_)
      · refine j_loc [(0, .ref (ad (gm κ) 97))] [0] rfl ?_
        exact t_X12_orders_j30 w h
      · refine j_iload_n 3 dX12_orders_19 rfl rfl ?_
        refine j_iconst (1 : Int32) dX12_orders_20 ki_1 ?_
        refine j_ic_lt 30 dX12_orders_21 (by decide) h (fun h => ?_) (fun h => ?_)
        · refine j_loc [(0, .ref (ad (gm κ) 97))] [0] rfl ?_
          exact t_X12_orders_j30 w h
        · refine j_iload_n 3 dX12_orders_24 rfl rfl ?_
          refine j_bipush (15 : Int32) dX12_orders_25 kb_15 ?_
          refine j_ic_le 36 dX12_orders_27 (by decide) h (fun h => ?_) (fun h => ?_)
          · refine j_aload_n 0 dX12_orders_36 rfl rfl ?_
            refine j_getI fl_RX12_452 sh_97 fk_97_42 dX12_orders_37 ?_
            refine j_iconst (5 : Int32) dX12_orders_40 ki_5 ?_
            refine j_ic_ne 50 dX12_orders_41 (by decide) h (fun h => ?_) (fun h => ?_)
            · refine j_aload_n 0 dX12_orders_50 rfl rfl ?_
              refine j_iload_n 1 dX12_orders_51 rfl rfl ?_
              refine j_putI fp_RX12_365 sh_97 fk_97_34 dX12_orders_52 ?_
              refine j_lW h (fun w3 h => ?_)
              refine j_iconst (0 : Int32) dX12_orders_55 ki_0 ?_
              refine j_istore [(4, .int (0 : Int32)), (0, .ref (ad (gm κ) 97)), (1, .int a1), (2, .int a2), (3, .int a3)] dX12_orders_56 (by decide) rfl ?_
              refine j_loc [(0, .ref (ad (gm κ) 97)), (1, .int a1), (2, .int a2), (3, .int a3), (4, .int (0 : Int32))] [1, 2, 3, 4, 0] rfl ?_
              refine t_X12_orders_b58 a1 a2 a3 (fun e5 h => ?_) ((0 : Int32), w3) (ok_bb h)
              · refine j_aload_n 0 dX12_orders_84 rfl rfl ?_
                refine j_iconst (0 : Int32) dX12_orders_85 ki_0 ?_
                refine j_putI fp_RX12_358 sh_97 fk_97_33 dX12_orders_86 ?_
                refine j_lW h (fun w6 h => ?_)
                refine j_aload_n 0 dX12_orders_89 rfl rfl ?_
                refine j_iconst (0 : Int32) dX12_orders_90 ki_0 ?_
                refine j_putI fp_RX12_411 sh_97 fk_97_41 dX12_orders_91 ?_
                refine j_lW h (fun w7 h => ?_)
                refine j_aload_n 0 dX12_orders_94 rfl rfl ?_
                refine j_iconst (-1 : Int32) dX12_orders_95 ki_m1 ?_
                refine j_putI fp_RX12_91 sh_97 fk_97_40 dX12_orders_96 ?_
                refine j_lW h (fun w8 h => ?_)
                refine j_aload_n 0 dX12_orders_99 rfl rfl ?_
                refine j_iconst (0 : Int32) dX12_orders_100 ki_0 ?_
                refine j_putI fp_RX12_368 sh_97 fk_97_37 dX12_orders_101 ?_
                refine j_lW h (fun w9 h => ?_)
                refine j_aload_n 0 dX12_orders_104 rfl rfl ?_
                refine j_getA 124 fl_RX12_100 sh_97 fk_97_47 (by decide) dX12_orders_105 ?_
                refine j_aload_n 0 dX12_orders_108 rfl rfl ?_
                refine j_getI fl_RX12_452 sh_97 fk_97_42 dX12_orders_109 ?_
                refine j_iconst (0 : Int32) dX12_orders_112 ki_0 ?_
                refine j_iast sh_124 dX12_orders_113 h (fun h => ?_)
                refine j_lW h (fun w10 h => ?_)
                refine j_aload_n 0 dX12_orders_114 rfl rfl ?_
                refine j_getI fl_RX12_423 sh_97 fk_97_43 dX12_orders_115 ?_
                refine j_istore [(4, .int (w10.1 97 43)), (0, .ref (ad (gm κ) 97)), (2, .int a2), (3, .int a3)] dX12_orders_118 (by decide) rfl ?_
                refine j_aload_n 1 dX12_orders_120 rfl rfl ?_
                refine j_getI fl_RX12_434 sh_97 fk_97_44 dX12_orders_121 ?_
                refine j_istore [(5, .int (w10.1 97 44)), (4, .int (w10.1 97 43)), (0, .ref (ad (gm κ) 97)), (2, .int a2), (3, .int a3)] dX12_orders_124 (by decide) rfl ?_
                refine j_aload_n 2 dX12_orders_126 rfl rfl ?_
                obtain ⟨q11, e12, h⟩ := ok_b h
                refine j_callV (As := []) (st := []) [] (c_X12_next (kl κ) (gm κ) (kA κ) w10 q11 e12) ck_RX12_420 im_X12_next se_X12_next sh_97 cx_12 ⟨rfl, rfl⟩ ⟨by decide, by decide⟩ rfl rfl (Nat.le_of_ble_eq_true rfl) dX12_orders_127 _ rfl ?_
                refine j_aload_n 2 dX12_orders_130 rfl rfl ?_
                refine j_getI fl_RX12_380 sh_97 fk_97_35 dX12_orders_131 ?_
                refine j_if_eq 141 dX12_orders_134 (by decide) h (fun h => ?_) (fun h => ?_)
                · refine j_iconst (0 : Int32) dX12_orders_141 ki_0 ?_
                  refine j_loc [(0, .ref (ad (gm κ) 97)), (2, .int a2), (3, .int a3), (4, .int (w10.1 97 43)), (5, .int (w10.1 97 44))] [2, 3, 4, 1, 0] rfl ?_
                  exact t_X12_orders_j142 a2 a3 (w10.1 97 43) (w10.1 97 44) (0 : Int32) q11 h
                · refine j_iconst (1 : Int32) dX12_orders_137 ki_1 ?_
                  refine j_goto 142 dX12_orders_138 (by decide) ?_
                  refine j_loc [(0, .ref (ad (gm κ) 97)), (2, .int a2), (3, .int a3), (4, .int (w10.1 97 43)), (5, .int (w10.1 97 44))] [2, 3, 4, 1, 0] rfl ?_
                  exact t_X12_orders_j142 a2 a3 (w10.1 97 43) (w10.1 97 44) (1 : Int32) q11 h
            · refine j_aload_n 0 dX12_orders_44 rfl rfl ?_
              refine j_iconst (4 : Int32) dX12_orders_45 ki_4 ?_
              obtain ⟨q27, e28, h⟩ := ok_b h
              refine j_callV (As := [.int (4 : Int32)]) (st := []) [.int q27.1] (c_X12_refuse (kl κ) (gm κ) (kA κ) (4 : Int32) w q27 e28) ck_RX12_312 im_X12_refuse se_X12_refuse sh_97 cx_12 ⟨rfl, rfl⟩ ⟨by decide, by decide⟩ rfl rfl (Nat.le_of_ble_eq_true rfl) dX12_orders_46 _ rfl ?_
              have h := ok_s h
              exact j_iret dX12_orders_49 rfl rfl h
          · refine j_loc [(0, .ref (ad (gm κ) 97))] [0] rfl ?_
            exact t_X12_orders_j30 w h
theorem c_X12_orders (l : Launch) (γ : Gm) (A : Nat → Prop) (a1 : Int32) (a2 : Int32) (a3 : Int32) (w : Wd) (q : Int32 × Wd) (e : X12_orders  a1 a2 a3 w = some q) : MetG l γ A yX12_orders cX12_orders 7 (some .int) (rmk 10 223) [.ref (ad (γ) 97), .int a1, .int a2, .int a3] w (some (.int q.1)) q.2 := by
  refine met_of pn_RX12 (Nat.le_of_ble_eq_true rfl) ?_
  intro κ hl hγ hA hρ
  subst hl; subst hγ; subst hA
  exact t_X12_orders   a1 a2 a3 w ⟨q, e, pIw hρ rfl rfl⟩
theorem dX12_fault_0 : decode cX12_fault 0 = .ok (.iload_n 1, 1) := by decide +kernel
theorem dX12_fault_1 : decode cX12_fault 1 = .ok (.ifCond .ne 10, 3) := by decide +kernel
theorem dX12_fault_4 : decode cX12_fault 4 = .ok (.aload_n 0, 1) := by decide +kernel
theorem dX12_fault_5 : decode cX12_fault 5 = .ok (.getfield 88, 3) := by decide +kernel
theorem dX12_fault_8 : decode cX12_fault 8 = .ok (.goto 16, 3) := by decide +kernel
theorem dX12_fault_11 : decode cX12_fault 11 = .ok (.iload_n 1, 1) := by decide +kernel
theorem dX12_fault_12 : decode cX12_fault 12 = .ok (.iconst 1, 1) := by decide +kernel
theorem dX12_fault_13 : decode cX12_fault 13 = .ok (.if_icmp .ne 10, 3) := by decide +kernel
theorem dX12_fault_16 : decode cX12_fault 16 = .ok (.aload_n 0, 1) := by decide +kernel
theorem dX12_fault_17 : decode cX12_fault 17 = .ok (.getfield 91, 3) := by decide +kernel
theorem dX12_fault_20 : decode cX12_fault 20 = .ok (.goto 4, 3) := by decide +kernel
theorem dX12_fault_23 : decode cX12_fault 23 = .ok (.iconst (-1), 1) := by decide +kernel
theorem dX12_fault_24 : decode cX12_fault 24 = .ok (.ireturn, 1) := by decide +kernel
noncomputable def X12_faultO (a1 : Int32) (w : Wd) : Option (Int32) :=
(if a1 = 0 then
some (w.1 97 39)
else
(if a1 = (1 : Int32) then
some (w.1 97 40)
else
some (-1 : Int32)))
set_option maxRecDepth 20000 in
set_option maxHeartbeats 1000000 in
theorem t_X12_fault {κ : Kx} (a1 : Int32) (w : Wd) (h : ok (X12_faultO  a1 w) (PI κ w)) : J κ RX12 cX12_fault 2 (some .int) (rmk 0 0) 0 [(0, .ref (ad (gm κ) 97)), (1, .int a1)] [] w := by
  unfold X12_faultO at h
  refine j_iload_n 1 dX12_fault_0 rfl rfl ?_
  refine j_if_ne 11 dX12_fault_1 (by decide) h (fun h => ?_) (fun h => ?_)
  · refine j_iload_n 1 dX12_fault_11 rfl rfl ?_
    refine j_iconst (1 : Int32) dX12_fault_12 ki_1 ?_
    refine j_ic_ne 23 dX12_fault_13 (by decide) h (fun h => ?_) (fun h => ?_)
    · refine j_iconst (-1 : Int32) dX12_fault_23 ki_m1 ?_
      have h := ok_s h
      exact j_iret dX12_fault_24 rfl rfl h
    · refine j_aload_n 0 dX12_fault_16 rfl rfl ?_
      refine j_getI fl_RX12_91 sh_97 fk_97_40 dX12_fault_17 ?_
      refine j_goto 24 dX12_fault_20 (by decide) ?_
      have h := ok_s h
      exact j_iret dX12_fault_24 rfl rfl h
  · refine j_aload_n 0 dX12_fault_4 rfl rfl ?_
    refine j_getI fl_RX12_88 sh_97 fk_97_39 dX12_fault_5 ?_
    refine j_goto 24 dX12_fault_8 (by decide) ?_
    have h := ok_s h
    exact j_iret dX12_fault_24 rfl rfl h
noncomputable def X12_fault (a1 : Int32) (w : Wd) : Int32 := (X12_faultO  a1 w).getD 0
theorem X12_fault_eq (a1 : Int32) (w : Wd) : X12_faultO  a1 w = some (X12_fault  a1 w) := by
  unfold X12_fault X12_faultO
  repeat (first | rfl | split)
theorem c_X12_fault (l : Launch) (γ : Gm) (A : Nat → Prop) (a1 : Int32) (w : Wd) : MetG l γ A yX12_fault cX12_fault 2 (some .int) (rmk 0 0) [.ref (ad (γ) 97), .int a1] w (some (.int (X12_fault  a1 w))) w := by
  refine met_of pn_RX12 (Nat.le_of_ble_eq_true rfl) ?_
  intro κ hl hγ hA hρ
  subst hl; subst hγ; subst hA
  exact t_X12_fault   a1 w ⟨_, X12_fault_eq  a1 w, pI hρ rfl rfl⟩
