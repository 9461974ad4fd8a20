theorem dX12_stand_0 : decode cX12_stand 0 = .ok (.iconst 0, 1) := by decide +kernel
theorem dX12_stand_1 : decode cX12_stand 1 = .ok (.istore_n 3, 1) := by decide +kernel
theorem dX12_stand_2 : decode cX12_stand 2 = .ok (.iconst 0, 1) := by decide +kernel
theorem dX12_stand_3 : decode cX12_stand 3 = .ok (.istore 4, 2) := by decide +kernel
theorem dX12_stand_5 : decode cX12_stand 5 = .ok (.iload 4, 2) := by decide +kernel
theorem dX12_stand_7 : decode cX12_stand 7 = .ok (.aload_n 0, 1) := by decide +kernel
theorem dX12_stand_8 : decode cX12_stand 8 = .ok (.getfield 452, 3) := by decide +kernel
theorem dX12_stand_11 : decode cX12_stand 11 = .ok (.if_icmp .ge 103, 3) := by decide +kernel
theorem dX12_stand_14 : decode cX12_stand 14 = .ok (.aload_n 0, 1) := by decide +kernel
theorem dX12_stand_15 : decode cX12_stand 15 = .ok (.getfield 94, 3) := by decide +kernel
theorem dX12_stand_18 : decode cX12_stand 18 = .ok (.iload 4, 2) := by decide +kernel
theorem dX12_stand_20 : decode cX12_stand 20 = .ok (.iaload, 1) := by decide +kernel
theorem dX12_stand_21 : decode cX12_stand 21 = .ok (.iload_n 2, 1) := by decide +kernel
theorem dX12_stand_22 : decode cX12_stand 22 = .ok (.if_icmp .gt 86, 3) := by decide +kernel
theorem dX12_stand_25 : decode cX12_stand 25 = .ok (.aload_n 0, 1) := by decide +kernel
theorem dX12_stand_26 : decode cX12_stand 26 = .ok (.getfield 97, 3) := by decide +kernel
theorem dX12_stand_29 : decode cX12_stand 29 = .ok (.iload 4, 2) := by decide +kernel
theorem dX12_stand_31 : decode cX12_stand 31 = .ok (.iaload, 1) := by decide +kernel
theorem dX12_stand_32 : decode cX12_stand 32 = .ok (.iload_n 1, 1) := by decide +kernel
theorem dX12_stand_33 : decode cX12_stand 33 = .ok (.ishr, 1) := by decide +kernel
theorem dX12_stand_34 : decode cX12_stand 34 = .ok (.iconst 1, 1) := by decide +kernel
theorem dX12_stand_35 : decode cX12_stand 35 = .ok (.iand, 1) := by decide +kernel
theorem dX12_stand_36 : decode cX12_stand 36 = .ok (.ifCond .ne 6, 3) := by decide +kernel
theorem dX12_stand_39 : decode cX12_stand 39 = .ok (.goto 69, 3) := by decide +kernel
theorem dX12_stand_42 : decode cX12_stand 42 = .ok (.iload_n 3, 1) := by decide +kernel
theorem dX12_stand_43 : decode cX12_stand 43 = .ok (.istore 5, 2) := by decide +kernel
theorem dX12_stand_45 : decode cX12_stand 45 = .ok (.iload 5, 2) := by decide +kernel
theorem dX12_stand_47 : decode cX12_stand 47 = .ok (.ifCond .le 49, 3) := by decide +kernel
theorem dX12_stand_50 : decode cX12_stand 50 = .ok (.aload_n 0, 1) := by decide +kernel
theorem dX12_stand_51 : decode cX12_stand 51 = .ok (.getfield 94, 3) := by decide +kernel
theorem dX12_stand_54 : decode cX12_stand 54 = .ok (.aload_n 0, 1) := by decide +kernel
theorem dX12_stand_55 : decode cX12_stand 55 = .ok (.getfield 164, 3) := by decide +kernel
theorem dX12_stand_58 : decode cX12_stand 58 = .ok (.iload 5, 2) := by decide +kernel
theorem dX12_stand_60 : decode cX12_stand 60 = .ok (.iconst 1, 1) := by decide +kernel
theorem dX12_stand_61 : decode cX12_stand 61 = .ok (.isub, 1) := by decide +kernel
theorem dX12_stand_62 : decode cX12_stand 62 = .ok (.iaload, 1) := by decide +kernel
theorem dX12_stand_63 : decode cX12_stand 63 = .ok (.iaload, 1) := by decide +kernel
theorem dX12_stand_64 : decode cX12_stand 64 = .ok (.aload_n 0, 1) := by decide +kernel
theorem dX12_stand_65 : decode cX12_stand 65 = .ok (.getfield 94, 3) := by decide +kernel
theorem dX12_stand_68 : decode cX12_stand 68 = .ok (.iload 4, 2) := by decide +kernel
theorem dX12_stand_70 : decode cX12_stand 70 = .ok (.iaload, 1) := by decide +kernel
theorem dX12_stand_71 : decode cX12_stand 71 = .ok (.if_icmp .le 25, 3) := by decide +kernel
theorem dX12_stand_74 : decode cX12_stand 74 = .ok (.aload_n 0, 1) := by decide +kernel
theorem dX12_stand_75 : decode cX12_stand 75 = .ok (.getfield 164, 3) := by decide +kernel
theorem dX12_stand_78 : decode cX12_stand 78 = .ok (.iload 5, 2) := by decide +kernel
theorem dX12_stand_80 : decode cX12_stand 80 = .ok (.aload_n 0, 1) := by decide +kernel
theorem dX12_stand_81 : decode cX12_stand 81 = .ok (.getfield 164, 3) := by decide +kernel
theorem dX12_stand_84 : decode cX12_stand 84 = .ok (.iload 5, 2) := by decide +kernel
theorem dX12_stand_86 : decode cX12_stand 86 = .ok (.iconst 1, 1) := by decide +kernel
theorem dX12_stand_87 : decode cX12_stand 87 = .ok (.isub, 1) := by decide +kernel
theorem dX12_stand_88 : decode cX12_stand 88 = .ok (.iaload, 1) := by decide +kernel
theorem dX12_stand_89 : decode cX12_stand 89 = .ok (.iastore, 1) := by decide +kernel
theorem dX12_stand_90 : decode cX12_stand 90 = .ok (.iinc 5 (-1), 3) := by decide +kernel
theorem dX12_stand_93 : decode cX12_stand 93 = .ok (.goto (-48), 3) := by decide +kernel
theorem dX12_stand_96 : decode cX12_stand 96 = .ok (.aload_n 0, 1) := by decide +kernel
theorem dX12_stand_97 : decode cX12_stand 97 = .ok (.getfield 164, 3) := by decide +kernel
theorem dX12_stand_100 : decode cX12_stand 100 = .ok (.iload 5, 2) := by decide +kernel
theorem dX12_stand_102 : decode cX12_stand 102 = .ok (.iload 4, 2) := by decide +kernel
theorem dX12_stand_104 : decode cX12_stand 104 = .ok (.iastore, 1) := by decide +kernel
theorem dX12_stand_105 : decode cX12_stand 105 = .ok (.iinc 3 1, 3) := by decide +kernel
theorem dX12_stand_108 : decode cX12_stand 108 = .ok (.iinc 4 1, 3) := by decide +kernel
theorem dX12_stand_111 : decode cX12_stand 111 = .ok (.goto (-106), 3) := by decide +kernel
theorem dX12_stand_114 : decode cX12_stand 114 = .ok (.aload_n 0, 1) := by decide +kernel
theorem dX12_stand_115 : decode cX12_stand 115 = .ok (.iconst 0, 1) := by decide +kernel
theorem dX12_stand_116 : decode cX12_stand 116 = .ok (.putfield 468, 3) := by decide +kernel
theorem dX12_stand_119 : decode cX12_stand 119 = .ok (.iconst 0, 1) := by decide +kernel
theorem dX12_stand_120 : decode cX12_stand 120 = .ok (.istore 4, 2) := by decide +kernel
theorem dX12_stand_122 : decode cX12_stand 122 = .ok (.iload 4, 2) := by decide +kernel
theorem dX12_stand_124 : decode cX12_stand 124 = .ok (.iload_n 3, 1) := by decide +kernel
theorem dX12_stand_125 : decode cX12_stand 125 = .ok (.if_icmp .ge 76, 3) := by decide +kernel
theorem dX12_stand_128 : decode cX12_stand 128 = .ok (.bipush 20, 2) := by decide +kernel
theorem dX12_stand_130 : decode cX12_stand 130 = .ok (.aload_n 0, 1) := by decide +kernel
theorem dX12_stand_131 : decode cX12_stand 131 = .ok (.getfield 164, 3) := by decide +kernel
theorem dX12_stand_134 : decode cX12_stand 134 = .ok (.iload 4, 2) := by decide +kernel
theorem dX12_stand_136 : decode cX12_stand 136 = .ok (.iaload, 1) := by decide +kernel
theorem dX12_stand_137 : decode cX12_stand 137 = .ok (.imul, 1) := by decide +kernel
theorem dX12_stand_138 : decode cX12_stand 138 = .ok (.istore 5, 2) := by decide +kernel
theorem dX12_stand_140 : decode cX12_stand 140 = .ok (.iload 5, 2) := by decide +kernel
theorem dX12_stand_142 : decode cX12_stand 142 = .ok (.bipush 20, 2) := by decide +kernel
theorem dX12_stand_144 : decode cX12_stand 144 = .ok (.aload_n 0, 1) := by decide +kernel
theorem dX12_stand_145 : decode cX12_stand 145 = .ok (.getfield 164, 3) := by decide +kernel
theorem dX12_stand_148 : decode cX12_stand 148 = .ok (.iload 4, 2) := by decide +kernel
theorem dX12_stand_150 : decode cX12_stand 150 = .ok (.iaload, 1) := by decide +kernel
theorem dX12_stand_151 : decode cX12_stand 151 = .ok (.imul, 1) := by decide +kernel
theorem dX12_stand_152 : decode cX12_stand 152 = .ok (.aload_n 0, 1) := by decide +kernel
theorem dX12_stand_153 : decode cX12_stand 153 = .ok (.getfield 100, 3) := by decide +kernel
theorem dX12_stand_156 : decode cX12_stand 156 = .ok (.aload_n 0, 1) := by decide +kernel
theorem dX12_stand_157 : decode cX12_stand 157 = .ok (.getfield 164, 3) := by decide +kernel
theorem dX12_stand_160 : decode cX12_stand 160 = .ok (.iload 4, 2) := by decide +kernel
theorem dX12_stand_162 : decode cX12_stand 162 = .ok (.iaload, 1) := by decide +kernel
theorem dX12_stand_163 : decode cX12_stand 163 = .ok (.iaload, 1) := by decide +kernel
theorem dX12_stand_164 : decode cX12_stand 164 = .ok (.iadd, 1) := by decide +kernel
theorem dX12_stand_165 : decode cX12_stand 165 = .ok (.if_icmp .ge 30, 3) := by decide +kernel
theorem dX12_stand_168 : decode cX12_stand 168 = .ok (.aload_n 0, 1) := by decide +kernel
theorem dX12_stand_169 : decode cX12_stand 169 = .ok (.getfield 161, 3) := by decide +kernel
theorem dX12_stand_172 : decode cX12_stand 172 = .ok (.aload_n 0, 1) := by decide +kernel
theorem dX12_stand_173 : decode cX12_stand 173 = .ok (.getfield 468, 3) := by decide +kernel
theorem dX12_stand_176 : decode cX12_stand 176 = .ok (.iload 5, 2) := by decide +kernel
theorem dX12_stand_178 : decode cX12_stand 178 = .ok (.iastore, 1) := by decide +kernel
theorem dX12_stand_179 : decode cX12_stand 179 = .ok (.aload_n 0, 1) := by decide +kernel
theorem dX12_stand_180 : decode cX12_stand 180 = .ok (.dup, 1) := by decide +kernel
theorem dX12_stand_181 : decode cX12_stand 181 = .ok (.getfield 468, 3) := by decide +kernel
theorem dX12_stand_184 : decode cX12_stand 184 = .ok (.iconst 1, 1) := by decide +kernel
theorem dX12_stand_185 : decode cX12_stand 185 = .ok (.iadd, 1) := by decide +kernel
theorem dX12_stand_186 : decode cX12_stand 186 = .ok (.putfield 468, 3) := by decide +kernel
theorem dX12_stand_189 : decode cX12_stand 189 = .ok (.iinc 5 1, 3) := by decide +kernel
theorem dX12_stand_192 : decode cX12_stand 192 = .ok (.goto (-52), 3) := by decide +kernel
theorem dX12_stand_195 : decode cX12_stand 195 = .ok (.iinc 4 1, 3) := by decide +kernel
theorem dX12_stand_198 : decode cX12_stand 198 = .ok (.goto (-76), 3) := by decide +kernel
theorem dX12_stand_201 : decode cX12_stand 201 = .ok (.iconst 0, 1) := by decide +kernel
theorem dX12_stand_202 : decode cX12_stand 202 = .ok (.istore 4, 2) := by decide +kernel
theorem dX12_stand_204 : decode cX12_stand 204 = .ok (.iload 4, 2) := by decide +kernel
theorem dX12_stand_206 : decode cX12_stand 206 = .ok (.aload_n 0, 1) := by decide +kernel
theorem dX12_stand_207 : decode cX12_stand 207 = .ok (.getfield 468, 3) := by decide +kernel
theorem dX12_stand_210 : decode cX12_stand 210 = .ok (.if_icmp .ge 88, 3) := by decide +kernel
theorem dX12_stand_213 : decode cX12_stand 213 = .ok (.aload_n 0, 1) := by decide +kernel
theorem dX12_stand_214 : decode cX12_stand 214 = .ok (.getfield 167, 3) := by decide +kernel
theorem dX12_stand_217 : decode cX12_stand 217 = .ok (.iload 4, 2) := by decide +kernel
theorem dX12_stand_219 : decode cX12_stand 219 = .ok (.iconst 0, 1) := by decide +kernel
theorem dX12_stand_220 : decode cX12_stand 220 = .ok (.bastore, 1) := by decide +kernel
theorem dX12_stand_221 : decode cX12_stand 221 = .ok (.iload 4, 2) := by decide +kernel
theorem dX12_stand_223 : decode cX12_stand 223 = .ok (.iconst 1, 1) := by decide +kernel
theorem dX12_stand_224 : decode cX12_stand 224 = .ok (.iadd, 1) := by decide +kernel
theorem dX12_stand_225 : decode cX12_stand 225 = .ok (.istore 5, 2) := by decide +kernel
theorem dX12_stand_227 : decode cX12_stand 227 = .ok (.iload 5, 2) := by decide +kernel
theorem dX12_stand_229 : decode cX12_stand 229 = .ok (.aload_n 0, 1) := by decide +kernel
theorem dX12_stand_230 : decode cX12_stand 230 = .ok (.getfield 468, 3) := by decide +kernel
theorem dX12_stand_233 : decode cX12_stand 233 = .ok (.if_icmp .ge 59, 3) := by decide +kernel
theorem dX12_stand_236 : decode cX12_stand 236 = .ok (.aload_n 0, 1) := by decide +kernel
theorem dX12_stand_237 : decode cX12_stand 237 = .ok (.getfield 167, 3) := by decide +kernel
theorem dX12_stand_240 : decode cX12_stand 240 = .ok (.iload 4, 2) := by decide +kernel
theorem dX12_stand_242 : decode cX12_stand 242 = .ok (.aload_n 0, 1) := by decide +kernel
theorem dX12_stand_243 : decode cX12_stand 243 = .ok (.getfield 167, 3) := by decide +kernel
theorem dX12_stand_246 : decode cX12_stand 246 = .ok (.iload 4, 2) := by decide +kernel
theorem dX12_stand_248 : decode cX12_stand 248 = .ok (.baload, 1) := by decide +kernel
theorem dX12_stand_249 : decode cX12_stand 249 = .ok (.ifCond .ne 31, 3) := by decide +kernel
theorem dX12_stand_252 : decode cX12_stand 252 = .ok (.aload_n 0, 1) := by decide +kernel
theorem dX12_stand_253 : decode cX12_stand 253 = .ok (.getfield 127, 3) := by decide +kernel
theorem dX12_stand_256 : decode cX12_stand 256 = .ok (.aload_n 0, 1) := by decide +kernel
theorem dX12_stand_257 : decode cX12_stand 257 = .ok (.getfield 161, 3) := by decide +kernel
theorem dX12_stand_260 : decode cX12_stand 260 = .ok (.iload 5, 2) := by decide +kernel
theorem dX12_stand_262 : decode cX12_stand 262 = .ok (.iaload, 1) := by decide +kernel
theorem dX12_stand_263 : decode cX12_stand 263 = .ok (.laload, 1) := by decide +kernel
theorem dX12_stand_264 : decode cX12_stand 264 = .ok (.aload_n 0, 1) := by decide +kernel
theorem dX12_stand_265 : decode cX12_stand 265 = .ok (.getfield 124, 3) := by decide +kernel
theorem dX12_stand_268 : decode cX12_stand 268 = .ok (.aload_n 0, 1) := by decide +kernel
theorem dX12_stand_269 : decode cX12_stand 269 = .ok (.getfield 161, 3) := by decide +kernel
theorem dX12_stand_272 : decode cX12_stand 272 = .ok (.iload 4, 2) := by decide +kernel
theorem dX12_stand_274 : decode cX12_stand 274 = .ok (.iaload, 1) := by decide +kernel
theorem dX12_stand_275 : decode cX12_stand 275 = .ok (.laload, 1) := by decide +kernel
theorem dX12_stand_276 : decode cX12_stand 276 = .ok (.lcmp, 1) := by decide +kernel
theorem dX12_stand_277 : decode cX12_stand 277 = .ok (.ifCond .ne 7, 3) := by decide +kernel
theorem dX12_stand_280 : decode cX12_stand 280 = .ok (.iconst 1, 1) := by decide +kernel
theorem dX12_stand_281 : decode cX12_stand 281 = .ok (.goto 4, 3) := by decide +kernel
theorem dX12_stand_284 : decode cX12_stand 284 = .ok (.iconst 0, 1) := by decide +kernel
theorem dX12_stand_285 : decode cX12_stand 285 = .ok (.bastore, 1) := by decide +kernel
theorem dX12_stand_286 : decode cX12_stand 286 = .ok (.iinc 5 1, 3) := by decide +kernel
theorem dX12_stand_289 : decode cX12_stand 289 = .ok (.goto (-62), 3) := by decide +kernel
theorem dX12_stand_292 : decode cX12_stand 292 = .ok (.iinc 4 1, 3) := by decide +kernel
theorem dX12_stand_295 : decode cX12_stand 295 = .ok (.goto (-91), 3) := by decide +kernel
theorem dX12_stand_298 : decode cX12_stand 298 = .ok (.return_, 1) := by decide +kernel
noncomputable def X12_stand_j108 (a1 : Int32) (a2 : Int32) (a3 : Int32) (a4 : Int32) (w : Wd) : Option ((Int32 × Int32 × Wd) ⊕ (Int32 × Wd)) :=
some (.inl (a3, (a4 + (1 : Int32)), w))
set_option maxRecDepth 20000 in
set_option maxHeartbeats 1000000 in
theorem t_X12_stand_j108 {κ : Kx} (a1 : Int32) (a2 : Int32) (a3 : Int32) (a4 : Int32) (w : Wd) {G : (Int32 × Int32 × Wd) → Prop} {P : (Int32 × Wd) → Prop} (KG : ∀ s, G s → J κ RX12 cX12_stand 6 none (rmk 0 0) 5 [(0, .ref (ad (gm κ) 97)), (1, .int a1), (2, .int a2), (3, .int s.1), (4, .int s.2.1)] [] s.2.2) (K0 : ∀ e, P e → J κ RX12 cX12_stand 6 none (rmk 0 0) 114 [(0, .ref (ad (gm κ) 97)), (3, .int e.1)] [] e.2) (h : ok (X12_stand_j108  a1 a2 a3 a4 w) (sel G P)) : J κ RX12 cX12_stand 6 none (rmk 0 0) 108 [(0, .ref (ad (gm κ) 97)), (1, .int a1), (2, .int a2), (3, .int a3), (4, .int a4)] [] w := by
  unfold X12_stand_j108 at h
  refine j_iinc (a4 + (1 : Int32)) 4 [(4, .int (a4 + (1 : Int32))), (0, .ref (ad (gm κ) 97)), (1, .int a1), (2, .int a2), (3, .int a3)] dX12_stand_108 rfl (by rw [kn_1]) (by decide) rfl ?_
  refine j_goto 5 dX12_stand_111 (by decide) ?_
  refine j_loc [(0, .ref (ad (gm κ) 97)), (1, .int a1), (2, .int a2), (3, .int a3), (4, .int (a4 + (1 : Int32)))] [1, 2, 3, 4, 0] rfl ?_
  have h := sel_l h
  have h := KG _ h
  exact h
noncomputable def X12_stand_b45 (a1 : Int32) (a2 : Int32) (a3 : Int32) (a4 : Int32) (s : (Int32 × Wd)) : Option ((Int32 × Wd) ⊕ (Int32 × Wd)) :=
(if s.1 ≤ 0 then
some (.inr (s.1, s.2))
else
gd (vp_in (s.1 - (1 : Int32)) 5) <|
gd (vp_in (s.2.1 145 (ix (s.1 - (1 : Int32)))) 6) <|
(some (s.2.1 122 (ix (s.2.1 145 (ix (s.1 - (1 : Int32))))))).bind fun z1 =>
gd (vp_in a4 6) <|
(if z1 ≤ (s.2.1 122 (ix a4)) then
some (.inr (s.1, s.2))
else
gd (vp_in (s.1 - (1 : Int32)) 5) <|
gd (vp_in s.1 5) <|
(some (puI s.2 145 (ix s.1) (s.2.1 145 (ix (s.1 - (1 : Int32)))))).bind fun w2 =>
some (.inl ((s.1 + (-1 : Int32)), w2))))
set_option maxRecDepth 20000 in
set_option maxHeartbeats 1000000 in
theorem t_X12_stand_b45 {κ : Kx} (a1 : Int32) (a2 : Int32) (a3 : Int32) (a4 : Int32) {P : (Int32 × Wd) → Prop} (K0 : ∀ e, P e → J κ RX12 cX12_stand 6 none (rmk 0 0) 96 [(0, .ref (ad (gm κ) 97)), (1, .int a1), (2, .int a2), (3, .int a3), (4, .int a4), (5, .int e.1)] [] e.2) (s : (Int32 × Wd)) (h : ok (lp (X12_stand_b45  a1 a2 a3 a4) s) P) : J κ RX12 cX12_stand 6 none (rmk 0 0) 45 [(0, .ref (ad (gm κ) 97)), (1, .int a1), (2, .int a2), (3, .int a3), (4, .int a4), (5, .int s.1)] [] s.2 := by
  refine lp_ind (fun s => J κ RX12 cX12_stand 6 none (rmk 0 0) 45 [(0, .ref (ad (gm κ) 97)), (1, .int a1), (2, .int a2), (3, .int a3), (4, .int a4), (5, .int s.1)] [] s.2) (fun s h => ?_) s h
  unfold X12_stand_b45 at h
  refine j_iload 5 dX12_stand_45 rfl ?_
  refine j_if_le 96 dX12_stand_47 (by decide) h (fun h => ?_) (fun h => ?_)
  · refine j_loc [(0, .ref (ad (gm κ) 97)), (1, .int a1), (2, .int a2), (3, .int a3), (4, .int a4), (5, .int s.1)] [0, 1, 2, 3, 4, 5] rfl ?_
    have h := sel_r h
    have h := K0 _ h
    exact h
  · refine j_aload_n 0 dX12_stand_50 rfl rfl ?_
    refine j_getA 122 fl_RX12_94 sh_97 fk_97_45 (by decide) dX12_stand_51 ?_
    refine j_aload_n 0 dX12_stand_54 rfl rfl ?_
    refine j_getA 145 fl_RX12_164 sh_97 fk_97_68 (by decide) dX12_stand_55 ?_
    refine j_iload 5 dX12_stand_58 rfl ?_
    refine j_iconst (1 : Int32) dX12_stand_60 ki_1 ?_
    refine j_isub dX12_stand_61 ?_
    refine j_iald sh_145 dX12_stand_62 h (fun h => ?_)
    refine j_iald sh_122 dX12_stand_63 h (fun h => ?_)
    refine j_lI h (fun z1 h => ?_)
    refine j_aload_n 0 dX12_stand_64 rfl rfl ?_
    refine j_getA 122 fl_RX12_94 sh_97 fk_97_45 (by decide) dX12_stand_65 ?_
    refine j_iload 4 dX12_stand_68 rfl ?_
    refine j_iald sh_122 dX12_stand_70 h (fun h => ?_)
    refine j_ic_le 96 dX12_stand_71 (by decide) h (fun h => ?_) (fun h => ?_)
    · refine j_loc [(0, .ref (ad (gm κ) 97)), (1, .int a1), (2, .int a2), (3, .int a3), (4, .int a4), (5, .int s.1)] [0, 1, 2, 3, 4, 5] rfl ?_
      have h := sel_r h
      have h := K0 _ h
      exact h
    · refine j_aload_n 0 dX12_stand_74 rfl rfl ?_
      refine j_getA 145 fl_RX12_164 sh_97 fk_97_68 (by decide) dX12_stand_75 ?_
      refine j_iload 5 dX12_stand_78 rfl ?_
      refine j_aload_n 0 dX12_stand_80 rfl rfl ?_
      refine j_getA 145 fl_RX12_164 sh_97 fk_97_68 (by decide) dX12_stand_81 ?_
      refine j_iload 5 dX12_stand_84 rfl ?_
      refine j_iconst (1 : Int32) dX12_stand_86 ki_1 ?_
      refine j_isub dX12_stand_87 ?_
      refine j_iald sh_145 dX12_stand_88 h (fun h => ?_)
      refine j_iast sh_145 dX12_stand_89 h (fun h => ?_)
      refine j_lW h (fun w2 h => ?_)
      refine j_iinc (s.1 + (-1 : Int32)) 5 [(5, .int (s.1 + (-1 : Int32))), (0, .ref (ad (gm κ) 97)), (1, .int a1), (2, .int a2), (3, .int a3), (4, .int a4)] dX12_stand_90 rfl (by rw [kn_m1]) (by decide) rfl ?_
      refine j_goto 45 dX12_stand_93 (by decide) ?_
      refine j_loc [(0, .ref (ad (gm κ) 97)), (1, .int a1), (2, .int a2), (3, .int a3), (4, .int a4), (5, .int (s.1 + (-1 : Int32)))] [1, 2, 3, 4, 5, 0] rfl ?_
      have h := sel_l h
      exact h
noncomputable def X12_stand_b5 (a1 : Int32) (a2 : Int32) (s : (Int32 × Int32 × Wd)) : Option ((Int32 × Int32 × Wd) ⊕ (Int32 × Wd)) :=
(if (s.2.2.1 97 42) ≤ s.2.1 then
some (.inr (s.1, s.2.2))
else
gd (vp_in s.2.1 6) <|
(if a2 < (s.2.2.1 122 (ix s.2.1)) then
X12_stand_j108 a1 a2 s.1 s.2.1 s.2.2
else
gd (vp_in s.2.1 6) <|
(if (((s.2.2.1 123 (ix s.2.1)) >>> (a1 &&& 31)) &&& (1 : Int32)) = 0 then
X12_stand_j108 a1 a2 s.1 s.2.1 s.2.2
else
(lp (X12_stand_b45 a1 a2 s.1 s.2.1) (s.1, s.2.2)).bind fun e3 =>
gd (vp_in e3.1 5) <|
(some (puI e3.2 145 (ix e3.1) s.2.1)).bind fun w4 =>
X12_stand_j108 a1 a2 (s.1 + (1 : Int32)) s.2.1 w4)))
set_option maxRecDepth 20000 in
set_option maxHeartbeats 1000000 in
theorem t_X12_stand_b5 {κ : Kx} (a1 : Int32) (a2 : Int32) {P : (Int32 × Wd) → Prop} (K0 : ∀ e, P e → J κ RX12 cX12_stand 6 none (rmk 0 0) 114 [(0, .ref (ad (gm κ) 97)), (3, .int e.1)] [] e.2) (s : (Int32 × Int32 × Wd)) (h : ok (lp (X12_stand_b5  a1 a2) s) P) : J κ RX12 cX12_stand 6 none (rmk 0 0) 5 [(0, .ref (ad (gm κ) 97)), (1, .int a1), (2, .int a2), (3, .int s.1), (4, .int s.2.1)] [] s.2.2 := by
  refine lp_ind (fun s => J κ RX12 cX12_stand 6 none (rmk 0 0) 5 [(0, .ref (ad (gm κ) 97)), (1, .int a1), (2, .int a2), (3, .int s.1), (4, .int s.2.1)] [] s.2.2) (fun s h => ?_) s h
  unfold X12_stand_b5 at h
  refine j_iload 4 dX12_stand_5 rfl ?_
  refine j_aload_n 0 dX12_stand_7 rfl rfl ?_
  refine j_getI fl_RX12_452 sh_97 fk_97_42 dX12_stand_8 ?_
  refine j_ic_ge 114 dX12_stand_11 (by decide) h (fun h => ?_) (fun h => ?_)
  · refine j_loc [(0, .ref (ad (gm κ) 97)), (3, .int s.1)] [0, 3] rfl ?_
    have h := sel_r h
    have h := K0 _ h
    exact h
  · refine j_aload_n 0 dX12_stand_14 rfl rfl ?_
    refine j_getA 122 fl_RX12_94 sh_97 fk_97_45 (by decide) dX12_stand_15 ?_
    refine j_iload 4 dX12_stand_18 rfl ?_
    refine j_iald sh_122 dX12_stand_20 h (fun h => ?_)
    refine j_iload_n 2 dX12_stand_21 rfl rfl ?_
    refine j_ic_gt 108 dX12_stand_22 (by decide) h (fun h => ?_) (fun h => ?_)
    · refine j_loc [(0, .ref (ad (gm κ) 97)), (1, .int a1), (2, .int a2), (3, .int s.1), (4, .int s.2.1)] [0, 1, 2, 3, 4] rfl ?_
      exact t_X12_stand_j108 a1 a2 s.1 s.2.1 s.2.2 (fun _ h => h) K0 h
    · refine j_aload_n 0 dX12_stand_25 rfl rfl ?_
      refine j_getA 123 fl_RX12_97 sh_97 fk_97_46 (by decide) dX12_stand_26 ?_
      refine j_iload 4 dX12_stand_29 rfl ?_
      refine j_iald sh_123 dX12_stand_31 h (fun h => ?_)
      refine j_iload_n 1 dX12_stand_32 rfl rfl ?_
      refine j_ishr dX12_stand_33 ?_
      refine j_iconst (1 : Int32) dX12_stand_34 ki_1 ?_
      refine j_iand dX12_stand_35 ?_
      refine j_if_ne 42 dX12_stand_36 (by decide) h (fun h => ?_) (fun h => ?_)
      · refine j_iload_n 3 dX12_stand_42 rfl rfl ?_
        refine j_istore [(5, .int s.1), (0, .ref (ad (gm κ) 97)), (1, .int a1), (2, .int a2), (3, .int s.1), (4, .int s.2.1)] dX12_stand_43 (by decide) rfl ?_
        refine j_loc [(0, .ref (ad (gm κ) 97)), (1, .int a1), (2, .int a2), (3, .int s.1), (4, .int s.2.1), (5, .int s.1)] [1, 2, 3, 4, 5, 0] rfl ?_
        refine t_X12_stand_b45 a1 a2 s.1 s.2.1 (fun e3 h => ?_) (s.1, s.2.2) (ok_bb h)
        · refine j_aload_n 0 dX12_stand_96 rfl rfl ?_
          refine j_getA 145 fl_RX12_164 sh_97 fk_97_68 (by decide) dX12_stand_97 ?_
          refine j_iload 5 dX12_stand_100 rfl ?_
          refine j_iload 4 dX12_stand_102 rfl ?_
          refine j_iast sh_145 dX12_stand_104 h (fun h => ?_)
          refine j_lW h (fun w4 h => ?_)
          refine j_iinc (s.1 + (1 : Int32)) 3 [(3, .int (s.1 + (1 : Int32))), (0, .ref (ad (gm κ) 97)), (1, .int a1), (2, .int a2), (4, .int s.2.1), (5, .int e3.1)] dX12_stand_105 rfl (by rw [kn_1]) (by decide) rfl ?_
          refine j_loc [(0, .ref (ad (gm κ) 97)), (1, .int a1), (2, .int a2), (3, .int (s.1 + (1 : Int32))), (4, .int s.2.1)] [1, 2, 3, 0, 4] rfl ?_
          exact t_X12_stand_j108 a1 a2 (s.1 + (1 : Int32)) s.2.1 w4 (fun _ h => h) K0 h
      · refine j_goto 108 dX12_stand_39 (by decide) ?_
        refine j_loc [(0, .ref (ad (gm κ) 97)), (1, .int a1), (2, .int a2), (3, .int s.1), (4, .int s.2.1)] [0, 1, 2, 3, 4] rfl ?_
        exact t_X12_stand_j108 a1 a2 s.1 s.2.1 s.2.2 (fun _ h => h) K0 h
noncomputable def X12_stand_b140 (a3 : Int32) (a4 : Int32) (s : (Int32 × Wd)) : Option ((Int32 × Wd) ⊕ Wd) :=
gd (vp_in a4 5) <|
gd (vp_in a4 5) <|
gd (vp_in (s.2.1 145 (ix a4)) 6) <|
(if (((20 : Int32) * (s.2.1 145 (ix a4))) + (s.2.1 124 (ix (s.2.1 145 (ix a4))))) ≤ s.1 then
some (.inr s.2)
else
gd (vp_in (s.2.1 97 70) 100) <|
(some (puI s.2 144 (ix (s.2.1 97 70)) s.1)).bind fun w8 =>
(some (puI w8 97 70 ((w8.1 97 70) + (1 : Int32)))).bind fun w9 =>
some (.inl ((s.1 + (1 : Int32)), w9)))
set_option maxRecDepth 20000 in
set_option maxHeartbeats 1000000 in
theorem t_X12_stand_b140 {κ : Kx} (a3 : Int32) (a4 : Int32) {P : Wd → Prop} (K0 : ∀ e, P e → J κ RX12 cX12_stand 6 none (rmk 0 0) 195 [(0, .ref (ad (gm κ) 97)), (3, .int a3), (4, .int a4)] [] e) (s : (Int32 × Wd)) (h : ok (lp (X12_stand_b140  a3 a4) s) P) : J κ RX12 cX12_stand 6 none (rmk 0 0) 140 [(0, .ref (ad (gm κ) 97)), (3, .int a3), (4, .int a4), (5, .int s.1)] [] s.2 := by
  refine lp_ind (fun s => J κ RX12 cX12_stand 6 none (rmk 0 0) 140 [(0, .ref (ad (gm κ) 97)), (3, .int a3), (4, .int a4), (5, .int s.1)] [] s.2) (fun s h => ?_) s h
  unfold X12_stand_b140 at h
  refine j_iload 3 dX12_stand_140 rfl ?_
  refine j_bipush (20 : Int32) dX12_stand_142 kb_20 ?_
  refine j_aload_n 0 dX12_stand_144 rfl rfl ?_
  refine j_getA 145 fl_RX12_164 sh_97 fk_97_68 (by decide) dX12_stand_145 ?_
  refine j_iload 2 dX12_stand_148 rfl ?_
  refine j_iald sh_145 dX12_stand_150 h (fun h => ?_)
  refine j_imul dX12_stand_151 ?_
  refine j_aload_n 0 dX12_stand_152 rfl rfl ?_
  refine j_getA 124 fl_RX12_100 sh_97 fk_97_47 (by decide) dX12_stand_153 ?_
  refine j_aload_n 0 dX12_stand_156 rfl rfl ?_
  refine j_getA 145 fl_RX12_164 sh_97 fk_97_68 (by decide) dX12_stand_157 ?_
  refine j_iload 2 dX12_stand_160 rfl ?_
  refine j_iald sh_145 dX12_stand_162 h (fun h => ?_)
  refine j_iald sh_124 dX12_stand_163 h (fun h => ?_)
  refine j_iadd dX12_stand_164 ?_
  refine j_ic_ge 195 dX12_stand_165 (by decide) h (fun h => ?_) (fun h => ?_)
  · refine j_loc [(0, .ref (ad (gm κ) 97)), (3, .int a3), (4, .int a4)] [0, 1, 2] rfl ?_
    have h := sel_r h
    have h := K0 _ h
    exact h
  · refine j_aload_n 0 dX12_stand_168 rfl rfl ?_
    refine j_getA 144 fl_RX12_161 sh_97 fk_97_67 (by decide) dX12_stand_169 ?_
    refine j_aload_n 0 dX12_stand_172 rfl rfl ?_
    refine j_getI fl_RX12_468 sh_97 fk_97_70 dX12_stand_173 ?_
    refine j_iload 3 dX12_stand_176 rfl ?_
    refine j_iast sh_144 dX12_stand_178 h (fun h => ?_)
    refine j_lW h (fun w8 h => ?_)
    refine j_aload_n 0 dX12_stand_179 rfl rfl ?_
    refine j_dup dX12_stand_180 rfl ?_
    refine j_getI fl_RX12_468 sh_97 fk_97_70 dX12_stand_181 ?_
    refine j_iconst (1 : Int32) dX12_stand_184 ki_1 ?_
    refine j_iadd dX12_stand_185 ?_
    refine j_putI fp_RX12_468 sh_97 fk_97_70 dX12_stand_186 ?_
    refine j_lW h (fun w9 h => ?_)
    refine j_iinc (s.1 + (1 : Int32)) 3 [(5, .int (s.1 + (1 : Int32))), (0, .ref (ad (gm κ) 97)), (3, .int a3), (4, .int a4)] dX12_stand_189 rfl (by rw [kn_1]) (by decide) rfl ?_
    refine j_goto 140 dX12_stand_192 (by decide) ?_
    refine j_loc [(0, .ref (ad (gm κ) 97)), (3, .int a3), (4, .int a4), (5, .int (s.1 + (1 : Int32)))] [1, 2, 3, 0] rfl ?_
    have h := sel_l h
    exact h
noncomputable def X12_stand_b122 (a3 : Int32) (s : (Int32 × Wd)) : Option ((Int32 × Wd) ⊕ Wd) :=
(if a3 ≤ s.1 then
some (.inr s.2)
else
gd (vp_in s.1 5) <|
(some ((20 : Int32) * (s.2.1 145 (ix s.1)))).bind fun z7 =>
(lp (X12_stand_b140 a3 s.1) (z7, s.2)).bind fun e10 =>
some (.inl ((s.1 + (1 : Int32)), e10)))
set_option maxRecDepth 20000 in
set_option maxHeartbeats 1000000 in
theorem t_X12_stand_b122 {κ : Kx} (a3 : Int32) {P : Wd → Prop} (K0 : ∀ e, P e → J κ RX12 cX12_stand 6 none (rmk 0 0) 201 [(0, .ref (ad (gm κ) 97))] [] e) (s : (Int32 × Wd)) (h : ok (lp (X12_stand_b122  a3) s) P) : J κ RX12 cX12_stand 6 none (rmk 0 0) 122 [(0, .ref (ad (gm κ) 97)), (3, .int a3), (4, .int s.1)] [] s.2 := by
  refine lp_ind (fun s => J κ RX12 cX12_stand 6 none (rmk 0 0) 122 [(0, .ref (ad (gm κ) 97)), (3, .int a3), (4, .int s.1)] [] s.2) (fun s h => ?_) s h
  unfold X12_stand_b122 at h
  refine j_iload 2 dX12_stand_122 rfl ?_
  refine j_iload_n 1 dX12_stand_124 rfl rfl ?_
  refine j_ic_ge 201 dX12_stand_125 (by decide) h (fun h => ?_) (fun h => ?_)
  · refine j_loc [(0, .ref (ad (gm κ) 97))] [0] rfl ?_
    have h := sel_r h
    have h := K0 _ h
    exact h
  · refine j_bipush (20 : Int32) dX12_stand_128 kb_20 ?_
    refine j_aload_n 0 dX12_stand_130 rfl rfl ?_
    refine j_getA 145 fl_RX12_164 sh_97 fk_97_68 (by decide) dX12_stand_131 ?_
    refine j_iload 2 dX12_stand_134 rfl ?_
    refine j_iald sh_145 dX12_stand_136 h (fun h => ?_)
    refine j_imul dX12_stand_137 ?_
    refine j_lI h (fun z7 h => ?_)
    refine j_istore [(5, .int z7), (0, .ref (ad (gm κ) 97)), (3, .int a3), (4, .int s.1)] dX12_stand_138 (by decide) rfl ?_
    refine j_loc [(0, .ref (ad (gm κ) 97)), (3, .int a3), (4, .int s.1), (5, .int z7)] [1, 2, 3, 0] rfl ?_
    refine t_X12_stand_b140 a3 s.1 (fun e10 h => ?_) (z7, s.2) (ok_bb h)
    · refine j_iinc (s.1 + (1 : Int32)) 2 [(4, .int (s.1 + (1 : Int32))), (0, .ref (ad (gm κ) 97)), (3, .int a3)] dX12_stand_195 rfl (by rw [kn_1]) (by decide) rfl ?_
      refine j_goto 122 dX12_stand_198 (by decide) ?_
      refine j_loc [(0, .ref (ad (gm κ) 97)), (3, .int a3), (4, .int (s.1 + (1 : Int32)))] [1, 2, 0] rfl ?_
      have h := sel_l h
      exact h
noncomputable def X12_stand_j285 (a4 : Int32) (a5 : Int32) (s0 : Int32) (s1 : Int32) (w : Wd) : Option ((Int32 × Wd) ⊕ Wd) :=
gd (vp_in s1 100) <|
(some (puI w 146 (ix s1) (vp_nar .boolean s0))).bind fun w13 =>
some (.inl ((a5 + (1 : Int32)), w13))
set_option maxRecDepth 20000 in
set_option maxHeartbeats 1000000 in
theorem t_X12_stand_j285 {κ : Kx} (a4 : Int32) (a5 : Int32) (s0 : Int32) (s1 : Int32) (w : Wd) {G : (Int32 × Wd) → Prop} {P : Wd → Prop} (KG : ∀ s, G s → J κ RX12 cX12_stand 6 none (rmk 0 0) 227 [(0, .ref (ad (gm κ) 97)), (4, .int a4), (5, .int s.1)] [] s.2) (K0 : ∀ e, P e → J κ RX12 cX12_stand 6 none (rmk 0 0) 292 [(0, .ref (ad (gm κ) 97)), (4, .int a4)] [] e) (h : ok (X12_stand_j285  a4 a5 s0 s1 w) (sel G P)) : J κ RX12 cX12_stand 6 none (rmk 0 0) 285 [(0, .ref (ad (gm κ) 97)), (4, .int a4), (5, .int a5)] [.int s0, .int s1, .ref (ad (gm κ) 146)] w := by
  unfold X12_stand_j285 at h
  refine j_zast sh_146 dX12_stand_285 h (fun h => ?_)
  refine j_lW h (fun w13 h => ?_)
  refine j_iinc (a5 + (1 : Int32)) 2 [(5, .int (a5 + (1 : Int32))), (0, .ref (ad (gm κ) 97)), (4, .int a4)] dX12_stand_286 rfl (by rw [kn_1]) (by decide) rfl ?_
  refine j_goto 227 dX12_stand_289 (by decide) ?_
  refine j_loc [(0, .ref (ad (gm κ) 97)), (4, .int a4), (5, .int (a5 + (1 : Int32)))] [1, 2, 0] rfl ?_
  have h := sel_l h
  have h := KG _ h
  exact h
noncomputable def X12_stand_j280 (a4 : Int32) (a5 : Int32) (s0 : Int32) (w : Wd) : Option ((Int32 × Wd) ⊕ Wd) :=
X12_stand_j285 a4 a5 (1 : Int32) s0 w
set_option maxRecDepth 20000 in
set_option maxHeartbeats 1000000 in
theorem t_X12_stand_j280 {κ : Kx} (a4 : Int32) (a5 : Int32) (s0 : Int32) (w : Wd) {G : (Int32 × Wd) → Prop} {P : Wd → Prop} (KG : ∀ s, G s → J κ RX12 cX12_stand 6 none (rmk 0 0) 227 [(0, .ref (ad (gm κ) 97)), (4, .int a4), (5, .int s.1)] [] s.2) (K0 : ∀ e, P e → J κ RX12 cX12_stand 6 none (rmk 0 0) 292 [(0, .ref (ad (gm κ) 97)), (4, .int a4)] [] e) (h : ok (X12_stand_j280  a4 a5 s0 w) (sel G P)) : J κ RX12 cX12_stand 6 none (rmk 0 0) 280 [(0, .ref (ad (gm κ) 97)), (4, .int a4), (5, .int a5)] [.int s0, .ref (ad (gm κ) 146)] w := by
  unfold X12_stand_j280 at h
  refine j_iconst (1 : Int32) dX12_stand_280 ki_1 ?_
  refine j_goto 285 dX12_stand_281 (by decide) ?_
  refine j_loc [(0, .ref (ad (gm κ) 97)), (4, .int a4), (5, .int a5)] [0, 1, 2] rfl ?_
  exact t_X12_stand_j285 a4 a5 (1 : Int32) s0 w KG K0 h
noncomputable def X12_stand_b227 (a4 : Int32) (s : (Int32 × Wd)) : Option ((Int32 × Wd) ⊕ Wd) :=
(if (s.2.1 97 70) ≤ s.1 then
some (.inr s.2)
else
gd (vp_in a4 100) <|
(if (s.2.1 146 (ix a4)) = 0 then
gd (vp_in s.1 100) <|
gd (vp_in (s.2.1 144 (ix s.1)) 120) <|
gd (vp_in a4 100) <|
gd (vp_in (s.2.1 144 (ix a4)) 120) <|
(if (lg_cmp (s.2.2 133 (ix (s.2.1 144 (ix s.1)))) (s.2.2 132 (ix (s.2.1 144 (ix a4))))) = 0 then
X12_stand_j280 a4 s.1 a4 s.2
else
X12_stand_j285 a4 s.1 (0 : Int32) a4 s.2)
else
X12_stand_j280 a4 s.1 a4 s.2))
set_option maxRecDepth 20000 in
set_option maxHeartbeats 1000000 in
theorem t_X12_stand_b227 {κ : Kx} (a4 : Int32) {P : Wd → Prop} (K0 : ∀ e, P e → J κ RX12 cX12_stand 6 none (rmk 0 0) 292 [(0, .ref (ad (gm κ) 97)), (4, .int a4)] [] e) (s : (Int32 × Wd)) (h : ok (lp (X12_stand_b227  a4) s) P) : J κ RX12 cX12_stand 6 none (rmk 0 0) 227 [(0, .ref (ad (gm κ) 97)), (4, .int a4), (5, .int s.1)] [] s.2 := by
  refine lp_ind (fun s => J κ RX12 cX12_stand 6 none (rmk 0 0) 227 [(0, .ref (ad (gm κ) 97)), (4, .int a4), (5, .int s.1)] [] s.2) (fun s h => ?_) s h
  unfold X12_stand_b227 at h
  refine j_iload 2 dX12_stand_227 rfl ?_
  refine j_aload_n 0 dX12_stand_229 rfl rfl ?_
  refine j_getI fl_RX12_468 sh_97 fk_97_70 dX12_stand_230 ?_
  refine j_ic_ge 292 dX12_stand_233 (by decide) h (fun h => ?_) (fun h => ?_)
  · refine j_loc [(0, .ref (ad (gm κ) 97)), (4, .int a4)] [0, 1] rfl ?_
    have h := sel_r h
    have h := K0 _ h
    exact h
  · refine j_aload_n 0 dX12_stand_236 rfl rfl ?_
    refine j_getA 146 fl_RX12_167 sh_97 fk_97_69 (by decide) dX12_stand_237 ?_
    refine j_iload 1 dX12_stand_240 rfl ?_
    refine j_aload_n 0 dX12_stand_242 rfl rfl ?_
    refine j_getA 146 fl_RX12_167 sh_97 fk_97_69 (by decide) dX12_stand_243 ?_
    refine j_iload 1 dX12_stand_246 rfl ?_
    refine j_zald sh_146 dX12_stand_248 h (fun h => ?_)
    refine j_if_ne 280 dX12_stand_249 (by decide) h (fun h => ?_) (fun h => ?_)
    · refine j_loc [(0, .ref (ad (gm κ) 97)), (4, .int a4), (5, .int s.1)] [0, 1, 2] rfl ?_
      exact t_X12_stand_j280 a4 s.1 a4 s.2 (fun _ h => h) K0 h
    · refine j_aload_n 0 dX12_stand_252 rfl rfl ?_
      refine j_getA 133 fl_RX12_127 sh_97 fk_97_56 (by decide) dX12_stand_253 ?_
      refine j_aload_n 0 dX12_stand_256 rfl rfl ?_
      refine j_getA 144 fl_RX12_161 sh_97 fk_97_67 (by decide) dX12_stand_257 ?_
      refine j_iload 2 dX12_stand_260 rfl ?_
      refine j_iald sh_144 dX12_stand_262 h (fun h => ?_)
      refine j_lald sh_133 dX12_stand_263 h (fun h => ?_)
      refine j_aload_n 0 dX12_stand_264 rfl rfl ?_
      refine j_getA 132 fl_RX12_124 sh_97 fk_97_55 (by decide) dX12_stand_265 ?_
      refine j_aload_n 0 dX12_stand_268 rfl rfl ?_
      refine j_getA 144 fl_RX12_161 sh_97 fk_97_67 (by decide) dX12_stand_269 ?_
      refine j_iload 1 dX12_stand_272 rfl ?_
      refine j_iald sh_144 dX12_stand_274 h (fun h => ?_)
      refine j_lald sh_132 dX12_stand_275 h (fun h => ?_)
      refine j_lcmp dX12_stand_276 ?_
      refine j_if_ne 284 dX12_stand_277 (by decide) h (fun h => ?_) (fun h => ?_)
      · refine j_iconst (0 : Int32) dX12_stand_284 ki_0 ?_
        refine j_loc [(0, .ref (ad (gm κ) 97)), (4, .int a4), (5, .int s.1)] [0, 1, 2] rfl ?_
        exact t_X12_stand_j285 a4 s.1 (0 : Int32) a4 s.2 (fun _ h => h) K0 h
      · refine j_loc [(0, .ref (ad (gm κ) 97)), (4, .int a4), (5, .int s.1)] [0, 1, 2] rfl ?_
        exact t_X12_stand_j280 a4 s.1 a4 s.2 (fun _ h => h) K0 h
noncomputable def X12_stand_b204 (s : (Int32 × Wd)) : Option ((Int32 × Wd) ⊕ Wd) :=
(if (s.2.1 97 70) ≤ s.1 then
some (.inr s.2)
else
gd (vp_in s.1 100) <|
(some (puI s.2 146 (ix s.1) (vp_nar .boolean (0 : Int32)))).bind fun w12 =>
(lp (X12_stand_b227 s.1) ((s.1 + (1 : Int32)), w12)).bind fun e14 =>
some (.inl ((s.1 + (1 : Int32)), e14)))
set_option maxRecDepth 20000 in
set_option maxHeartbeats 1000000 in
theorem t_X12_stand_b204 {κ : Kx} {P : Wd → Prop} (K0 : ∀ e, P e → J κ RX12 cX12_stand 6 none (rmk 0 0) 298 [] [] e) (s : (Int32 × Wd)) (h : ok (lp (X12_stand_b204  ) s) P) : J κ RX12 cX12_stand 6 none (rmk 0 0) 204 [(0, .ref (ad (gm κ) 97)), (4, .int s.1)] [] s.2 := by
  refine lp_ind (fun s => J κ RX12 cX12_stand 6 none (rmk 0 0) 204 [(0, .ref (ad (gm κ) 97)), (4, .int s.1)] [] s.2) (fun s h => ?_) s h
  unfold X12_stand_b204 at h
  refine j_iload 1 dX12_stand_204 rfl ?_
  refine j_aload_n 0 dX12_stand_206 rfl rfl ?_
  refine j_getI fl_RX12_468 sh_97 fk_97_70 dX12_stand_207 ?_
  refine j_ic_ge 298 dX12_stand_210 (by decide) h (fun h => ?_) (fun h => ?_)
  · refine j_loc [] [] rfl ?_
    have h := sel_r h
    have h := K0 _ h
    exact h
  · refine j_aload_n 0 dX12_stand_213 rfl rfl ?_
    refine j_getA 146 fl_RX12_167 sh_97 fk_97_69 (by decide) dX12_stand_214 ?_
    refine j_iload 1 dX12_stand_217 rfl ?_
    refine j_iconst (0 : Int32) dX12_stand_219 ki_0 ?_
    refine j_zast sh_146 dX12_stand_220 h (fun h => ?_)
    refine j_lW h (fun w12 h => ?_)
    refine j_iload 1 dX12_stand_221 rfl ?_
    refine j_iconst (1 : Int32) dX12_stand_223 ki_1 ?_
    refine j_iadd dX12_stand_224 ?_
    refine j_istore [(5, .int (s.1 + (1 : Int32))), (0, .ref (ad (gm κ) 97)), (4, .int s.1)] dX12_stand_225 (by decide) rfl ?_
    refine j_loc [(0, .ref (ad (gm κ) 97)), (4, .int s.1), (5, .int (s.1 + (1 : Int32)))] [1, 2, 0] rfl ?_
    refine t_X12_stand_b227 s.1 (fun e14 h => ?_) ((s.1 + (1 : Int32)), w12) (ok_bb h)
    · refine j_iinc (s.1 + (1 : Int32)) 1 [(4, .int (s.1 + (1 : Int32))), (0, .ref (ad (gm κ) 97))] dX12_stand_292 rfl (by rw [kn_1]) (by decide) rfl ?_
      refine j_goto 204 dX12_stand_295 (by decide) ?_
      refine j_loc [(0, .ref (ad (gm κ) 97)), (4, .int (s.1 + (1 : Int32)))] [1, 0] rfl ?_
      have h := sel_l h
      exact h
noncomputable def X12_stand (a1 : Int32) (a2 : Int32) (w : Wd) : Option (Wd) :=
(lp (X12_stand_b5 a1 a2) ((0 : Int32), (0 : Int32), w)).bind fun e5 =>
(some (puI e5.2 97 70 (0 : Int32))).bind fun w6 =>
(lp (X12_stand_b122 e5.1) ((0 : Int32), w6)).bind fun e11 =>
(lp (X12_stand_b204 ) ((0 : Int32), e11)).bind fun e15 =>
some e15
set_option maxRecDepth 20000 in
set_option maxHeartbeats 1000000 in
theorem t_X12_stand {κ : Kx} (a1 : Int32) (a2 : Int32) (w : Wd) (h : ok (X12_stand  a1 a2 w) (PVw κ)) : J κ RX12 cX12_stand 6 none (rmk 0 0) 0 [(0, .ref (ad (gm κ) 97)), (1, .int a1), (2, .int a2)] [] w := by
  unfold X12_stand at h
  refine j_iconst (0 : Int32) dX12_stand_0 ki_0 ?_
  refine j_istore_n [(3, .int (0 : Int32)), (0, .ref (ad (gm κ) 97)), (1, .int a1), (2, .int a2)] dX12_stand_1 rfl (by decide) rfl ?_
  refine j_iconst (0 : Int32) dX12_stand_2 ki_0 ?_
  refine j_istore [(4, .int (0 : Int32)), (3, .int (0 : Int32)), (0, .ref (ad (gm κ) 97)), (1, .int a1), (2, .int a2)] dX12_stand_3 (by decide) rfl ?_
  refine j_loc [(0, .ref (ad (gm κ) 97)), (1, .int a1), (2, .int a2), (3, .int (0 : Int32)), (4, .int (0 : Int32))] [2, 3, 4, 1, 0] rfl ?_
  refine t_X12_stand_b5 a1 a2 (fun e5 h => ?_) ((0 : Int32), (0 : Int32), w) (ok_bb h)
  · refine j_aload_n 0 dX12_stand_114 rfl rfl ?_
    refine j_iconst (0 : Int32) dX12_stand_115 ki_0 ?_
    refine j_putI fp_RX12_468 sh_97 fk_97_70 dX12_stand_116 ?_
    refine j_lW h (fun w6 h => ?_)
    refine j_iconst (0 : Int32) dX12_stand_119 ki_0 ?_
    refine j_istore [(4, .int (0 : Int32)), (0, .ref (ad (gm κ) 97)), (3, .int e5.1)] dX12_stand_120 (by decide) rfl ?_
    refine j_loc [(0, .ref (ad (gm κ) 97)), (3, .int e5.1), (4, .int (0 : Int32))] [1, 2, 0] rfl ?_
    refine t_X12_stand_b122 e5.1 (fun e11 h => ?_) ((0 : Int32), w6) (ok_bb h)
    · refine j_iconst (0 : Int32) dX12_stand_201 ki_0 ?_
      refine j_istore [(4, .int (0 : Int32)), (0, .ref (ad (gm κ) 97))] dX12_stand_202 (by decide) rfl ?_
      refine j_loc [(0, .ref (ad (gm κ) 97)), (4, .int (0 : Int32))] [1, 0] rfl ?_
      refine t_X12_stand_b204  (fun e15 h => ?_) ((0 : Int32), e11) (ok_bb h)
      · have h := ok_s h
        exact j_vret dX12_stand_298 rfl h
theorem c_X12_stand (l : Launch) (γ : Gm) (A : Nat → Prop) (a1 : Int32) (a2 : Int32) (w : Wd) (q : Wd) (e : X12_stand  a1 a2 w = some q) : MetG l γ A yX12_stand cX12_stand 6 none (rmk 0 0) [.ref (ad (γ) 97), .int a1, .int a2] w none q := by
  refine met_of pn_RX12 (Nat.le_of_ble_eq_true rfl) ?_
  intro κ hl hγ hA hρ
  subst hl; subst hγ; subst hA
  exact t_X12_stand   a1 a2 w ⟨q, e, pVw hρ rfl rfl⟩
theorem dX12_lastOf_0 : decode cX12_lastOf 0 = .ok (.iload_n 2, 1) := by decide +kernel
theorem dX12_lastOf_1 : decode cX12_lastOf 1 = .ok (.istore_n 3, 1) := by decide +kernel
theorem dX12_lastOf_2 : decode cX12_lastOf 2 = .ok (.iconst 0, 1) := by decide +kernel
theorem dX12_lastOf_3 : decode cX12_lastOf 3 = .ok (.istore 4, 2) := by decide +kernel
theorem dX12_lastOf_5 : decode cX12_lastOf 5 = .ok (.iload 4, 2) := by decide +kernel
theorem dX12_lastOf_7 : decode cX12_lastOf 7 = .ok (.aload_n 0, 1) := by decide +kernel
theorem dX12_lastOf_8 : decode cX12_lastOf 8 = .ok (.getfield 468, 3) := by decide +kernel
theorem dX12_lastOf_11 : decode cX12_lastOf 11 = .ok (.if_icmp .ge 48, 3) := by decide +kernel
theorem dX12_lastOf_14 : decode cX12_lastOf 14 = .ok (.aload_n 0, 1) := by decide +kernel
theorem dX12_lastOf_15 : decode cX12_lastOf 15 = .ok (.getfield 167, 3) := by decide +kernel
theorem dX12_lastOf_18 : decode cX12_lastOf 18 = .ok (.iload 4, 2) := by decide +kernel
theorem dX12_lastOf_20 : decode cX12_lastOf 20 = .ok (.baload, 1) := by decide +kernel
theorem dX12_lastOf_21 : decode cX12_lastOf 21 = .ok (.ifCond .ne 32, 3) := by decide +kernel
theorem dX12_lastOf_24 : decode cX12_lastOf 24 = .ok (.aload_n 0, 1) := by decide +kernel
theorem dX12_lastOf_25 : decode cX12_lastOf 25 = .ok (.getfield 103, 3) := by decide +kernel
theorem dX12_lastOf_28 : decode cX12_lastOf 28 = .ok (.aload_n 0, 1) := by decide +kernel
theorem dX12_lastOf_29 : decode cX12_lastOf 29 = .ok (.getfield 161, 3) := by decide +kernel
theorem dX12_lastOf_32 : decode cX12_lastOf 32 = .ok (.iload 4, 2) := by decide +kernel
theorem dX12_lastOf_34 : decode cX12_lastOf 34 = .ok (.iaload, 1) := by decide +kernel
theorem dX12_lastOf_35 : decode cX12_lastOf 35 = .ok (.iaload, 1) := by decide +kernel
theorem dX12_lastOf_36 : decode cX12_lastOf 36 = .ok (.iload_n 1, 1) := by decide +kernel
theorem dX12_lastOf_37 : decode cX12_lastOf 37 = .ok (.if_icmp .ne 16, 3) := by decide +kernel
theorem dX12_lastOf_40 : decode cX12_lastOf 40 = .ok (.aload_n 0, 1) := by decide +kernel
theorem dX12_lastOf_41 : decode cX12_lastOf 41 = .ok (.getfield 106, 3) := by decide +kernel
theorem dX12_lastOf_44 : decode cX12_lastOf 44 = .ok (.aload_n 0, 1) := by decide +kernel
theorem dX12_lastOf_45 : decode cX12_lastOf 45 = .ok (.getfield 161, 3) := by decide +kernel
theorem dX12_lastOf_48 : decode cX12_lastOf 48 = .ok (.iload 4, 2) := by decide +kernel
theorem dX12_lastOf_50 : decode cX12_lastOf 50 = .ok (.iaload, 1) := by decide +kernel
theorem dX12_lastOf_51 : decode cX12_lastOf 51 = .ok (.iaload, 1) := by decide +kernel
theorem dX12_lastOf_52 : decode cX12_lastOf 52 = .ok (.istore_n 3, 1) := by decide +kernel
theorem dX12_lastOf_53 : decode cX12_lastOf 53 = .ok (.iinc 4 1, 3) := by decide +kernel
theorem dX12_lastOf_56 : decode cX12_lastOf 56 = .ok (.goto (-51), 3) := by decide +kernel
theorem dX12_lastOf_59 : decode cX12_lastOf 59 = .ok (.iload_n 3, 1) := by decide +kernel
theorem dX12_lastOf_60 : decode cX12_lastOf 60 = .ok (.ireturn, 1) := by decide +kernel
noncomputable def X12_lastOf_j53 (a1 : Int32) (a3 : Int32) (a4 : Int32) (w : Wd) : Option ((Int32 × Int32) ⊕ Int32) :=
some (.inl (a3, (a4 + (1 : Int32))))
set_option maxRecDepth 20000 in
set_option maxHeartbeats 1000000 in
theorem t_X12_lastOf_j53 {κ : Kx} (a1 : Int32) (a3 : Int32) (a4 : Int32) (w : Wd) {G : (Int32 × Int32) → Prop} {P : Int32 → Prop} (KG : ∀ s, G s → J κ RX12 cX12_lastOf 5 (some .int) (rmk 0 0) 5 [(0, .ref (ad (gm κ) 97)), (1, .int a1), (3, .int s.1), (4, .int s.2)] [] w) (K0 : ∀ e, P e → J κ RX12 cX12_lastOf 5 (some .int) (rmk 0 0) 59 [(3, .int e)] [] w) (h : ok (X12_lastOf_j53  a1 a3 a4 w) (sel G P)) : J κ RX12 cX12_lastOf 5 (some .int) (rmk 0 0) 53 [(0, .ref (ad (gm κ) 97)), (1, .int a1), (3, .int a3), (4, .int a4)] [] w := by
  unfold X12_lastOf_j53 at h
  refine j_iinc (a4 + (1 : Int32)) 3 [(4, .int (a4 + (1 : Int32))), (0, .ref (ad (gm κ) 97)), (1, .int a1), (3, .int a3)] dX12_lastOf_53 rfl (by rw [kn_1]) (by decide) rfl ?_
  refine j_goto 5 dX12_lastOf_56 (by decide) ?_
  refine j_loc [(0, .ref (ad (gm κ) 97)), (1, .int a1), (3, .int a3), (4, .int (a4 + (1 : Int32)))] [1, 2, 3, 0] rfl ?_
  have h := sel_l h
  have h := KG _ h
  exact h
noncomputable def X12_lastOf_b5 (a1 : Int32) (w : Wd) (s : (Int32 × Int32)) : Option ((Int32 × Int32) ⊕ Int32) :=
(if (w.1 97 70) ≤ s.2 then
some (.inr s.1)
else
gd (vp_in s.2 100) <|
(if (w.1 146 (ix s.2)) = 0 then
gd (vp_in s.2 100) <|
gd (vp_in (w.1 144 (ix s.2)) 120) <|
(if (w.1 125 (ix (w.1 144 (ix s.2)))) = a1 then
gd (vp_in s.2 100) <|
gd (vp_in (w.1 144 (ix s.2)) 120) <|
(some (w.1 126 (ix (w.1 144 (ix s.2))))).bind fun z1 =>
X12_lastOf_j53 a1 z1 s.2 w
else
X12_lastOf_j53 a1 s.1 s.2 w)
else
X12_lastOf_j53 a1 s.1 s.2 w))
set_option maxRecDepth 20000 in
set_option maxHeartbeats 1000000 in
theorem t_X12_lastOf_b5 {κ : Kx} (a1 : Int32) (w : Wd) {P : Int32 → Prop} (K0 : ∀ e, P e → J κ RX12 cX12_lastOf 5 (some .int) (rmk 0 0) 59 [(3, .int e)] [] w) (s : (Int32 × Int32)) (h : ok (lp (X12_lastOf_b5  a1 w) s) P) : J κ RX12 cX12_lastOf 5 (some .int) (rmk 0 0) 5 [(0, .ref (ad (gm κ) 97)), (1, .int a1), (3, .int s.1), (4, .int s.2)] [] w := by
  refine lp_ind (fun s => J κ RX12 cX12_lastOf 5 (some .int) (rmk 0 0) 5 [(0, .ref (ad (gm κ) 97)), (1, .int a1), (3, .int s.1), (4, .int s.2)] [] w) (fun s h => ?_) s h
  unfold X12_lastOf_b5 at h
  refine j_iload 3 dX12_lastOf_5 rfl ?_
  refine j_aload_n 0 dX12_lastOf_7 rfl rfl ?_
  refine j_getI fl_RX12_468 sh_97 fk_97_70 dX12_lastOf_8 ?_
  refine j_ic_ge 59 dX12_lastOf_11 (by decide) h (fun h => ?_) (fun h => ?_)
  · refine j_loc [(3, .int s.1)] [2] rfl ?_
    have h := sel_r h
    have h := K0 _ h
    exact h
  · refine j_aload_n 0 dX12_lastOf_14 rfl rfl ?_
    refine j_getA 146 fl_RX12_167 sh_97 fk_97_69 (by decide) dX12_lastOf_15 ?_
    refine j_iload 3 dX12_lastOf_18 rfl ?_
    refine j_zald sh_146 dX12_lastOf_20 h (fun h => ?_)
    refine j_if_ne 53 dX12_lastOf_21 (by decide) h (fun h => ?_) (fun h => ?_)
    · refine j_loc [(0, .ref (ad (gm κ) 97)), (1, .int a1), (3, .int s.1), (4, .int s.2)] [0, 1, 2, 3] rfl ?_
      exact t_X12_lastOf_j53 a1 s.1 s.2 w (fun _ h => h) K0 h
    · refine j_aload_n 0 dX12_lastOf_24 rfl rfl ?_
      refine j_getA 125 fl_RX12_103 sh_97 fk_97_48 (by decide) dX12_lastOf_25 ?_
      refine j_aload_n 0 dX12_lastOf_28 rfl rfl ?_
      refine j_getA 144 fl_RX12_161 sh_97 fk_97_67 (by decide) dX12_lastOf_29 ?_
      refine j_iload 3 dX12_lastOf_32 rfl ?_
      refine j_iald sh_144 dX12_lastOf_34 h (fun h => ?_)
      refine j_iald sh_125 dX12_lastOf_35 h (fun h => ?_)
      refine j_iload_n 1 dX12_lastOf_36 rfl rfl ?_
      refine j_ic_ne 53 dX12_lastOf_37 (by decide) h (fun h => ?_) (fun h => ?_)
      · refine j_loc [(0, .ref (ad (gm κ) 97)), (1, .int a1), (3, .int s.1), (4, .int s.2)] [0, 1, 2, 3] rfl ?_
        exact t_X12_lastOf_j53 a1 s.1 s.2 w (fun _ h => h) K0 h
      · refine j_aload_n 0 dX12_lastOf_40 rfl rfl ?_
        refine j_getA 126 fl_RX12_106 sh_97 fk_97_49 (by decide) dX12_lastOf_41 ?_
        refine j_aload_n 0 dX12_lastOf_44 rfl rfl ?_
        refine j_getA 144 fl_RX12_161 sh_97 fk_97_67 (by decide) dX12_lastOf_45 ?_
        refine j_iload 3 dX12_lastOf_48 rfl ?_
        refine j_iald sh_144 dX12_lastOf_50 h (fun h => ?_)
        refine j_iald sh_126 dX12_lastOf_51 h (fun h => ?_)
        refine j_lI h (fun z1 h => ?_)
        refine j_istore_n [(3, .int z1), (0, .ref (ad (gm κ) 97)), (1, .int a1), (4, .int s.2)] dX12_lastOf_52 rfl (by decide) rfl ?_
        refine j_loc [(0, .ref (ad (gm κ) 97)), (1, .int a1), (3, .int z1), (4, .int s.2)] [1, 2, 0, 3] rfl ?_
        exact t_X12_lastOf_j53 a1 z1 s.2 w (fun _ h => h) K0 h
noncomputable def X12_lastOf (a1 : Int32) (a2 : Int32) (w : Wd) : Option (Int32) :=
(lp (X12_lastOf_b5 a1 w) (a2, (0 : Int32))).bind fun e2 =>
some e2
set_option maxRecDepth 20000 in
set_option maxHeartbeats 1000000 in
theorem t_X12_lastOf {κ : Kx} (a1 : Int32) (a2 : Int32) (w : Wd) (h : ok (X12_lastOf  a1 a2 w) (PI κ w)) : J κ RX12 cX12_lastOf 5 (some .int) (rmk 0 0) 0 [(0, .ref (ad (gm κ) 97)), (1, .int a1), (2, .int a2)] [] w := by
  unfold X12_lastOf at h
  refine j_iload_n 2 dX12_lastOf_0 rfl rfl ?_
  refine j_istore_n [(3, .int a2), (0, .ref (ad (gm κ) 97)), (1, .int a1), (2, .int a2)] dX12_lastOf_1 rfl (by decide) rfl ?_
  refine j_iconst (0 : Int32) dX12_lastOf_2 ki_0 ?_
  refine j_istore [(4, .int (0 : Int32)), (3, .int a2), (0, .ref (ad (gm κ) 97)), (1, .int a1), (2, .int a2)] dX12_lastOf_3 (by decide) rfl ?_
  refine j_loc [(0, .ref (ad (gm κ) 97)), (1, .int a1), (3, .int a2), (4, .int (0 : Int32))] [2, 3, 1, 0] rfl ?_
  refine t_X12_lastOf_b5 a1 w (fun e2 h => ?_) (a2, (0 : Int32)) (ok_bb h)
  · refine j_iload_n 0 dX12_lastOf_59 rfl rfl ?_
    have h := ok_s h
    exact j_iret dX12_lastOf_60 rfl rfl h
theorem c_X12_lastOf (l : Launch) (γ : Gm) (A : Nat → Prop) (a1 : Int32) (a2 : Int32) (w : Wd) (q : Int32) (e : X12_lastOf  a1 a2 w = some q) : MetG l γ A yX12_lastOf cX12_lastOf 5 (some .int) (rmk 0 0) [.ref (ad (γ) 97), .int a1, .int a2] w (some (.int q)) w := by
  refine met_of pn_RX12 (Nat.le_of_ble_eq_true rfl) ?_
  intro κ hl hγ hA hρ
  subst hl; subst hγ; subst hA
  exact t_X12_lastOf   a1 a2 w ⟨q, e, pI hρ rfl rfl⟩
theorem dX12_rules_0 : decode cX12_rules 0 = .ok (.iload_n 1, 1) := by decide +kernel
theorem dX12_rules_1 : decode cX12_rules 1 = .ok (.invokestatic 309, 3) := by decide +kernel
theorem dX12_rules_4 : decode cX12_rules 4 = .ok (.ifCond .eq 19, 3) := by decide +kernel
theorem dX12_rules_7 : decode cX12_rules 7 = .ok (.iload_n 2, 1) := by decide +kernel
theorem dX12_rules_8 : decode cX12_rules 8 = .ok (.invokestatic 322, 3) := by decide +kernel
theorem dX12_rules_11 : decode cX12_rules 11 = .ok (.ifCond .eq 12, 3) := by decide +kernel
theorem dX12_rules_14 : decode cX12_rules 14 = .ok (.iload_n 3, 1) := by decide +kernel
theorem dX12_rules_15 : decode cX12_rules 15 = .ok (.ifCond .lt 8, 3) := by decide +kernel
theorem dX12_rules_18 : decode cX12_rules 18 = .ok (.iload_n 3, 1) := by decide +kernel
theorem dX12_rules_19 : decode cX12_rules 19 = .ok (.iconst 3, 1) := by decide +kernel
theorem dX12_rules_20 : decode cX12_rules 20 = .ok (.if_icmp .le 9, 3) := by decide +kernel
theorem dX12_rules_23 : decode cX12_rules 23 = .ok (.aload_n 0, 1) := by decide +kernel
theorem dX12_rules_24 : decode cX12_rules 24 = .ok (.iconst 1, 1) := by decide +kernel
theorem dX12_rules_25 : decode cX12_rules 25 = .ok (.invokevirtual 312, 3) := by decide +kernel
theorem dX12_rules_28 : decode cX12_rules 28 = .ok (.ireturn, 1) := by decide +kernel
theorem dX12_rules_29 : decode cX12_rules 29 = .ok (.aload_n 0, 1) := by decide +kernel
theorem dX12_rules_30 : decode cX12_rules 30 = .ok (.iload_n 1, 1) := by decide +kernel
theorem dX12_rules_31 : decode cX12_rules 31 = .ok (.iload_n 2, 1) := by decide +kernel
theorem dX12_rules_32 : decode cX12_rules 32 = .ok (.invokevirtual 471, 3) := by decide +kernel
theorem dX12_rules_35 : decode cX12_rules 35 = .ok (.aload_n 0, 1) := by decide +kernel
theorem dX12_rules_36 : decode cX12_rules 36 = .ok (.iload_n 3, 1) := by decide +kernel
theorem dX12_rules_37 : decode cX12_rules 37 = .ok (.ifCond .ne 10, 3) := by decide +kernel
theorem dX12_rules_40 : decode cX12_rules 40 = .ok (.aload_n 0, 1) := by decide +kernel
theorem dX12_rules_41 : decode cX12_rules 41 = .ok (.getfield 468, 3) := by decide +kernel
theorem dX12_rules_44 : decode cX12_rules 44 = .ok (.goto 39, 3) := by decide +kernel
theorem dX12_rules_47 : decode cX12_rules 47 = .ok (.iload_n 3, 1) := by decide +kernel
theorem dX12_rules_48 : decode cX12_rules 48 = .ok (.iconst 1, 1) := by decide +kernel
theorem dX12_rules_49 : decode cX12_rules 49 = .ok (.if_icmp .ne 13, 3) := by decide +kernel
theorem dX12_rules_52 : decode cX12_rules 52 = .ok (.aload_n 0, 1) := by decide +kernel
theorem dX12_rules_53 : decode cX12_rules 53 = .ok (.iconst 3, 1) := by decide +kernel
theorem dX12_rules_54 : decode cX12_rules 54 = .ok (.bipush 40, 2) := by decide +kernel
theorem dX12_rules_56 : decode cX12_rules 56 = .ok (.invokevirtual 474, 3) := by decide +kernel
theorem dX12_rules_59 : decode cX12_rules 59 = .ok (.goto 24, 3) := by decide +kernel
theorem dX12_rules_62 : decode cX12_rules 62 = .ok (.iload_n 3, 1) := by decide +kernel
theorem dX12_rules_63 : decode cX12_rules 63 = .ok (.iconst 2, 1) := by decide +kernel
theorem dX12_rules_64 : decode cX12_rules 64 = .ok (.if_icmp .ne 12, 3) := by decide +kernel
theorem dX12_rules_67 : decode cX12_rules 67 = .ok (.aload_n 0, 1) := by decide +kernel
theorem dX12_rules_68 : decode cX12_rules 68 = .ok (.iconst 4, 1) := by decide +kernel
theorem dX12_rules_69 : decode cX12_rules 69 = .ok (.iconst 0, 1) := by decide +kernel
theorem dX12_rules_70 : decode cX12_rules 70 = .ok (.invokevirtual 474, 3) := by decide +kernel
theorem dX12_rules_73 : decode cX12_rules 73 = .ok (.goto 10, 3) := by decide +kernel
theorem dX12_rules_76 : decode cX12_rules 76 = .ok (.aload_n 0, 1) := by decide +kernel
theorem dX12_rules_77 : decode cX12_rules 77 = .ok (.iconst 5, 1) := by decide +kernel
theorem dX12_rules_78 : decode cX12_rules 78 = .ok (.bipush 100, 2) := by decide +kernel
theorem dX12_rules_80 : decode cX12_rules 80 = .ok (.invokevirtual 474, 3) := by decide +kernel
theorem dX12_rules_83 : decode cX12_rules 83 = .ok (.invokevirtual 316, 3) := by decide +kernel
theorem dX12_rules_86 : decode cX12_rules 86 = .ok (.ireturn, 1) := by decide +kernel
noncomputable def X12_rules_j23 (w : Wd) : Option (Int32 × Wd) :=
(X12_refuse (1 : Int32) w).bind fun q1 =>
some (q1.1, q1.2)
set_option maxRecDepth 20000 in
set_option maxHeartbeats 1000000 in
theorem t_X12_rules_j23 {κ : Kx} (w : Wd) (h : ok (X12_rules_j23  w) (PIw κ)) : J κ RX12 cX12_rules 4 (some .int) (rmk 1 25) 23 [(0, .ref (ad (gm κ) 97))] [] w := by
  unfold X12_rules_j23 at h
  refine j_aload_n 0 dX12_rules_23 rfl rfl ?_
  refine j_iconst (1 : Int32) dX12_rules_24 ki_1 ?_
  obtain ⟨q1, e2, h⟩ := ok_b h
  refine j_callV (As := [.int (1 : Int32)]) (st := []) [.int q1.1] (c_X12_refuse (kl κ) (gm κ) (kA κ) (1 : Int32) w q1 e2) ck_RX12_312 im_X12_refuse se_X12_refuse sh_97 cx_12 ⟨rfl, rfl⟩ ⟨by decide, by decide⟩ rfl rfl (Nat.le_of_ble_eq_true rfl) dX12_rules_25 _ rfl ?_
  have h := ok_s h
  exact j_iret dX12_rules_28 rfl rfl h
noncomputable def X12_rules_j83 (s0 : Int32) (w : Wd) : Option (Int32 × Wd) :=
(X12_gives s0 w).bind fun q7 =>
some (q7.1, q7.2)
set_option maxRecDepth 20000 in
set_option maxHeartbeats 1000000 in
theorem t_X12_rules_j83 {κ : Kx} (s0 : Int32) (w : Wd) (h : ok (X12_rules_j83  s0 w) (PIw κ)) : J κ RX12 cX12_rules 4 (some .int) (rmk 1 25) 83 [] [.int s0, .ref (ad (gm κ) 97)] w := by
  unfold X12_rules_j83 at h
  obtain ⟨q7, e8, h⟩ := ok_b h
  refine j_callV (As := [.int s0]) (st := []) [.int q7.1] (c_X12_gives (kl κ) (gm κ) (kA κ) s0 w q7 e8) ck_RX12_316 im_X12_gives se_X12_gives sh_97 cx_12 ⟨rfl, rfl⟩ ⟨by decide, by decide⟩ rfl rfl (Nat.le_of_ble_eq_true rfl) dX12_rules_83 _ rfl ?_
  have h := ok_s h
  exact j_iret dX12_rules_86 rfl rfl h
noncomputable def X12_rules (a1 : Int32) (a2 : Int32) (a3 : Int32) (w : Wd) : Option (Int32 × Wd) :=
(if (X12_isShire a1 w) = 0 then
X12_rules_j23 w
else
(if (X12_isWeek a2 w) = 0 then
X12_rules_j23 w
else
(if a3 < 0 then
X12_rules_j23 w
else
(if a3 ≤ (3 : Int32) then
(X12_stand a1 a2 w).bind fun q3 =>
(if a3 = 0 then
X12_rules_j83 (q3.1 97 70) q3
else
(if a3 = (1 : Int32) then
(X12_lastOf (3 : Int32) (40 : Int32) q3).bind fun q11 =>
X12_rules_j83 q11 q3
else
(if a3 = (2 : Int32) then
(X12_lastOf (4 : Int32) (0 : Int32) q3).bind fun q9 =>
X12_rules_j83 q9 q3
else
(X12_lastOf (5 : Int32) (100 : Int32) q3).bind fun q5 =>
X12_rules_j83 q5 q3)))
else
X12_rules_j23 w))))
set_option maxRecDepth 20000 in
set_option maxHeartbeats 1000000 in
theorem t_X12_rules {κ : Kx} (a1 : Int32) (a2 : Int32) (a3 : Int32) (w : Wd) (h : ok (X12_rules  a1 a2 a3 w) (PIw κ)) : J κ RX12 cX12_rules 4 (some .int) (rmk 1 25) 0 [(0, .ref (ad (gm κ) 97)), (1, .int a1), (2, .int a2), (3, .int a3)] [] w := by
  unfold X12_rules at h
  refine j_iload_n 1 dX12_rules_0 rfl rfl ?_
  refine j_callS (As := [.int a1]) (st := []) [.int (X12_isShire a1 w)] (c_X12_isShire (kl κ) (gm κ) (kA κ) a1 w) ck_RX12_309 st_X12_isShire ⟨rfl, rfl⟩ ⟨by decide, by decide⟩ rfl rfl (Nat.le_of_ble_eq_true rfl) dX12_rules_1 _ rfl ?_
  refine j_if_eq 23 dX12_rules_4 (by decide) h (fun h => ?_) (fun h => ?_)
  · refine j_loc [(0, .ref (ad (gm κ) 97))] [0] rfl ?_
    exact t_X12_rules_j23 w h
  · refine j_iload_n 2 dX12_rules_7 rfl rfl ?_
    refine j_callS (As := [.int a2]) (st := []) [.int (X12_isWeek a2 w)] (c_X12_isWeek (kl κ) (gm κ) (kA κ) a2 w) ck_RX12_322 st_X12_isWeek ⟨rfl, rfl⟩ ⟨by decide, by decide⟩ rfl rfl (Nat.le_of_ble_eq_true rfl) dX12_rules_8 _ rfl ?_
    refine j_if_eq 23 dX12_rules_11 (by decide) h (fun h => ?_) (fun h => ?_)
    · refine j_loc [(0, .ref (ad (gm κ) 97))] [0] rfl ?_
      exact t_X12_rules_j23 w h
    · refine j_iload_n 3 dX12_rules_14 rfl rfl ?_
      refine j_if_lt 23 dX12_rules_15 (by decide) h (fun h => ?_) (fun h => ?_)
      · refine j_loc [(0, .ref (ad (gm κ) 97))] [0] rfl ?_
        exact t_X12_rules_j23 w h
      · refine j_iload_n 3 dX12_rules_18 rfl rfl ?_
        refine j_iconst (3 : Int32) dX12_rules_19 ki_3 ?_
        refine j_ic_le 29 dX12_rules_20 (by decide) h (fun h => ?_) (fun h => ?_)
        · refine j_aload_n 0 dX12_rules_29 rfl rfl ?_
          refine j_iload_n 1 dX12_rules_30 rfl rfl ?_
          refine j_iload_n 2 dX12_rules_31 rfl rfl ?_
          obtain ⟨q3, e4, h⟩ := ok_b h
          refine j_callV (As := [.int a1, .int a2]) (st := []) [] (c_X12_stand (kl κ) (gm κ) (kA κ) a1 a2 w q3 e4) ck_RX12_471 im_X12_stand se_X12_stand sh_97 cx_12 ⟨rfl, rfl⟩ ⟨by decide, by decide⟩ rfl rfl (Nat.le_of_ble_eq_true rfl) dX12_rules_32 _ rfl ?_
          refine j_aload_n 0 dX12_rules_35 rfl rfl ?_
          refine j_iload_n 3 dX12_rules_36 rfl rfl ?_
          refine j_if_ne 47 dX12_rules_37 (by decide) h (fun h => ?_) (fun h => ?_)
          · refine j_iload_n 3 dX12_rules_47 rfl rfl ?_
            refine j_iconst (1 : Int32) dX12_rules_48 ki_1 ?_
            refine j_ic_ne 62 dX12_rules_49 (by decide) h (fun h => ?_) (fun h => ?_)
            · refine j_iload_n 3 dX12_rules_62 rfl rfl ?_
              refine j_iconst (2 : Int32) dX12_rules_63 ki_2 ?_
              refine j_ic_ne 76 dX12_rules_64 (by decide) h (fun h => ?_) (fun h => ?_)
              · refine j_aload_n 0 dX12_rules_76 rfl rfl ?_
                refine j_iconst (5 : Int32) dX12_rules_77 ki_5 ?_
                refine j_bipush (100 : Int32) dX12_rules_78 kb_100 ?_
                obtain ⟨q5, e6, h⟩ := ok_b h
                refine j_callV (As := [.int (5 : Int32), .int (100 : Int32)]) (st := [.ref (ad (gm κ) 97)]) [.int q5, .ref (ad (gm κ) 97)] (c_X12_lastOf (kl κ) (gm κ) (kA κ) (5 : Int32) (100 : Int32) q3 q5 e6) ck_RX12_474 im_X12_lastOf se_X12_lastOf sh_97 cx_12 ⟨rfl, rfl⟩ ⟨by decide, by decide⟩ rfl rfl (Nat.le_of_ble_eq_true rfl) dX12_rules_80 _ rfl ?_
                refine j_loc [] [] rfl ?_
                exact t_X12_rules_j83 q5 q3 h
              · refine j_aload_n 0 dX12_rules_67 rfl rfl ?_
                refine j_iconst (4 : Int32) dX12_rules_68 ki_4 ?_
                refine j_iconst (0 : Int32) dX12_rules_69 ki_0 ?_
                obtain ⟨q9, e10, h⟩ := ok_b h
                refine j_callV (As := [.int (4 : Int32), .int (0 : Int32)]) (st := [.ref (ad (gm κ) 97)]) [.int q9, .ref (ad (gm κ) 97)] (c_X12_lastOf (kl κ) (gm κ) (kA κ) (4 : Int32) (0 : Int32) q3 q9 e10) ck_RX12_474 im_X12_lastOf se_X12_lastOf sh_97 cx_12 ⟨rfl, rfl⟩ ⟨by decide, by decide⟩ rfl rfl (Nat.le_of_ble_eq_true rfl) dX12_rules_70 _ rfl ?_
                refine j_goto 83 dX12_rules_73 (by decide) ?_
                refine j_loc [] [] rfl ?_
                exact t_X12_rules_j83 q9 q3 h
            · refine j_aload_n 0 dX12_rules_52 rfl rfl ?_
              refine j_iconst (3 : Int32) dX12_rules_53 ki_3 ?_
              refine j_bipush (40 : Int32) dX12_rules_54 kb_40 ?_
              obtain ⟨q11, e12, h⟩ := ok_b h
              refine j_callV (As := [.int (3 : Int32), .int (40 : Int32)]) (st := [.ref (ad (gm κ) 97)]) [.int q11, .ref (ad (gm κ) 97)] (c_X12_lastOf (kl κ) (gm κ) (kA κ) (3 : Int32) (40 : Int32) q3 q11 e12) ck_RX12_474 im_X12_lastOf se_X12_lastOf sh_97 cx_12 ⟨rfl, rfl⟩ ⟨by decide, by decide⟩ rfl rfl (Nat.le_of_ble_eq_true rfl) dX12_rules_56 _ rfl ?_
              refine j_goto 83 dX12_rules_59 (by decide) ?_
              refine j_loc [] [] rfl ?_
              exact t_X12_rules_j83 q11 q3 h
          · refine j_aload_n 0 dX12_rules_40 rfl rfl ?_
            refine j_getI fl_RX12_468 sh_97 fk_97_70 dX12_rules_41 ?_
            refine j_goto 83 dX12_rules_44 (by decide) ?_
            refine j_loc [] [] rfl ?_
            exact t_X12_rules_j83 (q3.1 97 70) q3 h
        · refine j_loc [(0, .ref (ad (gm κ) 97))] [0] rfl ?_
          exact t_X12_rules_j23 w h
theorem c_X12_rules (l : Launch) (γ : Gm) (A : Nat → Prop) (a1 : Int32) (a2 : Int32) (a3 : Int32) (w : Wd) (q : Int32 × Wd) (e : X12_rules  a1 a2 a3 w = some q) : MetG l γ A yX12_rules cX12_rules 4 (some .int) (rmk 1 25) [.ref (ad (γ) 97), .int a1, .int a2, .int a3] w (some (.int q.1)) q.2 := by
  refine met_of pn_RX12 (Nat.le_of_ble_eq_true rfl) ?_
  intro κ hl hγ hA hρ
  subst hl; subst hγ; subst hA
  exact t_X12_rules   a1 a2 a3 w ⟨q, e, pIw hρ rfl rfl⟩
theorem dX12_struck_0 : decode cX12_struck 0 = .ok (.iload_n 1, 1) := by decide +kernel
theorem dX12_struck_1 : decode cX12_struck 1 = .ok (.invokestatic 309, 3) := by decide +kernel
theorem dX12_struck_4 : decode cX12_struck 4 = .ok (.ifCond .eq 10, 3) := by decide +kernel
theorem dX12_struck_7 : decode cX12_struck 7 = .ok (.iload_n 2, 1) := by decide +kernel
theorem dX12_struck_8 : decode cX12_struck 8 = .ok (.invokestatic 322, 3) := by decide +kernel
theorem dX12_struck_11 : decode cX12_struck 11 = .ok (.ifCond .ne 9, 3) := by decide +kernel
theorem dX12_struck_14 : decode cX12_struck 14 = .ok (.aload_n 0, 1) := by decide +kernel
theorem dX12_struck_15 : decode cX12_struck 15 = .ok (.iconst 1, 1) := by decide +kernel
theorem dX12_struck_16 : decode cX12_struck 16 = .ok (.invokevirtual 312, 3) := by decide +kernel
theorem dX12_struck_19 : decode cX12_struck 19 = .ok (.ireturn, 1) := by decide +kernel
theorem dX12_struck_20 : decode cX12_struck 20 = .ok (.aload_n 0, 1) := by decide +kernel
theorem dX12_struck_21 : decode cX12_struck 21 = .ok (.iload_n 1, 1) := by decide +kernel
theorem dX12_struck_22 : decode cX12_struck 22 = .ok (.iload_n 2, 1) := by decide +kernel
theorem dX12_struck_23 : decode cX12_struck 23 = .ok (.invokevirtual 471, 3) := by decide +kernel
theorem dX12_struck_26 : decode cX12_struck 26 = .ok (.iload_n 3, 1) := by decide +kernel
theorem dX12_struck_27 : decode cX12_struck 27 = .ok (.ifCond .lt 11, 3) := by decide +kernel
theorem dX12_struck_30 : decode cX12_struck 30 = .ok (.iload_n 3, 1) := by decide +kernel
theorem dX12_struck_31 : decode cX12_struck 31 = .ok (.aload_n 0, 1) := by decide +kernel
theorem dX12_struck_32 : decode cX12_struck 32 = .ok (.getfield 468, 3) := by decide +kernel
theorem dX12_struck_35 : decode cX12_struck 35 = .ok (.if_icmp .lt 11, 3) := by decide +kernel
theorem dX12_struck_38 : decode cX12_struck 38 = .ok (.aload_n 0, 1) := by decide +kernel
theorem dX12_struck_39 : decode cX12_struck 39 = .ok (.iconst 1, 1) := by decide +kernel
theorem dX12_struck_40 : decode cX12_struck 40 = .ok (.invokevirtual 312, 3) := by decide +kernel
theorem dX12_struck_43 : decode cX12_struck 43 = .ok (.goto 21, 3) := by decide +kernel
theorem dX12_struck_46 : decode cX12_struck 46 = .ok (.aload_n 0, 1) := by decide +kernel
theorem dX12_struck_47 : decode cX12_struck 47 = .ok (.aload_n 0, 1) := by decide +kernel
theorem dX12_struck_48 : decode cX12_struck 48 = .ok (.getfield 167, 3) := by decide +kernel
theorem dX12_struck_51 : decode cX12_struck 51 = .ok (.iload_n 3, 1) := by decide +kernel
theorem dX12_struck_52 : decode cX12_struck 52 = .ok (.baload, 1) := by decide +kernel
theorem dX12_struck_53 : decode cX12_struck 53 = .ok (.ifCond .eq 7, 3) := by decide +kernel
theorem dX12_struck_56 : decode cX12_struck 56 = .ok (.iconst 1, 1) := by decide +kernel
theorem dX12_struck_57 : decode cX12_struck 57 = .ok (.goto 4, 3) := by decide +kernel
theorem dX12_struck_60 : decode cX12_struck 60 = .ok (.iconst 0, 1) := by decide +kernel
theorem dX12_struck_61 : decode cX12_struck 61 = .ok (.invokevirtual 316, 3) := by decide +kernel
theorem dX12_struck_64 : decode cX12_struck 64 = .ok (.ireturn, 1) := by decide +kernel
noncomputable def X12_struck_j14 (w : Wd) : Option (Int32 × Wd) :=
(X12_refuse (1 : Int32) w).bind fun q1 =>
some (q1.1, q1.2)
set_option maxRecDepth 20000 in
set_option maxHeartbeats 1000000 in
theorem t_X12_struck_j14 {κ : Kx} (w : Wd) (h : ok (X12_struck_j14  w) (PIw κ)) : J κ RX12 cX12_struck 4 (some .int) (rmk 1 25) 14 [(0, .ref (ad (gm κ) 97))] [] w := by
  unfold X12_struck_j14 at h
  refine j_aload_n 0 dX12_struck_14 rfl rfl ?_
  refine j_iconst (1 : Int32) dX12_struck_15 ki_1 ?_
  obtain ⟨q1, e2, h⟩ := ok_b h
  refine j_callV (As := [.int (1 : Int32)]) (st := []) [.int q1.1] (c_X12_refuse (kl κ) (gm κ) (kA κ) (1 : Int32) w q1 e2) ck_RX12_312 im_X12_refuse se_X12_refuse sh_97 cx_12 ⟨rfl, rfl⟩ ⟨by decide, by decide⟩ rfl rfl (Nat.le_of_ble_eq_true rfl) dX12_struck_16 _ rfl ?_
  have h := ok_s h
  exact j_iret dX12_struck_19 rfl rfl h
noncomputable def X12_struck_j38 (w : Wd) : Option (Int32 × Wd) :=
(X12_refuse (1 : Int32) w).bind fun q5 =>
some (q5.1, q5.2)
set_option maxRecDepth 20000 in
set_option maxHeartbeats 1000000 in
theorem t_X12_struck_j38 {κ : Kx} (w : Wd) (h : ok (X12_struck_j38  w) (PIw κ)) : J κ RX12 cX12_struck 4 (some .int) (rmk 1 25) 38 [(0, .ref (ad (gm κ) 97))] [] w := by
  unfold X12_struck_j38 at h
  refine j_aload_n 0 dX12_struck_38 rfl rfl ?_
  refine j_iconst (1 : Int32) dX12_struck_39 ki_1 ?_
  obtain ⟨q5, e6, h⟩ := ok_b h
  refine j_callV (As := [.int (1 : Int32)]) (st := []) [.int q5.1] (c_X12_refuse (kl κ) (gm κ) (kA κ) (1 : Int32) w q5 e6) ck_RX12_312 im_X12_refuse se_X12_refuse sh_97 cx_12 ⟨rfl, rfl⟩ ⟨by decide, by decide⟩ rfl rfl (Nat.le_of_ble_eq_true rfl) dX12_struck_40 _ rfl ?_
  refine j_goto 64 dX12_struck_43 (by decide) ?_
  have h := ok_s h
  exact j_iret dX12_struck_64 rfl rfl h
noncomputable def X12_struck_j61 (s0 : Int32) (w : Wd) : Option (Int32 × Wd) :=
(X12_gives s0 w).bind fun q7 =>
some (q7.1, q7.2)
set_option maxRecDepth 20000 in
set_option maxHeartbeats 1000000 in
theorem t_X12_struck_j61 {κ : Kx} (s0 : Int32) (w : Wd) (h : ok (X12_struck_j61  s0 w) (PIw κ)) : J κ RX12 cX12_struck 4 (some .int) (rmk 1 25) 61 [] [.int s0, .ref (ad (gm κ) 97)] w := by
  unfold X12_struck_j61 at h
  obtain ⟨q7, e8, h⟩ := ok_b h
  refine j_callV (As := [.int s0]) (st := []) [.int q7.1] (c_X12_gives (kl κ) (gm κ) (kA κ) s0 w q7 e8) ck_RX12_316 im_X12_gives se_X12_gives sh_97 cx_12 ⟨rfl, rfl⟩ ⟨by decide, by decide⟩ rfl rfl (Nat.le_of_ble_eq_true rfl) dX12_struck_61 _ rfl ?_
  have h := ok_s h
  exact j_iret dX12_struck_64 rfl rfl h
noncomputable def X12_struck (a1 : Int32) (a2 : Int32) (a3 : Int32) (w : Wd) : Option (Int32 × Wd) :=
(if (X12_isShire a1 w) = 0 then
X12_struck_j14 w
else
(if (X12_isWeek a2 w) = 0 then
X12_struck_j14 w
else
(X12_stand a1 a2 w).bind fun q3 =>
(if a3 < 0 then
X12_struck_j38 q3
else
(if a3 < (q3.1 97 70) then
gd (vp_in a3 100) <|
(if (q3.1 146 (ix a3)) = 0 then
X12_struck_j61 (0 : Int32) q3
else
X12_struck_j61 (1 : Int32) q3)
else
X12_struck_j38 q3))))
set_option maxRecDepth 20000 in
set_option maxHeartbeats 1000000 in
theorem t_X12_struck {κ : Kx} (a1 : Int32) (a2 : Int32) (a3 : Int32) (w : Wd) (h : ok (X12_struck  a1 a2 a3 w) (PIw κ)) : J κ RX12 cX12_struck 4 (some .int) (rmk 1 25) 0 [(0, .ref (ad (gm κ) 97)), (1, .int a1), (2, .int a2), (3, .int a3)] [] w := by
  unfold X12_struck at h
  refine j_iload_n 1 dX12_struck_0 rfl rfl ?_
  refine j_callS (As := [.int a1]) (st := []) [.int (X12_isShire a1 w)] (c_X12_isShire (kl κ) (gm κ) (kA κ) a1 w) ck_RX12_309 st_X12_isShire ⟨rfl, rfl⟩ ⟨by decide, by decide⟩ rfl rfl (Nat.le_of_ble_eq_true rfl) dX12_struck_1 _ rfl ?_
  refine j_if_eq 14 dX12_struck_4 (by decide) h (fun h => ?_) (fun h => ?_)
  · refine j_loc [(0, .ref (ad (gm κ) 97))] [0] rfl ?_
    exact t_X12_struck_j14 w h
  · refine j_iload_n 2 dX12_struck_7 rfl rfl ?_
    refine j_callS (As := [.int a2]) (st := []) [.int (X12_isWeek a2 w)] (c_X12_isWeek (kl κ) (gm κ) (kA κ) a2 w) ck_RX12_322 st_X12_isWeek ⟨rfl, rfl⟩ ⟨by decide, by decide⟩ rfl rfl (Nat.le_of_ble_eq_true rfl) dX12_struck_8 _ rfl ?_
    refine j_if_ne 20 dX12_struck_11 (by decide) h (fun h => ?_) (fun h => ?_)
    · refine j_aload_n 0 dX12_struck_20 rfl rfl ?_
      refine j_iload_n 1 dX12_struck_21 rfl rfl ?_
      refine j_iload_n 2 dX12_struck_22 rfl rfl ?_
      obtain ⟨q3, e4, h⟩ := ok_b h
      refine j_callV (As := [.int a1, .int a2]) (st := []) [] (c_X12_stand (kl κ) (gm κ) (kA κ) a1 a2 w q3 e4) ck_RX12_471 im_X12_stand se_X12_stand sh_97 cx_12 ⟨rfl, rfl⟩ ⟨by decide, by decide⟩ rfl rfl (Nat.le_of_ble_eq_true rfl) dX12_struck_23 _ rfl ?_
      refine j_iload_n 3 dX12_struck_26 rfl rfl ?_
      refine j_if_lt 38 dX12_struck_27 (by decide) h (fun h => ?_) (fun h => ?_)
      · refine j_loc [(0, .ref (ad (gm κ) 97))] [0] rfl ?_
        exact t_X12_struck_j38 q3 h
      · refine j_iload_n 3 dX12_struck_30 rfl rfl ?_
        refine j_aload_n 0 dX12_struck_31 rfl rfl ?_
        refine j_getI fl_RX12_468 sh_97 fk_97_70 dX12_struck_32 ?_
        refine j_ic_lt 46 dX12_struck_35 (by decide) h (fun h => ?_) (fun h => ?_)
        · refine j_aload_n 0 dX12_struck_46 rfl rfl ?_
          refine j_aload_n 0 dX12_struck_47 rfl rfl ?_
          refine j_getA 146 fl_RX12_167 sh_97 fk_97_69 (by decide) dX12_struck_48 ?_
          refine j_iload_n 3 dX12_struck_51 rfl rfl ?_
          refine j_zald sh_146 dX12_struck_52 h (fun h => ?_)
          refine j_if_eq 60 dX12_struck_53 (by decide) h (fun h => ?_) (fun h => ?_)
          · refine j_iconst (0 : Int32) dX12_struck_60 ki_0 ?_
            refine j_loc [] [] rfl ?_
            exact t_X12_struck_j61 (0 : Int32) q3 h
          · refine j_iconst (1 : Int32) dX12_struck_56 ki_1 ?_
            refine j_goto 61 dX12_struck_57 (by decide) ?_
            refine j_loc [] [] rfl ?_
            exact t_X12_struck_j61 (1 : Int32) q3 h
        · refine j_loc [(0, .ref (ad (gm κ) 97))] [0] rfl ?_
          exact t_X12_struck_j38 q3 h
    · refine j_loc [(0, .ref (ad (gm κ) 97))] [0] rfl ?_
      exact t_X12_struck_j14 w h
theorem c_X12_struck (l : Launch) (γ : Gm) (A : Nat → Prop) (a1 : Int32) (a2 : Int32) (a3 : Int32) (w : Wd) (q : Int32 × Wd) (e : X12_struck  a1 a2 a3 w = some q) : MetG l γ A yX12_struck cX12_struck 4 (some .int) (rmk 1 25) [.ref (ad (γ) 97), .int a1, .int a2, .int a3] w (some (.int q.1)) q.2 := by
  refine met_of pn_RX12 (Nat.le_of_ble_eq_true rfl) ?_
  intro κ hl hγ hA hρ
  subst hl; subst hγ; subst hA
  exact t_X12_struck   a1 a2 a3 w ⟨q, e, pIw hρ rfl rfl⟩
theorem dX12_lesson_0 : decode cX12_lesson 0 = .ok (.iload_n 1, 1) := by decide +kernel
theorem dX12_lesson_1 : decode cX12_lesson 1 = .ok (.ifCond .lt 44, 3) := by decide +kernel
theorem dX12_lesson_4 : decode cX12_lesson 4 = .ok (.iload_n 1, 1) := by decide +kernel
theorem dX12_lesson_5 : decode cX12_lesson 5 = .ok (.bipush 15, 2) := by decide +kernel
theorem dX12_lesson_7 : decode cX12_lesson 7 = .ok (.if_icmp .ge 38, 3) := by decide +kernel
theorem dX12_lesson_10 : decode cX12_lesson 10 = .ok (.iload_n 2, 1) := by decide +kernel
theorem dX12_lesson_11 : decode cX12_lesson 11 = .ok (.iconst 1, 1) := by decide +kernel
theorem dX12_lesson_12 : decode cX12_lesson 12 = .ok (.if_icmp .lt 33, 3) := by decide +kernel
theorem dX12_lesson_15 : decode cX12_lesson 15 = .ok (.iload_n 2, 1) := by decide +kernel
theorem dX12_lesson_16 : decode cX12_lesson 16 = .ok (.bipush 60, 2) := by decide +kernel
theorem dX12_lesson_18 : decode cX12_lesson 18 = .ok (.if_icmp .gt 27, 3) := by decide +kernel
theorem dX12_lesson_21 : decode cX12_lesson 21 = .ok (.iload_n 3, 1) := by decide +kernel
theorem dX12_lesson_22 : decode cX12_lesson 22 = .ok (.ifCond .lt 23, 3) := by decide +kernel
theorem dX12_lesson_25 : decode cX12_lesson 25 = .ok (.iload_n 3, 1) := by decide +kernel
theorem dX12_lesson_26 : decode cX12_lesson 26 = .ok (.iconst 1, 1) := by decide +kernel
theorem dX12_lesson_27 : decode cX12_lesson 27 = .ok (.iload_n 1, 1) := by decide +kernel
theorem dX12_lesson_28 : decode cX12_lesson 28 = .ok (.ishl, 1) := by decide +kernel
theorem dX12_lesson_29 : decode cX12_lesson 29 = .ok (.if_icmp .ge 16, 3) := by decide +kernel
theorem dX12_lesson_32 : decode cX12_lesson 32 = .ok (.iload 4, 2) := by decide +kernel
theorem dX12_lesson_34 : decode cX12_lesson 34 = .ok (.ifCond .lt 11, 3) := by decide +kernel
theorem dX12_lesson_37 : decode cX12_lesson 37 = .ok (.iload 4, 2) := by decide +kernel
theorem dX12_lesson_39 : decode cX12_lesson 39 = .ok (.ldc_w 477, 3) := by decide +kernel
theorem dX12_lesson_42 : decode cX12_lesson 42 = .ok (.if_icmp .lt 9, 3) := by decide +kernel
theorem dX12_lesson_45 : decode cX12_lesson 45 = .ok (.aload_n 0, 1) := by decide +kernel
theorem dX12_lesson_46 : decode cX12_lesson 46 = .ok (.iconst 1, 1) := by decide +kernel
theorem dX12_lesson_47 : decode cX12_lesson 47 = .ok (.invokevirtual 284, 3) := by decide +kernel
theorem dX12_lesson_50 : decode cX12_lesson 50 = .ok (.ireturn, 1) := by decide +kernel
theorem dX12_lesson_51 : decode cX12_lesson 51 = .ok (.aload_n 0, 1) := by decide +kernel
theorem dX12_lesson_52 : decode cX12_lesson 52 = .ok (.getfield 170, 3) := by decide +kernel
theorem dX12_lesson_55 : decode cX12_lesson 55 = .ok (.iload_n 1, 1) := by decide +kernel
theorem dX12_lesson_56 : decode cX12_lesson 56 = .ok (.iload_n 2, 1) := by decide +kernel
theorem dX12_lesson_57 : decode cX12_lesson 57 = .ok (.iastore, 1) := by decide +kernel
theorem dX12_lesson_58 : decode cX12_lesson 58 = .ok (.aload_n 0, 1) := by decide +kernel
theorem dX12_lesson_59 : decode cX12_lesson 59 = .ok (.getfield 173, 3) := by decide +kernel
theorem dX12_lesson_62 : decode cX12_lesson 62 = .ok (.iload_n 1, 1) := by decide +kernel
theorem dX12_lesson_63 : decode cX12_lesson 63 = .ok (.iload_n 3, 1) := by decide +kernel
theorem dX12_lesson_64 : decode cX12_lesson 64 = .ok (.iastore, 1) := by decide +kernel
theorem dX12_lesson_65 : decode cX12_lesson 65 = .ok (.aload_n 0, 1) := by decide +kernel
theorem dX12_lesson_66 : decode cX12_lesson 66 = .ok (.getfield 187, 3) := by decide +kernel
theorem dX12_lesson_69 : decode cX12_lesson 69 = .ok (.iload_n 1, 1) := by decide +kernel
theorem dX12_lesson_70 : decode cX12_lesson 70 = .ok (.iload 4, 2) := by decide +kernel
theorem dX12_lesson_72 : decode cX12_lesson 72 = .ok (.iastore, 1) := by decide +kernel
theorem dX12_lesson_73 : decode cX12_lesson 73 = .ok (.aload_n 0, 1) := by decide +kernel
theorem dX12_lesson_74 : decode cX12_lesson 74 = .ok (.iconst 0, 1) := by decide +kernel
theorem dX12_lesson_75 : decode cX12_lesson 75 = .ok (.invokevirtual 284, 3) := by decide +kernel
theorem dX12_lesson_78 : decode cX12_lesson 78 = .ok (.ireturn, 1) := by decide +kernel
noncomputable def X12_lesson_j45 (w : Wd) : Option (Int32 × Wd) :=
(X12_is (1 : Int32) w).bind fun q1 =>
gd (narrow .boolean (.int q1.1) = .int q1.1) <|
some (q1.1, q1.2)
set_option maxRecDepth 20000 in
set_option maxHeartbeats 1000000 in
theorem t_X12_lesson_j45 {κ : Kx} (w : Wd) (h : ok (X12_lesson_j45  w) (PIw κ)) : J κ RX12 cX12_lesson 5 (some .boolean) (rmk 1 21) 45 [(0, .ref (ad (gm κ) 97))] [] w := by
  unfold X12_lesson_j45 at h
  refine j_aload_n 0 dX12_lesson_45 rfl rfl ?_
  refine j_iconst (1 : Int32) dX12_lesson_46 ki_1 ?_
  obtain ⟨q1, e2, h⟩ := ok_b h
  refine j_callV (As := [.int (1 : Int32)]) (st := []) [.int q1.1] (c_X12_is (kl κ) (gm κ) (kA κ) (1 : Int32) w q1 e2) ck_RX12_284 im_X12_is se_X12_is sh_97 cx_12 ⟨rfl, rfl⟩ ⟨by decide, by decide⟩ rfl rfl (Nat.le_of_ble_eq_true rfl) dX12_lesson_47 _ rfl ?_
  obtain ⟨hz, h⟩ := ok_g h
  have h := ok_s h
  exact j_iret dX12_lesson_50 rfl hz h
noncomputable def X12_lesson (a1 : Int32) (a2 : Int32) (a3 : Int32) (a4 : Int32) (w : Wd) : Option (Int32 × Wd) :=
(if a1 < 0 then
X12_lesson_j45 w
else
(if (15 : Int32) ≤ a1 then
X12_lesson_j45 w
else
(if a2 < (1 : Int32) then
X12_lesson_j45 w
else
(if (60 : Int32) < a2 then
X12_lesson_j45 w
else
(if a3 < 0 then
X12_lesson_j45 w
else
(if ((1 : Int32) <<< (a1 &&& 31)) ≤ a3 then
X12_lesson_j45 w
else
(if a4 < 0 then
X12_lesson_j45 w
else
(if a4 < (67108864 : Int32) then
gd (vp_in a1 15) <|
(some (puI w 147 (ix a1) a2)).bind fun w3 =>
gd (vp_in a1 15) <|
(some (puI w3 148 (ix a1) a3)).bind fun w4 =>
gd (vp_in a1 15) <|
(some (puI w4 149 (ix a1) a4)).bind fun w5 =>
(X12_is (0 : Int32) w5).bind fun q6 =>
gd (narrow .boolean (.int q6.1) = .int q6.1) <|
some (q6.1, q6.2)
else
X12_lesson_j45 w))))))))
set_option maxRecDepth 20000 in
set_option maxHeartbeats 1000000 in
theorem t_X12_lesson {κ : Kx} (a1 : Int32) (a2 : Int32) (a3 : Int32) (a4 : Int32) (w : Wd) (h : ok (X12_lesson  a1 a2 a3 a4 w) (PIw κ)) : J κ RX12 cX12_lesson 5 (some .boolean) (rmk 1 21) 0 [(0, .ref (ad (gm κ) 97)), (1, .int a1), (2, .int a2), (3, .int a3), (4, .int a4)] [] w := by
  unfold X12_lesson at h
  refine j_iload_n 1 dX12_lesson_0 rfl rfl ?_
  refine j_if_lt 45 dX12_lesson_1 (by decide) h (fun h => ?_) (fun h => ?_)
  · refine j_loc [(0, .ref (ad (gm κ) 97))] [0] rfl ?_
    exact t_X12_lesson_j45 w h
  · refine j_iload_n 1 dX12_lesson_4 rfl rfl ?_
    refine j_bipush (15 : Int32) dX12_lesson_5 kb_15 ?_
    refine j_ic_ge 45 dX12_lesson_7 (by decide) h (fun h => ?_) (fun h => ?_)
    · refine j_loc [(0, .ref (ad (gm κ) 97))] [0] rfl ?_
      exact t_X12_lesson_j45 w h
    · refine j_iload_n 2 dX12_lesson_10 rfl rfl ?_
      refine j_iconst (1 : Int32) dX12_lesson_11 ki_1 ?_
      refine j_ic_lt 45 dX12_lesson_12 (by decide) h (fun h => ?_) (fun h => ?_)
      · refine j_loc [(0, .ref (ad (gm κ) 97))] [0] rfl ?_
        exact t_X12_lesson_j45 w h
      · refine j_iload_n 2 dX12_lesson_15 rfl rfl ?_
        refine j_bipush (60 : Int32) dX12_lesson_16 kb_60 ?_
        refine j_ic_gt 45 dX12_lesson_18 (by decide) h (fun h => ?_) (fun h => ?_)
        · refine j_loc [(0, .ref (ad (gm κ) 97))] [0] rfl ?_
          exact t_X12_lesson_j45 w h
        · refine j_iload_n 3 dX12_lesson_21 rfl rfl ?_
          refine j_if_lt 45 dX12_lesson_22 (by decide) h (fun h => ?_) (fun h => ?_)
          · refine j_loc [(0, .ref (ad (gm κ) 97))] [0] rfl ?_
            exact t_X12_lesson_j45 w h
          · refine j_iload_n 3 dX12_lesson_25 rfl rfl ?_
            refine j_iconst (1 : Int32) dX12_lesson_26 ki_1 ?_
            refine j_iload_n 1 dX12_lesson_27 rfl rfl ?_
            refine j_ishl dX12_lesson_28 ?_
            refine j_ic_ge 45 dX12_lesson_29 (by decide) h (fun h => ?_) (fun h => ?_)
            · refine j_loc [(0, .ref (ad (gm κ) 97))] [0] rfl ?_
              exact t_X12_lesson_j45 w h
            · refine j_iload 4 dX12_lesson_32 rfl ?_
              refine j_if_lt 45 dX12_lesson_34 (by decide) h (fun h => ?_) (fun h => ?_)
              · refine j_loc [(0, .ref (ad (gm κ) 97))] [0] rfl ?_
                exact t_X12_lesson_j45 w h
              · refine j_iload 4 dX12_lesson_37 rfl ?_
                refine j_ldcw cw_RX12_477 dX12_lesson_39 ?_
                refine j_ic_lt 51 dX12_lesson_42 (by decide) h (fun h => ?_) (fun h => ?_)
                · refine j_aload_n 0 dX12_lesson_51 rfl rfl ?_
                  refine j_getA 147 fl_RX12_170 sh_97 fk_97_71 (by decide) dX12_lesson_52 ?_
                  refine j_iload_n 1 dX12_lesson_55 rfl rfl ?_
                  refine j_iload_n 2 dX12_lesson_56 rfl rfl ?_
                  refine j_iast sh_147 dX12_lesson_57 h (fun h => ?_)
                  refine j_lW h (fun w3 h => ?_)
                  refine j_aload_n 0 dX12_lesson_58 rfl rfl ?_
                  refine j_getA 148 fl_RX12_173 sh_97 fk_97_72 (by decide) dX12_lesson_59 ?_
                  refine j_iload_n 1 dX12_lesson_62 rfl rfl ?_
                  refine j_iload_n 3 dX12_lesson_63 rfl rfl ?_
                  refine j_iast sh_148 dX12_lesson_64 h (fun h => ?_)
                  refine j_lW h (fun w4 h => ?_)
                  refine j_aload_n 0 dX12_lesson_65 rfl rfl ?_
                  refine j_getA 149 fl_RX12_187 sh_97 fk_97_73 (by decide) dX12_lesson_66 ?_
                  refine j_iload_n 1 dX12_lesson_69 rfl rfl ?_
                  refine j_iload 4 dX12_lesson_70 rfl ?_
                  refine j_iast sh_149 dX12_lesson_72 h (fun h => ?_)
                  refine j_lW h (fun w5 h => ?_)
                  refine j_aload_n 0 dX12_lesson_73 rfl rfl ?_
                  refine j_iconst (0 : Int32) dX12_lesson_74 ki_0 ?_
                  obtain ⟨q6, e7, h⟩ := ok_b h
                  refine j_callV (As := [.int (0 : Int32)]) (st := []) [.int q6.1] (c_X12_is (kl κ) (gm κ) (kA κ) (0 : Int32) w5 q6 e7) ck_RX12_284 im_X12_is se_X12_is sh_97 cx_12 ⟨rfl, rfl⟩ ⟨by decide, by decide⟩ rfl rfl (Nat.le_of_ble_eq_true rfl) dX12_lesson_75 _ rfl ?_
                  obtain ⟨hz, h⟩ := ok_g h
                  have h := ok_s h
                  exact j_iret dX12_lesson_78 rfl hz h
                · refine j_loc [(0, .ref (ad (gm κ) 97))] [0] rfl ?_
                  exact t_X12_lesson_j45 w h
theorem c_X12_lesson (l : Launch) (γ : Gm) (A : Nat → Prop) (a1 : Int32) (a2 : Int32) (a3 : Int32) (a4 : Int32) (w : Wd) (q : Int32 × Wd) (e : X12_lesson  a1 a2 a3 a4 w = some q) : MetG l γ A yX12_lesson cX12_lesson 5 (some .boolean) (rmk 1 21) [.ref (ad (γ) 97), .int a1, .int a2, .int a3, .int a4] w (some (.int q.1)) q.2 := by
  refine met_of pn_RX12 (Nat.le_of_ble_eq_true rfl) ?_
  intro κ hl hγ hA hρ
  subst hl; subst hγ; subst hA
  exact t_X12_lesson   a1 a2 a3 a4 w ⟨q, e, pIw hρ rfl rfl⟩
theorem dX12_fade_0 : decode cX12_fade 0 = .ok (.iload_n 1, 1) := by decide +kernel
theorem dX12_fade_1 : decode cX12_fade 1 = .ok (.iconst 1, 1) := by decide +kernel
theorem dX12_fade_2 : decode cX12_fade 2 = .ok (.if_icmp .lt 9, 3) := by decide +kernel
theorem dX12_fade_5 : decode cX12_fade 5 = .ok (.iload_n 1, 1) := by decide +kernel
theorem dX12_fade_6 : decode cX12_fade 6 = .ok (.bipush 20, 2) := by decide +kernel
theorem dX12_fade_8 : decode cX12_fade 8 = .ok (.if_icmp .le 9, 3) := by decide +kernel
theorem dX12_fade_11 : decode cX12_fade 11 = .ok (.aload_n 0, 1) := by decide +kernel
theorem dX12_fade_12 : decode cX12_fade 12 = .ok (.iconst 1, 1) := by decide +kernel
theorem dX12_fade_13 : decode cX12_fade 13 = .ok (.invokevirtual 284, 3) := by decide +kernel
theorem dX12_fade_16 : decode cX12_fade 16 = .ok (.ireturn, 1) := by decide +kernel
theorem dX12_fade_17 : decode cX12_fade 17 = .ok (.aload_n 0, 1) := by decide +kernel
theorem dX12_fade_18 : decode cX12_fade 18 = .ok (.iload_n 1, 1) := by decide +kernel
theorem dX12_fade_19 : decode cX12_fade 19 = .ok (.putfield 217, 3) := by decide +kernel
theorem dX12_fade_22 : decode cX12_fade 22 = .ok (.aload_n 0, 1) := by decide +kernel
theorem dX12_fade_23 : decode cX12_fade 23 = .ok (.iconst 0, 1) := by decide +kernel
theorem dX12_fade_24 : decode cX12_fade 24 = .ok (.invokevirtual 284, 3) := by decide +kernel
theorem dX12_fade_27 : decode cX12_fade 27 = .ok (.ireturn, 1) := by decide +kernel
noncomputable def X12_fade_j11 (w : Wd) : Option (Int32 × Wd) :=
(X12_is (1 : Int32) w).bind fun q1 =>
gd (narrow .boolean (.int q1.1) = .int q1.1) <|
some (q1.1, q1.2)
set_option maxRecDepth 20000 in
set_option maxHeartbeats 1000000 in
theorem t_X12_fade_j11 {κ : Kx} (w : Wd) (h : ok (X12_fade_j11  w) (PIw κ)) : J κ RX12 cX12_fade 2 (some .boolean) (rmk 1 21) 11 [(0, .ref (ad (gm κ) 97))] [] w := by
  unfold X12_fade_j11 at h
  refine j_aload_n 0 dX12_fade_11 rfl rfl ?_
  refine j_iconst (1 : Int32) dX12_fade_12 ki_1 ?_
  obtain ⟨q1, e2, h⟩ := ok_b h
  refine j_callV (As := [.int (1 : Int32)]) (st := []) [.int q1.1] (c_X12_is (kl κ) (gm κ) (kA κ) (1 : Int32) w q1 e2) ck_RX12_284 im_X12_is se_X12_is sh_97 cx_12 ⟨rfl, rfl⟩ ⟨by decide, by decide⟩ rfl rfl (Nat.le_of_ble_eq_true rfl) dX12_fade_13 _ rfl ?_
  obtain ⟨hz, h⟩ := ok_g h
  have h := ok_s h
  exact j_iret dX12_fade_16 rfl hz h
noncomputable def X12_fade (a1 : Int32) (w : Wd) : Option (Int32 × Wd) :=
(if a1 < (1 : Int32) then
X12_fade_j11 w
else
(if a1 ≤ (20 : Int32) then
(some (puI w 97 83 a1)).bind fun w3 =>
(X12_is (0 : Int32) w3).bind fun q4 =>
gd (narrow .boolean (.int q4.1) = .int q4.1) <|
some (q4.1, q4.2)
else
X12_fade_j11 w))
set_option maxRecDepth 20000 in
set_option maxHeartbeats 1000000 in
theorem t_X12_fade {κ : Kx} (a1 : Int32) (w : Wd) (h : ok (X12_fade  a1 w) (PIw κ)) : J κ RX12 cX12_fade 2 (some .boolean) (rmk 1 21) 0 [(0, .ref (ad (gm κ) 97)), (1, .int a1)] [] w := by
  unfold X12_fade at h
  refine j_iload_n 1 dX12_fade_0 rfl rfl ?_
  refine j_iconst (1 : Int32) dX12_fade_1 ki_1 ?_
  refine j_ic_lt 11 dX12_fade_2 (by decide) h (fun h => ?_) (fun h => ?_)
  · refine j_loc [(0, .ref (ad (gm κ) 97))] [0] rfl ?_
    exact t_X12_fade_j11 w h
  · refine j_iload_n 1 dX12_fade_5 rfl rfl ?_
    refine j_bipush (20 : Int32) dX12_fade_6 kb_20 ?_
    refine j_ic_le 17 dX12_fade_8 (by decide) h (fun h => ?_) (fun h => ?_)
    · refine j_aload_n 0 dX12_fade_17 rfl rfl ?_
      refine j_iload_n 1 dX12_fade_18 rfl rfl ?_
      refine j_putI fp_RX12_217 sh_97 fk_97_83 dX12_fade_19 ?_
      refine j_lW h (fun w3 h => ?_)
      refine j_aload_n 0 dX12_fade_22 rfl rfl ?_
      refine j_iconst (0 : Int32) dX12_fade_23 ki_0 ?_
      obtain ⟨q4, e5, h⟩ := ok_b h
      refine j_callV (As := [.int (0 : Int32)]) (st := []) [.int q4.1] (c_X12_is (kl κ) (gm κ) (kA κ) (0 : Int32) w3 q4 e5) ck_RX12_284 im_X12_is se_X12_is sh_97 cx_12 ⟨rfl, rfl⟩ ⟨by decide, by decide⟩ rfl rfl (Nat.le_of_ble_eq_true rfl) dX12_fade_24 _ rfl ?_
      obtain ⟨hz, h⟩ := ok_g h
      have h := ok_s h
      exact j_iret dX12_fade_27 rfl hz h
    · refine j_loc [(0, .ref (ad (gm κ) 97))] [0] rfl ?_
      exact t_X12_fade_j11 w h
theorem c_X12_fade (l : Launch) (γ : Gm) (A : Nat → Prop) (a1 : Int32) (w : Wd) (q : Int32 × Wd) (e : X12_fade  a1 w = some q) : MetG l γ A yX12_fade cX12_fade 2 (some .boolean) (rmk 1 21) [.ref (ad (γ) 97), .int a1] w (some (.int q.1)) q.2 := by
  refine met_of pn_RX12 (Nat.le_of_ble_eq_true rfl) ?_
  intro κ hl hγ hA hρ
  subst hl; subst hγ; subst hA
  exact t_X12_fade   a1 w ⟨q, e, pIw hρ rfl rfl⟩
theorem dX12_isDone_0 : decode cX12_isDone 0 = .ok (.aload_n 0, 1) := by decide +kernel
theorem dX12_isDone_1 : decode cX12_isDone 1 = .ok (.getfield 190, 3) := by decide +kernel
theorem dX12_isDone_4 : decode cX12_isDone 4 = .ok (.bipush 15, 2) := by decide +kernel
theorem dX12_isDone_6 : decode cX12_isDone 6 = .ok (.iload_n 1, 1) := by decide +kernel
theorem dX12_isDone_7 : decode cX12_isDone 7 = .ok (.imul, 1) := by decide +kernel
theorem dX12_isDone_8 : decode cX12_isDone 8 = .ok (.iload_n 2, 1) := by decide +kernel
theorem dX12_isDone_9 : decode cX12_isDone 9 = .ok (.iadd, 1) := by decide +kernel
theorem dX12_isDone_10 : decode cX12_isDone 10 = .ok (.iaload, 1) := by decide +kernel
theorem dX12_isDone_11 : decode cX12_isDone 11 = .ok (.aload_n 0, 1) := by decide +kernel
theorem dX12_isDone_12 : decode cX12_isDone 12 = .ok (.getfield 170, 3) := by decide +kernel
theorem dX12_isDone_15 : decode cX12_isDone 15 = .ok (.iload_n 2, 1) := by decide +kernel
theorem dX12_isDone_16 : decode cX12_isDone 16 = .ok (.iaload, 1) := by decide +kernel
theorem dX12_isDone_17 : decode cX12_isDone 17 = .ok (.if_icmp .lt 7, 3) := by decide +kernel
theorem dX12_isDone_20 : decode cX12_isDone 20 = .ok (.iconst 1, 1) := by decide +kernel
theorem dX12_isDone_21 : decode cX12_isDone 21 = .ok (.goto 4, 3) := by decide +kernel
theorem dX12_isDone_24 : decode cX12_isDone 24 = .ok (.iconst 0, 1) := by decide +kernel
theorem dX12_isDone_25 : decode cX12_isDone 25 = .ok (.ireturn, 1) := by decide +kernel
noncomputable def X12_isDone (a1 : Int32) (a2 : Int32) (w : Wd) : Option (Int32) :=
gd (vp_in (((15 : Int32) * a1) + a2) 600) <|
gd (vp_in a2 15) <|
(if (w.1 150 (ix (((15 : Int32) * a1) + a2))) < (w.1 147 (ix a2)) then
some (0 : Int32)
else
some (1 : Int32))
set_option maxRecDepth 20000 in
set_option maxHeartbeats 1000000 in
theorem t_X12_isDone {κ : Kx} (a1 : Int32) (a2 : Int32) (w : Wd) (h : ok (X12_isDone  a1 a2 w) (PI κ w)) : J κ RX12 cX12_isDone 3 (some .boolean) (rmk 0 0) 0 [(0, .ref (ad (gm κ) 97)), (1, .int a1), (2, .int a2)] [] w := by
  unfold X12_isDone at h
  refine j_aload_n 0 dX12_isDone_0 rfl rfl ?_
  refine j_getA 150 fl_RX12_190 sh_97 fk_97_74 (by decide) dX12_isDone_1 ?_
  refine j_bipush (15 : Int32) dX12_isDone_4 kb_15 ?_
  refine j_iload_n 1 dX12_isDone_6 rfl rfl ?_
  refine j_imul dX12_isDone_7 ?_
  refine j_iload_n 2 dX12_isDone_8 rfl rfl ?_
  refine j_iadd dX12_isDone_9 ?_
  refine j_iald sh_150 dX12_isDone_10 h (fun h => ?_)
  refine j_aload_n 0 dX12_isDone_11 rfl rfl ?_
  refine j_getA 147 fl_RX12_170 sh_97 fk_97_71 (by decide) dX12_isDone_12 ?_
  refine j_iload_n 2 dX12_isDone_15 rfl rfl ?_
  refine j_iald sh_147 dX12_isDone_16 h (fun h => ?_)
  refine j_ic_lt 24 dX12_isDone_17 (by decide) h (fun h => ?_) (fun h => ?_)
  · refine j_iconst (0 : Int32) dX12_isDone_24 ki_0 ?_
    have h := ok_s h
    exact j_iret dX12_isDone_25 rfl (by decide) h
  · refine j_iconst (1 : Int32) dX12_isDone_20 ki_1 ?_
    refine j_goto 25 dX12_isDone_21 (by decide) ?_
    have h := ok_s h
    exact j_iret dX12_isDone_25 rfl (by decide) h
theorem c_X12_isDone (l : Launch) (γ : Gm) (A : Nat → Prop) (a1 : Int32) (a2 : Int32) (w : Wd) (q : Int32) (e : X12_isDone  a1 a2 w = some q) : MetG l γ A yX12_isDone cX12_isDone 3 (some .boolean) (rmk 0 0) [.ref (ad (γ) 97), .int a1, .int a2] w (some (.int q)) w := by
  refine met_of pn_RX12 (Nat.le_of_ble_eq_true rfl) ?_
  intro κ hl hγ hA hρ
  subst hl; subst hγ; subst hA
  exact t_X12_isDone   a1 a2 w ⟨q, e, pI hρ rfl rfl⟩
