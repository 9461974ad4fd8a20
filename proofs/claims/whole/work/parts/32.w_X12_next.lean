theorem dX12_next_0 : decode cX12_next 0 = .ok (.aload_n 0, 1) := by decide +kernel
theorem dX12_next_1 : decode cX12_next 1 = .ok (.aload_n 0, 1) := by decide +kernel
theorem dX12_next_2 : decode cX12_next 2 = .ok (.getfield 368, 3) := by decide +kernel
theorem dX12_next_5 : decode cX12_next 5 = .ok (.invokevirtual 371, 3) := by decide +kernel
theorem dX12_next_8 : decode cX12_next 8 = .ok (.bipush 32, 2) := by decide +kernel
theorem dX12_next_10 : decode cX12_next 10 = .ok (.if_icmp .eq 16, 3) := by decide +kernel
theorem dX12_next_13 : decode cX12_next 13 = .ok (.aload_n 0, 1) := by decide +kernel
theorem dX12_next_14 : decode cX12_next 14 = .ok (.aload_n 0, 1) := by decide +kernel
theorem dX12_next_15 : decode cX12_next 15 = .ok (.getfield 368, 3) := by decide +kernel
theorem dX12_next_18 : decode cX12_next 18 = .ok (.invokevirtual 371, 3) := by decide +kernel
theorem dX12_next_21 : decode cX12_next 21 = .ok (.bipush 10, 2) := by decide +kernel
theorem dX12_next_23 : decode cX12_next 23 = .ok (.if_icmp .ne 16, 3) := by decide +kernel
theorem dX12_next_26 : decode cX12_next 26 = .ok (.aload_n 0, 1) := by decide +kernel
theorem dX12_next_27 : decode cX12_next 27 = .ok (.dup, 1) := by decide +kernel
theorem dX12_next_28 : decode cX12_next 28 = .ok (.getfield 368, 3) := by decide +kernel
theorem dX12_next_31 : decode cX12_next 31 = .ok (.iconst 1, 1) := by decide +kernel
theorem dX12_next_32 : decode cX12_next 32 = .ok (.iadd, 1) := by decide +kernel
theorem dX12_next_33 : decode cX12_next 33 = .ok (.putfield 368, 3) := by decide +kernel
theorem dX12_next_36 : decode cX12_next 36 = .ok (.goto (-36), 3) := by decide +kernel
theorem dX12_next_39 : decode cX12_next 39 = .ok (.aload_n 0, 1) := by decide +kernel
theorem dX12_next_40 : decode cX12_next 40 = .ok (.aload_n 0, 1) := by decide +kernel
theorem dX12_next_41 : decode cX12_next 41 = .ok (.getfield 368, 3) := by decide +kernel
theorem dX12_next_44 : decode cX12_next 44 = .ok (.putfield 374, 3) := by decide +kernel
theorem dX12_next_47 : decode cX12_next 47 = .ok (.aload_n 0, 1) := by decide +kernel
theorem dX12_next_48 : decode cX12_next 48 = .ok (.aload_n 0, 1) := by decide +kernel
theorem dX12_next_49 : decode cX12_next 49 = .ok (.getfield 368, 3) := by decide +kernel
theorem dX12_next_52 : decode cX12_next 52 = .ok (.invokevirtual 371, 3) := by decide +kernel
theorem dX12_next_55 : decode cX12_next 55 = .ok (.istore_n 1, 1) := by decide +kernel
theorem dX12_next_56 : decode cX12_next 56 = .ok (.aload_n 0, 1) := by decide +kernel
theorem dX12_next_57 : decode cX12_next 57 = .ok (.iload_n 1, 1) := by decide +kernel
theorem dX12_next_58 : decode cX12_next 58 = .ok (.putfield 377, 3) := by decide +kernel
theorem dX12_next_61 : decode cX12_next 61 = .ok (.iload_n 1, 1) := by decide +kernel
theorem dX12_next_62 : decode cX12_next 62 = .ok (.iconst (-1), 1) := by decide +kernel
theorem dX12_next_63 : decode cX12_next 63 = .ok (.if_icmp .ne 11, 3) := by decide +kernel
theorem dX12_next_66 : decode cX12_next 66 = .ok (.aload_n 0, 1) := by decide +kernel
theorem dX12_next_67 : decode cX12_next 67 = .ok (.iconst 0, 1) := by decide +kernel
theorem dX12_next_68 : decode cX12_next 68 = .ok (.putfield 380, 3) := by decide +kernel
theorem dX12_next_71 : decode cX12_next 71 = .ok (.goto 233, 3) := by decide +kernel
theorem dX12_next_74 : decode cX12_next 74 = .ok (.iload_n 1, 1) := by decide +kernel
theorem dX12_next_75 : decode cX12_next 75 = .ok (.invokestatic 383, 3) := by decide +kernel
theorem dX12_next_78 : decode cX12_next 78 = .ok (.ifCond .eq 38, 3) := by decide +kernel
theorem dX12_next_81 : decode cX12_next 81 = .ok (.aload_n 0, 1) := by decide +kernel
theorem dX12_next_82 : decode cX12_next 82 = .ok (.aload_n 0, 1) := by decide +kernel
theorem dX12_next_83 : decode cX12_next 83 = .ok (.getfield 368, 3) := by decide +kernel
theorem dX12_next_86 : decode cX12_next 86 = .ok (.invokevirtual 371, 3) := by decide +kernel
theorem dX12_next_89 : decode cX12_next 89 = .ok (.invokestatic 383, 3) := by decide +kernel
theorem dX12_next_92 : decode cX12_next 92 = .ok (.ifCond .eq 16, 3) := by decide +kernel
theorem dX12_next_95 : decode cX12_next 95 = .ok (.aload_n 0, 1) := by decide +kernel
theorem dX12_next_96 : decode cX12_next 96 = .ok (.dup, 1) := by decide +kernel
theorem dX12_next_97 : decode cX12_next 97 = .ok (.getfield 368, 3) := by decide +kernel
theorem dX12_next_100 : decode cX12_next 100 = .ok (.iconst 1, 1) := by decide +kernel
theorem dX12_next_101 : decode cX12_next 101 = .ok (.iadd, 1) := by decide +kernel
theorem dX12_next_102 : decode cX12_next 102 = .ok (.putfield 368, 3) := by decide +kernel
theorem dX12_next_105 : decode cX12_next 105 = .ok (.goto (-24), 3) := by decide +kernel
theorem dX12_next_108 : decode cX12_next 108 = .ok (.aload_n 0, 1) := by decide +kernel
theorem dX12_next_109 : decode cX12_next 109 = .ok (.iconst 2, 1) := by decide +kernel
theorem dX12_next_110 : decode cX12_next 110 = .ok (.putfield 380, 3) := by decide +kernel
theorem dX12_next_113 : decode cX12_next 113 = .ok (.goto 191, 3) := by decide +kernel
theorem dX12_next_116 : decode cX12_next 116 = .ok (.iload_n 1, 1) := by decide +kernel
theorem dX12_next_117 : decode cX12_next 117 = .ok (.invokestatic 386, 3) := by decide +kernel
theorem dX12_next_120 : decode cX12_next 120 = .ok (.ifCond .eq 89, 3) := by decide +kernel
theorem dX12_next_123 : decode cX12_next 123 = .ok (.aload_n 0, 1) := by decide +kernel
theorem dX12_next_124 : decode cX12_next 124 = .ok (.iconst 0, 1) := by decide +kernel
theorem dX12_next_125 : decode cX12_next 125 = .ok (.putfield 377, 3) := by decide +kernel
theorem dX12_next_128 : decode cX12_next 128 = .ok (.aload_n 0, 1) := by decide +kernel
theorem dX12_next_129 : decode cX12_next 129 = .ok (.aload_n 0, 1) := by decide +kernel
theorem dX12_next_130 : decode cX12_next 130 = .ok (.getfield 368, 3) := by decide +kernel
theorem dX12_next_133 : decode cX12_next 133 = .ok (.invokevirtual 371, 3) := by decide +kernel
theorem dX12_next_136 : decode cX12_next 136 = .ok (.invokestatic 386, 3) := by decide +kernel
theorem dX12_next_139 : decode cX12_next 139 = .ok (.ifCond .eq 45, 3) := by decide +kernel
theorem dX12_next_142 : decode cX12_next 142 = .ok (.aload_n 0, 1) := by decide +kernel
theorem dX12_next_143 : decode cX12_next 143 = .ok (.ldc_w 389, 3) := by decide +kernel
theorem dX12_next_146 : decode cX12_next 146 = .ok (.bipush 10, 2) := by decide +kernel
theorem dX12_next_148 : decode cX12_next 148 = .ok (.aload_n 0, 1) := by decide +kernel
theorem dX12_next_149 : decode cX12_next 149 = .ok (.getfield 377, 3) := by decide +kernel
theorem dX12_next_152 : decode cX12_next 152 = .ok (.imul, 1) := by decide +kernel
theorem dX12_next_153 : decode cX12_next 153 = .ok (.aload_n 0, 1) := by decide +kernel
theorem dX12_next_154 : decode cX12_next 154 = .ok (.aload_n 0, 1) := by decide +kernel
theorem dX12_next_155 : decode cX12_next 155 = .ok (.getfield 368, 3) := by decide +kernel
theorem dX12_next_158 : decode cX12_next 158 = .ok (.invokevirtual 371, 3) := by decide +kernel
theorem dX12_next_161 : decode cX12_next 161 = .ok (.iadd, 1) := by decide +kernel
theorem dX12_next_162 : decode cX12_next 162 = .ok (.bipush 48, 2) := by decide +kernel
theorem dX12_next_164 : decode cX12_next 164 = .ok (.isub, 1) := by decide +kernel
theorem dX12_next_165 : decode cX12_next 165 = .ok (.invokestatic 390, 3) := by decide +kernel
theorem dX12_next_168 : decode cX12_next 168 = .ok (.putfield 377, 3) := by decide +kernel
theorem dX12_next_171 : decode cX12_next 171 = .ok (.aload_n 0, 1) := by decide +kernel
theorem dX12_next_172 : decode cX12_next 172 = .ok (.dup, 1) := by decide +kernel
theorem dX12_next_173 : decode cX12_next 173 = .ok (.getfield 368, 3) := by decide +kernel
theorem dX12_next_176 : decode cX12_next 176 = .ok (.iconst 1, 1) := by decide +kernel
theorem dX12_next_177 : decode cX12_next 177 = .ok (.iadd, 1) := by decide +kernel
theorem dX12_next_178 : decode cX12_next 178 = .ok (.putfield 368, 3) := by decide +kernel
theorem dX12_next_181 : decode cX12_next 181 = .ok (.goto (-53), 3) := by decide +kernel
theorem dX12_next_184 : decode cX12_next 184 = .ok (.aload_n 0, 1) := by decide +kernel
theorem dX12_next_185 : decode cX12_next 185 = .ok (.aload_n 0, 1) := by decide +kernel
theorem dX12_next_186 : decode cX12_next 186 = .ok (.getfield 368, 3) := by decide +kernel
theorem dX12_next_189 : decode cX12_next 189 = .ok (.aload_n 0, 1) := by decide +kernel
theorem dX12_next_190 : decode cX12_next 190 = .ok (.getfield 374, 3) := by decide +kernel
theorem dX12_next_193 : decode cX12_next 193 = .ok (.isub, 1) := by decide +kernel
theorem dX12_next_194 : decode cX12_next 194 = .ok (.iconst 4, 1) := by decide +kernel
theorem dX12_next_195 : decode cX12_next 195 = .ok (.if_icmp .le 7, 3) := by decide +kernel
theorem dX12_next_198 : decode cX12_next 198 = .ok (.iconst 1, 1) := by decide +kernel
theorem dX12_next_199 : decode cX12_next 199 = .ok (.goto 4, 3) := by decide +kernel
theorem dX12_next_202 : decode cX12_next 202 = .ok (.iconst 3, 1) := by decide +kernel
theorem dX12_next_203 : decode cX12_next 203 = .ok (.putfield 380, 3) := by decide +kernel
theorem dX12_next_206 : decode cX12_next 206 = .ok (.goto 98, 3) := by decide +kernel
theorem dX12_next_209 : decode cX12_next 209 = .ok (.aload_n 0, 1) := by decide +kernel
theorem dX12_next_210 : decode cX12_next 210 = .ok (.dup, 1) := by decide +kernel
theorem dX12_next_211 : decode cX12_next 211 = .ok (.getfield 368, 3) := by decide +kernel
theorem dX12_next_214 : decode cX12_next 214 = .ok (.iconst 1, 1) := by decide +kernel
theorem dX12_next_215 : decode cX12_next 215 = .ok (.iadd, 1) := by decide +kernel
theorem dX12_next_216 : decode cX12_next 216 = .ok (.putfield 368, 3) := by decide +kernel
theorem dX12_next_219 : decode cX12_next 219 = .ok (.iload_n 1, 1) := by decide +kernel
theorem dX12_next_220 : decode cX12_next 220 = .ok (.bipush 59, 2) := by decide +kernel
theorem dX12_next_222 : decode cX12_next 222 = .ok (.if_icmp .eq 63, 3) := by decide +kernel
theorem dX12_next_225 : decode cX12_next 225 = .ok (.iload_n 1, 1) := by decide +kernel
theorem dX12_next_226 : decode cX12_next 226 = .ok (.bipush 58, 2) := by decide +kernel
theorem dX12_next_228 : decode cX12_next 228 = .ok (.if_icmp .eq 57, 3) := by decide +kernel
theorem dX12_next_231 : decode cX12_next 231 = .ok (.iload_n 1, 1) := by decide +kernel
theorem dX12_next_232 : decode cX12_next 232 = .ok (.bipush 60, 2) := by decide +kernel
theorem dX12_next_234 : decode cX12_next 234 = .ok (.if_icmp .eq 51, 3) := by decide +kernel
theorem dX12_next_237 : decode cX12_next 237 = .ok (.iload_n 1, 1) := by decide +kernel
theorem dX12_next_238 : decode cX12_next 238 = .ok (.bipush 62, 2) := by decide +kernel
theorem dX12_next_240 : decode cX12_next 240 = .ok (.if_icmp .eq 45, 3) := by decide +kernel
theorem dX12_next_243 : decode cX12_next 243 = .ok (.iload_n 1, 1) := by decide +kernel
theorem dX12_next_244 : decode cX12_next 244 = .ok (.bipush 61, 2) := by decide +kernel
theorem dX12_next_246 : decode cX12_next 246 = .ok (.if_icmp .eq 39, 3) := by decide +kernel
theorem dX12_next_249 : decode cX12_next 249 = .ok (.iload_n 1, 1) := by decide +kernel
theorem dX12_next_250 : decode cX12_next 250 = .ok (.bipush 43, 2) := by decide +kernel
theorem dX12_next_252 : decode cX12_next 252 = .ok (.if_icmp .eq 33, 3) := by decide +kernel
theorem dX12_next_255 : decode cX12_next 255 = .ok (.iload_n 1, 1) := by decide +kernel
theorem dX12_next_256 : decode cX12_next 256 = .ok (.bipush 45, 2) := by decide +kernel
theorem dX12_next_258 : decode cX12_next 258 = .ok (.if_icmp .eq 27, 3) := by decide +kernel
theorem dX12_next_261 : decode cX12_next 261 = .ok (.iload_n 1, 1) := by decide +kernel
theorem dX12_next_262 : decode cX12_next 262 = .ok (.bipush 42, 2) := by decide +kernel
theorem dX12_next_264 : decode cX12_next 264 = .ok (.if_icmp .eq 21, 3) := by decide +kernel
theorem dX12_next_267 : decode cX12_next 267 = .ok (.iload_n 1, 1) := by decide +kernel
theorem dX12_next_268 : decode cX12_next 268 = .ok (.bipush 47, 2) := by decide +kernel
theorem dX12_next_270 : decode cX12_next 270 = .ok (.if_icmp .eq 15, 3) := by decide +kernel
theorem dX12_next_273 : decode cX12_next 273 = .ok (.iload_n 1, 1) := by decide +kernel
theorem dX12_next_274 : decode cX12_next 274 = .ok (.bipush 40, 2) := by decide +kernel
theorem dX12_next_276 : decode cX12_next 276 = .ok (.if_icmp .eq 9, 3) := by decide +kernel
theorem dX12_next_279 : decode cX12_next 279 = .ok (.iload_n 1, 1) := by decide +kernel
theorem dX12_next_280 : decode cX12_next 280 = .ok (.bipush 41, 2) := by decide +kernel
theorem dX12_next_282 : decode cX12_next 282 = .ok (.if_icmp .ne 7, 3) := by decide +kernel
theorem dX12_next_285 : decode cX12_next 285 = .ok (.iconst 1, 1) := by decide +kernel
theorem dX12_next_286 : decode cX12_next 286 = .ok (.goto 4, 3) := by decide +kernel
theorem dX12_next_289 : decode cX12_next 289 = .ok (.iconst 0, 1) := by decide +kernel
theorem dX12_next_290 : decode cX12_next 290 = .ok (.istore_n 2, 1) := by decide +kernel
theorem dX12_next_291 : decode cX12_next 291 = .ok (.aload_n 0, 1) := by decide +kernel
theorem dX12_next_292 : decode cX12_next 292 = .ok (.iload_n 2, 1) := by decide +kernel
theorem dX12_next_293 : decode cX12_next 293 = .ok (.ifCond .eq 7, 3) := by decide +kernel
theorem dX12_next_296 : decode cX12_next 296 = .ok (.iconst 4, 1) := by decide +kernel
theorem dX12_next_297 : decode cX12_next 297 = .ok (.goto 4, 3) := by decide +kernel
theorem dX12_next_300 : decode cX12_next 300 = .ok (.iconst 1, 1) := by decide +kernel
theorem dX12_next_301 : decode cX12_next 301 = .ok (.putfield 380, 3) := by decide +kernel
theorem dX12_next_304 : decode cX12_next 304 = .ok (.return_, 1) := by decide +kernel
noncomputable def X12_next_j26 (w : Wd) : Option (Wd ⊕ Wd) :=
(some (puI w 97 37 ((w.1 97 37) + (1 : Int32)))).bind fun w6 =>
some (.inl w6)
set_option maxRecDepth 20000 in
set_option maxHeartbeats 1000000 in
theorem t_X12_next_j26 {κ : Kx} (w : Wd) {G : Wd → Prop} {P : Wd → Prop} (KG : ∀ s, G s → J κ RX12 cX12_next 3 none (rmk 1 23) 0 [(0, .ref (ad (gm κ) 97))] [] s) (K0 : ∀ e, P e → J κ RX12 cX12_next 3 none (rmk 1 23) 39 [(0, .ref (ad (gm κ) 97))] [] e) (h : ok (X12_next_j26  w) (sel G P)) : J κ RX12 cX12_next 3 none (rmk 1 23) 26 [(0, .ref (ad (gm κ) 97))] [] w := by
  unfold X12_next_j26 at h
  refine j_aload_n 0 dX12_next_26 rfl rfl ?_
  refine j_dup dX12_next_27 rfl ?_
  refine j_getI fl_RX12_368 sh_97 fk_97_37 dX12_next_28 ?_
  refine j_iconst (1 : Int32) dX12_next_31 ki_1 ?_
  refine j_iadd dX12_next_32 ?_
  refine j_putI fp_RX12_368 sh_97 fk_97_37 dX12_next_33 ?_
  refine j_lW h (fun w6 h => ?_)
  refine j_goto 0 dX12_next_36 (by decide) ?_
  refine j_loc [(0, .ref (ad (gm κ) 97))] [0] rfl ?_
  have h := sel_l h
  have h := KG _ h
  exact h
noncomputable def X12_next_b0 (s : Wd) : Option (Wd ⊕ Wd) :=
(X12_at (s.1 97 37) s).bind fun q4 =>
(if q4 = (32 : Int32) then
X12_next_j26 s
else
(X12_at (s.1 97 37) s).bind fun q7 =>
(if q7 = (10 : Int32) then
X12_next_j26 s
else
some (.inr s)))
set_option maxRecDepth 20000 in
set_option maxHeartbeats 1000000 in
theorem t_X12_next_b0 {κ : Kx} {P : Wd → Prop} (K0 : ∀ e, P e → J κ RX12 cX12_next 3 none (rmk 1 23) 39 [(0, .ref (ad (gm κ) 97))] [] e) (s : Wd) (h : ok (lp (X12_next_b0  ) s) P) : J κ RX12 cX12_next 3 none (rmk 1 23) 0 [(0, .ref (ad (gm κ) 97))] [] s := by
  refine lp_ind (fun s => J κ RX12 cX12_next 3 none (rmk 1 23) 0 [(0, .ref (ad (gm κ) 97))] [] s) (fun s h => ?_) s h
  unfold X12_next_b0 at h
  refine j_aload_n 0 dX12_next_0 rfl rfl ?_
  refine j_aload_n 0 dX12_next_1 rfl rfl ?_
  refine j_getI fl_RX12_368 sh_97 fk_97_37 dX12_next_2 ?_
  obtain ⟨q4, e5, h⟩ := ok_b h
  refine j_callV (As := [.int (s.1 97 37)]) (st := []) [.int q4] (c_X12_at (kl κ) (gm κ) (kA κ) (s.1 97 37) s q4 e5) ck_RX12_371 im_X12_at se_X12_at sh_97 cx_12 ⟨rfl, rfl⟩ ⟨by decide, by decide⟩ rfl rfl (Nat.le_of_ble_eq_true rfl) dX12_next_5 _ rfl ?_
  refine j_bipush (32 : Int32) dX12_next_8 kb_32 ?_
  refine j_ic_eq 26 dX12_next_10 (by decide) h (fun h => ?_) (fun h => ?_)
  · refine j_loc [(0, .ref (ad (gm κ) 97))] [0] rfl ?_
    exact t_X12_next_j26 s (fun _ h => h) K0 h
  · refine j_aload_n 0 dX12_next_13 rfl rfl ?_
    refine j_aload_n 0 dX12_next_14 rfl rfl ?_
    refine j_getI fl_RX12_368 sh_97 fk_97_37 dX12_next_15 ?_
    obtain ⟨q7, e8, h⟩ := ok_b h
    refine j_callV (As := [.int (s.1 97 37)]) (st := []) [.int q7] (c_X12_at (kl κ) (gm κ) (kA κ) (s.1 97 37) s q7 e8) ck_RX12_371 im_X12_at se_X12_at sh_97 cx_12 ⟨rfl, rfl⟩ ⟨by decide, by decide⟩ rfl rfl (Nat.le_of_ble_eq_true rfl) dX12_next_18 _ rfl ?_
    refine j_bipush (10 : Int32) dX12_next_21 kb_10 ?_
    refine j_ic_ne 39 dX12_next_23 (by decide) h (fun h => ?_) (fun h => ?_)
    · refine j_loc [(0, .ref (ad (gm κ) 97))] [0] rfl ?_
      have h := sel_r h
      have h := K0 _ h
      exact h
    · refine j_loc [(0, .ref (ad (gm κ) 97))] [0] rfl ?_
      exact t_X12_next_j26 s (fun _ h => h) K0 h
noncomputable def X12_next_j301 (s0 : Int32) (w : Wd) : Option (Wd) :=
(some (puI w 97 35 s0)).bind fun w15 =>
some w15
set_option maxRecDepth 20000 in
set_option maxHeartbeats 1000000 in
theorem t_X12_next_j301 {κ : Kx} (s0 : Int32) (w : Wd) (h : ok (X12_next_j301  s0 w) (PVw κ)) : J κ RX12 cX12_next 3 none (rmk 1 23) 301 [] [.int s0, .ref (ad (gm κ) 97)] w := by
  unfold X12_next_j301 at h
  refine j_putI fp_RX12_380 sh_97 fk_97_35 dX12_next_301 ?_
  refine j_lW h (fun w15 h => ?_)
  have h := ok_s h
  exact j_vret dX12_next_304 rfl h
noncomputable def X12_next_j290 (s0 : Int32) (w : Wd) : Option (Wd) :=
(if s0 = 0 then
X12_next_j301 (1 : Int32) w
else
X12_next_j301 (4 : Int32) w)
set_option maxRecDepth 20000 in
set_option maxHeartbeats 1000000 in
theorem t_X12_next_j290 {κ : Kx} (s0 : Int32) (w : Wd) (h : ok (X12_next_j290  s0 w) (PVw κ)) : J κ RX12 cX12_next 3 none (rmk 1 23) 290 [(0, .ref (ad (gm κ) 97))] [.int s0] w := by
  unfold X12_next_j290 at h
  refine j_istore_n [(2, .int s0), (0, .ref (ad (gm κ) 97))] dX12_next_290 rfl (by decide) rfl ?_
  refine j_aload_n 1 dX12_next_291 rfl rfl ?_
  refine j_iload_n 0 dX12_next_292 rfl rfl ?_
  refine j_if_eq 300 dX12_next_293 (by decide) h (fun h => ?_) (fun h => ?_)
  · refine j_iconst (1 : Int32) dX12_next_300 ki_1 ?_
    refine j_loc [] [] rfl ?_
    exact t_X12_next_j301 (1 : Int32) w h
  · refine j_iconst (4 : Int32) dX12_next_296 ki_4 ?_
    refine j_goto 301 dX12_next_297 (by decide) ?_
    refine j_loc [] [] rfl ?_
    exact t_X12_next_j301 (4 : Int32) w h
noncomputable def X12_next_j285 (w : Wd) : Option (Wd) :=
X12_next_j290 (1 : Int32) w
set_option maxRecDepth 20000 in
set_option maxHeartbeats 1000000 in
theorem t_X12_next_j285 {κ : Kx} (w : Wd) (h : ok (X12_next_j285  w) (PVw κ)) : J κ RX12 cX12_next 3 none (rmk 1 23) 285 [(0, .ref (ad (gm κ) 97))] [] w := by
  unfold X12_next_j285 at h
  refine j_iconst (1 : Int32) dX12_next_285 ki_1 ?_
  refine j_goto 290 dX12_next_286 (by decide) ?_
  refine j_loc [(0, .ref (ad (gm κ) 97))] [0] rfl ?_
  exact t_X12_next_j290 (1 : Int32) w h
noncomputable def X12_next_b128 (s : Wd) : Option (Wd ⊕ Wd) :=
(X12_at (s.1 97 37) s).bind fun q17 =>
(if (X12_isDigit q17 s) = 0 then
some (.inr s)
else
(X12_at (s.1 97 37) s).bind fun q19 =>
(some (puI s 97 38 (mnI (1000000 : Int32) ((((10 : Int32) * (s.1 97 38)) + q19) - (48 : Int32))))).bind fun w21 =>
(some (puI w21 97 37 ((w21.1 97 37) + (1 : Int32)))).bind fun w22 =>
some (.inl w22))
set_option maxRecDepth 20000 in
set_option maxHeartbeats 1000000 in
theorem t_X12_next_b128 {κ : Kx} {P : Wd → Prop} (K0 : ∀ e, P e → J κ RX12 cX12_next 3 none (rmk 1 23) 184 [(0, .ref (ad (gm κ) 97))] [] e) (s : Wd) (h : ok (lp (X12_next_b128  ) s) P) : J κ RX12 cX12_next 3 none (rmk 1 23) 128 [(0, .ref (ad (gm κ) 97))] [] s := by
  refine lp_ind (fun s => J κ RX12 cX12_next 3 none (rmk 1 23) 128 [(0, .ref (ad (gm κ) 97))] [] s) (fun s h => ?_) s h
  unfold X12_next_b128 at h
  refine j_aload_n 0 dX12_next_128 rfl rfl ?_
  refine j_aload_n 0 dX12_next_129 rfl rfl ?_
  refine j_getI fl_RX12_368 sh_97 fk_97_37 dX12_next_130 ?_
  obtain ⟨q17, e18, h⟩ := ok_b h
  refine j_callV (As := [.int (s.1 97 37)]) (st := []) [.int q17] (c_X12_at (kl κ) (gm κ) (kA κ) (s.1 97 37) s q17 e18) ck_RX12_371 im_X12_at se_X12_at sh_97 cx_12 ⟨rfl, rfl⟩ ⟨by decide, by decide⟩ rfl rfl (Nat.le_of_ble_eq_true rfl) dX12_next_133 _ rfl ?_
  refine j_callS (As := [.int q17]) (st := []) [.int (X12_isDigit q17 s)] (c_X12_isDigit (kl κ) (gm κ) (kA κ) q17 s) ck_RX12_386 st_X12_isDigit ⟨rfl, rfl⟩ ⟨by decide, by decide⟩ rfl rfl (Nat.le_of_ble_eq_true rfl) dX12_next_136 _ rfl ?_
  refine j_if_eq 184 dX12_next_139 (by decide) h (fun h => ?_) (fun h => ?_)
  · refine j_loc [(0, .ref (ad (gm κ) 97))] [0] rfl ?_
    have h := sel_r h
    have h := K0 _ h
    exact h
  · refine j_aload_n 0 dX12_next_142 rfl rfl ?_
    refine j_ldcw cw_RX12_389 dX12_next_143 ?_
    refine j_bipush (10 : Int32) dX12_next_146 kb_10 ?_
    refine j_aload_n 0 dX12_next_148 rfl rfl ?_
    refine j_getI fl_RX12_377 sh_97 fk_97_38 dX12_next_149 ?_
    refine j_imul dX12_next_152 ?_
    refine j_aload_n 0 dX12_next_153 rfl rfl ?_
    refine j_aload_n 0 dX12_next_154 rfl rfl ?_
    refine j_getI fl_RX12_368 sh_97 fk_97_37 dX12_next_155 ?_
    obtain ⟨q19, e20, h⟩ := ok_b h
    refine j_callV (As := [.int (s.1 97 37)]) (st := [.int ((10 : Int32) * (s.1 97 38)), .int (1000000 : Int32), .ref (ad (gm κ) 97)]) [.int q19, .int ((10 : Int32) * (s.1 97 38)), .int (1000000 : Int32), .ref (ad (gm κ) 97)] (c_X12_at (kl κ) (gm κ) (kA κ) (s.1 97 37) s q19 e20) ck_RX12_371 im_X12_at se_X12_at sh_97 cx_12 ⟨rfl, rfl⟩ ⟨by decide, by decide⟩ rfl rfl (Nat.le_of_ble_eq_true rfl) dX12_next_158 _ rfl ?_
    refine j_iadd dX12_next_161 ?_
    refine j_bipush (48 : Int32) dX12_next_162 kb_48 ?_
    refine j_isub dX12_next_164 ?_
    refine j_mnI mt_RX12_390 (by decide) (Nat.le_of_ble_eq_true rfl) dX12_next_165 ?_
    refine j_putI fp_RX12_377 sh_97 fk_97_38 dX12_next_168 ?_
    refine j_lW h (fun w21 h => ?_)
    refine j_aload_n 0 dX12_next_171 rfl rfl ?_
    refine j_dup dX12_next_172 rfl ?_
    refine j_getI fl_RX12_368 sh_97 fk_97_37 dX12_next_173 ?_
    refine j_iconst (1 : Int32) dX12_next_176 ki_1 ?_
    refine j_iadd dX12_next_177 ?_
    refine j_putI fp_RX12_368 sh_97 fk_97_37 dX12_next_178 ?_
    refine j_lW h (fun w22 h => ?_)
    refine j_goto 128 dX12_next_181 (by decide) ?_
    refine j_loc [(0, .ref (ad (gm κ) 97))] [0] rfl ?_
    have h := sel_l h
    exact h
noncomputable def X12_next_j203 (s0 : Int32) (w : Wd) : Option (Wd) :=
(some (puI w 97 35 s0)).bind fun w24 =>
some w24
set_option maxRecDepth 20000 in
set_option maxHeartbeats 1000000 in
theorem t_X12_next_j203 {κ : Kx} (s0 : Int32) (w : Wd) (h : ok (X12_next_j203  s0 w) (PVw κ)) : J κ RX12 cX12_next 3 none (rmk 1 23) 203 [] [.int s0, .ref (ad (gm κ) 97)] w := by
  unfold X12_next_j203 at h
  refine j_putI fp_RX12_380 sh_97 fk_97_35 dX12_next_203 ?_
  refine j_lW h (fun w24 h => ?_)
  refine j_goto 304 dX12_next_206 (by decide) ?_
  have h := ok_s h
  exact j_vret dX12_next_304 rfl h
noncomputable def X12_next_b81 (s : Wd) : Option (Wd ⊕ Wd) :=
(X12_at (s.1 97 37) s).bind fun q25 =>
(if (X12_isSmall q25 s) = 0 then
some (.inr s)
else
(some (puI s 97 37 ((s.1 97 37) + (1 : Int32)))).bind fun w27 =>
some (.inl w27))
set_option maxRecDepth 20000 in
set_option maxHeartbeats 1000000 in
theorem t_X12_next_b81 {κ : Kx} {P : Wd → Prop} (K0 : ∀ e, P e → J κ RX12 cX12_next 3 none (rmk 1 23) 108 [(0, .ref (ad (gm κ) 97))] [] e) (s : Wd) (h : ok (lp (X12_next_b81  ) s) P) : J κ RX12 cX12_next 3 none (rmk 1 23) 81 [(0, .ref (ad (gm κ) 97))] [] s := by
  refine lp_ind (fun s => J κ RX12 cX12_next 3 none (rmk 1 23) 81 [(0, .ref (ad (gm κ) 97))] [] s) (fun s h => ?_) s h
  unfold X12_next_b81 at h
  refine j_aload_n 0 dX12_next_81 rfl rfl ?_
  refine j_aload_n 0 dX12_next_82 rfl rfl ?_
  refine j_getI fl_RX12_368 sh_97 fk_97_37 dX12_next_83 ?_
  obtain ⟨q25, e26, h⟩ := ok_b h
  refine j_callV (As := [.int (s.1 97 37)]) (st := []) [.int q25] (c_X12_at (kl κ) (gm κ) (kA κ) (s.1 97 37) s q25 e26) ck_RX12_371 im_X12_at se_X12_at sh_97 cx_12 ⟨rfl, rfl⟩ ⟨by decide, by decide⟩ rfl rfl (Nat.le_of_ble_eq_true rfl) dX12_next_86 _ rfl ?_
  refine j_callS (As := [.int q25]) (st := []) [.int (X12_isSmall q25 s)] (c_X12_isSmall (kl κ) (gm κ) (kA κ) q25 s) ck_RX12_383 st_X12_isSmall ⟨rfl, rfl⟩ ⟨by decide, by decide⟩ rfl rfl (Nat.le_of_ble_eq_true rfl) dX12_next_89 _ rfl ?_
  refine j_if_eq 108 dX12_next_92 (by decide) h (fun h => ?_) (fun h => ?_)
  · refine j_loc [(0, .ref (ad (gm κ) 97))] [0] rfl ?_
    have h := sel_r h
    have h := K0 _ h
    exact h
  · refine j_aload_n 0 dX12_next_95 rfl rfl ?_
    refine j_dup dX12_next_96 rfl ?_
    refine j_getI fl_RX12_368 sh_97 fk_97_37 dX12_next_97 ?_
    refine j_iconst (1 : Int32) dX12_next_100 ki_1 ?_
    refine j_iadd dX12_next_101 ?_
    refine j_putI fp_RX12_368 sh_97 fk_97_37 dX12_next_102 ?_
    refine j_lW h (fun w27 h => ?_)
    refine j_goto 81 dX12_next_105 (by decide) ?_
    refine j_loc [(0, .ref (ad (gm κ) 97))] [0] rfl ?_
    have h := sel_l h
    exact h
noncomputable def X12_next (w : Wd) : Option (Wd) :=
(X12_at (w.1 97 37) w).bind fun q1 =>
(if q1 = (32 : Int32) then
(some (puI w 97 37 ((w.1 97 37) + (1 : Int32)))).bind fun w3 =>
(lp (X12_next_b0 ) w3).bind fun e9 =>
(some (puI e9 97 36 (e9.1 97 37))).bind fun w10 =>
(X12_at (w10.1 97 37) w10).bind fun q11 =>
(some (puI w10 97 38 q11)).bind fun w13 =>
(if q11 = (-1 : Int32) then
(some (puI w13 97 35 (0 : Int32))).bind fun w30 =>
some w30
else
(if (X12_isSmall q11 w13) = 0 then
(if (X12_isDigit q11 w13) = 0 then
(some (puI w13 97 37 ((w13.1 97 37) + (1 : Int32)))).bind fun w14 =>
(if q11 = (59 : Int32) then
X12_next_j285 w14
else
(if q11 = (58 : Int32) then
X12_next_j285 w14
else
(if q11 = (60 : Int32) then
X12_next_j285 w14
else
(if q11 = (62 : Int32) then
X12_next_j285 w14
else
(if q11 = (61 : Int32) then
X12_next_j285 w14
else
(if q11 = (43 : Int32) then
X12_next_j285 w14
else
(if q11 = (45 : Int32) then
X12_next_j285 w14
else
(if q11 = (42 : Int32) then
X12_next_j285 w14
else
(if q11 = (47 : Int32) then
X12_next_j285 w14
else
(if q11 = (40 : Int32) then
X12_next_j285 w14
else
(if q11 = (41 : Int32) then
X12_next_j285 w14
else
X12_next_j290 (0 : Int32) w14)))))))))))
else
(some (puI w13 97 38 (0 : Int32))).bind fun w16 =>
(lp (X12_next_b128 ) w16).bind fun e23 =>
(if ((e23.1 97 37) - (e23.1 97 36)) ≤ (4 : Int32) then
X12_next_j203 (3 : Int32) e23
else
X12_next_j203 (1 : Int32) e23))
else
(lp (X12_next_b81 ) w13).bind fun e28 =>
(some (puI e28 97 35 (2 : Int32))).bind fun w29 =>
some w29))
else
(X12_at (w.1 97 37) w).bind fun q31 =>
(if q31 = (10 : Int32) then
(some (puI w 97 37 ((w.1 97 37) + (1 : Int32)))).bind fun w43 =>
(lp (X12_next_b0 ) w43).bind fun e44 =>
(some (puI e44 97 36 (e44.1 97 37))).bind fun w45 =>
(X12_at (w45.1 97 37) w45).bind fun q46 =>
(some (puI w45 97 38 q46)).bind fun w48 =>
(if q46 = (-1 : Int32) then
(some (puI w48 97 35 (0 : Int32))).bind fun w54 =>
some w54
else
(if (X12_isSmall q46 w48) = 0 then
(if (X12_isDigit q46 w48) = 0 then
(some (puI w48 97 37 ((w48.1 97 37) + (1 : Int32)))).bind fun w49 =>
(if q46 = (59 : Int32) then
X12_next_j285 w49
else
(if q46 = (58 : Int32) then
X12_next_j285 w49
else
(if q46 = (60 : Int32) then
X12_next_j285 w49
else
(if q46 = (62 : Int32) then
X12_next_j285 w49
else
(if q46 = (61 : Int32) then
X12_next_j285 w49
else
(if q46 = (43 : Int32) then
X12_next_j285 w49
else
(if q46 = (45 : Int32) then
X12_next_j285 w49
else
(if q46 = (42 : Int32) then
X12_next_j285 w49
else
(if q46 = (47 : Int32) then
X12_next_j285 w49
else
(if q46 = (40 : Int32) then
X12_next_j285 w49
else
(if q46 = (41 : Int32) then
X12_next_j285 w49
else
X12_next_j290 (0 : Int32) w49)))))))))))
else
(some (puI w48 97 38 (0 : Int32))).bind fun w50 =>
(lp (X12_next_b128 ) w50).bind fun e51 =>
(if ((e51.1 97 37) - (e51.1 97 36)) ≤ (4 : Int32) then
X12_next_j203 (3 : Int32) e51
else
X12_next_j203 (1 : Int32) e51))
else
(lp (X12_next_b81 ) w48).bind fun e52 =>
(some (puI e52 97 35 (2 : Int32))).bind fun w53 =>
some w53))
else
(some (puI w 97 36 (w.1 97 37))).bind fun w33 =>
(X12_at (w33.1 97 37) w33).bind fun q34 =>
(some (puI w33 97 38 q34)).bind fun w36 =>
(if q34 = (-1 : Int32) then
(some (puI w36 97 35 (0 : Int32))).bind fun w42 =>
some w42
else
(if (X12_isSmall q34 w36) = 0 then
(if (X12_isDigit q34 w36) = 0 then
(some (puI w36 97 37 ((w36.1 97 37) + (1 : Int32)))).bind fun w37 =>
(if q34 = (59 : Int32) then
X12_next_j285 w37
else
(if q34 = (58 : Int32) then
X12_next_j285 w37
else
(if q34 = (60 : Int32) then
X12_next_j285 w37
else
(if q34 = (62 : Int32) then
X12_next_j285 w37
else
(if q34 = (61 : Int32) then
X12_next_j285 w37
else
(if q34 = (43 : Int32) then
X12_next_j285 w37
else
(if q34 = (45 : Int32) then
X12_next_j285 w37
else
(if q34 = (42 : Int32) then
X12_next_j285 w37
else
(if q34 = (47 : Int32) then
X12_next_j285 w37
else
(if q34 = (40 : Int32) then
X12_next_j285 w37
else
(if q34 = (41 : Int32) then
X12_next_j285 w37
else
X12_next_j290 (0 : Int32) w37)))))))))))
else
(some (puI w36 97 38 (0 : Int32))).bind fun w38 =>
(lp (X12_next_b128 ) w38).bind fun e39 =>
(if ((e39.1 97 37) - (e39.1 97 36)) ≤ (4 : Int32) then
X12_next_j203 (3 : Int32) e39
else
X12_next_j203 (1 : Int32) e39))
else
(lp (X12_next_b81 ) w36).bind fun e40 =>
(some (puI e40 97 35 (2 : Int32))).bind fun w41 =>
some w41))))
set_option maxRecDepth 20000 in
set_option maxHeartbeats 1000000 in
theorem t_X12_next {κ : Kx} (w : Wd) (h : ok (X12_next   w) (PVw κ)) : J κ RX12 cX12_next 3 none (rmk 1 23) 0 [(0, .ref (ad (gm κ) 97))] [] w := by
  unfold X12_next at h
  refine j_aload_n 0 dX12_next_0 rfl rfl ?_
  refine j_aload_n 0 dX12_next_1 rfl rfl ?_
  refine j_getI fl_RX12_368 sh_97 fk_97_37 dX12_next_2 ?_
  obtain ⟨q1, e2, h⟩ := ok_b h
  refine j_callV (As := [.int (w.1 97 37)]) (st := []) [.int q1] (c_X12_at (kl κ) (gm κ) (kA κ) (w.1 97 37) w q1 e2) ck_RX12_371 im_X12_at se_X12_at sh_97 cx_12 ⟨rfl, rfl⟩ ⟨by decide, by decide⟩ rfl rfl (Nat.le_of_ble_eq_true rfl) dX12_next_5 _ rfl ?_
  refine j_bipush (32 : Int32) dX12_next_8 kb_32 ?_
  refine j_ic_eq 26 dX12_next_10 (by decide) h (fun h => ?_) (fun h => ?_)
  · refine j_aload_n 0 dX12_next_26 rfl rfl ?_
    refine j_dup dX12_next_27 rfl ?_
    refine j_getI fl_RX12_368 sh_97 fk_97_37 dX12_next_28 ?_
    refine j_iconst (1 : Int32) dX12_next_31 ki_1 ?_
    refine j_iadd dX12_next_32 ?_
    refine j_putI fp_RX12_368 sh_97 fk_97_37 dX12_next_33 ?_
    refine j_lW h (fun w3 h => ?_)
    refine j_goto 0 dX12_next_36 (by decide) ?_
    refine j_loc [(0, .ref (ad (gm κ) 97))] [0] rfl ?_
    refine t_X12_next_b0  (fun e9 h => ?_) w3 (ok_bb h)
    · refine j_aload_n 0 dX12_next_39 rfl rfl ?_
      refine j_aload_n 0 dX12_next_40 rfl rfl ?_
      refine j_getI fl_RX12_368 sh_97 fk_97_37 dX12_next_41 ?_
      refine j_putI fp_RX12_374 sh_97 fk_97_36 dX12_next_44 ?_
      refine j_lW h (fun w10 h => ?_)
      refine j_aload_n 0 dX12_next_47 rfl rfl ?_
      refine j_aload_n 0 dX12_next_48 rfl rfl ?_
      refine j_getI fl_RX12_368 sh_97 fk_97_37 dX12_next_49 ?_
      obtain ⟨q11, e12, h⟩ := ok_b h
      refine j_callV (As := [.int (w10.1 97 37)]) (st := []) [.int q11] (c_X12_at (kl κ) (gm κ) (kA κ) (w10.1 97 37) w10 q11 e12) ck_RX12_371 im_X12_at se_X12_at sh_97 cx_12 ⟨rfl, rfl⟩ ⟨by decide, by decide⟩ rfl rfl (Nat.le_of_ble_eq_true rfl) dX12_next_52 _ rfl ?_
      refine j_istore_n [(1, .int q11), (0, .ref (ad (gm κ) 97))] dX12_next_55 rfl (by decide) rfl ?_
      refine j_aload_n 1 dX12_next_56 rfl rfl ?_
      refine j_iload_n 0 dX12_next_57 rfl rfl ?_
      refine j_putI fp_RX12_377 sh_97 fk_97_38 dX12_next_58 ?_
      refine j_lW h (fun w13 h => ?_)
      refine j_iload_n 0 dX12_next_61 rfl rfl ?_
      refine j_iconst (-1 : Int32) dX12_next_62 ki_m1 ?_
      refine j_ic_ne 74 dX12_next_63 (by decide) h (fun h => ?_) (fun h => ?_)
      · refine j_iload_n 0 dX12_next_74 rfl rfl ?_
        refine j_callS (As := [.int q11]) (st := []) [.int (X12_isSmall q11 w13)] (c_X12_isSmall (kl κ) (gm κ) (kA κ) q11 w13) ck_RX12_383 st_X12_isSmall ⟨rfl, rfl⟩ ⟨by decide, by decide⟩ rfl rfl (Nat.le_of_ble_eq_true rfl) dX12_next_75 _ rfl ?_
        refine j_if_eq 116 dX12_next_78 (by decide) h (fun h => ?_) (fun h => ?_)
        · refine j_iload_n 0 dX12_next_116 rfl rfl ?_
          refine j_callS (As := [.int q11]) (st := []) [.int (X12_isDigit q11 w13)] (c_X12_isDigit (kl κ) (gm κ) (kA κ) q11 w13) ck_RX12_386 st_X12_isDigit ⟨rfl, rfl⟩ ⟨by decide, by decide⟩ rfl rfl (Nat.le_of_ble_eq_true rfl) dX12_next_117 _ rfl ?_
          refine j_if_eq 209 dX12_next_120 (by decide) h (fun h => ?_) (fun h => ?_)
          · refine j_aload_n 1 dX12_next_209 rfl rfl ?_
            refine j_dup dX12_next_210 rfl ?_
            refine j_getI fl_RX12_368 sh_97 fk_97_37 dX12_next_211 ?_
            refine j_iconst (1 : Int32) dX12_next_214 ki_1 ?_
            refine j_iadd dX12_next_215 ?_
            refine j_putI fp_RX12_368 sh_97 fk_97_37 dX12_next_216 ?_
            refine j_lW h (fun w14 h => ?_)
            refine j_iload_n 0 dX12_next_219 rfl rfl ?_
            refine j_bipush (59 : Int32) dX12_next_220 kb_59 ?_
            refine j_ic_eq 285 dX12_next_222 (by decide) h (fun h => ?_) (fun h => ?_)
            · refine j_loc [(0, .ref (ad (gm κ) 97))] [1] rfl ?_
              exact t_X12_next_j285 w14 h
            · refine j_iload_n 0 dX12_next_225 rfl rfl ?_
              refine j_bipush (58 : Int32) dX12_next_226 kb_58 ?_
              refine j_ic_eq 285 dX12_next_228 (by decide) h (fun h => ?_) (fun h => ?_)
              · refine j_loc [(0, .ref (ad (gm κ) 97))] [1] rfl ?_
                exact t_X12_next_j285 w14 h
              · refine j_iload_n 0 dX12_next_231 rfl rfl ?_
                refine j_bipush (60 : Int32) dX12_next_232 kb_60 ?_
                refine j_ic_eq 285 dX12_next_234 (by decide) h (fun h => ?_) (fun h => ?_)
                · refine j_loc [(0, .ref (ad (gm κ) 97))] [1] rfl ?_
                  exact t_X12_next_j285 w14 h
                · refine j_iload_n 0 dX12_next_237 rfl rfl ?_
                  refine j_bipush (62 : Int32) dX12_next_238 kb_62 ?_
                  refine j_ic_eq 285 dX12_next_240 (by decide) h (fun h => ?_) (fun h => ?_)
                  · refine j_loc [(0, .ref (ad (gm κ) 97))] [1] rfl ?_
                    exact t_X12_next_j285 w14 h
                  · refine j_iload_n 0 dX12_next_243 rfl rfl ?_
                    refine j_bipush (61 : Int32) dX12_next_244 kb_61 ?_
                    refine j_ic_eq 285 dX12_next_246 (by decide) h (fun h => ?_) (fun h => ?_)
                    · refine j_loc [(0, .ref (ad (gm κ) 97))] [1] rfl ?_
                      exact t_X12_next_j285 w14 h
                    · refine j_iload_n 0 dX12_next_249 rfl rfl ?_
                      refine j_bipush (43 : Int32) dX12_next_250 kb_43 ?_
                      refine j_ic_eq 285 dX12_next_252 (by decide) h (fun h => ?_) (fun h => ?_)
                      · refine j_loc [(0, .ref (ad (gm κ) 97))] [1] rfl ?_
                        exact t_X12_next_j285 w14 h
                      · refine j_iload_n 0 dX12_next_255 rfl rfl ?_
                        refine j_bipush (45 : Int32) dX12_next_256 kb_45 ?_
                        refine j_ic_eq 285 dX12_next_258 (by decide) h (fun h => ?_) (fun h => ?_)
                        · refine j_loc [(0, .ref (ad (gm κ) 97))] [1] rfl ?_
                          exact t_X12_next_j285 w14 h
                        · refine j_iload_n 0 dX12_next_261 rfl rfl ?_
                          refine j_bipush (42 : Int32) dX12_next_262 kb_42 ?_
                          refine j_ic_eq 285 dX12_next_264 (by decide) h (fun h => ?_) (fun h => ?_)
                          · refine j_loc [(0, .ref (ad (gm κ) 97))] [1] rfl ?_
                            exact t_X12_next_j285 w14 h
                          · refine j_iload_n 0 dX12_next_267 rfl rfl ?_
                            refine j_bipush (47 : Int32) dX12_next_268 kb_47 ?_
                            refine j_ic_eq 285 dX12_next_270 (by decide) h (fun h => ?_) (fun h => ?_)
                            · refine j_loc [(0, .ref (ad (gm κ) 97))] [1] rfl ?_
                              exact t_X12_next_j285 w14 h
                            · refine j_iload_n 0 dX12_next_273 rfl rfl ?_
                              refine j_bipush (40 : Int32) dX12_next_274 kb_40 ?_
                              refine j_ic_eq 285 dX12_next_276 (by decide) h (fun h => ?_) (fun h => ?_)
                              · refine j_loc [(0, .ref (ad (gm κ) 97))] [1] rfl ?_
                                exact t_X12_next_j285 w14 h
                              · refine j_iload_n 0 dX12_next_279 rfl rfl ?_
                                refine j_bipush (41 : Int32) dX12_next_280 kb_41 ?_
                                refine j_ic_ne 289 dX12_next_282 (by decide) h (fun h => ?_) (fun h => ?_)
                                · refine j_iconst (0 : Int32) dX12_next_289 ki_0 ?_
                                  refine j_loc [(0, .ref (ad (gm κ) 97))] [1] rfl ?_
                                  exact t_X12_next_j290 (0 : Int32) w14 h
                                · refine j_loc [(0, .ref (ad (gm κ) 97))] [1] rfl ?_
                                  exact t_X12_next_j285 w14 h
          · refine j_aload_n 1 dX12_next_123 rfl rfl ?_
            refine j_iconst (0 : Int32) dX12_next_124 ki_0 ?_
            refine j_putI fp_RX12_377 sh_97 fk_97_38 dX12_next_125 ?_
            refine j_lW h (fun w16 h => ?_)
            refine j_loc [(0, .ref (ad (gm κ) 97))] [1] rfl ?_
            refine t_X12_next_b128  (fun e23 h => ?_) w16 (ok_bb h)
            · refine j_aload_n 0 dX12_next_184 rfl rfl ?_
              refine j_aload_n 0 dX12_next_185 rfl rfl ?_
              refine j_getI fl_RX12_368 sh_97 fk_97_37 dX12_next_186 ?_
              refine j_aload_n 0 dX12_next_189 rfl rfl ?_
              refine j_getI fl_RX12_374 sh_97 fk_97_36 dX12_next_190 ?_
              refine j_isub dX12_next_193 ?_
              refine j_iconst (4 : Int32) dX12_next_194 ki_4 ?_
              refine j_ic_le 202 dX12_next_195 (by decide) h (fun h => ?_) (fun h => ?_)
              · refine j_iconst (3 : Int32) dX12_next_202 ki_3 ?_
                refine j_loc [] [] rfl ?_
                exact t_X12_next_j203 (3 : Int32) e23 h
              · refine j_iconst (1 : Int32) dX12_next_198 ki_1 ?_
                refine j_goto 203 dX12_next_199 (by decide) ?_
                refine j_loc [] [] rfl ?_
                exact t_X12_next_j203 (1 : Int32) e23 h
        · refine j_loc [(0, .ref (ad (gm κ) 97))] [1] rfl ?_
          refine t_X12_next_b81  (fun e28 h => ?_) w13 (ok_bb h)
          · refine j_aload_n 0 dX12_next_108 rfl rfl ?_
            refine j_iconst (2 : Int32) dX12_next_109 ki_2 ?_
            refine j_putI fp_RX12_380 sh_97 fk_97_35 dX12_next_110 ?_
            refine j_lW h (fun w29 h => ?_)
            refine j_goto 304 dX12_next_113 (by decide) ?_
            have h := ok_s h
            exact j_vret dX12_next_304 rfl h
      · refine j_aload_n 1 dX12_next_66 rfl rfl ?_
        refine j_iconst (0 : Int32) dX12_next_67 ki_0 ?_
        refine j_putI fp_RX12_380 sh_97 fk_97_35 dX12_next_68 ?_
        refine j_lW h (fun w30 h => ?_)
        refine j_goto 304 dX12_next_71 (by decide) ?_
        have h := ok_s h
        exact j_vret dX12_next_304 rfl h
  · refine j_aload_n 0 dX12_next_13 rfl rfl ?_
    refine j_aload_n 0 dX12_next_14 rfl rfl ?_
    refine j_getI fl_RX12_368 sh_97 fk_97_37 dX12_next_15 ?_
    obtain ⟨q31, e32, h⟩ := ok_b h
    refine j_callV (As := [.int (w.1 97 37)]) (st := []) [.int q31] (c_X12_at (kl κ) (gm κ) (kA κ) (w.1 97 37) w q31 e32) ck_RX12_371 im_X12_at se_X12_at sh_97 cx_12 ⟨rfl, rfl⟩ ⟨by decide, by decide⟩ rfl rfl (Nat.le_of_ble_eq_true rfl) dX12_next_18 _ rfl ?_
    refine j_bipush (10 : Int32) dX12_next_21 kb_10 ?_
    refine j_ic_ne 39 dX12_next_23 (by decide) h (fun h => ?_) (fun h => ?_)
    · refine j_aload_n 0 dX12_next_39 rfl rfl ?_
      refine j_aload_n 0 dX12_next_40 rfl rfl ?_
      refine j_getI fl_RX12_368 sh_97 fk_97_37 dX12_next_41 ?_
      refine j_putI fp_RX12_374 sh_97 fk_97_36 dX12_next_44 ?_
      refine j_lW h (fun w33 h => ?_)
      refine j_aload_n 0 dX12_next_47 rfl rfl ?_
      refine j_aload_n 0 dX12_next_48 rfl rfl ?_
      refine j_getI fl_RX12_368 sh_97 fk_97_37 dX12_next_49 ?_
      obtain ⟨q34, e35, h⟩ := ok_b h
      refine j_callV (As := [.int (w33.1 97 37)]) (st := []) [.int q34] (c_X12_at (kl κ) (gm κ) (kA κ) (w33.1 97 37) w33 q34 e35) ck_RX12_371 im_X12_at se_X12_at sh_97 cx_12 ⟨rfl, rfl⟩ ⟨by decide, by decide⟩ rfl rfl (Nat.le_of_ble_eq_true rfl) dX12_next_52 _ rfl ?_
      refine j_istore_n [(1, .int q34), (0, .ref (ad (gm κ) 97))] dX12_next_55 rfl (by decide) rfl ?_
      refine j_aload_n 1 dX12_next_56 rfl rfl ?_
      refine j_iload_n 0 dX12_next_57 rfl rfl ?_
      refine j_putI fp_RX12_377 sh_97 fk_97_38 dX12_next_58 ?_
      refine j_lW h (fun w36 h => ?_)
      refine j_iload_n 0 dX12_next_61 rfl rfl ?_
      refine j_iconst (-1 : Int32) dX12_next_62 ki_m1 ?_
      refine j_ic_ne 74 dX12_next_63 (by decide) h (fun h => ?_) (fun h => ?_)
      · refine j_iload_n 0 dX12_next_74 rfl rfl ?_
        refine j_callS (As := [.int q34]) (st := []) [.int (X12_isSmall q34 w36)] (c_X12_isSmall (kl κ) (gm κ) (kA κ) q34 w36) ck_RX12_383 st_X12_isSmall ⟨rfl, rfl⟩ ⟨by decide, by decide⟩ rfl rfl (Nat.le_of_ble_eq_true rfl) dX12_next_75 _ rfl ?_
        refine j_if_eq 116 dX12_next_78 (by decide) h (fun h => ?_) (fun h => ?_)
        · refine j_iload_n 0 dX12_next_116 rfl rfl ?_
          refine j_callS (As := [.int q34]) (st := []) [.int (X12_isDigit q34 w36)] (c_X12_isDigit (kl κ) (gm κ) (kA κ) q34 w36) ck_RX12_386 st_X12_isDigit ⟨rfl, rfl⟩ ⟨by decide, by decide⟩ rfl rfl (Nat.le_of_ble_eq_true rfl) dX12_next_117 _ rfl ?_
          refine j_if_eq 209 dX12_next_120 (by decide) h (fun h => ?_) (fun h => ?_)
          · refine j_aload_n 1 dX12_next_209 rfl rfl ?_
            refine j_dup dX12_next_210 rfl ?_
            refine j_getI fl_RX12_368 sh_97 fk_97_37 dX12_next_211 ?_
            refine j_iconst (1 : Int32) dX12_next_214 ki_1 ?_
            refine j_iadd dX12_next_215 ?_
            refine j_putI fp_RX12_368 sh_97 fk_97_37 dX12_next_216 ?_
            refine j_lW h (fun w37 h => ?_)
            refine j_iload_n 0 dX12_next_219 rfl rfl ?_
            refine j_bipush (59 : Int32) dX12_next_220 kb_59 ?_
            refine j_ic_eq 285 dX12_next_222 (by decide) h (fun h => ?_) (fun h => ?_)
            · refine j_loc [(0, .ref (ad (gm κ) 97))] [1] rfl ?_
              exact t_X12_next_j285 w37 h
            · refine j_iload_n 0 dX12_next_225 rfl rfl ?_
              refine j_bipush (58 : Int32) dX12_next_226 kb_58 ?_
              refine j_ic_eq 285 dX12_next_228 (by decide) h (fun h => ?_) (fun h => ?_)
              · refine j_loc [(0, .ref (ad (gm κ) 97))] [1] rfl ?_
                exact t_X12_next_j285 w37 h
              · refine j_iload_n 0 dX12_next_231 rfl rfl ?_
                refine j_bipush (60 : Int32) dX12_next_232 kb_60 ?_
                refine j_ic_eq 285 dX12_next_234 (by decide) h (fun h => ?_) (fun h => ?_)
                · refine j_loc [(0, .ref (ad (gm κ) 97))] [1] rfl ?_
                  exact t_X12_next_j285 w37 h
                · refine j_iload_n 0 dX12_next_237 rfl rfl ?_
                  refine j_bipush (62 : Int32) dX12_next_238 kb_62 ?_
                  refine j_ic_eq 285 dX12_next_240 (by decide) h (fun h => ?_) (fun h => ?_)
                  · refine j_loc [(0, .ref (ad (gm κ) 97))] [1] rfl ?_
                    exact t_X12_next_j285 w37 h
                  · refine j_iload_n 0 dX12_next_243 rfl rfl ?_
                    refine j_bipush (61 : Int32) dX12_next_244 kb_61 ?_
                    refine j_ic_eq 285 dX12_next_246 (by decide) h (fun h => ?_) (fun h => ?_)
                    · refine j_loc [(0, .ref (ad (gm κ) 97))] [1] rfl ?_
                      exact t_X12_next_j285 w37 h
                    · refine j_iload_n 0 dX12_next_249 rfl rfl ?_
                      refine j_bipush (43 : Int32) dX12_next_250 kb_43 ?_
                      refine j_ic_eq 285 dX12_next_252 (by decide) h (fun h => ?_) (fun h => ?_)
                      · refine j_loc [(0, .ref (ad (gm κ) 97))] [1] rfl ?_
                        exact t_X12_next_j285 w37 h
                      · refine j_iload_n 0 dX12_next_255 rfl rfl ?_
                        refine j_bipush (45 : Int32) dX12_next_256 kb_45 ?_
                        refine j_ic_eq 285 dX12_next_258 (by decide) h (fun h => ?_) (fun h => ?_)
                        · refine j_loc [(0, .ref (ad (gm κ) 97))] [1] rfl ?_
                          exact t_X12_next_j285 w37 h
                        · refine j_iload_n 0 dX12_next_261 rfl rfl ?_
                          refine j_bipush (42 : Int32) dX12_next_262 kb_42 ?_
                          refine j_ic_eq 285 dX12_next_264 (by decide) h (fun h => ?_) (fun h => ?_)
                          · refine j_loc [(0, .ref (ad (gm κ) 97))] [1] rfl ?_
                            exact t_X12_next_j285 w37 h
                          · refine j_iload_n 0 dX12_next_267 rfl rfl ?_
                            refine j_bipush (47 : Int32) dX12_next_268 kb_47 ?_
                            refine j_ic_eq 285 dX12_next_270 (by decide) h (fun h => ?_) (fun h => ?_)
                            · refine j_loc [(0, .ref (ad (gm κ) 97))] [1] rfl ?_
                              exact t_X12_next_j285 w37 h
                            · refine j_iload_n 0 dX12_next_273 rfl rfl ?_
                              refine j_bipush (40 : Int32) dX12_next_274 kb_40 ?_
                              refine j_ic_eq 285 dX12_next_276 (by decide) h (fun h => ?_) (fun h => ?_)
                              · refine j_loc [(0, .ref (ad (gm κ) 97))] [1] rfl ?_
                                exact t_X12_next_j285 w37 h
                              · refine j_iload_n 0 dX12_next_279 rfl rfl ?_
                                refine j_bipush (41 : Int32) dX12_next_280 kb_41 ?_
                                refine j_ic_ne 289 dX12_next_282 (by decide) h (fun h => ?_) (fun h => ?_)
                                · refine j_iconst (0 : Int32) dX12_next_289 ki_0 ?_
                                  refine j_loc [(0, .ref (ad (gm κ) 97))] [1] rfl ?_
                                  exact t_X12_next_j290 (0 : Int32) w37 h
                                · refine j_loc [(0, .ref (ad (gm κ) 97))] [1] rfl ?_
                                  exact t_X12_next_j285 w37 h
          · refine j_aload_n 1 dX12_next_123 rfl rfl ?_
            refine j_iconst (0 : Int32) dX12_next_124 ki_0 ?_
            refine j_putI fp_RX12_377 sh_97 fk_97_38 dX12_next_125 ?_
            refine j_lW h (fun w38 h => ?_)
            refine j_loc [(0, .ref (ad (gm κ) 97))] [1] rfl ?_
            refine t_X12_next_b128  (fun e39 h => ?_) w38 (ok_bb h)
            · refine j_aload_n 0 dX12_next_184 rfl rfl ?_
              refine j_aload_n 0 dX12_next_185 rfl rfl ?_
              refine j_getI fl_RX12_368 sh_97 fk_97_37 dX12_next_186 ?_
              refine j_aload_n 0 dX12_next_189 rfl rfl ?_
              refine j_getI fl_RX12_374 sh_97 fk_97_36 dX12_next_190 ?_
              refine j_isub dX12_next_193 ?_
              refine j_iconst (4 : Int32) dX12_next_194 ki_4 ?_
              refine j_ic_le 202 dX12_next_195 (by decide) h (fun h => ?_) (fun h => ?_)
              · refine j_iconst (3 : Int32) dX12_next_202 ki_3 ?_
                refine j_loc [] [] rfl ?_
                exact t_X12_next_j203 (3 : Int32) e39 h
              · refine j_iconst (1 : Int32) dX12_next_198 ki_1 ?_
                refine j_goto 203 dX12_next_199 (by decide) ?_
                refine j_loc [] [] rfl ?_
                exact t_X12_next_j203 (1 : Int32) e39 h
        · refine j_loc [(0, .ref (ad (gm κ) 97))] [1] rfl ?_
          refine t_X12_next_b81  (fun e40 h => ?_) w36 (ok_bb h)
          · refine j_aload_n 0 dX12_next_108 rfl rfl ?_
            refine j_iconst (2 : Int32) dX12_next_109 ki_2 ?_
            refine j_putI fp_RX12_380 sh_97 fk_97_35 dX12_next_110 ?_
            refine j_lW h (fun w41 h => ?_)
            refine j_goto 304 dX12_next_113 (by decide) ?_
            have h := ok_s h
            exact j_vret dX12_next_304 rfl h
      · refine j_aload_n 1 dX12_next_66 rfl rfl ?_
        refine j_iconst (0 : Int32) dX12_next_67 ki_0 ?_
        refine j_putI fp_RX12_380 sh_97 fk_97_35 dX12_next_68 ?_
        refine j_lW h (fun w42 h => ?_)
        refine j_goto 304 dX12_next_71 (by decide) ?_
        have h := ok_s h
        exact j_vret dX12_next_304 rfl h
    · refine j_aload_n 0 dX12_next_26 rfl rfl ?_
      refine j_dup dX12_next_27 rfl ?_
      refine j_getI fl_RX12_368 sh_97 fk_97_37 dX12_next_28 ?_
      refine j_iconst (1 : Int32) dX12_next_31 ki_1 ?_
      refine j_iadd dX12_next_32 ?_
      refine j_putI fp_RX12_368 sh_97 fk_97_37 dX12_next_33 ?_
      refine j_lW h (fun w43 h => ?_)
      refine j_goto 0 dX12_next_36 (by decide) ?_
      refine j_loc [(0, .ref (ad (gm κ) 97))] [0] rfl ?_
      refine t_X12_next_b0  (fun e44 h => ?_) w43 (ok_bb h)
      · refine j_aload_n 0 dX12_next_39 rfl rfl ?_
        refine j_aload_n 0 dX12_next_40 rfl rfl ?_
        refine j_getI fl_RX12_368 sh_97 fk_97_37 dX12_next_41 ?_
        refine j_putI fp_RX12_374 sh_97 fk_97_36 dX12_next_44 ?_
        refine j_lW h (fun w45 h => ?_)
        refine j_aload_n 0 dX12_next_47 rfl rfl ?_
        refine j_aload_n 0 dX12_next_48 rfl rfl ?_
        refine j_getI fl_RX12_368 sh_97 fk_97_37 dX12_next_49 ?_
        obtain ⟨q46, e47, h⟩ := ok_b h
        refine j_callV (As := [.int (w45.1 97 37)]) (st := []) [.int q46] (c_X12_at (kl κ) (gm κ) (kA κ) (w45.1 97 37) w45 q46 e47) ck_RX12_371 im_X12_at se_X12_at sh_97 cx_12 ⟨rfl, rfl⟩ ⟨by decide, by decide⟩ rfl rfl (Nat.le_of_ble_eq_true rfl) dX12_next_52 _ rfl ?_
        refine j_istore_n [(1, .int q46), (0, .ref (ad (gm κ) 97))] dX12_next_55 rfl (by decide) rfl ?_
        refine j_aload_n 1 dX12_next_56 rfl rfl ?_
        refine j_iload_n 0 dX12_next_57 rfl rfl ?_
        refine j_putI fp_RX12_377 sh_97 fk_97_38 dX12_next_58 ?_
        refine j_lW h (fun w48 h => ?_)
        refine j_iload_n 0 dX12_next_61 rfl rfl ?_
        refine j_iconst (-1 : Int32) dX12_next_62 ki_m1 ?_
        refine j_ic_ne 74 dX12_next_63 (by decide) h (fun h => ?_) (fun h => ?_)
        · refine j_iload_n 0 dX12_next_74 rfl rfl ?_
          refine j_callS (As := [.int q46]) (st := []) [.int (X12_isSmall q46 w48)] (c_X12_isSmall (kl κ) (gm κ) (kA κ) q46 w48) ck_RX12_383 st_X12_isSmall ⟨rfl, rfl⟩ ⟨by decide, by decide⟩ rfl rfl (Nat.le_of_ble_eq_true rfl) dX12_next_75 _ rfl ?_
          refine j_if_eq 116 dX12_next_78 (by decide) h (fun h => ?_) (fun h => ?_)
          · refine j_iload_n 0 dX12_next_116 rfl rfl ?_
            refine j_callS (As := [.int q46]) (st := []) [.int (X12_isDigit q46 w48)] (c_X12_isDigit (kl κ) (gm κ) (kA κ) q46 w48) ck_RX12_386 st_X12_isDigit ⟨rfl, rfl⟩ ⟨by decide, by decide⟩ rfl rfl (Nat.le_of_ble_eq_true rfl) dX12_next_117 _ rfl ?_
            refine j_if_eq 209 dX12_next_120 (by decide) h (fun h => ?_) (fun h => ?_)
            · refine j_aload_n 1 dX12_next_209 rfl rfl ?_
              refine j_dup dX12_next_210 rfl ?_
              refine j_getI fl_RX12_368 sh_97 fk_97_37 dX12_next_211 ?_
              refine j_iconst (1 : Int32) dX12_next_214 ki_1 ?_
              refine j_iadd dX12_next_215 ?_
              refine j_putI fp_RX12_368 sh_97 fk_97_37 dX12_next_216 ?_
              refine j_lW h (fun w49 h => ?_)
              refine j_iload_n 0 dX12_next_219 rfl rfl ?_
              refine j_bipush (59 : Int32) dX12_next_220 kb_59 ?_
              refine j_ic_eq 285 dX12_next_222 (by decide) h (fun h => ?_) (fun h => ?_)
              · refine j_loc [(0, .ref (ad (gm κ) 97))] [1] rfl ?_
                exact t_X12_next_j285 w49 h
              · refine j_iload_n 0 dX12_next_225 rfl rfl ?_
                refine j_bipush (58 : Int32) dX12_next_226 kb_58 ?_
                refine j_ic_eq 285 dX12_next_228 (by decide) h (fun h => ?_) (fun h => ?_)
                · refine j_loc [(0, .ref (ad (gm κ) 97))] [1] rfl ?_
                  exact t_X12_next_j285 w49 h
                · refine j_iload_n 0 dX12_next_231 rfl rfl ?_
                  refine j_bipush (60 : Int32) dX12_next_232 kb_60 ?_
                  refine j_ic_eq 285 dX12_next_234 (by decide) h (fun h => ?_) (fun h => ?_)
                  · refine j_loc [(0, .ref (ad (gm κ) 97))] [1] rfl ?_
                    exact t_X12_next_j285 w49 h
                  · refine j_iload_n 0 dX12_next_237 rfl rfl ?_
                    refine j_bipush (62 : Int32) dX12_next_238 kb_62 ?_
                    refine j_ic_eq 285 dX12_next_240 (by decide) h (fun h => ?_) (fun h => ?_)
                    · refine j_loc [(0, .ref (ad (gm κ) 97))] [1] rfl ?_
                      exact t_X12_next_j285 w49 h
                    · refine j_iload_n 0 dX12_next_243 rfl rfl ?_
                      refine j_bipush (61 : Int32) dX12_next_244 kb_61 ?_
                      refine j_ic_eq 285 dX12_next_246 (by decide) h (fun h => ?_) (fun h => ?_)
                      · refine j_loc [(0, .ref (ad (gm κ) 97))] [1] rfl ?_
                        exact t_X12_next_j285 w49 h
                      · refine j_iload_n 0 dX12_next_249 rfl rfl ?_
                        refine j_bipush (43 : Int32) dX12_next_250 kb_43 ?_
                        refine j_ic_eq 285 dX12_next_252 (by decide) h (fun h => ?_) (fun h => ?_)
                        · refine j_loc [(0, .ref (ad (gm κ) 97))] [1] rfl ?_
                          exact t_X12_next_j285 w49 h
                        · refine j_iload_n 0 dX12_next_255 rfl rfl ?_
                          refine j_bipush (45 : Int32) dX12_next_256 kb_45 ?_
                          refine j_ic_eq 285 dX12_next_258 (by decide) h (fun h => ?_) (fun h => ?_)
                          · refine j_loc [(0, .ref (ad (gm κ) 97))] [1] rfl ?_
                            exact t_X12_next_j285 w49 h
                          · refine j_iload_n 0 dX12_next_261 rfl rfl ?_
                            refine j_bipush (42 : Int32) dX12_next_262 kb_42 ?_
                            refine j_ic_eq 285 dX12_next_264 (by decide) h (fun h => ?_) (fun h => ?_)
                            · refine j_loc [(0, .ref (ad (gm κ) 97))] [1] rfl ?_
                              exact t_X12_next_j285 w49 h
                            · refine j_iload_n 0 dX12_next_267 rfl rfl ?_
                              refine j_bipush (47 : Int32) dX12_next_268 kb_47 ?_
                              refine j_ic_eq 285 dX12_next_270 (by decide) h (fun h => ?_) (fun h => ?_)
                              · refine j_loc [(0, .ref (ad (gm κ) 97))] [1] rfl ?_
                                exact t_X12_next_j285 w49 h
                              · refine j_iload_n 0 dX12_next_273 rfl rfl ?_
                                refine j_bipush (40 : Int32) dX12_next_274 kb_40 ?_
                                refine j_ic_eq 285 dX12_next_276 (by decide) h (fun h => ?_) (fun h => ?_)
                                · refine j_loc [(0, .ref (ad (gm κ) 97))] [1] rfl ?_
                                  exact t_X12_next_j285 w49 h
                                · refine j_iload_n 0 dX12_next_279 rfl rfl ?_
                                  refine j_bipush (41 : Int32) dX12_next_280 kb_41 ?_
                                  refine j_ic_ne 289 dX12_next_282 (by decide) h (fun h => ?_) (fun h => ?_)
                                  · refine j_iconst (0 : Int32) dX12_next_289 ki_0 ?_
                                    refine j_loc [(0, .ref (ad (gm κ) 97))] [1] rfl ?_
                                    exact t_X12_next_j290 (0 : Int32) w49 h
                                  · refine j_loc [(0, .ref (ad (gm κ) 97))] [1] rfl ?_
                                    exact t_X12_next_j285 w49 h
            · refine j_aload_n 1 dX12_next_123 rfl rfl ?_
              refine j_iconst (0 : Int32) dX12_next_124 ki_0 ?_
              refine j_putI fp_RX12_377 sh_97 fk_97_38 dX12_next_125 ?_
              refine j_lW h (fun w50 h => ?_)
              refine j_loc [(0, .ref (ad (gm κ) 97))] [1] rfl ?_
              refine t_X12_next_b128  (fun e51 h => ?_) w50 (ok_bb h)
              · refine j_aload_n 0 dX12_next_184 rfl rfl ?_
                refine j_aload_n 0 dX12_next_185 rfl rfl ?_
                refine j_getI fl_RX12_368 sh_97 fk_97_37 dX12_next_186 ?_
                refine j_aload_n 0 dX12_next_189 rfl rfl ?_
                refine j_getI fl_RX12_374 sh_97 fk_97_36 dX12_next_190 ?_
                refine j_isub dX12_next_193 ?_
                refine j_iconst (4 : Int32) dX12_next_194 ki_4 ?_
                refine j_ic_le 202 dX12_next_195 (by decide) h (fun h => ?_) (fun h => ?_)
                · refine j_iconst (3 : Int32) dX12_next_202 ki_3 ?_
                  refine j_loc [] [] rfl ?_
                  exact t_X12_next_j203 (3 : Int32) e51 h
                · refine j_iconst (1 : Int32) dX12_next_198 ki_1 ?_
                  refine j_goto 203 dX12_next_199 (by decide) ?_
                  refine j_loc [] [] rfl ?_
                  exact t_X12_next_j203 (1 : Int32) e51 h
          · refine j_loc [(0, .ref (ad (gm κ) 97))] [1] rfl ?_
            refine t_X12_next_b81  (fun e52 h => ?_) w48 (ok_bb h)
            · refine j_aload_n 0 dX12_next_108 rfl rfl ?_
              refine j_iconst (2 : Int32) dX12_next_109 ki_2 ?_
              refine j_putI fp_RX12_380 sh_97 fk_97_35 dX12_next_110 ?_
              refine j_lW h (fun w53 h => ?_)
              refine j_goto 304 dX12_next_113 (by decide) ?_
              have h := ok_s h
              exact j_vret dX12_next_304 rfl h
        · refine j_aload_n 1 dX12_next_66 rfl rfl ?_
          refine j_iconst (0 : Int32) dX12_next_67 ki_0 ?_
          refine j_putI fp_RX12_380 sh_97 fk_97_35 dX12_next_68 ?_
          refine j_lW h (fun w54 h => ?_)
          refine j_goto 304 dX12_next_71 (by decide) ?_
          have h := ok_s h
          exact j_vret dX12_next_304 rfl h
theorem c_X12_next (l : Launch) (γ : Gm) (A : Nat → Prop) (w : Wd) (q : Wd) (e : X12_next   w = some q) : MetG l γ A yX12_next cX12_next 3 none (rmk 1 23) [.ref (ad (γ) 97)] w none q := by
  refine met_of pn_RX12 (Nat.le_of_ble_eq_true rfl) ?_
  intro κ hl hγ hA hρ
  subst hl; subst hγ; subst hA
  exact t_X12_next    w ⟨q, e, pVw hρ rfl rfl⟩
theorem dX12_isSign_0 : decode cX12_isSign 0 = .ok (.aload_n 0, 1) := by decide +kernel
theorem dX12_isSign_1 : decode cX12_isSign 1 = .ok (.getfield 380, 3) := by decide +kernel
theorem dX12_isSign_4 : decode cX12_isSign 4 = .ok (.iconst 4, 1) := by decide +kernel
theorem dX12_isSign_5 : decode cX12_isSign 5 = .ok (.if_icmp .ne 15, 3) := by decide +kernel
theorem dX12_isSign_8 : decode cX12_isSign 8 = .ok (.aload_n 0, 1) := by decide +kernel
theorem dX12_isSign_9 : decode cX12_isSign 9 = .ok (.getfield 377, 3) := by decide +kernel
theorem dX12_isSign_12 : decode cX12_isSign 12 = .ok (.iload_n 1, 1) := by decide +kernel
theorem dX12_isSign_13 : decode cX12_isSign 13 = .ok (.if_icmp .ne 7, 3) := by decide +kernel
theorem dX12_isSign_16 : decode cX12_isSign 16 = .ok (.iconst 1, 1) := by decide +kernel
theorem dX12_isSign_17 : decode cX12_isSign 17 = .ok (.goto 4, 3) := by decide +kernel
theorem dX12_isSign_20 : decode cX12_isSign 20 = .ok (.iconst 0, 1) := by decide +kernel
theorem dX12_isSign_21 : decode cX12_isSign 21 = .ok (.ireturn, 1) := by decide +kernel
noncomputable def X12_isSignO (a1 : Int32) (w : Wd) : Option (Int32) :=
(if (w.1 97 35) = (4 : Int32) then
(if (w.1 97 38) = a1 then
some (1 : Int32)
else
some (0 : Int32))
else
some (0 : Int32))
set_option maxRecDepth 20000 in
set_option maxHeartbeats 1000000 in
theorem t_X12_isSign {κ : Kx} (a1 : Int32) (w : Wd) (h : ok (X12_isSignO  a1 w) (PI κ w)) : J κ RX12 cX12_isSign 2 (some .boolean) (rmk 0 0) 0 [(0, .ref (ad (gm κ) 97)), (1, .int a1)] [] w := by
  unfold X12_isSignO at h
  refine j_aload_n 0 dX12_isSign_0 rfl rfl ?_
  refine j_getI fl_RX12_380 sh_97 fk_97_35 dX12_isSign_1 ?_
  refine j_iconst (4 : Int32) dX12_isSign_4 ki_4 ?_
  refine j_ic_ne 20 dX12_isSign_5 (by decide) h (fun h => ?_) (fun h => ?_)
  · refine j_iconst (0 : Int32) dX12_isSign_20 ki_0 ?_
    have h := ok_s h
    exact j_iret dX12_isSign_21 rfl (by decide) h
  · refine j_aload_n 0 dX12_isSign_8 rfl rfl ?_
    refine j_getI fl_RX12_377 sh_97 fk_97_38 dX12_isSign_9 ?_
    refine j_iload_n 1 dX12_isSign_12 rfl rfl ?_
    refine j_ic_ne 20 dX12_isSign_13 (by decide) h (fun h => ?_) (fun h => ?_)
    · refine j_iconst (0 : Int32) dX12_isSign_20 ki_0 ?_
      have h := ok_s h
      exact j_iret dX12_isSign_21 rfl (by decide) h
    · refine j_iconst (1 : Int32) dX12_isSign_16 ki_1 ?_
      refine j_goto 21 dX12_isSign_17 (by decide) ?_
      have h := ok_s h
      exact j_iret dX12_isSign_21 rfl (by decide) h
noncomputable def X12_isSign (a1 : Int32) (w : Wd) : Int32 := (X12_isSignO  a1 w).getD 0
theorem X12_isSign_eq (a1 : Int32) (w : Wd) : X12_isSignO  a1 w = some (X12_isSign  a1 w) := by
  unfold X12_isSign X12_isSignO
  repeat (first | rfl | split)
theorem nz_X12_isSign (a1 : Int32) (w : Wd) : narrow .boolean (.int (X12_isSign  a1 w)) = .int (X12_isSign  a1 w) := by
  unfold X12_isSign X12_isSignO
  repeat (first | rfl | split)
theorem c_X12_isSign (l : Launch) (γ : Gm) (A : Nat → Prop) (a1 : Int32) (w : Wd) : MetG l γ A yX12_isSign cX12_isSign 2 (some .boolean) (rmk 0 0) [.ref (ad (γ) 97), .int a1] w (some (.int (X12_isSign  a1 w))) w := by
  refine met_of pn_RX12 (Nat.le_of_ble_eq_true rfl) ?_
  intro κ hl hγ hA hρ
  subst hl; subst hγ; subst hA
  exact t_X12_isSign   a1 w ⟨_, X12_isSign_eq  a1 w, pI hρ rfl rfl⟩
theorem dJ1_charAt_3b067_0 : decode cJ1_charAt_3b067 0 = .ok (.iload_n 1, 1) := by decide +kernel
theorem dJ1_charAt_3b067_1 : decode cJ1_charAt_3b067 1 = .ok (.aload_n 0, 1) := by decide +kernel
theorem dJ1_charAt_3b067_2 : decode cJ1_charAt_3b067 2 = .ok (.arraylength, 1) := by decide +kernel
theorem dJ1_charAt_3b067_3 : decode cJ1_charAt_3b067 3 = .ok (.invokestatic 9, 3) := by decide +kernel
theorem dJ1_charAt_3b067_6 : decode cJ1_charAt_3b067 6 = .ok (.aload_n 0, 1) := by decide +kernel
theorem dJ1_charAt_3b067_7 : decode cJ1_charAt_3b067 7 = .ok (.iload_n 1, 1) := by decide +kernel
theorem dJ1_charAt_3b067_8 : decode cJ1_charAt_3b067 8 = .ok (.baload, 1) := by decide +kernel
theorem dJ1_charAt_3b067_9 : decode cJ1_charAt_3b067 9 = .ok (.sipush 255, 3) := by decide +kernel
theorem dJ1_charAt_3b067_12 : decode cJ1_charAt_3b067 12 = .ok (.iand, 1) := by decide +kernel
theorem dJ1_charAt_3b067_13 : decode cJ1_charAt_3b067 13 = .ok (.i2c, 1) := by decide +kernel
theorem dJ1_charAt_3b067_14 : decode cJ1_charAt_3b067 14 = .ok (.ireturn, 1) := by decide +kernel
noncomputable def J1_charAt_3b067 (ti : Nat) (a1 : Int32) (w : Wd) : Option (Int32) :=
(J0_checkIndex_df160 a1 (Int32.ofNat (strN.getD ti 0)) w).bind fun q1 =>
gd (vp_in a1 (strN.getD ti 0)) <|
gd (narrow .char (.int (Int32.toUInt32 (((strB.getD ti []).getD (ix a1) 0) &&& (255 : Int32)) % 65536).toInt32) = .int (Int32.toUInt32 (((strB.getD ti []).getD (ix a1) 0) &&& (255 : Int32)) % 65536).toInt32) <|
some (Int32.toUInt32 (((strB.getD ti []).getD (ix a1) 0) &&& (255 : Int32)) % 65536).toInt32
set_option maxRecDepth 20000 in
set_option maxHeartbeats 1000000 in
theorem t_J1_charAt_3b067 {κ : Kx} (ti : Nat) (hti : ti < 4) (a1 : Int32) (w : Wd) (h : ok (J1_charAt_3b067 ti a1 w) (PI κ w)) : J κ RJ1 cJ1_charAt_3b067 2 (some .char) (rmk 2 43) 0 [(0, .ref (sV (gm κ) ti)), (1, .int a1)] [] w := by
  unfold J1_charAt_3b067 at h
  refine j_iload_n 1 dJ1_charAt_3b067_0 rfl rfl ?_
  refine j_aload_n 0 dJ1_charAt_3b067_1 rfl rfl ?_
  refine j_tlen hti dJ1_charAt_3b067_2 ?_
  obtain ⟨q1, e2, h⟩ := ok_b h
  refine j_callS (As := [.int a1, .int (Int32.ofNat (strN.getD ti 0))]) (st := []) [] (c_J0_checkIndex_df160 (kl κ) (gm κ) (kA κ) a1 (Int32.ofNat (strN.getD ti 0)) w q1 e2) ck_RJ1_9 st_J0_checkIndex_df160 ⟨rfl, rfl⟩ ⟨by decide, by decide⟩ rfl rfl (Nat.le_of_ble_eq_true rfl) dJ1_charAt_3b067_3 _ rfl ?_
  refine j_aload_n 0 dJ1_charAt_3b067_6 rfl rfl ?_
  refine j_iload_n 1 dJ1_charAt_3b067_7 rfl rfl ?_
  refine j_tb hti dJ1_charAt_3b067_8 h (fun h => ?_)
  refine j_sipush (255 : Int32) dJ1_charAt_3b067_9 ks_255 ?_
  refine j_iand dJ1_charAt_3b067_12 ?_
  refine j_i2c dJ1_charAt_3b067_13 ?_
  obtain ⟨hz, h⟩ := ok_g h
  have h := ok_s h
  exact j_iret dJ1_charAt_3b067_14 rfl hz h
theorem c_J1_charAt_3b067 (l : Launch) (γ : Gm) (A : Nat → Prop) (ti : Nat) (hti : ti < 4) (a1 : Int32) (w : Wd) (q : Int32) (e : J1_charAt_3b067 ti a1 w = some q) : MetG l γ A yJ1_charAt_3b067 cJ1_charAt_3b067 2 (some .char) (rmk 2 43) [.ref (sV (γ) ti), .int a1] w (some (.int q)) w := by
  refine met_of pn_RJ1 (Nat.le_of_ble_eq_true rfl) ?_
  intro κ hl hγ hA hρ
  subst hl; subst hγ; subst hA
  exact t_J1_charAt_3b067 ti hti a1 w ⟨q, e, pI hρ rfl rfl⟩
theorem dJ0_charAt_5068e_0 : decode cJ0_charAt_5068e 0 = .ok (.aload_n 0, 1) := by decide +kernel
theorem dJ0_charAt_5068e_1 : decode cJ0_charAt_5068e 1 = .ok (.invokevirtual 492, 3) := by decide +kernel
theorem dJ0_charAt_5068e_4 : decode cJ0_charAt_5068e 4 = .ok (.ifCond .eq 12, 3) := by decide +kernel
theorem dJ0_charAt_5068e_7 : decode cJ0_charAt_5068e 7 = .ok (.aload_n 0, 1) := by decide +kernel
theorem dJ0_charAt_5068e_8 : decode cJ0_charAt_5068e 8 = .ok (.getfield 9, 3) := by decide +kernel
theorem dJ0_charAt_5068e_11 : decode cJ0_charAt_5068e 11 = .ok (.iload_n 1, 1) := by decide +kernel
theorem dJ0_charAt_5068e_12 : decode cJ0_charAt_5068e 12 = .ok (.invokestatic 495, 3) := by decide +kernel
theorem dJ0_charAt_5068e_15 : decode cJ0_charAt_5068e 15 = .ok (.ireturn, 1) := by decide +kernel
theorem dJ0_charAt_5068e_16 : decode cJ0_charAt_5068e 16 = .ok (.aload_n 0, 1) := by decide +kernel
theorem dJ0_charAt_5068e_17 : decode cJ0_charAt_5068e 17 = .ok (.getfield 9, 3) := by decide +kernel
theorem dJ0_charAt_5068e_20 : decode cJ0_charAt_5068e 20 = .ok (.iload_n 1, 1) := by decide +kernel
theorem dJ0_charAt_5068e_21 : decode cJ0_charAt_5068e 21 = .ok (.invokestatic 498, 3) := by decide +kernel
theorem dJ0_charAt_5068e_24 : decode cJ0_charAt_5068e 24 = .ok (.ireturn, 1) := by decide +kernel
noncomputable def J0_charAt_5068e (ti : Nat) (a1 : Int32) (w : Wd) : Option (Int32) :=
(if (J0_isLatin1_aae02 ti w) = 0 then
none
else
(J1_charAt_3b067 ti a1 w).bind fun q1 =>
gd (narrow .char (.int q1) = .int q1) <|
some q1)
set_option maxRecDepth 20000 in
set_option maxHeartbeats 1000000 in
theorem t_J0_charAt_5068e {κ : Kx} (ti : Nat) (hti : ti < 4) (a1 : Int32) (w : Wd) (h : ok (J0_charAt_5068e ti a1 w) (PI κ w)) : J κ RJ0 cJ0_charAt_5068e 2 (some .char) (rmk 3 64) 0 [(0, .ref (sK (gm κ) ti)), (1, .int a1)] [] w := by
  unfold J0_charAt_5068e at h
  refine j_aload_n 0 dJ0_charAt_5068e_0 rfl rfl ?_
  refine j_callT (As := []) (st := []) [.int (J0_isLatin1_aae02 ti w)] (c_J0_isLatin1_aae02 (kl κ) (gm κ) (kA κ) ti hti w) ck_RJ0_492 im_J0_isLatin1_aae02 se_J0_isLatin1_aae02 hti rfl ⟨rfl, rfl⟩ ⟨by decide, by decide⟩ rfl rfl (Nat.le_of_ble_eq_true rfl) dJ0_charAt_5068e_1 _ rfl ?_
  refine j_if_eq 16 dJ0_charAt_5068e_4 (by decide) h (fun h => ?_) (fun h => ?_)
  · refine j_aload_n 0 dJ0_charAt_5068e_16 rfl rfl ?_
    refine j_textV hti fw_RJ0_9 dJ0_charAt_5068e_17 ?_
    refine j_iload_n 1 dJ0_charAt_5068e_20 rfl rfl ?_
    exact ok_n h
  · refine j_aload_n 0 dJ0_charAt_5068e_7 rfl rfl ?_
    refine j_textV hti fw_RJ0_9 dJ0_charAt_5068e_8 ?_
    refine j_iload_n 1 dJ0_charAt_5068e_11 rfl rfl ?_
    obtain ⟨q1, e2, h⟩ := ok_b h
    refine j_callS (As := [.ref (sV (gm κ) ti), .int a1]) (st := []) [.int q1] (c_J1_charAt_3b067 (kl κ) (gm κ) (kA κ) ti hti a1 w q1 e2) ck_RJ0_495 st_J1_charAt_3b067 ⟨rfl, rfl⟩ ⟨by decide, by decide⟩ rfl rfl (Nat.le_of_ble_eq_true rfl) dJ0_charAt_5068e_12 _ rfl ?_
    obtain ⟨hz, h⟩ := ok_g h
    have h := ok_s h
    exact j_iret dJ0_charAt_5068e_15 rfl hz h
theorem c_J0_charAt_5068e (l : Launch) (γ : Gm) (A : Nat → Prop) (ti : Nat) (hti : ti < 4) (a1 : Int32) (w : Wd) (q : Int32) (e : J0_charAt_5068e ti a1 w = some q) : MetG l γ A yJ0_charAt_5068e cJ0_charAt_5068e 2 (some .char) (rmk 3 64) [.ref (sK (γ) ti), .int a1] w (some (.int q)) w := by
  refine met_of pn_RJ0 (Nat.le_of_ble_eq_true rfl) ?_
  intro κ hl hγ hA hρ
  subst hl; subst hγ; subst hA
  exact t_J0_charAt_5068e ti hti a1 w ⟨q, e, pI hρ rfl rfl⟩
