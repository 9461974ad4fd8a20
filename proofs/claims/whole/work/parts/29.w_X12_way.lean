theorem dX12_way_0 : decode cX12_way 0 = .ok (.iload 4, 2) := by decide +kernel
theorem dX12_way_2 : decode cX12_way 2 = .ok (.iconst (-1), 1) := by decide +kernel
theorem dX12_way_3 : decode cX12_way 3 = .ok (.if_icmp .ne 13, 3) := by decide +kernel
theorem dX12_way_6 : decode cX12_way 6 = .ok (.iload 5, 2) := by decide +kernel
theorem dX12_way_8 : decode cX12_way 8 = .ok (.iconst (-1), 1) := by decide +kernel
theorem dX12_way_9 : decode cX12_way 9 = .ok (.if_icmp .ne 7, 3) := by decide +kernel
theorem dX12_way_12 : decode cX12_way 12 = .ok (.iconst 1, 1) := by decide +kernel
theorem dX12_way_13 : decode cX12_way 13 = .ok (.goto 4, 3) := by decide +kernel
theorem dX12_way_16 : decode cX12_way 16 = .ok (.iconst 0, 1) := by decide +kernel
theorem dX12_way_17 : decode cX12_way 17 = .ok (.istore 6, 2) := by decide +kernel
theorem dX12_way_19 : decode cX12_way 19 = .ok (.aload_n 0, 1) := by decide +kernel
theorem dX12_way_20 : decode cX12_way 20 = .ok (.iload_n 1, 1) := by decide +kernel
theorem dX12_way_21 : decode cX12_way 21 = .ok (.invokevirtual 319, 3) := by decide +kernel
theorem dX12_way_24 : decode cX12_way 24 = .ok (.ifCond .eq 55, 3) := by decide +kernel
theorem dX12_way_27 : decode cX12_way 27 = .ok (.aload_n 0, 1) := by decide +kernel
theorem dX12_way_28 : decode cX12_way 28 = .ok (.iload_n 2, 1) := by decide +kernel
theorem dX12_way_29 : decode cX12_way 29 = .ok (.invokevirtual 319, 3) := by decide +kernel
theorem dX12_way_32 : decode cX12_way 32 = .ok (.ifCond .eq 47, 3) := by decide +kernel
theorem dX12_way_35 : decode cX12_way 35 = .ok (.iload_n 1, 1) := by decide +kernel
theorem dX12_way_36 : decode cX12_way 36 = .ok (.iload_n 2, 1) := by decide +kernel
theorem dX12_way_37 : decode cX12_way 37 = .ok (.if_icmp .eq 42, 3) := by decide +kernel
theorem dX12_way_40 : decode cX12_way 40 = .ok (.iload_n 3, 1) := by decide +kernel
theorem dX12_way_41 : decode cX12_way 41 = .ok (.iconst 1, 1) := by decide +kernel
theorem dX12_way_42 : decode cX12_way 42 = .ok (.if_icmp .lt 37, 3) := by decide +kernel
theorem dX12_way_45 : decode cX12_way 45 = .ok (.iload_n 3, 1) := by decide +kernel
theorem dX12_way_46 : decode cX12_way 46 = .ok (.bipush 9, 2) := by decide +kernel
theorem dX12_way_48 : decode cX12_way 48 = .ok (.if_icmp .gt 31, 3) := by decide +kernel
theorem dX12_way_51 : decode cX12_way 51 = .ok (.iload 6, 2) := by decide +kernel
theorem dX12_way_53 : decode cX12_way 53 = .ok (.ifCond .ne 32, 3) := by decide +kernel
theorem dX12_way_56 : decode cX12_way 56 = .ok (.iload 4, 2) := by decide +kernel
theorem dX12_way_58 : decode cX12_way 58 = .ok (.invokestatic 322, 3) := by decide +kernel
theorem dX12_way_61 : decode cX12_way 61 = .ok (.ifCond .eq 18, 3) := by decide +kernel
theorem dX12_way_64 : decode cX12_way 64 = .ok (.iload 5, 2) := by decide +kernel
theorem dX12_way_66 : decode cX12_way 66 = .ok (.invokestatic 322, 3) := by decide +kernel
theorem dX12_way_69 : decode cX12_way 69 = .ok (.ifCond .eq 10, 3) := by decide +kernel
theorem dX12_way_72 : decode cX12_way 72 = .ok (.iload 5, 2) := by decide +kernel
theorem dX12_way_74 : decode cX12_way 74 = .ok (.iload 4, 2) := by decide +kernel
theorem dX12_way_76 : decode cX12_way 76 = .ok (.if_icmp .ge 9, 3) := by decide +kernel
theorem dX12_way_79 : decode cX12_way 79 = .ok (.aload_n 0, 1) := by decide +kernel
theorem dX12_way_80 : decode cX12_way 80 = .ok (.iconst 1, 1) := by decide +kernel
theorem dX12_way_81 : decode cX12_way 81 = .ok (.invokevirtual 312, 3) := by decide +kernel
theorem dX12_way_84 : decode cX12_way 84 = .ok (.ireturn, 1) := by decide +kernel
theorem dX12_way_85 : decode cX12_way 85 = .ok (.aload_n 0, 1) := by decide +kernel
theorem dX12_way_86 : decode cX12_way 86 = .ok (.getfield 325, 3) := by decide +kernel
theorem dX12_way_89 : decode cX12_way 89 = .ok (.bipush 30, 2) := by decide +kernel
theorem dX12_way_91 : decode cX12_way 91 = .ok (.if_icmp .ne 9, 3) := by decide +kernel
theorem dX12_way_94 : decode cX12_way 94 = .ok (.aload_n 0, 1) := by decide +kernel
theorem dX12_way_95 : decode cX12_way 95 = .ok (.iconst 4, 1) := by decide +kernel
theorem dX12_way_96 : decode cX12_way 96 = .ok (.invokevirtual 312, 3) := by decide +kernel
theorem dX12_way_99 : decode cX12_way 99 = .ok (.ireturn, 1) := by decide +kernel
theorem dX12_way_100 : decode cX12_way 100 = .ok (.iconst 0, 1) := by decide +kernel
theorem dX12_way_101 : decode cX12_way 101 = .ok (.istore 7, 2) := by decide +kernel
theorem dX12_way_103 : decode cX12_way 103 = .ok (.iload 7, 2) := by decide +kernel
theorem dX12_way_105 : decode cX12_way 105 = .ok (.aload_n 0, 1) := by decide +kernel
theorem dX12_way_106 : decode cX12_way 106 = .ok (.getfield 325, 3) := by decide +kernel
theorem dX12_way_109 : decode cX12_way 109 = .ok (.if_icmp .ge 60, 3) := by decide +kernel
theorem dX12_way_112 : decode cX12_way 112 = .ok (.aload_n 0, 1) := by decide +kernel
theorem dX12_way_113 : decode cX12_way 113 = .ok (.getfield 27, 3) := by decide +kernel
theorem dX12_way_116 : decode cX12_way 116 = .ok (.iload 7, 2) := by decide +kernel
theorem dX12_way_118 : decode cX12_way 118 = .ok (.iaload, 1) := by decide +kernel
theorem dX12_way_119 : decode cX12_way 119 = .ok (.iload_n 1, 1) := by decide +kernel
theorem dX12_way_120 : decode cX12_way 120 = .ok (.if_icmp .ne 14, 3) := by decide +kernel
theorem dX12_way_123 : decode cX12_way 123 = .ok (.aload_n 0, 1) := by decide +kernel
theorem dX12_way_124 : decode cX12_way 124 = .ok (.getfield 30, 3) := by decide +kernel
theorem dX12_way_127 : decode cX12_way 127 = .ok (.iload 7, 2) := by decide +kernel
theorem dX12_way_129 : decode cX12_way 129 = .ok (.iaload, 1) := by decide +kernel
theorem dX12_way_130 : decode cX12_way 130 = .ok (.iload_n 2, 1) := by decide +kernel
theorem dX12_way_131 : decode cX12_way 131 = .ok (.if_icmp .eq 25, 3) := by decide +kernel
theorem dX12_way_134 : decode cX12_way 134 = .ok (.aload_n 0, 1) := by decide +kernel
theorem dX12_way_135 : decode cX12_way 135 = .ok (.getfield 27, 3) := by decide +kernel
theorem dX12_way_138 : decode cX12_way 138 = .ok (.iload 7, 2) := by decide +kernel
theorem dX12_way_140 : decode cX12_way 140 = .ok (.iaload, 1) := by decide +kernel
theorem dX12_way_141 : decode cX12_way 141 = .ok (.iload_n 2, 1) := by decide +kernel
theorem dX12_way_142 : decode cX12_way 142 = .ok (.if_icmp .ne 21, 3) := by decide +kernel
theorem dX12_way_145 : decode cX12_way 145 = .ok (.aload_n 0, 1) := by decide +kernel
theorem dX12_way_146 : decode cX12_way 146 = .ok (.getfield 30, 3) := by decide +kernel
theorem dX12_way_149 : decode cX12_way 149 = .ok (.iload 7, 2) := by decide +kernel
theorem dX12_way_151 : decode cX12_way 151 = .ok (.iaload, 1) := by decide +kernel
theorem dX12_way_152 : decode cX12_way 152 = .ok (.iload_n 1, 1) := by decide +kernel
theorem dX12_way_153 : decode cX12_way 153 = .ok (.if_icmp .ne 10, 3) := by decide +kernel
theorem dX12_way_156 : decode cX12_way 156 = .ok (.aload_n 0, 1) := by decide +kernel
theorem dX12_way_157 : decode cX12_way 157 = .ok (.bipush 7, 2) := by decide +kernel
theorem dX12_way_159 : decode cX12_way 159 = .ok (.invokevirtual 312, 3) := by decide +kernel
theorem dX12_way_162 : decode cX12_way 162 = .ok (.ireturn, 1) := by decide +kernel
theorem dX12_way_163 : decode cX12_way 163 = .ok (.iinc 7 1, 3) := by decide +kernel
theorem dX12_way_166 : decode cX12_way 166 = .ok (.goto (-63), 3) := by decide +kernel
theorem dX12_way_169 : decode cX12_way 169 = .ok (.aload_n 0, 1) := by decide +kernel
theorem dX12_way_170 : decode cX12_way 170 = .ok (.getfield 27, 3) := by decide +kernel
theorem dX12_way_173 : decode cX12_way 173 = .ok (.aload_n 0, 1) := by decide +kernel
theorem dX12_way_174 : decode cX12_way 174 = .ok (.getfield 325, 3) := by decide +kernel
theorem dX12_way_177 : decode cX12_way 177 = .ok (.iload_n 1, 1) := by decide +kernel
theorem dX12_way_178 : decode cX12_way 178 = .ok (.iastore, 1) := by decide +kernel
theorem dX12_way_179 : decode cX12_way 179 = .ok (.aload_n 0, 1) := by decide +kernel
theorem dX12_way_180 : decode cX12_way 180 = .ok (.getfield 30, 3) := by decide +kernel
theorem dX12_way_183 : decode cX12_way 183 = .ok (.aload_n 0, 1) := by decide +kernel
theorem dX12_way_184 : decode cX12_way 184 = .ok (.getfield 325, 3) := by decide +kernel
theorem dX12_way_187 : decode cX12_way 187 = .ok (.iload_n 2, 1) := by decide +kernel
theorem dX12_way_188 : decode cX12_way 188 = .ok (.iastore, 1) := by decide +kernel
theorem dX12_way_189 : decode cX12_way 189 = .ok (.aload_n 0, 1) := by decide +kernel
theorem dX12_way_190 : decode cX12_way 190 = .ok (.getfield 33, 3) := by decide +kernel
theorem dX12_way_193 : decode cX12_way 193 = .ok (.aload_n 0, 1) := by decide +kernel
theorem dX12_way_194 : decode cX12_way 194 = .ok (.getfield 325, 3) := by decide +kernel
theorem dX12_way_197 : decode cX12_way 197 = .ok (.iload_n 3, 1) := by decide +kernel
theorem dX12_way_198 : decode cX12_way 198 = .ok (.iastore, 1) := by decide +kernel
theorem dX12_way_199 : decode cX12_way 199 = .ok (.aload_n 0, 1) := by decide +kernel
theorem dX12_way_200 : decode cX12_way 200 = .ok (.getfield 36, 3) := by decide +kernel
theorem dX12_way_203 : decode cX12_way 203 = .ok (.aload_n 0, 1) := by decide +kernel
theorem dX12_way_204 : decode cX12_way 204 = .ok (.getfield 325, 3) := by decide +kernel
theorem dX12_way_207 : decode cX12_way 207 = .ok (.iload 4, 2) := by decide +kernel
theorem dX12_way_209 : decode cX12_way 209 = .ok (.iastore, 1) := by decide +kernel
theorem dX12_way_210 : decode cX12_way 210 = .ok (.aload_n 0, 1) := by decide +kernel
theorem dX12_way_211 : decode cX12_way 211 = .ok (.getfield 39, 3) := by decide +kernel
theorem dX12_way_214 : decode cX12_way 214 = .ok (.aload_n 0, 1) := by decide +kernel
theorem dX12_way_215 : decode cX12_way 215 = .ok (.getfield 325, 3) := by decide +kernel
theorem dX12_way_218 : decode cX12_way 218 = .ok (.iload 5, 2) := by decide +kernel
theorem dX12_way_220 : decode cX12_way 220 = .ok (.iastore, 1) := by decide +kernel
theorem dX12_way_221 : decode cX12_way 221 = .ok (.aload_n 0, 1) := by decide +kernel
theorem dX12_way_222 : decode cX12_way 222 = .ok (.dup, 1) := by decide +kernel
theorem dX12_way_223 : decode cX12_way 223 = .ok (.getfield 325, 3) := by decide +kernel
theorem dX12_way_226 : decode cX12_way 226 = .ok (.iconst 1, 1) := by decide +kernel
theorem dX12_way_227 : decode cX12_way 227 = .ok (.iadd, 1) := by decide +kernel
theorem dX12_way_228 : decode cX12_way 228 = .ok (.putfield 325, 3) := by decide +kernel
theorem dX12_way_231 : decode cX12_way 231 = .ok (.aload_n 0, 1) := by decide +kernel
theorem dX12_way_232 : decode cX12_way 232 = .ok (.aload_n 0, 1) := by decide +kernel
theorem dX12_way_233 : decode cX12_way 233 = .ok (.getfield 325, 3) := by decide +kernel
theorem dX12_way_236 : decode cX12_way 236 = .ok (.iconst 1, 1) := by decide +kernel
theorem dX12_way_237 : decode cX12_way 237 = .ok (.isub, 1) := by decide +kernel
theorem dX12_way_238 : decode cX12_way 238 = .ok (.invokevirtual 316, 3) := by decide +kernel
theorem dX12_way_241 : decode cX12_way 241 = .ok (.ireturn, 1) := by decide +kernel
noncomputable def X12_way_j79 (w : Wd) : Option (Int32 × Wd) :=
(X12_refuse (1 : Int32) w).bind fun q1 =>
some (q1.1, q1.2)
set_option maxRecDepth 20000 in
set_option maxHeartbeats 1000000 in
theorem t_X12_way_j79 {κ : Kx} (w : Wd) (h : ok (X12_way_j79  w) (PIw κ)) : J κ RX12 cX12_way 8 (some .int) (rmk 1 21) 79 [(0, .ref (ad (gm κ) 97))] [] w := by
  unfold X12_way_j79 at h
  refine j_aload_n 0 dX12_way_79 rfl rfl ?_
  refine j_iconst (1 : Int32) dX12_way_80 ki_1 ?_
  obtain ⟨q1, e2, h⟩ := ok_b h
  refine j_callV (As := [.int (1 : Int32)]) (st := []) [.int q1.1] (c_X12_refuse (kl κ) (gm κ) (kA κ) (1 : Int32) w q1 e2) ck_RX12_312 im_X12_refuse se_X12_refuse sh_97 cx_12 ⟨rfl, rfl⟩ ⟨by decide, by decide⟩ rfl rfl (Nat.le_of_ble_eq_true rfl) dX12_way_81 _ rfl ?_
  have h := ok_s h
  exact j_iret dX12_way_84 rfl rfl h
noncomputable def X12_way_j163 (a1 : Int32) (a2 : Int32) (a3 : Int32) (a4 : Int32) (a5 : Int32) (a7 : Int32) (w : Wd) : Option (Int32 ⊕ (Unit ⊕ Unit)) :=
some (.inl (a7 + (1 : Int32)))
set_option maxRecDepth 20000 in
set_option maxHeartbeats 1000000 in
theorem t_X12_way_j163 {κ : Kx} (a1 : Int32) (a2 : Int32) (a3 : Int32) (a4 : Int32) (a5 : Int32) (a7 : Int32) (w : Wd) {G : Int32 → Prop} {P : (Unit ⊕ Unit) → Prop} (KG : ∀ s, G s → J κ RX12 cX12_way 8 (some .int) (rmk 1 21) 103 [(0, .ref (ad (gm κ) 97)), (1, .int a1), (2, .int a2), (3, .int a3), (4, .int a4), (5, .int a5), (7, .int s)] [] w) (K0 : ∀ e, P (.inl e) → J κ RX12 cX12_way 8 (some .int) (rmk 1 21) 156 [(0, .ref (ad (gm κ) 97))] [] w) (K1 : ∀ e, P (.inr e) → J κ RX12 cX12_way 8 (some .int) (rmk 1 21) 169 [(0, .ref (ad (gm κ) 97)), (1, .int a1), (2, .int a2), (3, .int a3), (4, .int a4), (5, .int a5)] [] w) (h : ok (X12_way_j163  a1 a2 a3 a4 a5 a7 w) (sel G P)) : J κ RX12 cX12_way 8 (some .int) (rmk 1 21) 163 [(0, .ref (ad (gm κ) 97)), (1, .int a1), (2, .int a2), (3, .int a3), (4, .int a4), (5, .int a5), (7, .int a7)] [] w := by
  unfold X12_way_j163 at h
  refine j_iinc (a7 + (1 : Int32)) 6 [(7, .int (a7 + (1 : Int32))), (0, .ref (ad (gm κ) 97)), (1, .int a1), (2, .int a2), (3, .int a3), (4, .int a4), (5, .int a5)] dX12_way_163 rfl (by rw [kn_1]) (by decide) rfl ?_
  refine j_goto 103 dX12_way_166 (by decide) ?_
  refine j_loc [(0, .ref (ad (gm κ) 97)), (1, .int a1), (2, .int a2), (3, .int a3), (4, .int a4), (5, .int a5), (7, .int (a7 + (1 : Int32)))] [1, 2, 3, 4, 5, 6, 0] rfl ?_
  have h := sel_l h
  have h := KG _ h
  exact h
noncomputable def X12_way_j134 (a1 : Int32) (a2 : Int32) (a3 : Int32) (a4 : Int32) (a5 : Int32) (a7 : Int32) (w : Wd) : Option (Int32 ⊕ (Unit ⊕ Unit)) :=
gd (vp_in a7 30) <|
(if (w.1 102 (ix a7)) = a2 then
gd (vp_in a7 30) <|
(if (w.1 103 (ix a7)) = a1 then
some (.inr (.inl ()))
else
X12_way_j163 a1 a2 a3 a4 a5 a7 w)
else
X12_way_j163 a1 a2 a3 a4 a5 a7 w)
set_option maxRecDepth 20000 in
set_option maxHeartbeats 1000000 in
theorem t_X12_way_j134 {κ : Kx} (a1 : Int32) (a2 : Int32) (a3 : Int32) (a4 : Int32) (a5 : Int32) (a7 : Int32) (w : Wd) {G : Int32 → Prop} {P : (Unit ⊕ Unit) → Prop} (KG : ∀ s, G s → J κ RX12 cX12_way 8 (some .int) (rmk 1 21) 103 [(0, .ref (ad (gm κ) 97)), (1, .int a1), (2, .int a2), (3, .int a3), (4, .int a4), (5, .int a5), (7, .int s)] [] w) (K0 : ∀ e, P (.inl e) → J κ RX12 cX12_way 8 (some .int) (rmk 1 21) 156 [(0, .ref (ad (gm κ) 97))] [] w) (K1 : ∀ e, P (.inr e) → J κ RX12 cX12_way 8 (some .int) (rmk 1 21) 169 [(0, .ref (ad (gm κ) 97)), (1, .int a1), (2, .int a2), (3, .int a3), (4, .int a4), (5, .int a5)] [] w) (h : ok (X12_way_j134  a1 a2 a3 a4 a5 a7 w) (sel G P)) : J κ RX12 cX12_way 8 (some .int) (rmk 1 21) 134 [(0, .ref (ad (gm κ) 97)), (1, .int a1), (2, .int a2), (3, .int a3), (4, .int a4), (5, .int a5), (7, .int a7)] [] w := by
  unfold X12_way_j134 at h
  refine j_aload_n 0 dX12_way_134 rfl rfl ?_
  refine j_getA 102 fl_RX12_27 sh_97 fk_97_13 (by decide) dX12_way_135 ?_
  refine j_iload 6 dX12_way_138 rfl ?_
  refine j_iald sh_102 dX12_way_140 h (fun h => ?_)
  refine j_iload_n 2 dX12_way_141 rfl rfl ?_
  refine j_ic_ne 163 dX12_way_142 (by decide) h (fun h => ?_) (fun h => ?_)
  · refine j_loc [(0, .ref (ad (gm κ) 97)), (1, .int a1), (2, .int a2), (3, .int a3), (4, .int a4), (5, .int a5), (7, .int a7)] [0, 1, 2, 3, 4, 5, 6] rfl ?_
    exact t_X12_way_j163 a1 a2 a3 a4 a5 a7 w KG K0 K1 h
  · refine j_aload_n 0 dX12_way_145 rfl rfl ?_
    refine j_getA 103 fl_RX12_30 sh_97 fk_97_14 (by decide) dX12_way_146 ?_
    refine j_iload 6 dX12_way_149 rfl ?_
    refine j_iald sh_103 dX12_way_151 h (fun h => ?_)
    refine j_iload_n 1 dX12_way_152 rfl rfl ?_
    refine j_ic_ne 163 dX12_way_153 (by decide) h (fun h => ?_) (fun h => ?_)
    · refine j_loc [(0, .ref (ad (gm κ) 97)), (1, .int a1), (2, .int a2), (3, .int a3), (4, .int a4), (5, .int a5), (7, .int a7)] [0, 1, 2, 3, 4, 5, 6] rfl ?_
      exact t_X12_way_j163 a1 a2 a3 a4 a5 a7 w KG K0 K1 h
    · refine j_loc [(0, .ref (ad (gm κ) 97))] [0] rfl ?_
      have h := sel_r h
      have h := K0 _ h
      exact h
noncomputable def X12_way_b103 (a1 : Int32) (a2 : Int32) (a3 : Int32) (a4 : Int32) (a5 : Int32) (w : Wd) (s : Int32) : Option (Int32 ⊕ (Unit ⊕ Unit)) :=
(if (w.1 97 5) ≤ s then
some (.inr (.inr ()))
else
gd (vp_in s 30) <|
(if (w.1 102 (ix s)) = a1 then
gd (vp_in s 30) <|
(if (w.1 103 (ix s)) = a2 then
some (.inr (.inl ()))
else
X12_way_j134 a1 a2 a3 a4 a5 s w)
else
X12_way_j134 a1 a2 a3 a4 a5 s w))
set_option maxRecDepth 20000 in
set_option maxHeartbeats 1000000 in
theorem t_X12_way_b103 {κ : Kx} (a1 : Int32) (a2 : Int32) (a3 : Int32) (a4 : Int32) (a5 : Int32) (w : Wd) {P : (Unit ⊕ Unit) → Prop} (K0 : ∀ e, P (.inl e) → J κ RX12 cX12_way 8 (some .int) (rmk 1 21) 156 [(0, .ref (ad (gm κ) 97))] [] w) (K1 : ∀ e, P (.inr e) → J κ RX12 cX12_way 8 (some .int) (rmk 1 21) 169 [(0, .ref (ad (gm κ) 97)), (1, .int a1), (2, .int a2), (3, .int a3), (4, .int a4), (5, .int a5)] [] w) (s : Int32) (h : ok (lp (X12_way_b103  a1 a2 a3 a4 a5 w) s) P) : J κ RX12 cX12_way 8 (some .int) (rmk 1 21) 103 [(0, .ref (ad (gm κ) 97)), (1, .int a1), (2, .int a2), (3, .int a3), (4, .int a4), (5, .int a5), (7, .int s)] [] w := by
  refine lp_ind (fun s => J κ RX12 cX12_way 8 (some .int) (rmk 1 21) 103 [(0, .ref (ad (gm κ) 97)), (1, .int a1), (2, .int a2), (3, .int a3), (4, .int a4), (5, .int a5), (7, .int s)] [] w) (fun s h => ?_) s h
  unfold X12_way_b103 at h
  refine j_iload 6 dX12_way_103 rfl ?_
  refine j_aload_n 0 dX12_way_105 rfl rfl ?_
  refine j_getI fl_RX12_325 sh_97 fk_97_5 dX12_way_106 ?_
  refine j_ic_ge 169 dX12_way_109 (by decide) h (fun h => ?_) (fun h => ?_)
  · refine j_loc [(0, .ref (ad (gm κ) 97)), (1, .int a1), (2, .int a2), (3, .int a3), (4, .int a4), (5, .int a5)] [0, 1, 2, 3, 4, 5] rfl ?_
    have h := sel_r h
    have h := K1 _ h
    exact h
  · refine j_aload_n 0 dX12_way_112 rfl rfl ?_
    refine j_getA 102 fl_RX12_27 sh_97 fk_97_13 (by decide) dX12_way_113 ?_
    refine j_iload 6 dX12_way_116 rfl ?_
    refine j_iald sh_102 dX12_way_118 h (fun h => ?_)
    refine j_iload_n 1 dX12_way_119 rfl rfl ?_
    refine j_ic_ne 134 dX12_way_120 (by decide) h (fun h => ?_) (fun h => ?_)
    · refine j_loc [(0, .ref (ad (gm κ) 97)), (1, .int a1), (2, .int a2), (3, .int a3), (4, .int a4), (5, .int a5), (7, .int s)] [0, 1, 2, 3, 4, 5, 6] rfl ?_
      exact t_X12_way_j134 a1 a2 a3 a4 a5 s w (fun _ h => h) K0 K1 h
    · refine j_aload_n 0 dX12_way_123 rfl rfl ?_
      refine j_getA 103 fl_RX12_30 sh_97 fk_97_14 (by decide) dX12_way_124 ?_
      refine j_iload 6 dX12_way_127 rfl ?_
      refine j_iald sh_103 dX12_way_129 h (fun h => ?_)
      refine j_iload_n 2 dX12_way_130 rfl rfl ?_
      refine j_ic_eq 156 dX12_way_131 (by decide) h (fun h => ?_) (fun h => ?_)
      · refine j_loc [(0, .ref (ad (gm κ) 97))] [0] rfl ?_
        have h := sel_r h
        have h := K0 _ h
        exact h
      · refine j_loc [(0, .ref (ad (gm κ) 97)), (1, .int a1), (2, .int a2), (3, .int a3), (4, .int a4), (5, .int a5), (7, .int s)] [0, 1, 2, 3, 4, 5, 6] rfl ?_
        exact t_X12_way_j134 a1 a2 a3 a4 a5 s w (fun _ h => h) K0 K1 h
noncomputable def X12_way_j85 (a1 : Int32) (a2 : Int32) (a3 : Int32) (a4 : Int32) (a5 : Int32) (w : Wd) : Option (Int32 × Wd) :=
(if (w.1 97 5) = (30 : Int32) then
(X12_refuse (4 : Int32) w).bind fun q16 =>
some (q16.1, q16.2)
else
(lp (X12_way_b103 a1 a2 a3 a4 a5 w) (0 : Int32)).bind fun e3 => match e3 with
| (.inl e4) => ((X12_refuse (7 : Int32) w).bind fun q5 =>
some (q5.1, q5.2))
| (.inr e7) => (gd (vp_in (w.1 97 5) 30) <|
(some (puI w 102 (ix (w.1 97 5)) a1)).bind fun w8 =>
gd (vp_in (w8.1 97 5) 30) <|
(some (puI w8 103 (ix (w8.1 97 5)) a2)).bind fun w9 =>
gd (vp_in (w9.1 97 5) 30) <|
(some (puI w9 104 (ix (w9.1 97 5)) a3)).bind fun w10 =>
gd (vp_in (w10.1 97 5) 30) <|
(some (puI w10 105 (ix (w10.1 97 5)) a4)).bind fun w11 =>
gd (vp_in (w11.1 97 5) 30) <|
(some (puI w11 106 (ix (w11.1 97 5)) a5)).bind fun w12 =>
(some (puI w12 97 5 ((w12.1 97 5) + (1 : Int32)))).bind fun w13 =>
(X12_gives ((w13.1 97 5) - (1 : Int32)) w13).bind fun q14 =>
some (q14.1, q14.2)))
set_option maxRecDepth 20000 in
set_option maxHeartbeats 1000000 in
theorem t_X12_way_j85 {κ : Kx} (a1 : Int32) (a2 : Int32) (a3 : Int32) (a4 : Int32) (a5 : Int32) (w : Wd) (h : ok (X12_way_j85  a1 a2 a3 a4 a5 w) (PIw κ)) : J κ RX12 cX12_way 8 (some .int) (rmk 1 21) 85 [(0, .ref (ad (gm κ) 97)), (1, .int a1), (2, .int a2), (3, .int a3), (4, .int a4), (5, .int a5)] [] w := by
  unfold X12_way_j85 at h
  refine j_aload_n 0 dX12_way_85 rfl rfl ?_
  refine j_getI fl_RX12_325 sh_97 fk_97_5 dX12_way_86 ?_
  refine j_bipush (30 : Int32) dX12_way_89 kb_30 ?_
  refine j_ic_ne 100 dX12_way_91 (by decide) h (fun h => ?_) (fun h => ?_)
  · refine j_iconst (0 : Int32) dX12_way_100 ki_0 ?_
    refine j_istore [(7, .int (0 : Int32)), (0, .ref (ad (gm κ) 97)), (1, .int a1), (2, .int a2), (3, .int a3), (4, .int a4), (5, .int a5)] dX12_way_101 (by decide) rfl ?_
    refine j_loc [(0, .ref (ad (gm κ) 97)), (1, .int a1), (2, .int a2), (3, .int a3), (4, .int a4), (5, .int a5), (7, .int (0 : Int32))] [1, 2, 3, 4, 5, 6, 0] rfl ?_
    refine t_X12_way_b103 a1 a2 a3 a4 a5 w (fun e4 h => ?_) (fun e7 h => ?_) (0 : Int32) (ok_bb h)
    · refine j_aload_n 0 dX12_way_156 rfl rfl ?_
      refine j_bipush (7 : Int32) dX12_way_157 kb_7 ?_
      obtain ⟨q5, e6, h⟩ := ok_b h
      refine j_callV (As := [.int (7 : Int32)]) (st := []) [.int q5.1] (c_X12_refuse (kl κ) (gm κ) (kA κ) (7 : Int32) w q5 e6) ck_RX12_312 im_X12_refuse se_X12_refuse sh_97 cx_12 ⟨rfl, rfl⟩ ⟨by decide, by decide⟩ rfl rfl (Nat.le_of_ble_eq_true rfl) dX12_way_159 _ rfl ?_
      have h := ok_s h
      exact j_iret dX12_way_162 rfl rfl h
    · refine j_aload_n 0 dX12_way_169 rfl rfl ?_
      refine j_getA 102 fl_RX12_27 sh_97 fk_97_13 (by decide) dX12_way_170 ?_
      refine j_aload_n 0 dX12_way_173 rfl rfl ?_
      refine j_getI fl_RX12_325 sh_97 fk_97_5 dX12_way_174 ?_
      refine j_iload_n 1 dX12_way_177 rfl rfl ?_
      refine j_iast sh_102 dX12_way_178 h (fun h => ?_)
      refine j_lW h (fun w8 h => ?_)
      refine j_aload_n 0 dX12_way_179 rfl rfl ?_
      refine j_getA 103 fl_RX12_30 sh_97 fk_97_14 (by decide) dX12_way_180 ?_
      refine j_aload_n 0 dX12_way_183 rfl rfl ?_
      refine j_getI fl_RX12_325 sh_97 fk_97_5 dX12_way_184 ?_
      refine j_iload_n 2 dX12_way_187 rfl rfl ?_
      refine j_iast sh_103 dX12_way_188 h (fun h => ?_)
      refine j_lW h (fun w9 h => ?_)
      refine j_aload_n 0 dX12_way_189 rfl rfl ?_
      refine j_getA 104 fl_RX12_33 sh_97 fk_97_15 (by decide) dX12_way_190 ?_
      refine j_aload_n 0 dX12_way_193 rfl rfl ?_
      refine j_getI fl_RX12_325 sh_97 fk_97_5 dX12_way_194 ?_
      refine j_iload_n 3 dX12_way_197 rfl rfl ?_
      refine j_iast sh_104 dX12_way_198 h (fun h => ?_)
      refine j_lW h (fun w10 h => ?_)
      refine j_aload_n 0 dX12_way_199 rfl rfl ?_
      refine j_getA 105 fl_RX12_36 sh_97 fk_97_16 (by decide) dX12_way_200 ?_
      refine j_aload_n 0 dX12_way_203 rfl rfl ?_
      refine j_getI fl_RX12_325 sh_97 fk_97_5 dX12_way_204 ?_
      refine j_iload 4 dX12_way_207 rfl ?_
      refine j_iast sh_105 dX12_way_209 h (fun h => ?_)
      refine j_lW h (fun w11 h => ?_)
      refine j_aload_n 0 dX12_way_210 rfl rfl ?_
      refine j_getA 106 fl_RX12_39 sh_97 fk_97_17 (by decide) dX12_way_211 ?_
      refine j_aload_n 0 dX12_way_214 rfl rfl ?_
      refine j_getI fl_RX12_325 sh_97 fk_97_5 dX12_way_215 ?_
      refine j_iload 5 dX12_way_218 rfl ?_
      refine j_iast sh_106 dX12_way_220 h (fun h => ?_)
      refine j_lW h (fun w12 h => ?_)
      refine j_aload_n 0 dX12_way_221 rfl rfl ?_
      refine j_dup dX12_way_222 rfl ?_
      refine j_getI fl_RX12_325 sh_97 fk_97_5 dX12_way_223 ?_
      refine j_iconst (1 : Int32) dX12_way_226 ki_1 ?_
      refine j_iadd dX12_way_227 ?_
      refine j_putI fp_RX12_325 sh_97 fk_97_5 dX12_way_228 ?_
      refine j_lW h (fun w13 h => ?_)
      refine j_aload_n 0 dX12_way_231 rfl rfl ?_
      refine j_aload_n 0 dX12_way_232 rfl rfl ?_
      refine j_getI fl_RX12_325 sh_97 fk_97_5 dX12_way_233 ?_
      refine j_iconst (1 : Int32) dX12_way_236 ki_1 ?_
      refine j_isub dX12_way_237 ?_
      obtain ⟨q14, e15, h⟩ := ok_b h
      refine j_callV (As := [.int ((w13.1 97 5) - (1 : Int32))]) (st := []) [.int q14.1] (c_X12_gives (kl κ) (gm κ) (kA κ) ((w13.1 97 5) - (1 : Int32)) w13 q14 e15) ck_RX12_316 im_X12_gives se_X12_gives sh_97 cx_12 ⟨rfl, rfl⟩ ⟨by decide, by decide⟩ rfl rfl (Nat.le_of_ble_eq_true rfl) dX12_way_238 _ rfl ?_
      have h := ok_s h
      exact j_iret dX12_way_241 rfl rfl h
  · refine j_aload_n 0 dX12_way_94 rfl rfl ?_
    refine j_iconst (4 : Int32) dX12_way_95 ki_4 ?_
    obtain ⟨q16, e17, h⟩ := ok_b h
    refine j_callV (As := [.int (4 : Int32)]) (st := []) [.int q16.1] (c_X12_refuse (kl κ) (gm κ) (kA κ) (4 : Int32) w q16 e17) ck_RX12_312 im_X12_refuse se_X12_refuse sh_97 cx_12 ⟨rfl, rfl⟩ ⟨by decide, by decide⟩ rfl rfl (Nat.le_of_ble_eq_true rfl) dX12_way_96 _ rfl ?_
    have h := ok_s h
    exact j_iret dX12_way_99 rfl rfl h
noncomputable def X12_way_j17 (a1 : Int32) (a2 : Int32) (a3 : Int32) (a4 : Int32) (a5 : Int32) (s0 : Int32) (w : Wd) : Option (Int32 × Wd) :=
(if (X12_isPlace a1 w) = 0 then
X12_way_j79 w
else
(if (X12_isPlace a2 w) = 0 then
X12_way_j79 w
else
(if a1 = a2 then
X12_way_j79 w
else
(if a3 < (1 : Int32) then
X12_way_j79 w
else
(if (9 : Int32) < a3 then
X12_way_j79 w
else
(if s0 = 0 then
(if (X12_isWeek a4 w) = 0 then
X12_way_j79 w
else
(if (X12_isWeek a5 w) = 0 then
X12_way_j79 w
else
(if a4 ≤ a5 then
X12_way_j85 a1 a2 a3 a4 a5 w
else
X12_way_j79 w)))
else
X12_way_j85 a1 a2 a3 a4 a5 w))))))
set_option maxRecDepth 20000 in
set_option maxHeartbeats 1000000 in
theorem t_X12_way_j17 {κ : Kx} (a1 : Int32) (a2 : Int32) (a3 : Int32) (a4 : Int32) (a5 : Int32) (s0 : Int32) (w : Wd) (h : ok (X12_way_j17  a1 a2 a3 a4 a5 s0 w) (PIw κ)) : J κ RX12 cX12_way 8 (some .int) (rmk 1 21) 17 [(0, .ref (ad (gm κ) 97)), (1, .int a1), (2, .int a2), (3, .int a3), (4, .int a4), (5, .int a5)] [.int s0] w := by
  unfold X12_way_j17 at h
  refine j_istore [(6, .int s0), (0, .ref (ad (gm κ) 97)), (1, .int a1), (2, .int a2), (3, .int a3), (4, .int a4), (5, .int a5)] dX12_way_17 (by decide) rfl ?_
  refine j_aload_n 1 dX12_way_19 rfl rfl ?_
  refine j_iload_n 2 dX12_way_20 rfl rfl ?_
  refine j_callV (As := [.int a1]) (st := []) [.int (X12_isPlace a1 w)] (c_X12_isPlace (kl κ) (gm κ) (kA κ) a1 w) ck_RX12_319 im_X12_isPlace se_X12_isPlace sh_97 cx_12 ⟨rfl, rfl⟩ ⟨by decide, by decide⟩ rfl rfl (Nat.le_of_ble_eq_true rfl) dX12_way_21 _ rfl ?_
  refine j_if_eq 79 dX12_way_24 (by decide) h (fun h => ?_) (fun h => ?_)
  · refine j_loc [(0, .ref (ad (gm κ) 97))] [1] rfl ?_
    exact t_X12_way_j79 w h
  · refine j_aload_n 1 dX12_way_27 rfl rfl ?_
    refine j_iload_n 3 dX12_way_28 rfl rfl ?_
    refine j_callV (As := [.int a2]) (st := []) [.int (X12_isPlace a2 w)] (c_X12_isPlace (kl κ) (gm κ) (kA κ) a2 w) ck_RX12_319 im_X12_isPlace se_X12_isPlace sh_97 cx_12 ⟨rfl, rfl⟩ ⟨by decide, by decide⟩ rfl rfl (Nat.le_of_ble_eq_true rfl) dX12_way_29 _ rfl ?_
    refine j_if_eq 79 dX12_way_32 (by decide) h (fun h => ?_) (fun h => ?_)
    · refine j_loc [(0, .ref (ad (gm κ) 97))] [1] rfl ?_
      exact t_X12_way_j79 w h
    · refine j_iload_n 2 dX12_way_35 rfl rfl ?_
      refine j_iload_n 3 dX12_way_36 rfl rfl ?_
      refine j_ic_eq 79 dX12_way_37 (by decide) h (fun h => ?_) (fun h => ?_)
      · refine j_loc [(0, .ref (ad (gm κ) 97))] [1] rfl ?_
        exact t_X12_way_j79 w h
      · refine j_iload_n 4 dX12_way_40 rfl rfl ?_
        refine j_iconst (1 : Int32) dX12_way_41 ki_1 ?_
        refine j_ic_lt 79 dX12_way_42 (by decide) h (fun h => ?_) (fun h => ?_)
        · refine j_loc [(0, .ref (ad (gm κ) 97))] [1] rfl ?_
          exact t_X12_way_j79 w h
        · refine j_iload_n 4 dX12_way_45 rfl rfl ?_
          refine j_bipush (9 : Int32) dX12_way_46 kb_9 ?_
          refine j_ic_gt 79 dX12_way_48 (by decide) h (fun h => ?_) (fun h => ?_)
          · refine j_loc [(0, .ref (ad (gm κ) 97))] [1] rfl ?_
            exact t_X12_way_j79 w h
          · refine j_iload 0 dX12_way_51 rfl ?_
            refine j_if_ne 85 dX12_way_53 (by decide) h (fun h => ?_) (fun h => ?_)
            · refine j_loc [(0, .ref (ad (gm κ) 97)), (1, .int a1), (2, .int a2), (3, .int a3), (4, .int a4), (5, .int a5)] [1, 2, 3, 4, 5, 6] rfl ?_
              exact t_X12_way_j85 a1 a2 a3 a4 a5 w h
            · refine j_iload 5 dX12_way_56 rfl ?_
              refine j_callS (As := [.int a4]) (st := []) [.int (X12_isWeek a4 w)] (c_X12_isWeek (kl κ) (gm κ) (kA κ) a4 w) ck_RX12_322 st_X12_isWeek ⟨rfl, rfl⟩ ⟨by decide, by decide⟩ rfl rfl (Nat.le_of_ble_eq_true rfl) dX12_way_58 _ rfl ?_
              refine j_if_eq 79 dX12_way_61 (by decide) h (fun h => ?_) (fun h => ?_)
              · refine j_loc [(0, .ref (ad (gm κ) 97))] [1] rfl ?_
                exact t_X12_way_j79 w h
              · refine j_iload 6 dX12_way_64 rfl ?_
                refine j_callS (As := [.int a5]) (st := []) [.int (X12_isWeek a5 w)] (c_X12_isWeek (kl κ) (gm κ) (kA κ) a5 w) ck_RX12_322 st_X12_isWeek ⟨rfl, rfl⟩ ⟨by decide, by decide⟩ rfl rfl (Nat.le_of_ble_eq_true rfl) dX12_way_66 _ rfl ?_
                refine j_if_eq 79 dX12_way_69 (by decide) h (fun h => ?_) (fun h => ?_)
                · refine j_loc [(0, .ref (ad (gm κ) 97))] [1] rfl ?_
                  exact t_X12_way_j79 w h
                · refine j_iload 6 dX12_way_72 rfl ?_
                  refine j_iload 5 dX12_way_74 rfl ?_
                  refine j_ic_ge 85 dX12_way_76 (by decide) h (fun h => ?_) (fun h => ?_)
                  · refine j_loc [(0, .ref (ad (gm κ) 97)), (1, .int a1), (2, .int a2), (3, .int a3), (4, .int a4), (5, .int a5)] [1, 2, 3, 4, 5, 6] rfl ?_
                    exact t_X12_way_j85 a1 a2 a3 a4 a5 w h
                  · refine j_loc [(0, .ref (ad (gm κ) 97))] [1] rfl ?_
                    exact t_X12_way_j79 w h
noncomputable def X12_way_j16 (a1 : Int32) (a2 : Int32) (a3 : Int32) (a4 : Int32) (a5 : Int32) (w : Wd) : Option (Int32 × Wd) :=
X12_way_j17 a1 a2 a3 a4 a5 (0 : Int32) w
set_option maxRecDepth 20000 in
set_option maxHeartbeats 1000000 in
theorem t_X12_way_j16 {κ : Kx} (a1 : Int32) (a2 : Int32) (a3 : Int32) (a4 : Int32) (a5 : Int32) (w : Wd) (h : ok (X12_way_j16  a1 a2 a3 a4 a5 w) (PIw κ)) : J κ RX12 cX12_way 8 (some .int) (rmk 1 21) 16 [(0, .ref (ad (gm κ) 97)), (1, .int a1), (2, .int a2), (3, .int a3), (4, .int a4), (5, .int a5)] [] w := by
  unfold X12_way_j16 at h
  refine j_iconst (0 : Int32) dX12_way_16 ki_0 ?_
  refine j_loc [(0, .ref (ad (gm κ) 97)), (1, .int a1), (2, .int a2), (3, .int a3), (4, .int a4), (5, .int a5)] [0, 1, 2, 3, 4, 5] rfl ?_
  exact t_X12_way_j17 a1 a2 a3 a4 a5 (0 : Int32) w h
noncomputable def X12_way (a1 : Int32) (a2 : Int32) (a3 : Int32) (a4 : Int32) (a5 : Int32) (w : Wd) : Option (Int32 × Wd) :=
(if a4 = (-1 : Int32) then
(if a5 = (-1 : Int32) then
X12_way_j17 a1 a2 a3 a4 a5 (1 : Int32) w
else
X12_way_j16 a1 a2 a3 a4 a5 w)
else
X12_way_j16 a1 a2 a3 a4 a5 w)
set_option maxRecDepth 20000 in
set_option maxHeartbeats 1000000 in
theorem t_X12_way {κ : Kx} (a1 : Int32) (a2 : Int32) (a3 : Int32) (a4 : Int32) (a5 : Int32) (w : Wd) (h : ok (X12_way  a1 a2 a3 a4 a5 w) (PIw κ)) : J κ RX12 cX12_way 8 (some .int) (rmk 1 21) 0 [(0, .ref (ad (gm κ) 97)), (1, .int a1), (2, .int a2), (3, .int a3), (4, .int a4), (5, .int a5)] [] w := by
  unfold X12_way at h
  refine j_iload 4 dX12_way_0 rfl ?_
  refine j_iconst (-1 : Int32) dX12_way_2 ki_m1 ?_
  refine j_ic_ne 16 dX12_way_3 (by decide) h (fun h => ?_) (fun h => ?_)
  · refine j_loc [(0, .ref (ad (gm κ) 97)), (1, .int a1), (2, .int a2), (3, .int a3), (4, .int a4), (5, .int a5)] [0, 1, 2, 3, 4, 5] rfl ?_
    exact t_X12_way_j16 a1 a2 a3 a4 a5 w h
  · refine j_iload 5 dX12_way_6 rfl ?_
    refine j_iconst (-1 : Int32) dX12_way_8 ki_m1 ?_
    refine j_ic_ne 16 dX12_way_9 (by decide) h (fun h => ?_) (fun h => ?_)
    · refine j_loc [(0, .ref (ad (gm κ) 97)), (1, .int a1), (2, .int a2), (3, .int a3), (4, .int a4), (5, .int a5)] [0, 1, 2, 3, 4, 5] rfl ?_
      exact t_X12_way_j16 a1 a2 a3 a4 a5 w h
    · refine j_iconst (1 : Int32) dX12_way_12 ki_1 ?_
      refine j_goto 17 dX12_way_13 (by decide) ?_
      refine j_loc [(0, .ref (ad (gm κ) 97)), (1, .int a1), (2, .int a2), (3, .int a3), (4, .int a4), (5, .int a5)] [0, 1, 2, 3, 4, 5] rfl ?_
      exact t_X12_way_j17 a1 a2 a3 a4 a5 (1 : Int32) w h
theorem c_X12_way (l : Launch) (γ : Gm) (A : Nat → Prop) (a1 : Int32) (a2 : Int32) (a3 : Int32) (a4 : Int32) (a5 : Int32) (w : Wd) (q : Int32 × Wd) (e : X12_way  a1 a2 a3 a4 a5 w = some q) : MetG l γ A yX12_way cX12_way 8 (some .int) (rmk 1 21) [.ref (ad (γ) 97), .int a1, .int a2, .int a3, .int a4, .int a5] w (some (.int q.1)) q.2 := by
  refine met_of pn_RX12 (Nat.le_of_ble_eq_true rfl) ?_
  intro κ hl hγ hA hρ
  subst hl; subst hγ; subst hA
  exact t_X12_way   a1 a2 a3 a4 a5 w ⟨q, e, pIw hρ rfl rfl⟩
theorem dX12_isShut_0 : decode cX12_isShut 0 = .ok (.aload_n 0, 1) := by decide +kernel
theorem dX12_isShut_1 : decode cX12_isShut 1 = .ok (.getfield 36, 3) := by decide +kernel
theorem dX12_isShut_4 : decode cX12_isShut 4 = .ok (.iload_n 1, 1) := by decide +kernel
theorem dX12_isShut_5 : decode cX12_isShut 5 = .ok (.iaload, 1) := by decide +kernel
theorem dX12_isShut_6 : decode cX12_isShut 6 = .ok (.iconst (-1), 1) := by decide +kernel
theorem dX12_isShut_7 : decode cX12_isShut 7 = .ok (.if_icmp .eq 27, 3) := by decide +kernel
theorem dX12_isShut_10 : decode cX12_isShut 10 = .ok (.aload_n 0, 1) := by decide +kernel
theorem dX12_isShut_11 : decode cX12_isShut 11 = .ok (.getfield 36, 3) := by decide +kernel
theorem dX12_isShut_14 : decode cX12_isShut 14 = .ok (.iload_n 1, 1) := by decide +kernel
theorem dX12_isShut_15 : decode cX12_isShut 15 = .ok (.iaload, 1) := by decide +kernel
theorem dX12_isShut_16 : decode cX12_isShut 16 = .ok (.iload_n 2, 1) := by decide +kernel
theorem dX12_isShut_17 : decode cX12_isShut 17 = .ok (.if_icmp .gt 17, 3) := by decide +kernel
theorem dX12_isShut_20 : decode cX12_isShut 20 = .ok (.iload_n 2, 1) := by decide +kernel
theorem dX12_isShut_21 : decode cX12_isShut 21 = .ok (.aload_n 0, 1) := by decide +kernel
theorem dX12_isShut_22 : decode cX12_isShut 22 = .ok (.getfield 39, 3) := by decide +kernel
theorem dX12_isShut_25 : decode cX12_isShut 25 = .ok (.iload_n 1, 1) := by decide +kernel
theorem dX12_isShut_26 : decode cX12_isShut 26 = .ok (.iaload, 1) := by decide +kernel
theorem dX12_isShut_27 : decode cX12_isShut 27 = .ok (.if_icmp .gt 7, 3) := by decide +kernel
theorem dX12_isShut_30 : decode cX12_isShut 30 = .ok (.iconst 1, 1) := by decide +kernel
theorem dX12_isShut_31 : decode cX12_isShut 31 = .ok (.goto 4, 3) := by decide +kernel
theorem dX12_isShut_34 : decode cX12_isShut 34 = .ok (.iconst 0, 1) := by decide +kernel
theorem dX12_isShut_35 : decode cX12_isShut 35 = .ok (.ireturn, 1) := by decide +kernel
noncomputable def X12_isShut (a1 : Int32) (a2 : Int32) (w : Wd) : Option (Int32) :=
gd (vp_in a1 30) <|
(if (w.1 105 (ix a1)) = (-1 : Int32) then
some (0 : Int32)
else
gd (vp_in a1 30) <|
(if a2 < (w.1 105 (ix a1)) then
some (0 : Int32)
else
gd (vp_in a1 30) <|
(if (w.1 106 (ix a1)) < a2 then
some (0 : Int32)
else
some (1 : Int32))))
set_option maxRecDepth 20000 in
set_option maxHeartbeats 1000000 in
theorem t_X12_isShut {κ : Kx} (a1 : Int32) (a2 : Int32) (w : Wd) (h : ok (X12_isShut  a1 a2 w) (PI κ w)) : J κ RX12 cX12_isShut 3 (some .boolean) (rmk 0 0) 0 [(0, .ref (ad (gm κ) 97)), (1, .int a1), (2, .int a2)] [] w := by
  unfold X12_isShut at h
  refine j_aload_n 0 dX12_isShut_0 rfl rfl ?_
  refine j_getA 105 fl_RX12_36 sh_97 fk_97_16 (by decide) dX12_isShut_1 ?_
  refine j_iload_n 1 dX12_isShut_4 rfl rfl ?_
  refine j_iald sh_105 dX12_isShut_5 h (fun h => ?_)
  refine j_iconst (-1 : Int32) dX12_isShut_6 ki_m1 ?_
  refine j_ic_eq 34 dX12_isShut_7 (by decide) h (fun h => ?_) (fun h => ?_)
  · refine j_iconst (0 : Int32) dX12_isShut_34 ki_0 ?_
    have h := ok_s h
    exact j_iret dX12_isShut_35 rfl (by decide) h
  · refine j_aload_n 0 dX12_isShut_10 rfl rfl ?_
    refine j_getA 105 fl_RX12_36 sh_97 fk_97_16 (by decide) dX12_isShut_11 ?_
    refine j_iload_n 1 dX12_isShut_14 rfl rfl ?_
    refine j_iald sh_105 dX12_isShut_15 h (fun h => ?_)
    refine j_iload_n 2 dX12_isShut_16 rfl rfl ?_
    refine j_ic_gt 34 dX12_isShut_17 (by decide) h (fun h => ?_) (fun h => ?_)
    · refine j_iconst (0 : Int32) dX12_isShut_34 ki_0 ?_
      have h := ok_s h
      exact j_iret dX12_isShut_35 rfl (by decide) h
    · refine j_iload_n 2 dX12_isShut_20 rfl rfl ?_
      refine j_aload_n 0 dX12_isShut_21 rfl rfl ?_
      refine j_getA 106 fl_RX12_39 sh_97 fk_97_17 (by decide) dX12_isShut_22 ?_
      refine j_iload_n 1 dX12_isShut_25 rfl rfl ?_
      refine j_iald sh_106 dX12_isShut_26 h (fun h => ?_)
      refine j_ic_gt 34 dX12_isShut_27 (by decide) h (fun h => ?_) (fun h => ?_)
      · refine j_iconst (0 : Int32) dX12_isShut_34 ki_0 ?_
        have h := ok_s h
        exact j_iret dX12_isShut_35 rfl (by decide) h
      · refine j_iconst (1 : Int32) dX12_isShut_30 ki_1 ?_
        refine j_goto 35 dX12_isShut_31 (by decide) ?_
        have h := ok_s h
        exact j_iret dX12_isShut_35 rfl (by decide) h
theorem c_X12_isShut (l : Launch) (γ : Gm) (A : Nat → Prop) (a1 : Int32) (a2 : Int32) (w : Wd) (q : Int32) (e : X12_isShut  a1 a2 w = some q) : MetG l γ A yX12_isShut cX12_isShut 3 (some .boolean) (rmk 0 0) [.ref (ad (γ) 97), .int a1, .int a2] w (some (.int q)) w := by
  refine met_of pn_RX12 (Nat.le_of_ble_eq_true rfl) ?_
  intro κ hl hγ hA hρ
  subst hl; subst hγ; subst hA
  exact t_X12_isShut   a1 a2 w ⟨q, e, pI hρ rfl rfl⟩
theorem dX12_travel_0 : decode cX12_travel 0 = .ok (.iconst 0, 1) := by decide +kernel
theorem dX12_travel_1 : decode cX12_travel 1 = .ok (.istore_n 3, 1) := by decide +kernel
theorem dX12_travel_2 : decode cX12_travel 2 = .ok (.iload_n 3, 1) := by decide +kernel
theorem dX12_travel_3 : decode cX12_travel 3 = .ok (.bipush 16, 2) := by decide +kernel
theorem dX12_travel_5 : decode cX12_travel 5 = .ok (.if_icmp .ge 27, 3) := by decide +kernel
theorem dX12_travel_8 : decode cX12_travel 8 = .ok (.aload_n 0, 1) := by decide +kernel
theorem dX12_travel_9 : decode cX12_travel 9 = .ok (.getfield 42, 3) := by decide +kernel
theorem dX12_travel_12 : decode cX12_travel 12 = .ok (.iload_n 3, 1) := by decide +kernel
theorem dX12_travel_13 : decode cX12_travel 13 = .ok (.iload_n 3, 1) := by decide +kernel
theorem dX12_travel_14 : decode cX12_travel 14 = .ok (.iload_n 1, 1) := by decide +kernel
theorem dX12_travel_15 : decode cX12_travel 15 = .ok (.if_icmp .ne 7, 3) := by decide +kernel
theorem dX12_travel_18 : decode cX12_travel 18 = .ok (.iload_n 2, 1) := by decide +kernel
theorem dX12_travel_19 : decode cX12_travel 19 = .ok (.goto 6, 3) := by decide +kernel
theorem dX12_travel_22 : decode cX12_travel 22 = .ok (.sipush 1000, 3) := by decide +kernel
theorem dX12_travel_25 : decode cX12_travel 25 = .ok (.iastore, 1) := by decide +kernel
theorem dX12_travel_26 : decode cX12_travel 26 = .ok (.iinc 3 1, 3) := by decide +kernel
theorem dX12_travel_29 : decode cX12_travel 29 = .ok (.goto (-27), 3) := by decide +kernel
theorem dX12_travel_32 : decode cX12_travel 32 = .ok (.iconst 1, 1) := by decide +kernel
theorem dX12_travel_33 : decode cX12_travel 33 = .ok (.istore_n 3, 1) := by decide +kernel
theorem dX12_travel_34 : decode cX12_travel 34 = .ok (.iload_n 3, 1) := by decide +kernel
theorem dX12_travel_35 : decode cX12_travel 35 = .ok (.ifCond .eq 179, 3) := by decide +kernel
theorem dX12_travel_38 : decode cX12_travel 38 = .ok (.iconst 0, 1) := by decide +kernel
theorem dX12_travel_39 : decode cX12_travel 39 = .ok (.istore_n 3, 1) := by decide +kernel
theorem dX12_travel_40 : decode cX12_travel 40 = .ok (.iconst 0, 1) := by decide +kernel
theorem dX12_travel_41 : decode cX12_travel 41 = .ok (.istore 4, 2) := by decide +kernel
theorem dX12_travel_43 : decode cX12_travel 43 = .ok (.iload 4, 2) := by decide +kernel
theorem dX12_travel_45 : decode cX12_travel 45 = .ok (.aload_n 0, 1) := by decide +kernel
theorem dX12_travel_46 : decode cX12_travel 46 = .ok (.getfield 325, 3) := by decide +kernel
theorem dX12_travel_49 : decode cX12_travel 49 = .ok (.if_icmp .ge 162, 3) := by decide +kernel
theorem dX12_travel_52 : decode cX12_travel 52 = .ok (.iconst 0, 1) := by decide +kernel
theorem dX12_travel_53 : decode cX12_travel 53 = .ok (.istore 5, 2) := by decide +kernel
theorem dX12_travel_55 : decode cX12_travel 55 = .ok (.iload 5, 2) := by decide +kernel
theorem dX12_travel_57 : decode cX12_travel 57 = .ok (.iconst 2, 1) := by decide +kernel
theorem dX12_travel_58 : decode cX12_travel 58 = .ok (.if_icmp .ge 147, 3) := by decide +kernel
theorem dX12_travel_61 : decode cX12_travel 61 = .ok (.iload 5, 2) := by decide +kernel
theorem dX12_travel_63 : decode cX12_travel 63 = .ok (.ifCond .ne 13, 3) := by decide +kernel
theorem dX12_travel_66 : decode cX12_travel 66 = .ok (.aload_n 0, 1) := by decide +kernel
theorem dX12_travel_67 : decode cX12_travel 67 = .ok (.getfield 27, 3) := by decide +kernel
theorem dX12_travel_70 : decode cX12_travel 70 = .ok (.iload 4, 2) := by decide +kernel
theorem dX12_travel_72 : decode cX12_travel 72 = .ok (.iaload, 1) := by decide +kernel
theorem dX12_travel_73 : decode cX12_travel 73 = .ok (.goto 10, 3) := by decide +kernel
theorem dX12_travel_76 : decode cX12_travel 76 = .ok (.aload_n 0, 1) := by decide +kernel
theorem dX12_travel_77 : decode cX12_travel 77 = .ok (.getfield 30, 3) := by decide +kernel
theorem dX12_travel_80 : decode cX12_travel 80 = .ok (.iload 4, 2) := by decide +kernel
theorem dX12_travel_82 : decode cX12_travel 82 = .ok (.iaload, 1) := by decide +kernel
theorem dX12_travel_83 : decode cX12_travel 83 = .ok (.istore 6, 2) := by decide +kernel
theorem dX12_travel_85 : decode cX12_travel 85 = .ok (.iload 5, 2) := by decide +kernel
theorem dX12_travel_87 : decode cX12_travel 87 = .ok (.ifCond .ne 13, 3) := by decide +kernel
theorem dX12_travel_90 : decode cX12_travel 90 = .ok (.aload_n 0, 1) := by decide +kernel
theorem dX12_travel_91 : decode cX12_travel 91 = .ok (.getfield 30, 3) := by decide +kernel
theorem dX12_travel_94 : decode cX12_travel 94 = .ok (.iload 4, 2) := by decide +kernel
theorem dX12_travel_96 : decode cX12_travel 96 = .ok (.iaload, 1) := by decide +kernel
theorem dX12_travel_97 : decode cX12_travel 97 = .ok (.goto 10, 3) := by decide +kernel
theorem dX12_travel_100 : decode cX12_travel 100 = .ok (.aload_n 0, 1) := by decide +kernel
theorem dX12_travel_101 : decode cX12_travel 101 = .ok (.getfield 27, 3) := by decide +kernel
theorem dX12_travel_104 : decode cX12_travel 104 = .ok (.iload 4, 2) := by decide +kernel
theorem dX12_travel_106 : decode cX12_travel 106 = .ok (.iaload, 1) := by decide +kernel
theorem dX12_travel_107 : decode cX12_travel 107 = .ok (.istore 7, 2) := by decide +kernel
theorem dX12_travel_109 : decode cX12_travel 109 = .ok (.aload_n 0, 1) := by decide +kernel
theorem dX12_travel_110 : decode cX12_travel 110 = .ok (.getfield 42, 3) := by decide +kernel
theorem dX12_travel_113 : decode cX12_travel 113 = .ok (.iload 6, 2) := by decide +kernel
theorem dX12_travel_115 : decode cX12_travel 115 = .ok (.iaload, 1) := by decide +kernel
theorem dX12_travel_116 : decode cX12_travel 116 = .ok (.istore 8, 2) := by decide +kernel
theorem dX12_travel_118 : decode cX12_travel 118 = .ok (.iload 8, 2) := by decide +kernel
theorem dX12_travel_120 : decode cX12_travel 120 = .ok (.bipush 60, 2) := by decide +kernel
theorem dX12_travel_122 : decode cX12_travel 122 = .ok (.if_icmp .ge 20, 3) := by decide +kernel
theorem dX12_travel_125 : decode cX12_travel 125 = .ok (.aload_n 0, 1) := by decide +kernel
theorem dX12_travel_126 : decode cX12_travel 126 = .ok (.iload 4, 2) := by decide +kernel
theorem dX12_travel_128 : decode cX12_travel 128 = .ok (.iload 8, 2) := by decide +kernel
theorem dX12_travel_130 : decode cX12_travel 130 = .ok (.invokevirtual 328, 3) := by decide +kernel
theorem dX12_travel_133 : decode cX12_travel 133 = .ok (.ifCond .eq 9, 3) := by decide +kernel
theorem dX12_travel_136 : decode cX12_travel 136 = .ok (.iinc 8 1, 3) := by decide +kernel
theorem dX12_travel_139 : decode cX12_travel 139 = .ok (.goto (-21), 3) := by decide +kernel
theorem dX12_travel_142 : decode cX12_travel 142 = .ok (.iload 8, 2) := by decide +kernel
theorem dX12_travel_144 : decode cX12_travel 144 = .ok (.aload_n 0, 1) := by decide +kernel
theorem dX12_travel_145 : decode cX12_travel 145 = .ok (.getfield 33, 3) := by decide +kernel
theorem dX12_travel_148 : decode cX12_travel 148 = .ok (.iload 4, 2) := by decide +kernel
theorem dX12_travel_150 : decode cX12_travel 150 = .ok (.iaload, 1) := by decide +kernel
theorem dX12_travel_151 : decode cX12_travel 151 = .ok (.iadd, 1) := by decide +kernel
theorem dX12_travel_152 : decode cX12_travel 152 = .ok (.bipush 60, 2) := by decide +kernel
theorem dX12_travel_154 : decode cX12_travel 154 = .ok (.if_icmp .ge 45, 3) := by decide +kernel
theorem dX12_travel_157 : decode cX12_travel 157 = .ok (.iload 8, 2) := by decide +kernel
theorem dX12_travel_159 : decode cX12_travel 159 = .ok (.aload_n 0, 1) := by decide +kernel
theorem dX12_travel_160 : decode cX12_travel 160 = .ok (.getfield 33, 3) := by decide +kernel
theorem dX12_travel_163 : decode cX12_travel 163 = .ok (.iload 4, 2) := by decide +kernel
theorem dX12_travel_165 : decode cX12_travel 165 = .ok (.iaload, 1) := by decide +kernel
theorem dX12_travel_166 : decode cX12_travel 166 = .ok (.iadd, 1) := by decide +kernel
theorem dX12_travel_167 : decode cX12_travel 167 = .ok (.aload_n 0, 1) := by decide +kernel
theorem dX12_travel_168 : decode cX12_travel 168 = .ok (.getfield 42, 3) := by decide +kernel
theorem dX12_travel_171 : decode cX12_travel 171 = .ok (.iload 7, 2) := by decide +kernel
theorem dX12_travel_173 : decode cX12_travel 173 = .ok (.iaload, 1) := by decide +kernel
theorem dX12_travel_174 : decode cX12_travel 174 = .ok (.if_icmp .lt 6, 3) := by decide +kernel
theorem dX12_travel_177 : decode cX12_travel 177 = .ok (.goto 22, 3) := by decide +kernel
theorem dX12_travel_180 : decode cX12_travel 180 = .ok (.aload_n 0, 1) := by decide +kernel
theorem dX12_travel_181 : decode cX12_travel 181 = .ok (.getfield 42, 3) := by decide +kernel
theorem dX12_travel_184 : decode cX12_travel 184 = .ok (.iload 7, 2) := by decide +kernel
theorem dX12_travel_186 : decode cX12_travel 186 = .ok (.iload 8, 2) := by decide +kernel
theorem dX12_travel_188 : decode cX12_travel 188 = .ok (.aload_n 0, 1) := by decide +kernel
theorem dX12_travel_189 : decode cX12_travel 189 = .ok (.getfield 33, 3) := by decide +kernel
theorem dX12_travel_192 : decode cX12_travel 192 = .ok (.iload 4, 2) := by decide +kernel
theorem dX12_travel_194 : decode cX12_travel 194 = .ok (.iaload, 1) := by decide +kernel
theorem dX12_travel_195 : decode cX12_travel 195 = .ok (.iadd, 1) := by decide +kernel
theorem dX12_travel_196 : decode cX12_travel 196 = .ok (.iastore, 1) := by decide +kernel
theorem dX12_travel_197 : decode cX12_travel 197 = .ok (.iconst 1, 1) := by decide +kernel
theorem dX12_travel_198 : decode cX12_travel 198 = .ok (.istore_n 3, 1) := by decide +kernel
theorem dX12_travel_199 : decode cX12_travel 199 = .ok (.iinc 5 1, 3) := by decide +kernel
theorem dX12_travel_202 : decode cX12_travel 202 = .ok (.goto (-147), 3) := by decide +kernel
theorem dX12_travel_205 : decode cX12_travel 205 = .ok (.iinc 4 1, 3) := by decide +kernel
theorem dX12_travel_208 : decode cX12_travel 208 = .ok (.goto (-165), 3) := by decide +kernel
theorem dX12_travel_211 : decode cX12_travel 211 = .ok (.goto (-177), 3) := by decide +kernel
theorem dX12_travel_214 : decode cX12_travel 214 = .ok (.return_, 1) := by decide +kernel
noncomputable def X12_travel_j25 (a1 : Int32) (a2 : Int32) (a3 : Int32) (s0 : Int32) (s1 : Int32) (w : Wd) : Option ((Int32 × Wd) ⊕ Wd) :=
gd (vp_in s1 16) <|
(some (puI w 107 (ix s1) s0)).bind fun w1 =>
some (.inl ((a3 + (1 : Int32)), w1))
set_option maxRecDepth 20000 in
set_option maxHeartbeats 1000000 in
theorem t_X12_travel_j25 {κ : Kx} (a1 : Int32) (a2 : Int32) (a3 : Int32) (s0 : Int32) (s1 : Int32) (w : Wd) {G : (Int32 × Wd) → Prop} {P : Wd → Prop} (KG : ∀ s, G s → J κ RX12 cX12_travel 9 none (rmk 1 22) 2 [(0, .ref (ad (gm κ) 97)), (1, .int a1), (2, .int a2), (3, .int s.1)] [] s.2) (K0 : ∀ e, P e → J κ RX12 cX12_travel 9 none (rmk 1 22) 32 [(0, .ref (ad (gm κ) 97))] [] e) (h : ok (X12_travel_j25  a1 a2 a3 s0 s1 w) (sel G P)) : J κ RX12 cX12_travel 9 none (rmk 1 22) 25 [(0, .ref (ad (gm κ) 97)), (1, .int a1), (2, .int a2), (3, .int a3)] [.int s0, .int s1, .ref (ad (gm κ) 107)] w := by
  unfold X12_travel_j25 at h
  refine j_iast sh_107 dX12_travel_25 h (fun h => ?_)
  refine j_lW h (fun w1 h => ?_)
  refine j_iinc (a3 + (1 : Int32)) 3 [(3, .int (a3 + (1 : Int32))), (0, .ref (ad (gm κ) 97)), (1, .int a1), (2, .int a2)] dX12_travel_26 rfl (by rw [kn_1]) (by decide) rfl ?_
  refine j_goto 2 dX12_travel_29 (by decide) ?_
  refine j_loc [(0, .ref (ad (gm κ) 97)), (1, .int a1), (2, .int a2), (3, .int (a3 + (1 : Int32)))] [1, 2, 3, 0] rfl ?_
  have h := sel_l h
  have h := KG _ h
  exact h
noncomputable def X12_travel_b2 (a1 : Int32) (a2 : Int32) (s : (Int32 × Wd)) : Option ((Int32 × Wd) ⊕ Wd) :=
(if (16 : Int32) ≤ s.1 then
some (.inr s.2)
else
(if s.1 = a1 then
X12_travel_j25 a1 a2 s.1 a2 s.1 s.2
else
X12_travel_j25 a1 a2 s.1 (1000 : Int32) s.1 s.2))
set_option maxRecDepth 20000 in
set_option maxHeartbeats 1000000 in
theorem t_X12_travel_b2 {κ : Kx} (a1 : Int32) (a2 : Int32) {P : Wd → Prop} (K0 : ∀ e, P e → J κ RX12 cX12_travel 9 none (rmk 1 22) 32 [(0, .ref (ad (gm κ) 97))] [] e) (s : (Int32 × Wd)) (h : ok (lp (X12_travel_b2  a1 a2) s) P) : J κ RX12 cX12_travel 9 none (rmk 1 22) 2 [(0, .ref (ad (gm κ) 97)), (1, .int a1), (2, .int a2), (3, .int s.1)] [] s.2 := by
  refine lp_ind (fun s => J κ RX12 cX12_travel 9 none (rmk 1 22) 2 [(0, .ref (ad (gm κ) 97)), (1, .int a1), (2, .int a2), (3, .int s.1)] [] s.2) (fun s h => ?_) s h
  unfold X12_travel_b2 at h
  refine j_iload_n 3 dX12_travel_2 rfl rfl ?_
  refine j_bipush (16 : Int32) dX12_travel_3 kb_16 ?_
  refine j_ic_ge 32 dX12_travel_5 (by decide) h (fun h => ?_) (fun h => ?_)
  · refine j_loc [(0, .ref (ad (gm κ) 97))] [0] rfl ?_
    have h := sel_r h
    have h := K0 _ h
    exact h
  · refine j_aload_n 0 dX12_travel_8 rfl rfl ?_
    refine j_getA 107 fl_RX12_42 sh_97 fk_97_18 (by decide) dX12_travel_9 ?_
    refine j_iload_n 3 dX12_travel_12 rfl rfl ?_
    refine j_iload_n 3 dX12_travel_13 rfl rfl ?_
    refine j_iload_n 1 dX12_travel_14 rfl rfl ?_
    refine j_ic_ne 22 dX12_travel_15 (by decide) h (fun h => ?_) (fun h => ?_)
    · refine j_sipush (1000 : Int32) dX12_travel_22 ks_1000 ?_
      refine j_loc [(0, .ref (ad (gm κ) 97)), (1, .int a1), (2, .int a2), (3, .int s.1)] [0, 1, 2, 3] rfl ?_
      exact t_X12_travel_j25 a1 a2 s.1 (1000 : Int32) s.1 s.2 (fun _ h => h) K0 h
    · refine j_iload_n 2 dX12_travel_18 rfl rfl ?_
      refine j_goto 25 dX12_travel_19 (by decide) ?_
      refine j_loc [(0, .ref (ad (gm κ) 97)), (1, .int a1), (2, .int a2), (3, .int s.1)] [0, 1, 2, 3] rfl ?_
      exact t_X12_travel_j25 a1 a2 s.1 a2 s.1 s.2 (fun _ h => h) K0 h
noncomputable def X12_travel_b118 (a3 : Int32) (a4 : Int32) (a5 : Int32) (a7 : Int32) (w : Wd) (s : Int32) : Option (Int32 ⊕ Int32) :=
(if (60 : Int32) ≤ s then
some (.inr s)
else
(X12_isShut a4 s w).bind fun q3 =>
(if q3 = 0 then
some (.inr s)
else
some (.inl (s + (1 : Int32)))))
set_option maxRecDepth 20000 in
set_option maxHeartbeats 1000000 in
theorem t_X12_travel_b118 {κ : Kx} (a3 : Int32) (a4 : Int32) (a5 : Int32) (a7 : Int32) (w : Wd) {P : Int32 → Prop} (K0 : ∀ e, P e → J κ RX12 cX12_travel 9 none (rmk 1 22) 142 [(0, .ref (ad (gm κ) 97)), (3, .int a3), (4, .int a4), (5, .int a5), (7, .int a7), (8, .int e)] [] w) (s : Int32) (h : ok (lp (X12_travel_b118  a3 a4 a5 a7 w) s) P) : J κ RX12 cX12_travel 9 none (rmk 1 22) 118 [(0, .ref (ad (gm κ) 97)), (3, .int a3), (4, .int a4), (5, .int a5), (7, .int a7), (8, .int s)] [] w := by
  refine lp_ind (fun s => J κ RX12 cX12_travel 9 none (rmk 1 22) 118 [(0, .ref (ad (gm κ) 97)), (3, .int a3), (4, .int a4), (5, .int a5), (7, .int a7), (8, .int s)] [] w) (fun s h => ?_) s h
  unfold X12_travel_b118 at h
  refine j_iload 5 dX12_travel_118 rfl ?_
  refine j_bipush (60 : Int32) dX12_travel_120 kb_60 ?_
  refine j_ic_ge 142 dX12_travel_122 (by decide) h (fun h => ?_) (fun h => ?_)
  · refine j_loc [(0, .ref (ad (gm κ) 97)), (3, .int a3), (4, .int a4), (5, .int a5), (7, .int a7), (8, .int s)] [0, 1, 2, 3, 4, 5] rfl ?_
    have h := sel_r h
    have h := K0 _ h
    exact h
  · refine j_aload_n 0 dX12_travel_125 rfl rfl ?_
    refine j_iload 2 dX12_travel_126 rfl ?_
    refine j_iload 5 dX12_travel_128 rfl ?_
    obtain ⟨q3, e4, h⟩ := ok_b h
    refine j_callV (As := [.int a4, .int s]) (st := []) [.int q3] (c_X12_isShut (kl κ) (gm κ) (kA κ) a4 s w q3 e4) ck_RX12_328 im_X12_isShut se_X12_isShut sh_97 cx_12 ⟨rfl, rfl⟩ ⟨by decide, by decide⟩ rfl rfl (Nat.le_of_ble_eq_true rfl) dX12_travel_130 _ rfl ?_
    refine j_if_eq 142 dX12_travel_133 (by decide) h (fun h => ?_) (fun h => ?_)
    · refine j_loc [(0, .ref (ad (gm κ) 97)), (3, .int a3), (4, .int a4), (5, .int a5), (7, .int a7), (8, .int s)] [0, 1, 2, 3, 4, 5] rfl ?_
      have h := sel_r h
      have h := K0 _ h
      exact h
    · refine j_iinc (s + (1 : Int32)) 5 [(8, .int (s + (1 : Int32))), (0, .ref (ad (gm κ) 97)), (3, .int a3), (4, .int a4), (5, .int a5), (7, .int a7)] dX12_travel_136 rfl (by rw [kn_1]) (by decide) rfl ?_
      refine j_goto 118 dX12_travel_139 (by decide) ?_
      refine j_loc [(0, .ref (ad (gm κ) 97)), (3, .int a3), (4, .int a4), (5, .int a5), (7, .int a7), (8, .int (s + (1 : Int32)))] [1, 2, 3, 4, 5, 0] rfl ?_
      have h := sel_l h
      exact h
noncomputable def X12_travel_j199 (a3 : Int32) (a4 : Int32) (a5 : Int32) (w : Wd) : Option ((Int32 × Int32 × Wd) ⊕ (Int32 × Wd)) :=
some (.inl (a3, (a5 + (1 : Int32)), w))
set_option maxRecDepth 20000 in
set_option maxHeartbeats 1000000 in
theorem t_X12_travel_j199 {κ : Kx} (a3 : Int32) (a4 : Int32) (a5 : Int32) (w : Wd) {G : (Int32 × Int32 × Wd) → Prop} {P : (Int32 × Wd) → Prop} (KG : ∀ s, G s → J κ RX12 cX12_travel 9 none (rmk 1 22) 55 [(0, .ref (ad (gm κ) 97)), (3, .int s.1), (4, .int a4), (5, .int s.2.1)] [] s.2.2) (K0 : ∀ e, P e → J κ RX12 cX12_travel 9 none (rmk 1 22) 205 [(0, .ref (ad (gm κ) 97)), (3, .int e.1), (4, .int a4)] [] e.2) (h : ok (X12_travel_j199  a3 a4 a5 w) (sel G P)) : J κ RX12 cX12_travel 9 none (rmk 1 22) 199 [(0, .ref (ad (gm κ) 97)), (3, .int a3), (4, .int a4), (5, .int a5)] [] w := by
  unfold X12_travel_j199 at h
  refine j_iinc (a5 + (1 : Int32)) 3 [(5, .int (a5 + (1 : Int32))), (0, .ref (ad (gm κ) 97)), (3, .int a3), (4, .int a4)] dX12_travel_199 rfl (by rw [kn_1]) (by decide) rfl ?_
  refine j_goto 55 dX12_travel_202 (by decide) ?_
  refine j_loc [(0, .ref (ad (gm κ) 97)), (3, .int a3), (4, .int a4), (5, .int (a5 + (1 : Int32)))] [1, 2, 3, 0] rfl ?_
  have h := sel_l h
  have h := KG _ h
  exact h
noncomputable def X12_travel_j107 (a3 : Int32) (a4 : Int32) (a5 : Int32) (a6 : Int32) (s0 : Int32) (w : Wd) : Option ((Int32 × Int32 × Wd) ⊕ (Int32 × Wd)) :=
gd (vp_in a6 16) <|
(lp (X12_travel_b118 a3 a4 a5 s0 w) (w.1 107 (ix a6))).bind fun e5 =>
gd (vp_in a4 30) <|
(if (60 : Int32) ≤ (e5 + (w.1 104 (ix a4))) then
X12_travel_j199 a3 a4 a5 w
else
gd (vp_in a4 30) <|
gd (vp_in s0 16) <|
(if (e5 + (w.1 104 (ix a4))) < (w.1 107 (ix s0)) then
gd (vp_in a4 30) <|
gd (vp_in s0 16) <|
(some (puI w 107 (ix s0) (e5 + (w.1 104 (ix a4))))).bind fun w6 =>
X12_travel_j199 (1 : Int32) a4 a5 w6
else
X12_travel_j199 a3 a4 a5 w))
set_option maxRecDepth 20000 in
set_option maxHeartbeats 1000000 in
theorem t_X12_travel_j107 {κ : Kx} (a3 : Int32) (a4 : Int32) (a5 : Int32) (a6 : Int32) (s0 : Int32) (w : Wd) {G : (Int32 × Int32 × Wd) → Prop} {P : (Int32 × Wd) → Prop} (KG : ∀ s, G s → J κ RX12 cX12_travel 9 none (rmk 1 22) 55 [(0, .ref (ad (gm κ) 97)), (3, .int s.1), (4, .int a4), (5, .int s.2.1)] [] s.2.2) (K0 : ∀ e, P e → J κ RX12 cX12_travel 9 none (rmk 1 22) 205 [(0, .ref (ad (gm κ) 97)), (3, .int e.1), (4, .int a4)] [] e.2) (h : ok (X12_travel_j107  a3 a4 a5 a6 s0 w) (sel G P)) : J κ RX12 cX12_travel 9 none (rmk 1 22) 107 [(0, .ref (ad (gm κ) 97)), (3, .int a3), (4, .int a4), (5, .int a5), (6, .int a6)] [.int s0] w := by
  unfold X12_travel_j107 at h
  refine j_istore [(7, .int s0), (0, .ref (ad (gm κ) 97)), (3, .int a3), (4, .int a4), (5, .int a5), (6, .int a6)] dX12_travel_107 (by decide) rfl ?_
  refine j_aload_n 1 dX12_travel_109 rfl rfl ?_
  refine j_getA 107 fl_RX12_42 sh_97 fk_97_18 (by decide) dX12_travel_110 ?_
  refine j_iload 5 dX12_travel_113 rfl ?_
  refine j_iald sh_107 dX12_travel_115 h (fun h => ?_)
  refine j_istore [(8, .int (w.1 107 (ix a6))), (7, .int s0), (0, .ref (ad (gm κ) 97)), (3, .int a3), (4, .int a4), (5, .int a5), (6, .int a6)] dX12_travel_116 (by decide) rfl ?_
  refine j_loc [(0, .ref (ad (gm κ) 97)), (3, .int a3), (4, .int a4), (5, .int a5), (7, .int s0), (8, .int (w.1 107 (ix a6)))] [2, 3, 4, 5, 1, 0] rfl ?_
  refine t_X12_travel_b118 a3 a4 a5 s0 w (fun e5 h => ?_) (w.1 107 (ix a6)) (ok_bb h)
  · refine j_iload 5 dX12_travel_142 rfl ?_
    refine j_aload_n 0 dX12_travel_144 rfl rfl ?_
    refine j_getA 104 fl_RX12_33 sh_97 fk_97_15 (by decide) dX12_travel_145 ?_
    refine j_iload 2 dX12_travel_148 rfl ?_
    refine j_iald sh_104 dX12_travel_150 h (fun h => ?_)
    refine j_iadd dX12_travel_151 ?_
    refine j_bipush (60 : Int32) dX12_travel_152 kb_60 ?_
    refine j_ic_ge 199 dX12_travel_154 (by decide) h (fun h => ?_) (fun h => ?_)
    · refine j_loc [(0, .ref (ad (gm κ) 97)), (3, .int a3), (4, .int a4), (5, .int a5)] [0, 1, 2, 3] rfl ?_
      exact t_X12_travel_j199 a3 a4 a5 w KG K0 h
    · refine j_iload 5 dX12_travel_157 rfl ?_
      refine j_aload_n 0 dX12_travel_159 rfl rfl ?_
      refine j_getA 104 fl_RX12_33 sh_97 fk_97_15 (by decide) dX12_travel_160 ?_
      refine j_iload 2 dX12_travel_163 rfl ?_
      refine j_iald sh_104 dX12_travel_165 h (fun h => ?_)
      refine j_iadd dX12_travel_166 ?_
      refine j_aload_n 0 dX12_travel_167 rfl rfl ?_
      refine j_getA 107 fl_RX12_42 sh_97 fk_97_18 (by decide) dX12_travel_168 ?_
      refine j_iload 4 dX12_travel_171 rfl ?_
      refine j_iald sh_107 dX12_travel_173 h (fun h => ?_)
      refine j_ic_lt 180 dX12_travel_174 (by decide) h (fun h => ?_) (fun h => ?_)
      · refine j_aload_n 0 dX12_travel_180 rfl rfl ?_
        refine j_getA 107 fl_RX12_42 sh_97 fk_97_18 (by decide) dX12_travel_181 ?_
        refine j_iload 4 dX12_travel_184 rfl ?_
        refine j_iload 5 dX12_travel_186 rfl ?_
        refine j_aload_n 0 dX12_travel_188 rfl rfl ?_
        refine j_getA 104 fl_RX12_33 sh_97 fk_97_15 (by decide) dX12_travel_189 ?_
        refine j_iload 2 dX12_travel_192 rfl ?_
        refine j_iald sh_104 dX12_travel_194 h (fun h => ?_)
        refine j_iadd dX12_travel_195 ?_
        refine j_iast sh_107 dX12_travel_196 h (fun h => ?_)
        refine j_lW h (fun w6 h => ?_)
        refine j_iconst (1 : Int32) dX12_travel_197 ki_1 ?_
        refine j_istore_n [(3, .int (1 : Int32)), (0, .ref (ad (gm κ) 97)), (4, .int a4), (5, .int a5), (7, .int s0), (8, .int e5)] dX12_travel_198 rfl (by decide) rfl ?_
        refine j_loc [(0, .ref (ad (gm κ) 97)), (3, .int (1 : Int32)), (4, .int a4), (5, .int a5)] [1, 0, 2, 3] rfl ?_
        exact t_X12_travel_j199 (1 : Int32) a4 a5 w6 KG K0 h
      · refine j_goto 199 dX12_travel_177 (by decide) ?_
        refine j_loc [(0, .ref (ad (gm κ) 97)), (3, .int a3), (4, .int a4), (5, .int a5)] [0, 1, 2, 3] rfl ?_
        exact t_X12_travel_j199 a3 a4 a5 w KG K0 h
noncomputable def X12_travel_j83 (a3 : Int32) (a4 : Int32) (a5 : Int32) (s0 : Int32) (w : Wd) : Option ((Int32 × Int32 × Wd) ⊕ (Int32 × Wd)) :=
(if a5 = 0 then
gd (vp_in a4 30) <|
X12_travel_j107 a3 a4 a5 s0 (w.1 103 (ix a4)) w
else
gd (vp_in a4 30) <|
X12_travel_j107 a3 a4 a5 s0 (w.1 102 (ix a4)) w)
set_option maxRecDepth 20000 in
set_option maxHeartbeats 1000000 in
theorem t_X12_travel_j83 {κ : Kx} (a3 : Int32) (a4 : Int32) (a5 : Int32) (s0 : Int32) (w : Wd) {G : (Int32 × Int32 × Wd) → Prop} {P : (Int32 × Wd) → Prop} (KG : ∀ s, G s → J κ RX12 cX12_travel 9 none (rmk 1 22) 55 [(0, .ref (ad (gm κ) 97)), (3, .int s.1), (4, .int a4), (5, .int s.2.1)] [] s.2.2) (K0 : ∀ e, P e → J κ RX12 cX12_travel 9 none (rmk 1 22) 205 [(0, .ref (ad (gm κ) 97)), (3, .int e.1), (4, .int a4)] [] e.2) (h : ok (X12_travel_j83  a3 a4 a5 s0 w) (sel G P)) : J κ RX12 cX12_travel 9 none (rmk 1 22) 83 [(0, .ref (ad (gm κ) 97)), (3, .int a3), (4, .int a4), (5, .int a5)] [.int s0] w := by
  unfold X12_travel_j83 at h
  refine j_istore [(6, .int s0), (0, .ref (ad (gm κ) 97)), (3, .int a3), (4, .int a4), (5, .int a5)] dX12_travel_83 (by decide) rfl ?_
  refine j_iload 4 dX12_travel_85 rfl ?_
  refine j_if_ne 100 dX12_travel_87 (by decide) h (fun h => ?_) (fun h => ?_)
  · refine j_aload_n 1 dX12_travel_100 rfl rfl ?_
    refine j_getA 102 fl_RX12_27 sh_97 fk_97_13 (by decide) dX12_travel_101 ?_
    refine j_iload 3 dX12_travel_104 rfl ?_
    refine j_iald sh_102 dX12_travel_106 h (fun h => ?_)
    refine j_loc [(0, .ref (ad (gm κ) 97)), (3, .int a3), (4, .int a4), (5, .int a5), (6, .int s0)] [1, 2, 3, 4, 0] rfl ?_
    exact t_X12_travel_j107 a3 a4 a5 s0 (w.1 102 (ix a4)) w KG K0 h
  · refine j_aload_n 1 dX12_travel_90 rfl rfl ?_
    refine j_getA 103 fl_RX12_30 sh_97 fk_97_14 (by decide) dX12_travel_91 ?_
    refine j_iload 3 dX12_travel_94 rfl ?_
    refine j_iald sh_103 dX12_travel_96 h (fun h => ?_)
    refine j_goto 107 dX12_travel_97 (by decide) ?_
    refine j_loc [(0, .ref (ad (gm κ) 97)), (3, .int a3), (4, .int a4), (5, .int a5), (6, .int s0)] [1, 2, 3, 4, 0] rfl ?_
    exact t_X12_travel_j107 a3 a4 a5 s0 (w.1 103 (ix a4)) w KG K0 h
noncomputable def X12_travel_b55 (a4 : Int32) (s : (Int32 × Int32 × Wd)) : Option ((Int32 × Int32 × Wd) ⊕ (Int32 × Wd)) :=
(if (2 : Int32) ≤ s.2.1 then
some (.inr (s.1, s.2.2))
else
(if s.2.1 = 0 then
gd (vp_in a4 30) <|
X12_travel_j83 s.1 a4 s.2.1 (s.2.2.1 102 (ix a4)) s.2.2
else
gd (vp_in a4 30) <|
X12_travel_j83 s.1 a4 s.2.1 (s.2.2.1 103 (ix a4)) s.2.2))
set_option maxRecDepth 20000 in
set_option maxHeartbeats 1000000 in
theorem t_X12_travel_b55 {κ : Kx} (a4 : Int32) {P : (Int32 × Wd) → Prop} (K0 : ∀ e, P e → J κ RX12 cX12_travel 9 none (rmk 1 22) 205 [(0, .ref (ad (gm κ) 97)), (3, .int e.1), (4, .int a4)] [] e.2) (s : (Int32 × Int32 × Wd)) (h : ok (lp (X12_travel_b55  a4) s) P) : J κ RX12 cX12_travel 9 none (rmk 1 22) 55 [(0, .ref (ad (gm κ) 97)), (3, .int s.1), (4, .int a4), (5, .int s.2.1)] [] s.2.2 := by
  refine lp_ind (fun s => J κ RX12 cX12_travel 9 none (rmk 1 22) 55 [(0, .ref (ad (gm κ) 97)), (3, .int s.1), (4, .int a4), (5, .int s.2.1)] [] s.2.2) (fun s h => ?_) s h
  unfold X12_travel_b55 at h
  refine j_iload 3 dX12_travel_55 rfl ?_
  refine j_iconst (2 : Int32) dX12_travel_57 ki_2 ?_
  refine j_ic_ge 205 dX12_travel_58 (by decide) h (fun h => ?_) (fun h => ?_)
  · refine j_loc [(0, .ref (ad (gm κ) 97)), (3, .int s.1), (4, .int a4)] [0, 1, 2] rfl ?_
    have h := sel_r h
    have h := K0 _ h
    exact h
  · refine j_iload 3 dX12_travel_61 rfl ?_
    refine j_if_ne 76 dX12_travel_63 (by decide) h (fun h => ?_) (fun h => ?_)
    · refine j_aload_n 0 dX12_travel_76 rfl rfl ?_
      refine j_getA 103 fl_RX12_30 sh_97 fk_97_14 (by decide) dX12_travel_77 ?_
      refine j_iload 2 dX12_travel_80 rfl ?_
      refine j_iald sh_103 dX12_travel_82 h (fun h => ?_)
      refine j_loc [(0, .ref (ad (gm κ) 97)), (3, .int s.1), (4, .int a4), (5, .int s.2.1)] [0, 1, 2, 3] rfl ?_
      exact t_X12_travel_j83 s.1 a4 s.2.1 (s.2.2.1 103 (ix a4)) s.2.2 (fun _ h => h) K0 h
    · refine j_aload_n 0 dX12_travel_66 rfl rfl ?_
      refine j_getA 102 fl_RX12_27 sh_97 fk_97_13 (by decide) dX12_travel_67 ?_
      refine j_iload 2 dX12_travel_70 rfl ?_
      refine j_iald sh_102 dX12_travel_72 h (fun h => ?_)
      refine j_goto 83 dX12_travel_73 (by decide) ?_
      refine j_loc [(0, .ref (ad (gm κ) 97)), (3, .int s.1), (4, .int a4), (5, .int s.2.1)] [0, 1, 2, 3] rfl ?_
      exact t_X12_travel_j83 s.1 a4 s.2.1 (s.2.2.1 102 (ix a4)) s.2.2 (fun _ h => h) K0 h
noncomputable def X12_travel_b43 (s : (Int32 × Int32 × Wd)) : Option ((Int32 × Int32 × Wd) ⊕ (Int32 × Wd)) :=
(if (s.2.2.1 97 5) ≤ s.2.1 then
some (.inr (s.1, s.2.2))
else
(lp (X12_travel_b55 s.2.1) (s.1, (0 : Int32), s.2.2)).bind fun e7 =>
some (.inl (e7.1, (s.2.1 + (1 : Int32)), e7.2)))
set_option maxRecDepth 20000 in
set_option maxHeartbeats 1000000 in
theorem t_X12_travel_b43 {κ : Kx} {P : (Int32 × Wd) → Prop} (K0 : ∀ e, P e → J κ RX12 cX12_travel 9 none (rmk 1 22) 211 [(0, .ref (ad (gm κ) 97)), (3, .int e.1)] [] e.2) (s : (Int32 × Int32 × Wd)) (h : ok (lp (X12_travel_b43  ) s) P) : J κ RX12 cX12_travel 9 none (rmk 1 22) 43 [(0, .ref (ad (gm κ) 97)), (3, .int s.1), (4, .int s.2.1)] [] s.2.2 := by
  refine lp_ind (fun s => J κ RX12 cX12_travel 9 none (rmk 1 22) 43 [(0, .ref (ad (gm κ) 97)), (3, .int s.1), (4, .int s.2.1)] [] s.2.2) (fun s h => ?_) s h
  unfold X12_travel_b43 at h
  refine j_iload 2 dX12_travel_43 rfl ?_
  refine j_aload_n 0 dX12_travel_45 rfl rfl ?_
  refine j_getI fl_RX12_325 sh_97 fk_97_5 dX12_travel_46 ?_
  refine j_ic_ge 211 dX12_travel_49 (by decide) h (fun h => ?_) (fun h => ?_)
  · refine j_loc [(0, .ref (ad (gm κ) 97)), (3, .int s.1)] [0, 1] rfl ?_
    have h := sel_r h
    have h := K0 _ h
    exact h
  · refine j_iconst (0 : Int32) dX12_travel_52 ki_0 ?_
    refine j_istore [(5, .int (0 : Int32)), (0, .ref (ad (gm κ) 97)), (3, .int s.1), (4, .int s.2.1)] dX12_travel_53 (by decide) rfl ?_
    refine j_loc [(0, .ref (ad (gm κ) 97)), (3, .int s.1), (4, .int s.2.1), (5, .int (0 : Int32))] [1, 2, 3, 0] rfl ?_
    refine t_X12_travel_b55 s.2.1 (fun e7 h => ?_) (s.1, (0 : Int32), s.2.2) (ok_bb h)
    · refine j_iinc (s.2.1 + (1 : Int32)) 2 [(4, .int (s.2.1 + (1 : Int32))), (0, .ref (ad (gm κ) 97)), (3, .int e7.1)] dX12_travel_205 rfl (by rw [kn_1]) (by decide) rfl ?_
      refine j_goto 43 dX12_travel_208 (by decide) ?_
      refine j_loc [(0, .ref (ad (gm κ) 97)), (3, .int e7.1), (4, .int (s.2.1 + (1 : Int32)))] [1, 2, 0] rfl ?_
      have h := sel_l h
      exact h
noncomputable def X12_travel_b34 (s : (Int32 × Wd)) : Option ((Int32 × Wd) ⊕ Wd) :=
(if s.1 = 0 then
some (.inr s.2)
else
(lp (X12_travel_b43 ) ((0 : Int32), (0 : Int32), s.2)).bind fun e8 =>
some (.inl (e8.1, e8.2)))
set_option maxRecDepth 20000 in
set_option maxHeartbeats 1000000 in
theorem t_X12_travel_b34 {κ : Kx} {P : Wd → Prop} (K0 : ∀ e, P e → J κ RX12 cX12_travel 9 none (rmk 1 22) 214 [] [] e) (s : (Int32 × Wd)) (h : ok (lp (X12_travel_b34  ) s) P) : J κ RX12 cX12_travel 9 none (rmk 1 22) 34 [(0, .ref (ad (gm κ) 97)), (3, .int s.1)] [] s.2 := by
  refine lp_ind (fun s => J κ RX12 cX12_travel 9 none (rmk 1 22) 34 [(0, .ref (ad (gm κ) 97)), (3, .int s.1)] [] s.2) (fun s h => ?_) s h
  unfold X12_travel_b34 at h
  refine j_iload_n 1 dX12_travel_34 rfl rfl ?_
  refine j_if_eq 214 dX12_travel_35 (by decide) h (fun h => ?_) (fun h => ?_)
  · refine j_loc [] [] rfl ?_
    have h := sel_r h
    have h := K0 _ h
    exact h
  · refine j_iconst (0 : Int32) dX12_travel_38 ki_0 ?_
    refine j_istore_n [(3, .int (0 : Int32)), (0, .ref (ad (gm κ) 97))] dX12_travel_39 rfl (by decide) rfl ?_
    refine j_iconst (0 : Int32) dX12_travel_40 ki_0 ?_
    refine j_istore [(4, .int (0 : Int32)), (3, .int (0 : Int32)), (0, .ref (ad (gm κ) 97))] dX12_travel_41 (by decide) rfl ?_
    refine j_loc [(0, .ref (ad (gm κ) 97)), (3, .int (0 : Int32)), (4, .int (0 : Int32))] [2, 1, 0] rfl ?_
    refine t_X12_travel_b43  (fun e8 h => ?_) ((0 : Int32), (0 : Int32), s.2) (ok_bb h)
    · refine j_goto 34 dX12_travel_211 (by decide) ?_
      refine j_loc [(0, .ref (ad (gm κ) 97)), (3, .int e8.1)] [0, 1] rfl ?_
      have h := sel_l h
      exact h
noncomputable def X12_travel (a1 : Int32) (a2 : Int32) (w : Wd) : Option (Wd) :=
(lp (X12_travel_b2 a1 a2) ((0 : Int32), w)).bind fun e2 =>
(lp (X12_travel_b34 ) ((1 : Int32), e2)).bind fun e9 =>
some e9
set_option maxRecDepth 20000 in
set_option maxHeartbeats 1000000 in
theorem t_X12_travel {κ : Kx} (a1 : Int32) (a2 : Int32) (w : Wd) (h : ok (X12_travel  a1 a2 w) (PVw κ)) : J κ RX12 cX12_travel 9 none (rmk 1 22) 0 [(0, .ref (ad (gm κ) 97)), (1, .int a1), (2, .int a2)] [] w := by
  unfold X12_travel at h
  refine j_iconst (0 : Int32) dX12_travel_0 ki_0 ?_
  refine j_istore_n [(3, .int (0 : Int32)), (0, .ref (ad (gm κ) 97)), (1, .int a1), (2, .int a2)] dX12_travel_1 rfl (by decide) rfl ?_
  refine j_loc [(0, .ref (ad (gm κ) 97)), (1, .int a1), (2, .int a2), (3, .int (0 : Int32))] [1, 2, 3, 0] rfl ?_
  refine t_X12_travel_b2 a1 a2 (fun e2 h => ?_) ((0 : Int32), w) (ok_bb h)
  · refine j_iconst (1 : Int32) dX12_travel_32 ki_1 ?_
    refine j_istore_n [(3, .int (1 : Int32)), (0, .ref (ad (gm κ) 97))] dX12_travel_33 rfl (by decide) rfl ?_
    refine j_loc [(0, .ref (ad (gm κ) 97)), (3, .int (1 : Int32))] [1, 0] rfl ?_
    refine t_X12_travel_b34  (fun e9 h => ?_) ((1 : Int32), e2) (ok_bb h)
    · have h := ok_s h
      exact j_vret dX12_travel_214 rfl h
theorem c_X12_travel (l : Launch) (γ : Gm) (A : Nat → Prop) (a1 : Int32) (a2 : Int32) (w : Wd) (q : Wd) (e : X12_travel  a1 a2 w = some q) : MetG l γ A yX12_travel cX12_travel 9 none (rmk 1 22) [.ref (ad (γ) 97), .int a1, .int a2] w none q := by
  refine met_of pn_RX12 (Nat.le_of_ble_eq_true rfl) ?_
  intro κ hl hγ hA hρ
  subst hl; subst hγ; subst hA
  exact t_X12_travel   a1 a2 w ⟨q, e, pVw hρ rfl rfl⟩
theorem dX12_arrival_0 : decode cX12_arrival 0 = .ok (.aload_n 0, 1) := by decide +kernel
theorem dX12_arrival_1 : decode cX12_arrival 1 = .ok (.iload_n 1, 1) := by decide +kernel
theorem dX12_arrival_2 : decode cX12_arrival 2 = .ok (.invokevirtual 319, 3) := by decide +kernel
theorem dX12_arrival_5 : decode cX12_arrival 5 = .ok (.ifCond .eq 18, 3) := by decide +kernel
theorem dX12_arrival_8 : decode cX12_arrival 8 = .ok (.aload_n 0, 1) := by decide +kernel
theorem dX12_arrival_9 : decode cX12_arrival 9 = .ok (.iload_n 2, 1) := by decide +kernel
theorem dX12_arrival_10 : decode cX12_arrival 10 = .ok (.invokevirtual 319, 3) := by decide +kernel
theorem dX12_arrival_13 : decode cX12_arrival 13 = .ok (.ifCond .eq 10, 3) := by decide +kernel
theorem dX12_arrival_16 : decode cX12_arrival 16 = .ok (.iload_n 3, 1) := by decide +kernel
theorem dX12_arrival_17 : decode cX12_arrival 17 = .ok (.invokestatic 322, 3) := by decide +kernel
theorem dX12_arrival_20 : decode cX12_arrival 20 = .ok (.ifCond .ne 9, 3) := by decide +kernel
theorem dX12_arrival_23 : decode cX12_arrival 23 = .ok (.aload_n 0, 1) := by decide +kernel
theorem dX12_arrival_24 : decode cX12_arrival 24 = .ok (.iconst 1, 1) := by decide +kernel
theorem dX12_arrival_25 : decode cX12_arrival 25 = .ok (.invokevirtual 312, 3) := by decide +kernel
theorem dX12_arrival_28 : decode cX12_arrival 28 = .ok (.ireturn, 1) := by decide +kernel
theorem dX12_arrival_29 : decode cX12_arrival 29 = .ok (.aload_n 0, 1) := by decide +kernel
theorem dX12_arrival_30 : decode cX12_arrival 30 = .ok (.iload_n 1, 1) := by decide +kernel
theorem dX12_arrival_31 : decode cX12_arrival 31 = .ok (.iload_n 3, 1) := by decide +kernel
theorem dX12_arrival_32 : decode cX12_arrival 32 = .ok (.invokevirtual 332, 3) := by decide +kernel
theorem dX12_arrival_35 : decode cX12_arrival 35 = .ok (.aload_n 0, 1) := by decide +kernel
theorem dX12_arrival_36 : decode cX12_arrival 36 = .ok (.getfield 42, 3) := by decide +kernel
theorem dX12_arrival_39 : decode cX12_arrival 39 = .ok (.iload_n 2, 1) := by decide +kernel
theorem dX12_arrival_40 : decode cX12_arrival 40 = .ok (.iaload, 1) := by decide +kernel
theorem dX12_arrival_41 : decode cX12_arrival 41 = .ok (.sipush 1000, 3) := by decide +kernel
theorem dX12_arrival_44 : decode cX12_arrival 44 = .ok (.if_icmp .ne 12, 3) := by decide +kernel
theorem dX12_arrival_47 : decode cX12_arrival 47 = .ok (.aload_n 0, 1) := by decide +kernel
theorem dX12_arrival_48 : decode cX12_arrival 48 = .ok (.bipush 6, 2) := by decide +kernel
theorem dX12_arrival_50 : decode cX12_arrival 50 = .ok (.invokevirtual 312, 3) := by decide +kernel
theorem dX12_arrival_53 : decode cX12_arrival 53 = .ok (.goto 13, 3) := by decide +kernel
theorem dX12_arrival_56 : decode cX12_arrival 56 = .ok (.aload_n 0, 1) := by decide +kernel
theorem dX12_arrival_57 : decode cX12_arrival 57 = .ok (.aload_n 0, 1) := by decide +kernel
theorem dX12_arrival_58 : decode cX12_arrival 58 = .ok (.getfield 42, 3) := by decide +kernel
theorem dX12_arrival_61 : decode cX12_arrival 61 = .ok (.iload_n 2, 1) := by decide +kernel
theorem dX12_arrival_62 : decode cX12_arrival 62 = .ok (.iaload, 1) := by decide +kernel
theorem dX12_arrival_63 : decode cX12_arrival 63 = .ok (.invokevirtual 316, 3) := by decide +kernel
theorem dX12_arrival_66 : decode cX12_arrival 66 = .ok (.ireturn, 1) := by decide +kernel
noncomputable def X12_arrival_j23 (w : Wd) : Option (Int32 × Wd) :=
(X12_refuse (1 : Int32) w).bind fun q1 =>
some (q1.1, q1.2)
set_option maxRecDepth 20000 in
set_option maxHeartbeats 1000000 in
theorem t_X12_arrival_j23 {κ : Kx} (w : Wd) (h : ok (X12_arrival_j23  w) (PIw κ)) : J κ RX12 cX12_arrival 4 (some .int) (rmk 2 50) 23 [(0, .ref (ad (gm κ) 97))] [] w := by
  unfold X12_arrival_j23 at h
  refine j_aload_n 0 dX12_arrival_23 rfl rfl ?_
  refine j_iconst (1 : Int32) dX12_arrival_24 ki_1 ?_
  obtain ⟨q1, e2, h⟩ := ok_b h
  refine j_callV (As := [.int (1 : Int32)]) (st := []) [.int q1.1] (c_X12_refuse (kl κ) (gm κ) (kA κ) (1 : Int32) w q1 e2) ck_RX12_312 im_X12_refuse se_X12_refuse sh_97 cx_12 ⟨rfl, rfl⟩ ⟨by decide, by decide⟩ rfl rfl (Nat.le_of_ble_eq_true rfl) dX12_arrival_25 _ rfl ?_
  have h := ok_s h
  exact j_iret dX12_arrival_28 rfl rfl h
noncomputable def X12_arrival (a1 : Int32) (a2 : Int32) (a3 : Int32) (w : Wd) : Option (Int32 × Wd) :=
(if (X12_isPlace a1 w) = 0 then
X12_arrival_j23 w
else
(if (X12_isPlace a2 w) = 0 then
X12_arrival_j23 w
else
(if (X12_isWeek a3 w) = 0 then
X12_arrival_j23 w
else
(X12_travel a1 a3 w).bind fun q3 =>
gd (vp_in a2 16) <|
(if (q3.1 107 (ix a2)) = (1000 : Int32) then
(X12_refuse (6 : Int32) q3).bind fun q7 =>
some (q7.1, q7.2)
else
gd (vp_in a2 16) <|
(X12_gives (q3.1 107 (ix a2)) q3).bind fun q5 =>
some (q5.1, q5.2)))))
set_option maxRecDepth 20000 in
set_option maxHeartbeats 1000000 in
theorem t_X12_arrival {κ : Kx} (a1 : Int32) (a2 : Int32) (a3 : Int32) (w : Wd) (h : ok (X12_arrival  a1 a2 a3 w) (PIw κ)) : J κ RX12 cX12_arrival 4 (some .int) (rmk 2 50) 0 [(0, .ref (ad (gm κ) 97)), (1, .int a1), (2, .int a2), (3, .int a3)] [] w := by
  unfold X12_arrival at h
  refine j_aload_n 0 dX12_arrival_0 rfl rfl ?_
  refine j_iload_n 1 dX12_arrival_1 rfl rfl ?_
  refine j_callV (As := [.int a1]) (st := []) [.int (X12_isPlace a1 w)] (c_X12_isPlace (kl κ) (gm κ) (kA κ) a1 w) ck_RX12_319 im_X12_isPlace se_X12_isPlace sh_97 cx_12 ⟨rfl, rfl⟩ ⟨by decide, by decide⟩ rfl rfl (Nat.le_of_ble_eq_true rfl) dX12_arrival_2 _ rfl ?_
  refine j_if_eq 23 dX12_arrival_5 (by decide) h (fun h => ?_) (fun h => ?_)
  · refine j_loc [(0, .ref (ad (gm κ) 97))] [0] rfl ?_
    exact t_X12_arrival_j23 w h
  · refine j_aload_n 0 dX12_arrival_8 rfl rfl ?_
    refine j_iload_n 2 dX12_arrival_9 rfl rfl ?_
    refine j_callV (As := [.int a2]) (st := []) [.int (X12_isPlace a2 w)] (c_X12_isPlace (kl κ) (gm κ) (kA κ) a2 w) ck_RX12_319 im_X12_isPlace se_X12_isPlace sh_97 cx_12 ⟨rfl, rfl⟩ ⟨by decide, by decide⟩ rfl rfl (Nat.le_of_ble_eq_true rfl) dX12_arrival_10 _ rfl ?_
    refine j_if_eq 23 dX12_arrival_13 (by decide) h (fun h => ?_) (fun h => ?_)
    · refine j_loc [(0, .ref (ad (gm κ) 97))] [0] rfl ?_
      exact t_X12_arrival_j23 w h
    · refine j_iload_n 3 dX12_arrival_16 rfl rfl ?_
      refine j_callS (As := [.int a3]) (st := []) [.int (X12_isWeek a3 w)] (c_X12_isWeek (kl κ) (gm κ) (kA κ) a3 w) ck_RX12_322 st_X12_isWeek ⟨rfl, rfl⟩ ⟨by decide, by decide⟩ rfl rfl (Nat.le_of_ble_eq_true rfl) dX12_arrival_17 _ rfl ?_
      refine j_if_ne 29 dX12_arrival_20 (by decide) h (fun h => ?_) (fun h => ?_)
      · refine j_aload_n 0 dX12_arrival_29 rfl rfl ?_
        refine j_iload_n 1 dX12_arrival_30 rfl rfl ?_
        refine j_iload_n 3 dX12_arrival_31 rfl rfl ?_
        obtain ⟨q3, e4, h⟩ := ok_b h
        refine j_callV (As := [.int a1, .int a3]) (st := []) [] (c_X12_travel (kl κ) (gm κ) (kA κ) a1 a3 w q3 e4) ck_RX12_332 im_X12_travel se_X12_travel sh_97 cx_12 ⟨rfl, rfl⟩ ⟨by decide, by decide⟩ rfl rfl (Nat.le_of_ble_eq_true rfl) dX12_arrival_32 _ rfl ?_
        refine j_aload_n 0 dX12_arrival_35 rfl rfl ?_
        refine j_getA 107 fl_RX12_42 sh_97 fk_97_18 (by decide) dX12_arrival_36 ?_
        refine j_iload_n 2 dX12_arrival_39 rfl rfl ?_
        refine j_iald sh_107 dX12_arrival_40 h (fun h => ?_)
        refine j_sipush (1000 : Int32) dX12_arrival_41 ks_1000 ?_
        refine j_ic_ne 56 dX12_arrival_44 (by decide) h (fun h => ?_) (fun h => ?_)
        · refine j_aload_n 0 dX12_arrival_56 rfl rfl ?_
          refine j_aload_n 0 dX12_arrival_57 rfl rfl ?_
          refine j_getA 107 fl_RX12_42 sh_97 fk_97_18 (by decide) dX12_arrival_58 ?_
          refine j_iload_n 2 dX12_arrival_61 rfl rfl ?_
          refine j_iald sh_107 dX12_arrival_62 h (fun h => ?_)
          obtain ⟨q5, e6, h⟩ := ok_b h
          refine j_callV (As := [.int (q3.1 107 (ix a2))]) (st := []) [.int q5.1] (c_X12_gives (kl κ) (gm κ) (kA κ) (q3.1 107 (ix a2)) q3 q5 e6) ck_RX12_316 im_X12_gives se_X12_gives sh_97 cx_12 ⟨rfl, rfl⟩ ⟨by decide, by decide⟩ rfl rfl (Nat.le_of_ble_eq_true rfl) dX12_arrival_63 _ rfl ?_
          have h := ok_s h
          exact j_iret dX12_arrival_66 rfl rfl h
        · refine j_aload_n 0 dX12_arrival_47 rfl rfl ?_
          refine j_bipush (6 : Int32) dX12_arrival_48 kb_6 ?_
          obtain ⟨q7, e8, h⟩ := ok_b h
          refine j_callV (As := [.int (6 : Int32)]) (st := []) [.int q7.1] (c_X12_refuse (kl κ) (gm κ) (kA κ) (6 : Int32) q3 q7 e8) ck_RX12_312 im_X12_refuse se_X12_refuse sh_97 cx_12 ⟨rfl, rfl⟩ ⟨by decide, by decide⟩ rfl rfl (Nat.le_of_ble_eq_true rfl) dX12_arrival_50 _ rfl ?_
          refine j_goto 66 dX12_arrival_53 (by decide) ?_
          have h := ok_s h
          exact j_iret dX12_arrival_66 rfl rfl h
      · refine j_loc [(0, .ref (ad (gm κ) 97))] [0] rfl ?_
        exact t_X12_arrival_j23 w h
theorem c_X12_arrival (l : Launch) (γ : Gm) (A : Nat → Prop) (a1 : Int32) (a2 : Int32) (a3 : Int32) (w : Wd) (q : Int32 × Wd) (e : X12_arrival  a1 a2 a3 w = some q) : MetG l γ A yX12_arrival cX12_arrival 4 (some .int) (rmk 2 50) [.ref (ad (γ) 97), .int a1, .int a2, .int a3] w (some (.int q.1)) q.2 := by
  refine met_of pn_RX12 (Nat.le_of_ble_eq_true rfl) ?_
  intro κ hl hγ hA hρ
  subst hl; subst hγ; subst hA
  exact t_X12_arrival   a1 a2 a3 w ⟨q, e, pIw hρ rfl rfl⟩
