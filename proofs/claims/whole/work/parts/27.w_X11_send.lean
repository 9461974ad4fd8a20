theorem dX11_send_0 : decode cX11_send 0 = .ok (.iload_n 1, 1) := by decide +kernel
theorem dX11_send_1 : decode cX11_send 1 = .ok (.invokestatic 87, 3) := by decide +kernel
theorem dX11_send_4 : decode cX11_send 4 = .ok (.ifCond .eq 28, 3) := by decide +kernel
theorem dX11_send_7 : decode cX11_send 7 = .ok (.iload_n 2, 1) := by decide +kernel
theorem dX11_send_8 : decode cX11_send 8 = .ok (.invokestatic 87, 3) := by decide +kernel
theorem dX11_send_11 : decode cX11_send 11 = .ok (.ifCond .eq 21, 3) := by decide +kernel
theorem dX11_send_14 : decode cX11_send 14 = .ok (.iload_n 3, 1) := by decide +kernel
theorem dX11_send_15 : decode cX11_send 15 = .ok (.iconst 1, 1) := by decide +kernel
theorem dX11_send_16 : decode cX11_send 16 = .ok (.bipush 7, 2) := by decide +kernel
theorem dX11_send_18 : decode cX11_send 18 = .ok (.invokestatic 91, 3) := by decide +kernel
theorem dX11_send_21 : decode cX11_send 21 = .ok (.ifCond .eq 11, 3) := by decide +kernel
theorem dX11_send_24 : decode cX11_send 24 = .ok (.iload 4, 2) := by decide +kernel
theorem dX11_send_26 : decode cX11_send 26 = .ok (.invokestatic 168, 3) := by decide +kernel
theorem dX11_send_29 : decode cX11_send 29 = .ok (.ifCond .ne 9, 3) := by decide +kernel
theorem dX11_send_32 : decode cX11_send 32 = .ok (.aload_n 0, 1) := by decide +kernel
theorem dX11_send_33 : decode cX11_send 33 = .ok (.iconst 1, 1) := by decide +kernel
theorem dX11_send_34 : decode cX11_send 34 = .ok (.invokevirtual 114, 3) := by decide +kernel
theorem dX11_send_37 : decode cX11_send 37 = .ok (.ireturn, 1) := by decide +kernel
theorem dX11_send_38 : decode cX11_send 38 = .ok (.aload_n 0, 1) := by decide +kernel
theorem dX11_send_39 : decode cX11_send 39 = .ok (.getfield 10, 3) := by decide +kernel
theorem dX11_send_42 : decode cX11_send 42 = .ok (.iload_n 1, 1) := by decide +kernel
theorem dX11_send_43 : decode cX11_send 43 = .ok (.invokevirtual 122, 3) := by decide +kernel
theorem dX11_send_46 : decode cX11_send 46 = .ok (.ifCond .ne 14, 3) := by decide +kernel
theorem dX11_send_49 : decode cX11_send 49 = .ok (.aload_n 0, 1) := by decide +kernel
theorem dX11_send_50 : decode cX11_send 50 = .ok (.getfield 10, 3) := by decide +kernel
theorem dX11_send_53 : decode cX11_send 53 = .ok (.iload_n 2, 1) := by decide +kernel
theorem dX11_send_54 : decode cX11_send 54 = .ok (.invokevirtual 122, 3) := by decide +kernel
theorem dX11_send_57 : decode cX11_send 57 = .ok (.ifCond .eq 9, 3) := by decide +kernel
theorem dX11_send_60 : decode cX11_send 60 = .ok (.aload_n 0, 1) := by decide +kernel
theorem dX11_send_61 : decode cX11_send 61 = .ok (.iconst 2, 1) := by decide +kernel
theorem dX11_send_62 : decode cX11_send 62 = .ok (.invokevirtual 114, 3) := by decide +kernel
theorem dX11_send_65 : decode cX11_send 65 = .ok (.ireturn, 1) := by decide +kernel
theorem dX11_send_66 : decode cX11_send 66 = .ok (.aload_n 0, 1) := by decide +kernel
theorem dX11_send_67 : decode cX11_send 67 = .ok (.getfield 10, 3) := by decide +kernel
theorem dX11_send_70 : decode cX11_send 70 = .ok (.iload_n 1, 1) := by decide +kernel
theorem dX11_send_71 : decode cX11_send 71 = .ok (.iconst 0, 1) := by decide +kernel
theorem dX11_send_72 : decode cX11_send 72 = .ok (.iload_n 3, 1) := by decide +kernel
theorem dX11_send_73 : decode cX11_send 73 = .ok (.invokevirtual 129, 3) := by decide +kernel
theorem dX11_send_76 : decode cX11_send 76 = .ok (.ifCond .eq 16, 3) := by decide +kernel
theorem dX11_send_79 : decode cX11_send 79 = .ok (.aload_n 0, 1) := by decide +kernel
theorem dX11_send_80 : decode cX11_send 80 = .ok (.getfield 10, 3) := by decide +kernel
theorem dX11_send_83 : decode cX11_send 83 = .ok (.iload_n 2, 1) := by decide +kernel
theorem dX11_send_84 : decode cX11_send 84 = .ok (.iconst 0, 1) := by decide +kernel
theorem dX11_send_85 : decode cX11_send 85 = .ok (.iload_n 3, 1) := by decide +kernel
theorem dX11_send_86 : decode cX11_send 86 = .ok (.invokevirtual 129, 3) := by decide +kernel
theorem dX11_send_89 : decode cX11_send 89 = .ok (.ifCond .ne 9, 3) := by decide +kernel
theorem dX11_send_92 : decode cX11_send 92 = .ok (.aload_n 0, 1) := by decide +kernel
theorem dX11_send_93 : decode cX11_send 93 = .ok (.iconst 3, 1) := by decide +kernel
theorem dX11_send_94 : decode cX11_send 94 = .ok (.invokevirtual 114, 3) := by decide +kernel
theorem dX11_send_97 : decode cX11_send 97 = .ok (.ireturn, 1) := by decide +kernel
theorem dX11_send_98 : decode cX11_send 98 = .ok (.aload_n 0, 1) := by decide +kernel
theorem dX11_send_99 : decode cX11_send 99 = .ok (.getfield 10, 3) := by decide +kernel
theorem dX11_send_102 : decode cX11_send 102 = .ok (.iload_n 1, 1) := by decide +kernel
theorem dX11_send_103 : decode cX11_send 103 = .ok (.iload_n 3, 1) := by decide +kernel
theorem dX11_send_104 : decode cX11_send 104 = .ok (.aload_n 0, 1) := by decide +kernel
theorem dX11_send_105 : decode cX11_send 105 = .ok (.getfield 19, 3) := by decide +kernel
theorem dX11_send_108 : decode cX11_send 108 = .ok (.getfield 194, 3) := by decide +kernel
theorem dX11_send_111 : decode cX11_send 111 = .ok (.invokevirtual 365, 3) := by decide +kernel
theorem dX11_send_114 : decode cX11_send 114 = .ok (.ifCond .eq 22, 3) := by decide +kernel
theorem dX11_send_117 : decode cX11_send 117 = .ok (.aload_n 0, 1) := by decide +kernel
theorem dX11_send_118 : decode cX11_send 118 = .ok (.getfield 10, 3) := by decide +kernel
theorem dX11_send_121 : decode cX11_send 121 = .ok (.iload_n 2, 1) := by decide +kernel
theorem dX11_send_122 : decode cX11_send 122 = .ok (.iload_n 3, 1) := by decide +kernel
theorem dX11_send_123 : decode cX11_send 123 = .ok (.aload_n 0, 1) := by decide +kernel
theorem dX11_send_124 : decode cX11_send 124 = .ok (.getfield 19, 3) := by decide +kernel
theorem dX11_send_127 : decode cX11_send 127 = .ok (.getfield 188, 3) := by decide +kernel
theorem dX11_send_130 : decode cX11_send 130 = .ok (.invokevirtual 365, 3) := by decide +kernel
theorem dX11_send_133 : decode cX11_send 133 = .ok (.ifCond .ne 9, 3) := by decide +kernel
theorem dX11_send_136 : decode cX11_send 136 = .ok (.aload_n 0, 1) := by decide +kernel
theorem dX11_send_137 : decode cX11_send 137 = .ok (.iconst 1, 1) := by decide +kernel
theorem dX11_send_138 : decode cX11_send 138 = .ok (.invokevirtual 114, 3) := by decide +kernel
theorem dX11_send_141 : decode cX11_send 141 = .ok (.ireturn, 1) := by decide +kernel
theorem dX11_send_142 : decode cX11_send 142 = .ok (.aload_n 0, 1) := by decide +kernel
theorem dX11_send_143 : decode cX11_send 143 = .ok (.getfield 72, 3) := by decide +kernel
theorem dX11_send_146 : decode cX11_send 146 = .ok (.iload_n 3, 1) := by decide +kernel
theorem dX11_send_147 : decode cX11_send 147 = .ok (.invokevirtual 368, 3) := by decide +kernel
theorem dX11_send_150 : decode cX11_send 150 = .ok (.iconst 0, 1) := by decide +kernel
theorem dX11_send_151 : decode cX11_send 151 = .ok (.istore 5, 2) := by decide +kernel
theorem dX11_send_153 : decode cX11_send 153 = .ok (.iload 5, 2) := by decide +kernel
theorem dX11_send_155 : decode cX11_send 155 = .ok (.iload_n 3, 1) := by decide +kernel
theorem dX11_send_156 : decode cX11_send 156 = .ok (.if_icmp .ge 40, 3) := by decide +kernel
theorem dX11_send_159 : decode cX11_send 159 = .ok (.aload_n 0, 1) := by decide +kernel
theorem dX11_send_160 : decode cX11_send 160 = .ok (.getfield 72, 3) := by decide +kernel
theorem dX11_send_163 : decode cX11_send 163 = .ok (.iload 5, 2) := by decide +kernel
theorem dX11_send_165 : decode cX11_send 165 = .ok (.aload_n 0, 1) := by decide +kernel
theorem dX11_send_166 : decode cX11_send 166 = .ok (.getfield 10, 3) := by decide +kernel
theorem dX11_send_169 : decode cX11_send 169 = .ok (.iload_n 1, 1) := by decide +kernel
theorem dX11_send_170 : decode cX11_send 170 = .ok (.iload 5, 2) := by decide +kernel
theorem dX11_send_172 : decode cX11_send 172 = .ok (.invokevirtual 118, 3) := by decide +kernel
theorem dX11_send_175 : decode cX11_send 175 = .ok (.l2i, 1) := by decide +kernel
theorem dX11_send_176 : decode cX11_send 176 = .ok (.aload_n 0, 1) := by decide +kernel
theorem dX11_send_177 : decode cX11_send 177 = .ok (.getfield 10, 3) := by decide +kernel
theorem dX11_send_180 : decode cX11_send 180 = .ok (.iload_n 2, 1) := by decide +kernel
theorem dX11_send_181 : decode cX11_send 181 = .ok (.iload 5, 2) := by decide +kernel
theorem dX11_send_183 : decode cX11_send 183 = .ok (.invokevirtual 118, 3) := by decide +kernel
theorem dX11_send_186 : decode cX11_send 186 = .ok (.l2i, 1) := by decide +kernel
theorem dX11_send_187 : decode cX11_send 187 = .ok (.invokevirtual 371, 3) := by decide +kernel
theorem dX11_send_190 : decode cX11_send 190 = .ok (.iinc 5 1, 3) := by decide +kernel
theorem dX11_send_193 : decode cX11_send 193 = .ok (.goto (-40), 3) := by decide +kernel
theorem dX11_send_196 : decode cX11_send 196 = .ok (.aload_n 0, 1) := by decide +kernel
theorem dX11_send_197 : decode cX11_send 197 = .ok (.getfield 26, 3) := by decide +kernel
theorem dX11_send_200 : decode cX11_send 200 = .ok (.iload 4, 2) := by decide +kernel
theorem dX11_send_202 : decode cX11_send 202 = .ok (.invokevirtual 229, 3) := by decide +kernel
theorem dX11_send_205 : decode cX11_send 205 = .ok (.aload_n 0, 1) := by decide +kernel
theorem dX11_send_206 : decode cX11_send 206 = .ok (.getfield 72, 3) := by decide +kernel
theorem dX11_send_209 : decode cX11_send 209 = .ok (.aload_n 0, 1) := by decide +kernel
theorem dX11_send_210 : decode cX11_send 210 = .ok (.getfield 19, 3) := by decide +kernel
theorem dX11_send_213 : decode cX11_send 213 = .ok (.aload_n 0, 1) := by decide +kernel
theorem dX11_send_214 : decode cX11_send 214 = .ok (.getfield 26, 3) := by decide +kernel
theorem dX11_send_217 : decode cX11_send 217 = .ok (.iload 4, 2) := by decide +kernel
theorem dX11_send_219 : decode cX11_send 219 = .ok (.invokevirtual 374, 3) := by decide +kernel
theorem dX11_send_222 : decode cX11_send 222 = .ok (.aload_n 0, 1) := by decide +kernel
theorem dX11_send_223 : decode cX11_send 223 = .ok (.bipush 6, 2) := by decide +kernel
theorem dX11_send_225 : decode cX11_send 225 = .ok (.aload_n 0, 1) := by decide +kernel
theorem dX11_send_226 : decode cX11_send 226 = .ok (.getfield 72, 3) := by decide +kernel
theorem dX11_send_229 : decode cX11_send 229 = .ok (.invokevirtual 378, 3) := by decide +kernel
theorem dX11_send_232 : decode cX11_send 232 = .ok (.invokevirtual 178, 3) := by decide +kernel
theorem dX11_send_235 : decode cX11_send 235 = .ok (.ireturn, 1) := by decide +kernel
noncomputable def X11_send_j32 (w : Wd) : Option (Int32 × Wd) :=
(X11_deny (1 : Int32) w).bind fun q1 =>
some (q1.1, q1.2)
set_option maxRecDepth 20000 in
set_option maxHeartbeats 1000000 in
theorem t_X11_send_j32 {κ : Kx} (w : Wd) (h : ok (X11_send_j32  w) (PIw κ)) : J κ RX11 cX11_send 6 (some .int) (rmk 4 99) 32 [(0, .ref (ad (gm κ) 0))] [] w := by
  unfold X11_send_j32 at h
  refine j_aload_n 0 dX11_send_32 rfl rfl ?_
  refine j_iconst (1 : Int32) dX11_send_33 ki_1 ?_
  obtain ⟨q1, e2, h⟩ := ok_b h
  refine j_callV (As := [.int (1 : Int32)]) (st := []) [.int q1.1] (c_X11_deny (kl κ) (gm κ) (kA κ) (1 : Int32) w q1 e2) ck_RX11_114 im_X11_deny se_X11_deny sh_0 cx_11 ⟨rfl, rfl⟩ ⟨by decide, by decide⟩ rfl rfl (Nat.le_of_ble_eq_true rfl) dX11_send_34 _ rfl ?_
  have h := ok_s h
  exact j_iret dX11_send_37 rfl rfl h
noncomputable def X11_send_j60 (w : Wd) : Option (Int32 × Wd) :=
(X11_deny (2 : Int32) w).bind fun q5 =>
some (q5.1, q5.2)
set_option maxRecDepth 20000 in
set_option maxHeartbeats 1000000 in
theorem t_X11_send_j60 {κ : Kx} (w : Wd) (h : ok (X11_send_j60  w) (PIw κ)) : J κ RX11 cX11_send 6 (some .int) (rmk 4 99) 60 [(0, .ref (ad (gm κ) 0))] [] w := by
  unfold X11_send_j60 at h
  refine j_aload_n 0 dX11_send_60 rfl rfl ?_
  refine j_iconst (2 : Int32) dX11_send_61 ki_2 ?_
  obtain ⟨q5, e6, h⟩ := ok_b h
  refine j_callV (As := [.int (2 : Int32)]) (st := []) [.int q5.1] (c_X11_deny (kl κ) (gm κ) (kA κ) (2 : Int32) w q5 e6) ck_RX11_114 im_X11_deny se_X11_deny sh_0 cx_11 ⟨rfl, rfl⟩ ⟨by decide, by decide⟩ rfl rfl (Nat.le_of_ble_eq_true rfl) dX11_send_62 _ rfl ?_
  have h := ok_s h
  exact j_iret dX11_send_65 rfl rfl h
noncomputable def X11_send_j92 (w : Wd) : Option (Int32 × Wd) :=
(X11_deny (3 : Int32) w).bind fun q11 =>
some (q11.1, q11.2)
set_option maxRecDepth 20000 in
set_option maxHeartbeats 1000000 in
theorem t_X11_send_j92 {κ : Kx} (w : Wd) (h : ok (X11_send_j92  w) (PIw κ)) : J κ RX11 cX11_send 6 (some .int) (rmk 4 99) 92 [(0, .ref (ad (gm κ) 0))] [] w := by
  unfold X11_send_j92 at h
  refine j_aload_n 0 dX11_send_92 rfl rfl ?_
  refine j_iconst (3 : Int32) dX11_send_93 ki_3 ?_
  obtain ⟨q11, e12, h⟩ := ok_b h
  refine j_callV (As := [.int (3 : Int32)]) (st := []) [.int q11.1] (c_X11_deny (kl κ) (gm κ) (kA κ) (3 : Int32) w q11 e12) ck_RX11_114 im_X11_deny se_X11_deny sh_0 cx_11 ⟨rfl, rfl⟩ ⟨by decide, by decide⟩ rfl rfl (Nat.le_of_ble_eq_true rfl) dX11_send_94 _ rfl ?_
  have h := ok_s h
  exact j_iret dX11_send_97 rfl rfl h
noncomputable def X11_send_j136 (w : Wd) : Option (Int32 × Wd) :=
(X11_deny (1 : Int32) w).bind fun q17 =>
some (q17.1, q17.2)
set_option maxRecDepth 20000 in
set_option maxHeartbeats 1000000 in
theorem t_X11_send_j136 {κ : Kx} (w : Wd) (h : ok (X11_send_j136  w) (PIw κ)) : J κ RX11 cX11_send 6 (some .int) (rmk 4 99) 136 [(0, .ref (ad (gm κ) 0))] [] w := by
  unfold X11_send_j136 at h
  refine j_aload_n 0 dX11_send_136 rfl rfl ?_
  refine j_iconst (1 : Int32) dX11_send_137 ki_1 ?_
  obtain ⟨q17, e18, h⟩ := ok_b h
  refine j_callV (As := [.int (1 : Int32)]) (st := []) [.int q17.1] (c_X11_deny (kl κ) (gm κ) (kA κ) (1 : Int32) w q17 e18) ck_RX11_114 im_X11_deny se_X11_deny sh_0 cx_11 ⟨rfl, rfl⟩ ⟨by decide, by decide⟩ rfl rfl (Nat.le_of_ble_eq_true rfl) dX11_send_138 _ rfl ?_
  have h := ok_s h
  exact j_iret dX11_send_141 rfl rfl h
noncomputable def X11_send_b153 (a1 : Int32) (a2 : Int32) (a3 : Int32) (a4 : Int32) (s : (Int32 × Wd)) : Option ((Int32 × Wd) ⊕ Wd) :=
(if a3 ≤ s.1 then
some (.inr s.2)
else
(X9_at a1 s.1 s.2).bind fun q23 =>
(X9_at a2 s.1 s.2).bind fun q25 =>
(X7_name s.1 (Int64.toInt32 q23) (Int64.toInt32 q25) s.2).bind fun q27 =>
some (.inl ((s.1 + (1 : Int32)), q27)))
set_option maxRecDepth 20000 in
set_option maxHeartbeats 1000000 in
theorem t_X11_send_b153 {κ : Kx} (a1 : Int32) (a2 : Int32) (a3 : Int32) (a4 : Int32) {P : Wd → Prop} (K0 : ∀ e, P e → J κ RX11 cX11_send 6 (some .int) (rmk 4 99) 196 [(0, .ref (ad (gm κ) 0)), (4, .int a4)] [] e) (s : (Int32 × Wd)) (h : ok (lp (X11_send_b153  a1 a2 a3 a4) s) P) : J κ RX11 cX11_send 6 (some .int) (rmk 4 99) 153 [(0, .ref (ad (gm κ) 0)), (1, .int a1), (2, .int a2), (3, .int a3), (4, .int a4), (5, .int s.1)] [] s.2 := by
  refine lp_ind (fun s => J κ RX11 cX11_send 6 (some .int) (rmk 4 99) 153 [(0, .ref (ad (gm κ) 0)), (1, .int a1), (2, .int a2), (3, .int a3), (4, .int a4), (5, .int s.1)] [] s.2) (fun s h => ?_) s h
  unfold X11_send_b153 at h
  refine j_iload 5 dX11_send_153 rfl ?_
  refine j_iload_n 3 dX11_send_155 rfl rfl ?_
  refine j_ic_ge 196 dX11_send_156 (by decide) h (fun h => ?_) (fun h => ?_)
  · refine j_loc [(0, .ref (ad (gm κ) 0)), (4, .int a4)] [0, 4] rfl ?_
    have h := sel_r h
    have h := K0 _ h
    exact h
  · refine j_aload_n 0 dX11_send_159 rfl rfl ?_
    refine j_getA 88 fl_RX11_72 sh_0 fk_0_8 (by decide) dX11_send_160 ?_
    refine j_iload 5 dX11_send_163 rfl ?_
    refine j_aload_n 0 dX11_send_165 rfl rfl ?_
    refine j_getA 1 fl_RX11_10 sh_0 fk_0_0 (by decide) dX11_send_166 ?_
    refine j_iload_n 1 dX11_send_169 rfl rfl ?_
    refine j_iload 5 dX11_send_170 rfl ?_
    obtain ⟨q23, e24, h⟩ := ok_b h
    refine j_callV (As := [.int a1, .int s.1]) (st := [.int s.1, .ref (ad (gm κ) 88)]) [.long q23, .int s.1, .ref (ad (gm κ) 88)] (c_X9_at (kl κ) (gm κ) (kA κ) a1 s.1 s.2 q23 e24) ck_RX11_118 im_X9_at se_X9_at sh_1 cx_9 ⟨rfl, rfl⟩ ⟨by decide, by decide⟩ rfl rfl (Nat.le_of_ble_eq_true rfl) dX11_send_172 _ rfl ?_
    refine j_l2i dX11_send_175 ?_
    refine j_aload_n 0 dX11_send_176 rfl rfl ?_
    refine j_getA 1 fl_RX11_10 sh_0 fk_0_0 (by decide) dX11_send_177 ?_
    refine j_iload_n 2 dX11_send_180 rfl rfl ?_
    refine j_iload 5 dX11_send_181 rfl ?_
    obtain ⟨q25, e26, h⟩ := ok_b h
    refine j_callV (As := [.int a2, .int s.1]) (st := [.int (Int64.toInt32 q23), .int s.1, .ref (ad (gm κ) 88)]) [.long q25, .int (Int64.toInt32 q23), .int s.1, .ref (ad (gm κ) 88)] (c_X9_at (kl κ) (gm κ) (kA κ) a2 s.1 s.2 q25 e26) ck_RX11_118 im_X9_at se_X9_at sh_1 cx_9 ⟨rfl, rfl⟩ ⟨by decide, by decide⟩ rfl rfl (Nat.le_of_ble_eq_true rfl) dX11_send_183 _ rfl ?_
    refine j_l2i dX11_send_186 ?_
    obtain ⟨q27, e28, h⟩ := ok_b h
    refine j_callV (As := [.int s.1, .int (Int64.toInt32 q23), .int (Int64.toInt32 q25)]) (st := []) [] (c_X7_name (kl κ) (gm κ) (kA κ) s.1 (Int64.toInt32 q23) (Int64.toInt32 q25) s.2 q27 e28) ck_RX11_371 im_X7_name se_X7_name sh_88 cx_7 ⟨rfl, rfl⟩ ⟨by decide, by decide⟩ rfl rfl (Nat.le_of_ble_eq_true rfl) dX11_send_187 _ rfl ?_
    refine j_iinc (s.1 + (1 : Int32)) 5 [(5, .int (s.1 + (1 : Int32))), (0, .ref (ad (gm κ) 0)), (1, .int a1), (2, .int a2), (3, .int a3), (4, .int a4)] dX11_send_190 rfl (by rw [kn_1]) (by decide) rfl ?_
    refine j_goto 153 dX11_send_193 (by decide) ?_
    refine j_loc [(0, .ref (ad (gm κ) 0)), (1, .int a1), (2, .int a2), (3, .int a3), (4, .int a4), (5, .int (s.1 + (1 : Int32)))] [1, 2, 3, 4, 5, 0] rfl ?_
    have h := sel_l h
    exact h
noncomputable def X11_send (a1 : Int32) (a2 : Int32) (a3 : Int32) (a4 : Int32) (w : Wd) : Option (Int32 × Wd) :=
(if (X9_isTray a1 w) = 0 then
X11_send_j32 w
else
(if (X9_isTray a2 w) = 0 then
X11_send_j32 w
else
(if (X11_within a3 (1 : Int32) (7 : Int32) w) = 0 then
X11_send_j32 w
else
(if (X11_isWeek a4 w) = 0 then
X11_send_j32 w
else
(X9_isMissing a1 w).bind fun q3 =>
(if q3 = 0 then
(X9_isMissing a2 w).bind fun q7 =>
(if q7 = 0 then
(X9_reaches a1 (0 : Int32) a3 w).bind fun q9 =>
(if q9 = 0 then
X11_send_j92 w
else
(X9_reaches a2 (0 : Int32) a3 w).bind fun q13 =>
(if q13 = 0 then
X11_send_j92 w
else
(X9_startsWithUnlike a1 a3 (w.1 5 15) w).bind fun q15 =>
(if q15 = 0 then
X11_send_j136 w
else
(X9_startsWithUnlike a2 a3 (w.1 5 12) w).bind fun q19 =>
(if q19 = 0 then
X11_send_j136 w
else
(X7_begin a3 w).bind fun q21 =>
(lp (X11_send_b153 a1 a2 a3 a4) ((0 : Int32), q21)).bind fun e29 =>
(X4_callUp a4 e29).bind fun q30 =>
(X7_measure a4 q30).bind fun q32 =>
(X7_choose q32).bind fun q34 =>
(X11_answerOr (6 : Int32) q34.1 q34.2).bind fun q36 =>
some (q36.1, q36.2)))))
else
X11_send_j60 w)
else
X11_send_j60 w)))))
set_option maxRecDepth 20000 in
set_option maxHeartbeats 1000000 in
theorem t_X11_send {κ : Kx} (a1 : Int32) (a2 : Int32) (a3 : Int32) (a4 : Int32) (w : Wd) (h : ok (X11_send  a1 a2 a3 a4 w) (PIw κ)) : J κ RX11 cX11_send 6 (some .int) (rmk 4 99) 0 [(0, .ref (ad (gm κ) 0)), (1, .int a1), (2, .int a2), (3, .int a3), (4, .int a4)] [] w := by
  unfold X11_send at h
  refine j_iload_n 1 dX11_send_0 rfl rfl ?_
  refine j_callS (As := [.int a1]) (st := []) [.int (X9_isTray a1 w)] (c_X9_isTray (kl κ) (gm κ) (kA κ) a1 w) ck_RX11_87 st_X9_isTray ⟨rfl, rfl⟩ ⟨by decide, by decide⟩ rfl rfl (Nat.le_of_ble_eq_true rfl) dX11_send_1 _ rfl ?_
  refine j_if_eq 32 dX11_send_4 (by decide) h (fun h => ?_) (fun h => ?_)
  · refine j_loc [(0, .ref (ad (gm κ) 0))] [0] rfl ?_
    exact t_X11_send_j32 w h
  · refine j_iload_n 2 dX11_send_7 rfl rfl ?_
    refine j_callS (As := [.int a2]) (st := []) [.int (X9_isTray a2 w)] (c_X9_isTray (kl κ) (gm κ) (kA κ) a2 w) ck_RX11_87 st_X9_isTray ⟨rfl, rfl⟩ ⟨by decide, by decide⟩ rfl rfl (Nat.le_of_ble_eq_true rfl) dX11_send_8 _ rfl ?_
    refine j_if_eq 32 dX11_send_11 (by decide) h (fun h => ?_) (fun h => ?_)
    · refine j_loc [(0, .ref (ad (gm κ) 0))] [0] rfl ?_
      exact t_X11_send_j32 w h
    · refine j_iload_n 3 dX11_send_14 rfl rfl ?_
      refine j_iconst (1 : Int32) dX11_send_15 ki_1 ?_
      refine j_bipush (7 : Int32) dX11_send_16 kb_7 ?_
      refine j_callS (As := [.int a3, .int (1 : Int32), .int (7 : Int32)]) (st := []) [.int (X11_within a3 (1 : Int32) (7 : Int32) w)] (c_X11_within (kl κ) (gm κ) (kA κ) a3 (1 : Int32) (7 : Int32) w) ck_RX11_91 st_X11_within ⟨rfl, rfl⟩ ⟨by decide, by decide⟩ rfl rfl (Nat.le_of_ble_eq_true rfl) dX11_send_18 _ rfl ?_
      refine j_if_eq 32 dX11_send_21 (by decide) h (fun h => ?_) (fun h => ?_)
      · refine j_loc [(0, .ref (ad (gm κ) 0))] [0] rfl ?_
        exact t_X11_send_j32 w h
      · refine j_iload 4 dX11_send_24 rfl ?_
        refine j_callS (As := [.int a4]) (st := []) [.int (X11_isWeek a4 w)] (c_X11_isWeek (kl κ) (gm κ) (kA κ) a4 w) ck_RX11_168 st_X11_isWeek ⟨rfl, rfl⟩ ⟨by decide, by decide⟩ rfl rfl (Nat.le_of_ble_eq_true rfl) dX11_send_26 _ rfl ?_
        refine j_if_ne 38 dX11_send_29 (by decide) h (fun h => ?_) (fun h => ?_)
        · refine j_aload_n 0 dX11_send_38 rfl rfl ?_
          refine j_getA 1 fl_RX11_10 sh_0 fk_0_0 (by decide) dX11_send_39 ?_
          refine j_iload_n 1 dX11_send_42 rfl rfl ?_
          obtain ⟨q3, e4, h⟩ := ok_b h
          refine j_callV (As := [.int a1]) (st := []) [.int q3] (c_X9_isMissing (kl κ) (gm κ) (kA κ) a1 w q3 e4) ck_RX11_122 im_X9_isMissing se_X9_isMissing sh_1 cx_9 ⟨rfl, rfl⟩ ⟨by decide, by decide⟩ rfl rfl (Nat.le_of_ble_eq_true rfl) dX11_send_43 _ rfl ?_
          refine j_if_ne 60 dX11_send_46 (by decide) h (fun h => ?_) (fun h => ?_)
          · refine j_loc [(0, .ref (ad (gm κ) 0))] [0] rfl ?_
            exact t_X11_send_j60 w h
          · refine j_aload_n 0 dX11_send_49 rfl rfl ?_
            refine j_getA 1 fl_RX11_10 sh_0 fk_0_0 (by decide) dX11_send_50 ?_
            refine j_iload_n 2 dX11_send_53 rfl rfl ?_
            obtain ⟨q7, e8, h⟩ := ok_b h
            refine j_callV (As := [.int a2]) (st := []) [.int q7] (c_X9_isMissing (kl κ) (gm κ) (kA κ) a2 w q7 e8) ck_RX11_122 im_X9_isMissing se_X9_isMissing sh_1 cx_9 ⟨rfl, rfl⟩ ⟨by decide, by decide⟩ rfl rfl (Nat.le_of_ble_eq_true rfl) dX11_send_54 _ rfl ?_
            refine j_if_eq 66 dX11_send_57 (by decide) h (fun h => ?_) (fun h => ?_)
            · refine j_aload_n 0 dX11_send_66 rfl rfl ?_
              refine j_getA 1 fl_RX11_10 sh_0 fk_0_0 (by decide) dX11_send_67 ?_
              refine j_iload_n 1 dX11_send_70 rfl rfl ?_
              refine j_iconst (0 : Int32) dX11_send_71 ki_0 ?_
              refine j_iload_n 3 dX11_send_72 rfl rfl ?_
              obtain ⟨q9, e10, h⟩ := ok_b h
              refine j_callV (As := [.int a1, .int (0 : Int32), .int a3]) (st := []) [.int q9] (c_X9_reaches (kl κ) (gm κ) (kA κ) a1 (0 : Int32) a3 w q9 e10) ck_RX11_129 im_X9_reaches se_X9_reaches sh_1 cx_9 ⟨rfl, rfl⟩ ⟨by decide, by decide⟩ rfl rfl (Nat.le_of_ble_eq_true rfl) dX11_send_73 _ rfl ?_
              refine j_if_eq 92 dX11_send_76 (by decide) h (fun h => ?_) (fun h => ?_)
              · refine j_loc [(0, .ref (ad (gm κ) 0))] [0] rfl ?_
                exact t_X11_send_j92 w h
              · refine j_aload_n 0 dX11_send_79 rfl rfl ?_
                refine j_getA 1 fl_RX11_10 sh_0 fk_0_0 (by decide) dX11_send_80 ?_
                refine j_iload_n 2 dX11_send_83 rfl rfl ?_
                refine j_iconst (0 : Int32) dX11_send_84 ki_0 ?_
                refine j_iload_n 3 dX11_send_85 rfl rfl ?_
                obtain ⟨q13, e14, h⟩ := ok_b h
                refine j_callV (As := [.int a2, .int (0 : Int32), .int a3]) (st := []) [.int q13] (c_X9_reaches (kl κ) (gm κ) (kA κ) a2 (0 : Int32) a3 w q13 e14) ck_RX11_129 im_X9_reaches se_X9_reaches sh_1 cx_9 ⟨rfl, rfl⟩ ⟨by decide, by decide⟩ rfl rfl (Nat.le_of_ble_eq_true rfl) dX11_send_86 _ rfl ?_
                refine j_if_ne 98 dX11_send_89 (by decide) h (fun h => ?_) (fun h => ?_)
                · refine j_aload_n 0 dX11_send_98 rfl rfl ?_
                  refine j_getA 1 fl_RX11_10 sh_0 fk_0_0 (by decide) dX11_send_99 ?_
                  refine j_iload_n 1 dX11_send_102 rfl rfl ?_
                  refine j_iload_n 3 dX11_send_103 rfl rfl ?_
                  refine j_aload_n 0 dX11_send_104 rfl rfl ?_
                  refine j_getA 5 fl_RX11_19 sh_0 fk_0_1 (by decide) dX11_send_105 ?_
                  refine j_getI fl_RX11_194 sh_5 fk_5_15 dX11_send_108 ?_
                  obtain ⟨q15, e16, h⟩ := ok_b h
                  refine j_callV (As := [.int a1, .int a3, .int (w.1 5 15)]) (st := []) [.int q15] (c_X9_startsWithUnlike (kl κ) (gm κ) (kA κ) a1 a3 (w.1 5 15) w q15 e16) ck_RX11_365 im_X9_startsWithUnlike se_X9_startsWithUnlike sh_1 cx_9 ⟨rfl, rfl⟩ ⟨by decide, by decide⟩ rfl rfl (Nat.le_of_ble_eq_true rfl) dX11_send_111 _ rfl ?_
                  refine j_if_eq 136 dX11_send_114 (by decide) h (fun h => ?_) (fun h => ?_)
                  · refine j_loc [(0, .ref (ad (gm κ) 0))] [0] rfl ?_
                    exact t_X11_send_j136 w h
                  · refine j_aload_n 0 dX11_send_117 rfl rfl ?_
                    refine j_getA 1 fl_RX11_10 sh_0 fk_0_0 (by decide) dX11_send_118 ?_
                    refine j_iload_n 2 dX11_send_121 rfl rfl ?_
                    refine j_iload_n 3 dX11_send_122 rfl rfl ?_
                    refine j_aload_n 0 dX11_send_123 rfl rfl ?_
                    refine j_getA 5 fl_RX11_19 sh_0 fk_0_1 (by decide) dX11_send_124 ?_
                    refine j_getI fl_RX11_188 sh_5 fk_5_12 dX11_send_127 ?_
                    obtain ⟨q19, e20, h⟩ := ok_b h
                    refine j_callV (As := [.int a2, .int a3, .int (w.1 5 12)]) (st := []) [.int q19] (c_X9_startsWithUnlike (kl κ) (gm κ) (kA κ) a2 a3 (w.1 5 12) w q19 e20) ck_RX11_365 im_X9_startsWithUnlike se_X9_startsWithUnlike sh_1 cx_9 ⟨rfl, rfl⟩ ⟨by decide, by decide⟩ rfl rfl (Nat.le_of_ble_eq_true rfl) dX11_send_130 _ rfl ?_
                    refine j_if_ne 142 dX11_send_133 (by decide) h (fun h => ?_) (fun h => ?_)
                    · refine j_aload_n 0 dX11_send_142 rfl rfl ?_
                      refine j_getA 88 fl_RX11_72 sh_0 fk_0_8 (by decide) dX11_send_143 ?_
                      refine j_iload_n 3 dX11_send_146 rfl rfl ?_
                      obtain ⟨q21, e22, h⟩ := ok_b h
                      refine j_callV (As := [.int a3]) (st := []) [] (c_X7_begin (kl κ) (gm κ) (kA κ) a3 w q21 e22) ck_RX11_368 im_X7_begin se_X7_begin sh_88 cx_7 ⟨rfl, rfl⟩ ⟨by decide, by decide⟩ rfl rfl (Nat.le_of_ble_eq_true rfl) dX11_send_147 _ rfl ?_
                      refine j_iconst (0 : Int32) dX11_send_150 ki_0 ?_
                      refine j_istore [(5, .int (0 : Int32)), (0, .ref (ad (gm κ) 0)), (1, .int a1), (2, .int a2), (3, .int a3), (4, .int a4)] dX11_send_151 (by decide) rfl ?_
                      refine j_loc [(0, .ref (ad (gm κ) 0)), (1, .int a1), (2, .int a2), (3, .int a3), (4, .int a4), (5, .int (0 : Int32))] [1, 2, 3, 4, 5, 0] rfl ?_
                      refine t_X11_send_b153 a1 a2 a3 a4 (fun e29 h => ?_) ((0 : Int32), q21) (ok_bb h)
                      · refine j_aload_n 0 dX11_send_196 rfl rfl ?_
                        refine j_getA 19 fl_RX11_26 sh_0 fk_0_2 (by decide) dX11_send_197 ?_
                        refine j_iload 1 dX11_send_200 rfl ?_
                        obtain ⟨q30, e31, h⟩ := ok_b h
                        refine j_callV (As := [.int a4]) (st := []) [] (c_X4_callUp (kl κ) (gm κ) (kA κ) a4 e29 q30 e31) ck_RX11_229 im_X4_callUp se_X4_callUp sh_19 cx_4 ⟨rfl, rfl⟩ ⟨by decide, by decide⟩ rfl rfl (Nat.le_of_ble_eq_true rfl) dX11_send_202 _ rfl ?_
                        refine j_aload_n 0 dX11_send_205 rfl rfl ?_
                        refine j_getA 88 fl_RX11_72 sh_0 fk_0_8 (by decide) dX11_send_206 ?_
                        refine j_aload_n 0 dX11_send_209 rfl rfl ?_
                        refine j_getA 5 fl_RX11_19 sh_0 fk_0_1 (by decide) dX11_send_210 ?_
                        refine j_aload_n 0 dX11_send_213 rfl rfl ?_
                        refine j_getA 19 fl_RX11_26 sh_0 fk_0_2 (by decide) dX11_send_214 ?_
                        refine j_iload 1 dX11_send_217 rfl ?_
                        obtain ⟨q32, e33, h⟩ := ok_b h
                        refine j_callV (As := [.ref (ad (gm κ) 5), .ref (ad (gm κ) 19), .int a4]) (st := []) [] (c_X7_measure (kl κ) (gm κ) (kA κ) a4 q30 q32 e33) ck_RX11_374 im_X7_measure se_X7_measure sh_88 cx_7 ⟨rfl, rfl⟩ ⟨by decide, by decide⟩ rfl rfl (Nat.le_of_ble_eq_true rfl) dX11_send_219 _ rfl ?_
                        refine j_aload_n 0 dX11_send_222 rfl rfl ?_
                        refine j_bipush (6 : Int32) dX11_send_223 kb_6 ?_
                        refine j_aload_n 0 dX11_send_225 rfl rfl ?_
                        refine j_getA 88 fl_RX11_72 sh_0 fk_0_8 (by decide) dX11_send_226 ?_
                        obtain ⟨q34, e35, h⟩ := ok_b h
                        refine j_callV (As := []) (st := [.int (6 : Int32), .ref (ad (gm κ) 0)]) [.int q34.1, .int (6 : Int32), .ref (ad (gm κ) 0)] (c_X7_choose (kl κ) (gm κ) (kA κ) q32 q34 e35) ck_RX11_378 im_X7_choose se_X7_choose sh_88 cx_7 ⟨rfl, rfl⟩ ⟨by decide, by decide⟩ rfl rfl (Nat.le_of_ble_eq_true rfl) dX11_send_229 _ rfl ?_
                        obtain ⟨q36, e37, h⟩ := ok_b h
                        refine j_callV (As := [.int (6 : Int32), .int q34.1]) (st := []) [.int q36.1] (c_X11_answerOr (kl κ) (gm κ) (kA κ) (6 : Int32) q34.1 q34.2 q36 e37) ck_RX11_178 im_X11_answerOr se_X11_answerOr sh_0 cx_11 ⟨rfl, rfl⟩ ⟨by decide, by decide⟩ rfl rfl (Nat.le_of_ble_eq_true rfl) dX11_send_232 _ rfl ?_
                        have h := ok_s h
                        exact j_iret dX11_send_235 rfl rfl h
                    · refine j_loc [(0, .ref (ad (gm κ) 0))] [0] rfl ?_
                      exact t_X11_send_j136 w h
                · refine j_loc [(0, .ref (ad (gm κ) 0))] [0] rfl ?_
                  exact t_X11_send_j92 w h
            · refine j_loc [(0, .ref (ad (gm κ) 0))] [0] rfl ?_
              exact t_X11_send_j60 w h
        · refine j_loc [(0, .ref (ad (gm κ) 0))] [0] rfl ?_
          exact t_X11_send_j32 w h
theorem c_X11_send (l : Launch) (γ : Gm) (A : Nat → Prop) (a1 : Int32) (a2 : Int32) (a3 : Int32) (a4 : Int32) (w : Wd) (q : Int32 × Wd) (e : X11_send  a1 a2 a3 a4 w = some q) : MetG l γ A yX11_send cX11_send 6 (some .int) (rmk 4 99) [.ref (ad (γ) 0), .int a1, .int a2, .int a3, .int a4] w (some (.int q.1)) q.2 := by
  refine met_of pn_RX11 (Nat.le_of_ble_eq_true rfl) ?_
  intro κ hl hγ hA hρ
  subst hl; subst hγ; subst hA
  exact t_X11_send   a1 a2 a3 a4 w ⟨q, e, pIw hρ rfl rfl⟩
theorem dX11_sent_0 : decode cX11_sent 0 = .ok (.iload_n 1, 1) := by decide +kernel
theorem dX11_sent_1 : decode cX11_sent 1 = .ok (.ifCond .ge 9, 3) := by decide +kernel
theorem dX11_sent_4 : decode cX11_sent 4 = .ok (.aload_n 0, 1) := by decide +kernel
theorem dX11_sent_5 : decode cX11_sent 5 = .ok (.iconst 1, 1) := by decide +kernel
theorem dX11_sent_6 : decode cX11_sent 6 = .ok (.invokevirtual 114, 3) := by decide +kernel
theorem dX11_sent_9 : decode cX11_sent 9 = .ok (.ireturn, 1) := by decide +kernel
theorem dX11_sent_10 : decode cX11_sent 10 = .ok (.iload_n 1, 1) := by decide +kernel
theorem dX11_sent_11 : decode cX11_sent 11 = .ok (.aload_n 0, 1) := by decide +kernel
theorem dX11_sent_12 : decode cX11_sent 12 = .ok (.getfield 72, 3) := by decide +kernel
theorem dX11_sent_15 : decode cX11_sent 15 = .ok (.getfield 381, 3) := by decide +kernel
theorem dX11_sent_18 : decode cX11_sent 18 = .ok (.if_icmp .lt 12, 3) := by decide +kernel
theorem dX11_sent_21 : decode cX11_sent 21 = .ok (.aload_n 0, 1) := by decide +kernel
theorem dX11_sent_22 : decode cX11_sent 22 = .ok (.bipush 6, 2) := by decide +kernel
theorem dX11_sent_24 : decode cX11_sent 24 = .ok (.invokevirtual 114, 3) := by decide +kernel
theorem dX11_sent_27 : decode cX11_sent 27 = .ok (.goto 16, 3) := by decide +kernel
theorem dX11_sent_30 : decode cX11_sent 30 = .ok (.aload_n 0, 1) := by decide +kernel
theorem dX11_sent_31 : decode cX11_sent 31 = .ok (.aload_n 0, 1) := by decide +kernel
theorem dX11_sent_32 : decode cX11_sent 32 = .ok (.getfield 72, 3) := by decide +kernel
theorem dX11_sent_35 : decode cX11_sent 35 = .ok (.getfield 384, 3) := by decide +kernel
theorem dX11_sent_38 : decode cX11_sent 38 = .ok (.iload_n 1, 1) := by decide +kernel
theorem dX11_sent_39 : decode cX11_sent 39 = .ok (.iaload, 1) := by decide +kernel
theorem dX11_sent_40 : decode cX11_sent 40 = .ok (.invokevirtual 145, 3) := by decide +kernel
theorem dX11_sent_43 : decode cX11_sent 43 = .ok (.ireturn, 1) := by decide +kernel
noncomputable def X11_sent (a1 : Int32) (w : Wd) : Option (Int32 × Wd) :=
(if 0 ≤ a1 then
(if a1 < (w.1 88 6) then
gd (vp_in a1 7) <|
(X11_answer (w.1 94 (ix a1)) w).bind fun q1 =>
some (q1.1, q1.2)
else
(X11_deny (6 : Int32) w).bind fun q3 =>
some (q3.1, q3.2))
else
(X11_deny (1 : Int32) w).bind fun q5 =>
some (q5.1, q5.2))
set_option maxRecDepth 20000 in
set_option maxHeartbeats 1000000 in
theorem t_X11_sent {κ : Kx} (a1 : Int32) (w : Wd) (h : ok (X11_sent  a1 w) (PIw κ)) : J κ RX11 cX11_sent 2 (some .int) (rmk 1 21) 0 [(0, .ref (ad (gm κ) 0)), (1, .int a1)] [] w := by
  unfold X11_sent at h
  refine j_iload_n 1 dX11_sent_0 rfl rfl ?_
  refine j_if_ge 10 dX11_sent_1 (by decide) h (fun h => ?_) (fun h => ?_)
  · refine j_iload_n 1 dX11_sent_10 rfl rfl ?_
    refine j_aload_n 0 dX11_sent_11 rfl rfl ?_
    refine j_getA 88 fl_RX11_72 sh_0 fk_0_8 (by decide) dX11_sent_12 ?_
    refine j_getI fl_RX11_381 sh_88 fk_88_6 dX11_sent_15 ?_
    refine j_ic_lt 30 dX11_sent_18 (by decide) h (fun h => ?_) (fun h => ?_)
    · refine j_aload_n 0 dX11_sent_30 rfl rfl ?_
      refine j_aload_n 0 dX11_sent_31 rfl rfl ?_
      refine j_getA 88 fl_RX11_72 sh_0 fk_0_8 (by decide) dX11_sent_32 ?_
      refine j_getA 94 fl_RX11_384 sh_88 fk_88_7 (by decide) dX11_sent_35 ?_
      refine j_iload_n 1 dX11_sent_38 rfl rfl ?_
      refine j_iald sh_94 dX11_sent_39 h (fun h => ?_)
      obtain ⟨q1, e2, h⟩ := ok_b h
      refine j_callV (As := [.int (w.1 94 (ix a1))]) (st := []) [.int q1.1] (c_X11_answer (kl κ) (gm κ) (kA κ) (w.1 94 (ix a1)) w q1 e2) ck_RX11_145 im_X11_answer se_X11_answer sh_0 cx_11 ⟨rfl, rfl⟩ ⟨by decide, by decide⟩ rfl rfl (Nat.le_of_ble_eq_true rfl) dX11_sent_40 _ rfl ?_
      have h := ok_s h
      exact j_iret dX11_sent_43 rfl rfl h
    · refine j_aload_n 0 dX11_sent_21 rfl rfl ?_
      refine j_bipush (6 : Int32) dX11_sent_22 kb_6 ?_
      obtain ⟨q3, e4, h⟩ := ok_b h
      refine j_callV (As := [.int (6 : Int32)]) (st := []) [.int q3.1] (c_X11_deny (kl κ) (gm κ) (kA κ) (6 : Int32) w q3 e4) ck_RX11_114 im_X11_deny se_X11_deny sh_0 cx_11 ⟨rfl, rfl⟩ ⟨by decide, by decide⟩ rfl rfl (Nat.le_of_ble_eq_true rfl) dX11_sent_24 _ rfl ?_
      refine j_goto 43 dX11_sent_27 (by decide) ?_
      have h := ok_s h
      exact j_iret dX11_sent_43 rfl rfl h
  · refine j_aload_n 0 dX11_sent_4 rfl rfl ?_
    refine j_iconst (1 : Int32) dX11_sent_5 ki_1 ?_
    obtain ⟨q5, e6, h⟩ := ok_b h
    refine j_callV (As := [.int (1 : Int32)]) (st := []) [.int q5.1] (c_X11_deny (kl κ) (gm κ) (kA κ) (1 : Int32) w q5 e6) ck_RX11_114 im_X11_deny se_X11_deny sh_0 cx_11 ⟨rfl, rfl⟩ ⟨by decide, by decide⟩ rfl rfl (Nat.le_of_ble_eq_true rfl) dX11_sent_6 _ rfl ?_
    have h := ok_s h
    exact j_iret dX11_sent_9 rfl rfl h
theorem c_X11_sent (l : Launch) (γ : Gm) (A : Nat → Prop) (a1 : Int32) (w : Wd) (q : Int32 × Wd) (e : X11_sent  a1 w = some q) : MetG l γ A yX11_sent cX11_sent 2 (some .int) (rmk 1 21) [.ref (ad (γ) 0), .int a1] w (some (.int q.1)) q.2 := by
  refine met_of pn_RX11 (Nat.le_of_ble_eq_true rfl) ?_
  intro κ hl hγ hA hρ
  subst hl; subst hγ; subst hA
  exact t_X11_sent   a1 w ⟨q, e, pIw hρ rfl rfl⟩
theorem dX11_count_0 : decode cX11_count 0 = .ok (.iload_n 1, 1) := by decide +kernel
theorem dX11_count_1 : decode cX11_count 1 = .ok (.iconst 1, 1) := by decide +kernel
theorem dX11_count_2 : decode cX11_count 2 = .ok (.bipush 60, 2) := by decide +kernel
theorem dX11_count_4 : decode cX11_count 4 = .ok (.invokestatic 91, 3) := by decide +kernel
theorem dX11_count_7 : decode cX11_count 7 = .ok (.ifCond .eq 31, 3) := by decide +kernel
theorem dX11_count_10 : decode cX11_count 10 = .ok (.iload_n 2, 1) := by decide +kernel
theorem dX11_count_11 : decode cX11_count 11 = .ok (.iconst 1, 1) := by decide +kernel
theorem dX11_count_12 : decode cX11_count 12 = .ok (.iload_n 1, 1) := by decide +kernel
theorem dX11_count_13 : decode cX11_count 13 = .ok (.invokestatic 91, 3) := by decide +kernel
theorem dX11_count_16 : decode cX11_count 16 = .ok (.ifCond .eq 22, 3) := by decide +kernel
theorem dX11_count_19 : decode cX11_count 19 = .ok (.iload_n 3, 1) := by decide +kernel
theorem dX11_count_20 : decode cX11_count 20 = .ok (.iconst 0, 1) := by decide +kernel
theorem dX11_count_21 : decode cX11_count 21 = .ok (.iload_n 2, 1) := by decide +kernel
theorem dX11_count_22 : decode cX11_count 22 = .ok (.invokestatic 91, 3) := by decide +kernel
theorem dX11_count_25 : decode cX11_count 25 = .ok (.ifCond .eq 13, 3) := by decide +kernel
theorem dX11_count_28 : decode cX11_count 28 = .ok (.iload 4, 2) := by decide +kernel
theorem dX11_count_30 : decode cX11_count 30 = .ok (.iconst 0, 1) := by decide +kernel
theorem dX11_count_31 : decode cX11_count 31 = .ok (.iconst 1, 1) := by decide +kernel
theorem dX11_count_32 : decode cX11_count 32 = .ok (.invokestatic 91, 3) := by decide +kernel
theorem dX11_count_35 : decode cX11_count 35 = .ok (.ifCond .ne 9, 3) := by decide +kernel
theorem dX11_count_38 : decode cX11_count 38 = .ok (.aload_n 0, 1) := by decide +kernel
theorem dX11_count_39 : decode cX11_count 39 = .ok (.iconst 1, 1) := by decide +kernel
theorem dX11_count_40 : decode cX11_count 40 = .ok (.invokevirtual 114, 3) := by decide +kernel
theorem dX11_count_43 : decode cX11_count 43 = .ok (.ireturn, 1) := by decide +kernel
theorem dX11_count_44 : decode cX11_count 44 = .ok (.aload_n 0, 1) := by decide +kernel
theorem dX11_count_45 : decode cX11_count 45 = .ok (.iload 4, 2) := by decide +kernel
theorem dX11_count_47 : decode cX11_count 47 = .ok (.ifCond .ne 16, 3) := by decide +kernel
theorem dX11_count_50 : decode cX11_count 50 = .ok (.aload_n 0, 1) := by decide +kernel
theorem dX11_count_51 : decode cX11_count 51 = .ok (.getfield 79, 3) := by decide +kernel
theorem dX11_count_54 : decode cX11_count 54 = .ok (.iload_n 1, 1) := by decide +kernel
theorem dX11_count_55 : decode cX11_count 55 = .ok (.iload_n 2, 1) := by decide +kernel
theorem dX11_count_56 : decode cX11_count 56 = .ok (.iload_n 3, 1) := by decide +kernel
theorem dX11_count_57 : decode cX11_count 57 = .ok (.invokevirtual 387, 3) := by decide +kernel
theorem dX11_count_60 : decode cX11_count 60 = .ok (.goto 13, 3) := by decide +kernel
theorem dX11_count_63 : decode cX11_count 63 = .ok (.aload_n 0, 1) := by decide +kernel
theorem dX11_count_64 : decode cX11_count 64 = .ok (.getfield 79, 3) := by decide +kernel
theorem dX11_count_67 : decode cX11_count 67 = .ok (.iload_n 1, 1) := by decide +kernel
theorem dX11_count_68 : decode cX11_count 68 = .ok (.iload_n 2, 1) := by decide +kernel
theorem dX11_count_69 : decode cX11_count 69 = .ok (.iload_n 3, 1) := by decide +kernel
theorem dX11_count_70 : decode cX11_count 70 = .ok (.invokevirtual 390, 3) := by decide +kernel
theorem dX11_count_73 : decode cX11_count 73 = .ok (.invokevirtual 145, 3) := by decide +kernel
theorem dX11_count_76 : decode cX11_count 76 = .ok (.ireturn, 1) := by decide +kernel
noncomputable def X11_count_j38 (w : Wd) : Option (Int32 × Wd) :=
(X11_deny (1 : Int32) w).bind fun q1 =>
some (q1.1, q1.2)
set_option maxRecDepth 20000 in
set_option maxHeartbeats 1000000 in
theorem t_X11_count_j38 {κ : Kx} (w : Wd) (h : ok (X11_count_j38  w) (PIw κ)) : J κ RX11 cX11_count 5 (some .int) (rmk 3 74) 38 [(0, .ref (ad (gm κ) 0))] [] w := by
  unfold X11_count_j38 at h
  refine j_aload_n 0 dX11_count_38 rfl rfl ?_
  refine j_iconst (1 : Int32) dX11_count_39 ki_1 ?_
  obtain ⟨q1, e2, h⟩ := ok_b h
  refine j_callV (As := [.int (1 : Int32)]) (st := []) [.int q1.1] (c_X11_deny (kl κ) (gm κ) (kA κ) (1 : Int32) w q1 e2) ck_RX11_114 im_X11_deny se_X11_deny sh_0 cx_11 ⟨rfl, rfl⟩ ⟨by decide, by decide⟩ rfl rfl (Nat.le_of_ble_eq_true rfl) dX11_count_40 _ rfl ?_
  have h := ok_s h
  exact j_iret dX11_count_43 rfl rfl h
noncomputable def X11_count_j73 (s0 : Int32) (w : Wd) : Option (Int32 × Wd) :=
(X11_answer s0 w).bind fun q5 =>
some (q5.1, q5.2)
set_option maxRecDepth 20000 in
set_option maxHeartbeats 1000000 in
theorem t_X11_count_j73 {κ : Kx} (s0 : Int32) (w : Wd) (h : ok (X11_count_j73  s0 w) (PIw κ)) : J κ RX11 cX11_count 5 (some .int) (rmk 3 74) 73 [] [.int s0, .ref (ad (gm κ) 0)] w := by
  unfold X11_count_j73 at h
  obtain ⟨q5, e6, h⟩ := ok_b h
  refine j_callV (As := [.int s0]) (st := []) [.int q5.1] (c_X11_answer (kl κ) (gm κ) (kA κ) s0 w q5 e6) ck_RX11_145 im_X11_answer se_X11_answer sh_0 cx_11 ⟨rfl, rfl⟩ ⟨by decide, by decide⟩ rfl rfl (Nat.le_of_ble_eq_true rfl) dX11_count_73 _ rfl ?_
  have h := ok_s h
  exact j_iret dX11_count_76 rfl rfl h
noncomputable def X11_count (a1 : Int32) (a2 : Int32) (a3 : Int32) (a4 : Int32) (w : Wd) : Option (Int32 × Wd) :=
(if (X11_within a1 (1 : Int32) (60 : Int32) w) = 0 then
X11_count_j38 w
else
(if (X11_within a2 (1 : Int32) a1 w) = 0 then
X11_count_j38 w
else
(if (X11_within a3 (0 : Int32) a2 w) = 0 then
X11_count_j38 w
else
(if (X11_within a4 (0 : Int32) (1 : Int32) w) = 0 then
X11_count_j38 w
else
(if a4 = 0 then
(X1_low a1 a2 a3 w).bind fun q7 =>
X11_count_j73 q7 w
else
(X1_high a1 a2 a3 w).bind fun q3 =>
X11_count_j73 q3 w)))))
set_option maxRecDepth 20000 in
set_option maxHeartbeats 1000000 in
theorem t_X11_count {κ : Kx} (a1 : Int32) (a2 : Int32) (a3 : Int32) (a4 : Int32) (w : Wd) (h : ok (X11_count  a1 a2 a3 a4 w) (PIw κ)) : J κ RX11 cX11_count 5 (some .int) (rmk 3 74) 0 [(0, .ref (ad (gm κ) 0)), (1, .int a1), (2, .int a2), (3, .int a3), (4, .int a4)] [] w := by
  unfold X11_count at h
  refine j_iload_n 1 dX11_count_0 rfl rfl ?_
  refine j_iconst (1 : Int32) dX11_count_1 ki_1 ?_
  refine j_bipush (60 : Int32) dX11_count_2 kb_60 ?_
  refine j_callS (As := [.int a1, .int (1 : Int32), .int (60 : Int32)]) (st := []) [.int (X11_within a1 (1 : Int32) (60 : Int32) w)] (c_X11_within (kl κ) (gm κ) (kA κ) a1 (1 : Int32) (60 : Int32) w) ck_RX11_91 st_X11_within ⟨rfl, rfl⟩ ⟨by decide, by decide⟩ rfl rfl (Nat.le_of_ble_eq_true rfl) dX11_count_4 _ rfl ?_
  refine j_if_eq 38 dX11_count_7 (by decide) h (fun h => ?_) (fun h => ?_)
  · refine j_loc [(0, .ref (ad (gm κ) 0))] [0] rfl ?_
    exact t_X11_count_j38 w h
  · refine j_iload_n 2 dX11_count_10 rfl rfl ?_
    refine j_iconst (1 : Int32) dX11_count_11 ki_1 ?_
    refine j_iload_n 1 dX11_count_12 rfl rfl ?_
    refine j_callS (As := [.int a2, .int (1 : Int32), .int a1]) (st := []) [.int (X11_within a2 (1 : Int32) a1 w)] (c_X11_within (kl κ) (gm κ) (kA κ) a2 (1 : Int32) a1 w) ck_RX11_91 st_X11_within ⟨rfl, rfl⟩ ⟨by decide, by decide⟩ rfl rfl (Nat.le_of_ble_eq_true rfl) dX11_count_13 _ rfl ?_
    refine j_if_eq 38 dX11_count_16 (by decide) h (fun h => ?_) (fun h => ?_)
    · refine j_loc [(0, .ref (ad (gm κ) 0))] [0] rfl ?_
      exact t_X11_count_j38 w h
    · refine j_iload_n 3 dX11_count_19 rfl rfl ?_
      refine j_iconst (0 : Int32) dX11_count_20 ki_0 ?_
      refine j_iload_n 2 dX11_count_21 rfl rfl ?_
      refine j_callS (As := [.int a3, .int (0 : Int32), .int a2]) (st := []) [.int (X11_within a3 (0 : Int32) a2 w)] (c_X11_within (kl κ) (gm κ) (kA κ) a3 (0 : Int32) a2 w) ck_RX11_91 st_X11_within ⟨rfl, rfl⟩ ⟨by decide, by decide⟩ rfl rfl (Nat.le_of_ble_eq_true rfl) dX11_count_22 _ rfl ?_
      refine j_if_eq 38 dX11_count_25 (by decide) h (fun h => ?_) (fun h => ?_)
      · refine j_loc [(0, .ref (ad (gm κ) 0))] [0] rfl ?_
        exact t_X11_count_j38 w h
      · refine j_iload 4 dX11_count_28 rfl ?_
        refine j_iconst (0 : Int32) dX11_count_30 ki_0 ?_
        refine j_iconst (1 : Int32) dX11_count_31 ki_1 ?_
        refine j_callS (As := [.int a4, .int (0 : Int32), .int (1 : Int32)]) (st := []) [.int (X11_within a4 (0 : Int32) (1 : Int32) w)] (c_X11_within (kl κ) (gm κ) (kA κ) a4 (0 : Int32) (1 : Int32) w) ck_RX11_91 st_X11_within ⟨rfl, rfl⟩ ⟨by decide, by decide⟩ rfl rfl (Nat.le_of_ble_eq_true rfl) dX11_count_32 _ rfl ?_
        refine j_if_ne 44 dX11_count_35 (by decide) h (fun h => ?_) (fun h => ?_)
        · refine j_aload_n 0 dX11_count_44 rfl rfl ?_
          refine j_iload 4 dX11_count_45 rfl ?_
          refine j_if_ne 63 dX11_count_47 (by decide) h (fun h => ?_) (fun h => ?_)
          · refine j_aload_n 0 dX11_count_63 rfl rfl ?_
            refine j_getA 95 fl_RX11_79 sh_0 fk_0_9 (by decide) dX11_count_64 ?_
            refine j_iload_n 1 dX11_count_67 rfl rfl ?_
            refine j_iload_n 2 dX11_count_68 rfl rfl ?_
            refine j_iload_n 3 dX11_count_69 rfl rfl ?_
            obtain ⟨q3, e4, h⟩ := ok_b h
            refine j_callV (As := [.int a1, .int a2, .int a3]) (st := [.ref (ad (gm κ) 0)]) [.int q3, .ref (ad (gm κ) 0)] (c_X1_high (kl κ) (gm κ) (kA κ) a1 a2 a3 w q3 e4) ck_RX11_390 im_X1_high se_X1_high sh_95 cx_1 ⟨rfl, rfl⟩ ⟨by decide, by decide⟩ rfl rfl (Nat.le_of_ble_eq_true rfl) dX11_count_70 _ rfl ?_
            refine j_loc [] [] rfl ?_
            exact t_X11_count_j73 q3 w h
          · refine j_aload_n 0 dX11_count_50 rfl rfl ?_
            refine j_getA 95 fl_RX11_79 sh_0 fk_0_9 (by decide) dX11_count_51 ?_
            refine j_iload_n 1 dX11_count_54 rfl rfl ?_
            refine j_iload_n 2 dX11_count_55 rfl rfl ?_
            refine j_iload_n 3 dX11_count_56 rfl rfl ?_
            obtain ⟨q7, e8, h⟩ := ok_b h
            refine j_callV (As := [.int a1, .int a2, .int a3]) (st := [.ref (ad (gm κ) 0)]) [.int q7, .ref (ad (gm κ) 0)] (c_X1_low (kl κ) (gm κ) (kA κ) a1 a2 a3 w q7 e8) ck_RX11_387 im_X1_low se_X1_low sh_95 cx_1 ⟨rfl, rfl⟩ ⟨by decide, by decide⟩ rfl rfl (Nat.le_of_ble_eq_true rfl) dX11_count_57 _ rfl ?_
            refine j_goto 73 dX11_count_60 (by decide) ?_
            refine j_loc [] [] rfl ?_
            exact t_X11_count_j73 q7 w h
        · refine j_loc [(0, .ref (ad (gm κ) 0))] [0] rfl ?_
          exact t_X11_count_j38 w h
theorem c_X11_count (l : Launch) (γ : Gm) (A : Nat → Prop) (a1 : Int32) (a2 : Int32) (a3 : Int32) (a4 : Int32) (w : Wd) (q : Int32 × Wd) (e : X11_count  a1 a2 a3 a4 w = some q) : MetG l γ A yX11_count cX11_count 5 (some .int) (rmk 3 74) [.ref (ad (γ) 0), .int a1, .int a2, .int a3, .int a4] w (some (.int q.1)) q.2 := by
  refine met_of pn_RX11 (Nat.le_of_ble_eq_true rfl) ?_
  intro κ hl hγ hA hρ
  subst hl; subst hγ; subst hA
  exact t_X11_count   a1 a2 a3 a4 w ⟨q, e, pIw hρ rfl rfl⟩
theorem dX11_hasSeat_0 : decode cX11_hasSeat 0 = .ok (.aload_n 0, 1) := by decide +kernel
theorem dX11_hasSeat_1 : decode cX11_hasSeat 1 = .ok (.getfield 19, 3) := by decide +kernel
theorem dX11_hasSeat_4 : decode cX11_hasSeat 4 = .ok (.getfield 356, 3) := by decide +kernel
theorem dX11_hasSeat_7 : decode cX11_hasSeat 7 = .ok (.aload_n 0, 1) := by decide +kernel
theorem dX11_hasSeat_8 : decode cX11_hasSeat 8 = .ok (.getfield 19, 3) := by decide +kernel
theorem dX11_hasSeat_11 : decode cX11_hasSeat 11 = .ok (.getfield 393, 3) := by decide +kernel
theorem dX11_hasSeat_14 : decode cX11_hasSeat 14 = .ok (.iload_n 1, 1) := by decide +kernel
theorem dX11_hasSeat_15 : decode cX11_hasSeat 15 = .ok (.iaload, 1) := by decide +kernel
theorem dX11_hasSeat_16 : decode cX11_hasSeat 16 = .ok (.iaload, 1) := by decide +kernel
theorem dX11_hasSeat_17 : decode cX11_hasSeat 17 = .ok (.istore_n 3, 1) := by decide +kernel
theorem dX11_hasSeat_18 : decode cX11_hasSeat 18 = .ok (.aload_n 0, 1) := by decide +kernel
theorem dX11_hasSeat_19 : decode cX11_hasSeat 19 = .ok (.getfield 26, 3) := by decide +kernel
theorem dX11_hasSeat_22 : decode cX11_hasSeat 22 = .ok (.getfield 239, 3) := by decide +kernel
theorem dX11_hasSeat_25 : decode cX11_hasSeat 25 = .ok (.iload_n 1, 1) := by decide +kernel
theorem dX11_hasSeat_26 : decode cX11_hasSeat 26 = .ok (.iaload, 1) := by decide +kernel
theorem dX11_hasSeat_27 : decode cX11_hasSeat 27 = .ok (.iconst (-1), 1) := by decide +kernel
theorem dX11_hasSeat_28 : decode cX11_hasSeat 28 = .ok (.if_icmp .eq 31, 3) := by decide +kernel
theorem dX11_hasSeat_31 : decode cX11_hasSeat 31 = .ok (.aload_n 0, 1) := by decide +kernel
theorem dX11_hasSeat_32 : decode cX11_hasSeat 32 = .ok (.getfield 26, 3) := by decide +kernel
theorem dX11_hasSeat_35 : decode cX11_hasSeat 35 = .ok (.getfield 399, 3) := by decide +kernel
theorem dX11_hasSeat_38 : decode cX11_hasSeat 38 = .ok (.iload_n 1, 1) := by decide +kernel
theorem dX11_hasSeat_39 : decode cX11_hasSeat 39 = .ok (.iaload, 1) := by decide +kernel
theorem dX11_hasSeat_40 : decode cX11_hasSeat 40 = .ok (.aload_n 0, 1) := by decide +kernel
theorem dX11_hasSeat_41 : decode cX11_hasSeat 41 = .ok (.getfield 33, 3) := by decide +kernel
theorem dX11_hasSeat_44 : decode cX11_hasSeat 44 = .ok (.iload_n 3, 1) := by decide +kernel
theorem dX11_hasSeat_45 : decode cX11_hasSeat 45 = .ok (.iload_n 2, 1) := by decide +kernel
theorem dX11_hasSeat_46 : decode cX11_hasSeat 46 = .ok (.invokevirtual 266, 3) := by decide +kernel
theorem dX11_hasSeat_49 : decode cX11_hasSeat 49 = .ok (.getfield 273, 3) := by decide +kernel
theorem dX11_hasSeat_52 : decode cX11_hasSeat 52 = .ok (.if_icmp .ge 7, 3) := by decide +kernel
theorem dX11_hasSeat_55 : decode cX11_hasSeat 55 = .ok (.iconst 1, 1) := by decide +kernel
theorem dX11_hasSeat_56 : decode cX11_hasSeat 56 = .ok (.goto 4, 3) := by decide +kernel
theorem dX11_hasSeat_59 : decode cX11_hasSeat 59 = .ok (.iconst 0, 1) := by decide +kernel
theorem dX11_hasSeat_60 : decode cX11_hasSeat 60 = .ok (.ireturn, 1) := by decide +kernel
noncomputable def X11_hasSeat (a1 : Int32) (a2 : Int32) (w : Wd) : Option (Int32 × Wd) :=
gd (vp_in a1 12) <|
gd (vp_in (w.1 17 (ix a1)) 16) <|
(some (w.1 6 (ix (w.1 17 (ix a1))))).bind fun z1 =>
gd (vp_in a1 12) <|
(if (w.1 28 (ix a1)) = (-1 : Int32) then
some ((0 : Int32), w)
else
gd (vp_in a1 12) <|
(X0_standingIn z1 a2 w).bind fun q2 =>
gd (q2.1 < 4) <|
(if (q2.2.1 (stc q2.1) 8) ≤ (w.1 29 (ix a1)) then
some ((0 : Int32), q2.2)
else
some ((1 : Int32), q2.2)))
set_option maxRecDepth 20000 in
set_option maxHeartbeats 1000000 in
theorem t_X11_hasSeat {κ : Kx} (a1 : Int32) (a2 : Int32) (w : Wd) (h : ok (X11_hasSeat  a1 a2 w) (PIw κ)) : J κ RX11 cX11_hasSeat 4 (some .boolean) (rmk 3 75) 0 [(0, .ref (ad (gm κ) 0)), (1, .int a1), (2, .int a2)] [] w := by
  unfold X11_hasSeat at h
  refine j_aload_n 0 dX11_hasSeat_0 rfl rfl ?_
  refine j_getA 5 fl_RX11_19 sh_0 fk_0_1 (by decide) dX11_hasSeat_1 ?_
  refine j_getA 6 fl_RX11_356 sh_5 fk_5_1 (by decide) dX11_hasSeat_4 ?_
  refine j_aload_n 0 dX11_hasSeat_7 rfl rfl ?_
  refine j_getA 5 fl_RX11_19 sh_0 fk_0_1 (by decide) dX11_hasSeat_8 ?_
  refine j_getA 17 fl_RX11_393 sh_5 fk_5_16 (by decide) dX11_hasSeat_11 ?_
  refine j_iload_n 1 dX11_hasSeat_14 rfl rfl ?_
  refine j_iald sh_17 dX11_hasSeat_15 h (fun h => ?_)
  refine j_iald sh_6 dX11_hasSeat_16 h (fun h => ?_)
  refine j_lI h (fun z1 h => ?_)
  refine j_istore_n [(3, .int z1), (0, .ref (ad (gm κ) 0)), (1, .int a1), (2, .int a2)] dX11_hasSeat_17 rfl (by decide) rfl ?_
  refine j_aload_n 1 dX11_hasSeat_18 rfl rfl ?_
  refine j_getA 19 fl_RX11_26 sh_0 fk_0_2 (by decide) dX11_hasSeat_19 ?_
  refine j_getA 28 fl_RX11_239 sh_19 fk_19_11 (by decide) dX11_hasSeat_22 ?_
  refine j_iload_n 2 dX11_hasSeat_25 rfl rfl ?_
  refine j_iald sh_28 dX11_hasSeat_26 h (fun h => ?_)
  refine j_iconst (-1 : Int32) dX11_hasSeat_27 ki_m1 ?_
  refine j_ic_eq 59 dX11_hasSeat_28 (by decide) h (fun h => ?_) (fun h => ?_)
  · refine j_iconst (0 : Int32) dX11_hasSeat_59 ki_0 ?_
    have h := ok_s h
    exact j_iret dX11_hasSeat_60 rfl (by decide) h
  · refine j_aload_n 1 dX11_hasSeat_31 rfl rfl ?_
    refine j_getA 19 fl_RX11_26 sh_0 fk_0_2 (by decide) dX11_hasSeat_32 ?_
    refine j_getA 29 fl_RX11_399 sh_19 fk_19_12 (by decide) dX11_hasSeat_35 ?_
    refine j_iload_n 2 dX11_hasSeat_38 rfl rfl ?_
    refine j_iald sh_29 dX11_hasSeat_39 h (fun h => ?_)
    refine j_aload_n 1 dX11_hasSeat_40 rfl rfl ?_
    refine j_getA 30 fl_RX11_33 sh_0 fk_0_3 (by decide) dX11_hasSeat_41 ?_
    refine j_iload_n 0 dX11_hasSeat_44 rfl rfl ?_
    refine j_iload_n 3 dX11_hasSeat_45 rfl rfl ?_
    obtain ⟨q2, e3, h⟩ := ok_b h
    refine j_callV (As := [.int z1, .int a2]) (st := [.int (w.1 29 (ix a1))]) [.ref (ad (gm κ) (stc q2.1)), .int (w.1 29 (ix a1))] (c_X0_standingIn (kl κ) (gm κ) (kA κ) z1 a2 w q2 e3) ck_RX11_266 im_X0_standingIn se_X0_standingIn sh_30 cx_0 ⟨rfl, rfl⟩ ⟨by decide, by decide⟩ rfl rfl (Nat.le_of_ble_eq_true rfl) dX11_hasSeat_46 _ rfl ?_
    obtain ⟨h4, h⟩ := ok_g h
    refine j_getI fl_RX11_273 (st_sh h4).1 (st_fk h4).2.2.2.2.2.2.2.2.1 dX11_hasSeat_49 ?_
    refine j_ic_ge 59 dX11_hasSeat_52 (by decide) h (fun h => ?_) (fun h => ?_)
    · refine j_iconst (0 : Int32) dX11_hasSeat_59 ki_0 ?_
      have h := ok_s h
      exact j_iret dX11_hasSeat_60 rfl (by decide) h
    · refine j_iconst (1 : Int32) dX11_hasSeat_55 ki_1 ?_
      refine j_goto 60 dX11_hasSeat_56 (by decide) ?_
      have h := ok_s h
      exact j_iret dX11_hasSeat_60 rfl (by decide) h
theorem c_X11_hasSeat (l : Launch) (γ : Gm) (A : Nat → Prop) (a1 : Int32) (a2 : Int32) (w : Wd) (q : Int32 × Wd) (e : X11_hasSeat  a1 a2 w = some q) : MetG l γ A yX11_hasSeat cX11_hasSeat 4 (some .boolean) (rmk 3 75) [.ref (ad (γ) 0), .int a1, .int a2] w (some (.int q.1)) q.2 := by
  refine met_of pn_RX11 (Nat.le_of_ble_eq_true rfl) ?_
  intro κ hl hγ hA hρ
  subst hl; subst hγ; subst hA
  exact t_X11_hasSeat   a1 a2 w ⟨q, e, pIw hρ rfl rfl⟩
theorem dX11_near_0 : decode cX11_near 0 = .ok (.aload_n 0, 1) := by decide +kernel
theorem dX11_near_1 : decode cX11_near 1 = .ok (.getfield 19, 3) := by decide +kernel
theorem dX11_near_4 : decode cX11_near 4 = .ok (.iload_n 1, 1) := by decide +kernel
theorem dX11_near_5 : decode cX11_near 5 = .ok (.invokevirtual 223, 3) := by decide +kernel
theorem dX11_near_8 : decode cX11_near 8 = .ok (.ifCond .eq 10, 3) := by decide +kernel
theorem dX11_near_11 : decode cX11_near 11 = .ok (.iload_n 2, 1) := by decide +kernel
theorem dX11_near_12 : decode cX11_near 12 = .ok (.invokestatic 168, 3) := by decide +kernel
theorem dX11_near_15 : decode cX11_near 15 = .ok (.ifCond .ne 9, 3) := by decide +kernel
theorem dX11_near_18 : decode cX11_near 18 = .ok (.aload_n 0, 1) := by decide +kernel
theorem dX11_near_19 : decode cX11_near 19 = .ok (.iconst 1, 1) := by decide +kernel
theorem dX11_near_20 : decode cX11_near 20 = .ok (.invokevirtual 114, 3) := by decide +kernel
theorem dX11_near_23 : decode cX11_near 23 = .ok (.ireturn, 1) := by decide +kernel
theorem dX11_near_24 : decode cX11_near 24 = .ok (.aload_n 0, 1) := by decide +kernel
theorem dX11_near_25 : decode cX11_near 25 = .ok (.getfield 26, 3) := by decide +kernel
theorem dX11_near_28 : decode cX11_near 28 = .ok (.iload_n 2, 1) := by decide +kernel
theorem dX11_near_29 : decode cX11_near 29 = .ok (.invokevirtual 229, 3) := by decide +kernel
theorem dX11_near_32 : decode cX11_near 32 = .ok (.aload_n 0, 1) := by decide +kernel
theorem dX11_near_33 : decode cX11_near 33 = .ok (.getfield 26, 3) := by decide +kernel
theorem dX11_near_36 : decode cX11_near 36 = .ok (.getfield 239, 3) := by decide +kernel
theorem dX11_near_39 : decode cX11_near 39 = .ok (.iload_n 1, 1) := by decide +kernel
theorem dX11_near_40 : decode cX11_near 40 = .ok (.iaload, 1) := by decide +kernel
theorem dX11_near_41 : decode cX11_near 41 = .ok (.iconst (-1), 1) := by decide +kernel
theorem dX11_near_42 : decode cX11_near 42 = .ok (.if_icmp .eq 10, 3) := by decide +kernel
theorem dX11_near_45 : decode cX11_near 45 = .ok (.aload_n 0, 1) := by decide +kernel
theorem dX11_near_46 : decode cX11_near 46 = .ok (.bipush 7, 2) := by decide +kernel
theorem dX11_near_48 : decode cX11_near 48 = .ok (.invokevirtual 114, 3) := by decide +kernel
theorem dX11_near_51 : decode cX11_near 51 = .ok (.ireturn, 1) := by decide +kernel
theorem dX11_near_52 : decode cX11_near 52 = .ok (.aload_n 0, 1) := by decide +kernel
theorem dX11_near_53 : decode cX11_near 53 = .ok (.getfield 19, 3) := by decide +kernel
theorem dX11_near_56 : decode cX11_near 56 = .ok (.aload_n 0, 1) := by decide +kernel
theorem dX11_near_57 : decode cX11_near 57 = .ok (.getfield 19, 3) := by decide +kernel
theorem dX11_near_60 : decode cX11_near 60 = .ok (.getfield 393, 3) := by decide +kernel
theorem dX11_near_63 : decode cX11_near 63 = .ok (.iload_n 1, 1) := by decide +kernel
theorem dX11_near_64 : decode cX11_near 64 = .ok (.iaload, 1) := by decide +kernel
theorem dX11_near_65 : decode cX11_near 65 = .ok (.iload_n 2, 1) := by decide +kernel
theorem dX11_near_66 : decode cX11_near 66 = .ok (.invokevirtual 171, 3) := by decide +kernel
theorem dX11_near_69 : decode cX11_near 69 = .ok (.iconst (-1), 1) := by decide +kernel
theorem dX11_near_70 : decode cX11_near 70 = .ok (.istore_n 3, 1) := by decide +kernel
theorem dX11_near_71 : decode cX11_near 71 = .ok (.bipush 60, 2) := by decide +kernel
theorem dX11_near_73 : decode cX11_near 73 = .ok (.istore 4, 2) := by decide +kernel
theorem dX11_near_75 : decode cX11_near 75 = .ok (.iconst 0, 1) := by decide +kernel
theorem dX11_near_76 : decode cX11_near 76 = .ok (.istore 5, 2) := by decide +kernel
theorem dX11_near_78 : decode cX11_near 78 = .ok (.iload 5, 2) := by decide +kernel
theorem dX11_near_80 : decode cX11_near 80 = .ok (.aload_n 0, 1) := by decide +kernel
theorem dX11_near_81 : decode cX11_near 81 = .ok (.getfield 19, 3) := by decide +kernel
theorem dX11_near_84 : decode cX11_near 84 = .ok (.getfield 194, 3) := by decide +kernel
theorem dX11_near_87 : decode cX11_near 87 = .ok (.if_icmp .ge 58, 3) := by decide +kernel
theorem dX11_near_90 : decode cX11_near 90 = .ok (.aload_n 0, 1) := by decide +kernel
theorem dX11_near_91 : decode cX11_near 91 = .ok (.getfield 19, 3) := by decide +kernel
theorem dX11_near_94 : decode cX11_near 94 = .ok (.aload_n 0, 1) := by decide +kernel
theorem dX11_near_95 : decode cX11_near 95 = .ok (.getfield 19, 3) := by decide +kernel
theorem dX11_near_98 : decode cX11_near 98 = .ok (.getfield 393, 3) := by decide +kernel
theorem dX11_near_101 : decode cX11_near 101 = .ok (.iload 5, 2) := by decide +kernel
theorem dX11_near_103 : decode cX11_near 103 = .ok (.iaload, 1) := by decide +kernel
theorem dX11_near_104 : decode cX11_near 104 = .ok (.invokevirtual 175, 3) := by decide +kernel
theorem dX11_near_107 : decode cX11_near 107 = .ok (.istore 6, 2) := by decide +kernel
theorem dX11_near_109 : decode cX11_near 109 = .ok (.iload 6, 2) := by decide +kernel
theorem dX11_near_111 : decode cX11_near 111 = .ok (.iconst (-1), 1) := by decide +kernel
theorem dX11_near_112 : decode cX11_near 112 = .ok (.if_icmp .eq 27, 3) := by decide +kernel
theorem dX11_near_115 : decode cX11_near 115 = .ok (.iload 6, 2) := by decide +kernel
theorem dX11_near_117 : decode cX11_near 117 = .ok (.iload 4, 2) := by decide +kernel
theorem dX11_near_119 : decode cX11_near 119 = .ok (.if_icmp .ge 20, 3) := by decide +kernel
theorem dX11_near_122 : decode cX11_near 122 = .ok (.aload_n 0, 1) := by decide +kernel
theorem dX11_near_123 : decode cX11_near 123 = .ok (.iload 5, 2) := by decide +kernel
theorem dX11_near_125 : decode cX11_near 125 = .ok (.iload_n 2, 1) := by decide +kernel
theorem dX11_near_126 : decode cX11_near 126 = .ok (.invokevirtual 396, 3) := by decide +kernel
theorem dX11_near_129 : decode cX11_near 129 = .ok (.ifCond .eq 10, 3) := by decide +kernel
theorem dX11_near_132 : decode cX11_near 132 = .ok (.iload 5, 2) := by decide +kernel
theorem dX11_near_134 : decode cX11_near 134 = .ok (.istore_n 3, 1) := by decide +kernel
theorem dX11_near_135 : decode cX11_near 135 = .ok (.iload 6, 2) := by decide +kernel
theorem dX11_near_137 : decode cX11_near 137 = .ok (.istore 4, 2) := by decide +kernel
theorem dX11_near_139 : decode cX11_near 139 = .ok (.iinc 5 1, 3) := by decide +kernel
theorem dX11_near_142 : decode cX11_near 142 = .ok (.goto (-64), 3) := by decide +kernel
theorem dX11_near_145 : decode cX11_near 145 = .ok (.aload_n 0, 1) := by decide +kernel
theorem dX11_near_146 : decode cX11_near 146 = .ok (.bipush 6, 2) := by decide +kernel
theorem dX11_near_148 : decode cX11_near 148 = .ok (.iload_n 3, 1) := by decide +kernel
theorem dX11_near_149 : decode cX11_near 149 = .ok (.invokevirtual 178, 3) := by decide +kernel
theorem dX11_near_152 : decode cX11_near 152 = .ok (.ireturn, 1) := by decide +kernel
noncomputable def X11_near_j18 (w : Wd) : Option (Int32 × Wd) :=
(X11_deny (1 : Int32) w).bind fun q1 =>
some (q1.1, q1.2)
set_option maxRecDepth 20000 in
set_option maxHeartbeats 1000000 in
theorem t_X11_near_j18 {κ : Kx} (w : Wd) (h : ok (X11_near_j18  w) (PIw κ)) : J κ RX11 cX11_near 7 (some .int) (rmk 4 98) 18 [(0, .ref (ad (gm κ) 0))] [] w := by
  unfold X11_near_j18 at h
  refine j_aload_n 0 dX11_near_18 rfl rfl ?_
  refine j_iconst (1 : Int32) dX11_near_19 ki_1 ?_
  obtain ⟨q1, e2, h⟩ := ok_b h
  refine j_callV (As := [.int (1 : Int32)]) (st := []) [.int q1.1] (c_X11_deny (kl κ) (gm κ) (kA κ) (1 : Int32) w q1 e2) ck_RX11_114 im_X11_deny se_X11_deny sh_0 cx_11 ⟨rfl, rfl⟩ ⟨by decide, by decide⟩ rfl rfl (Nat.le_of_ble_eq_true rfl) dX11_near_20 _ rfl ?_
  have h := ok_s h
  exact j_iret dX11_near_23 rfl rfl h
noncomputable def X11_near_j139 (a2 : Int32) (a3 : Int32) (a4 : Int32) (a5 : Int32) (w : Wd) : Option ((Int32 × Int32 × Int32 × Wd) ⊕ (Int32 × Wd)) :=
some (.inl (a3, a4, (a5 + (1 : Int32)), w))
set_option maxRecDepth 20000 in
set_option maxHeartbeats 1000000 in
theorem t_X11_near_j139 {κ : Kx} (a2 : Int32) (a3 : Int32) (a4 : Int32) (a5 : Int32) (w : Wd) {G : (Int32 × Int32 × Int32 × Wd) → Prop} {P : (Int32 × Wd) → Prop} (KG : ∀ s, G s → J κ RX11 cX11_near 7 (some .int) (rmk 4 98) 78 [(0, .ref (ad (gm κ) 0)), (2, .int a2), (3, .int s.1), (4, .int s.2.1), (5, .int s.2.2.1)] [] s.2.2.2) (K0 : ∀ e, P e → J κ RX11 cX11_near 7 (some .int) (rmk 4 98) 145 [(0, .ref (ad (gm κ) 0)), (3, .int e.1)] [] e.2) (h : ok (X11_near_j139  a2 a3 a4 a5 w) (sel G P)) : J κ RX11 cX11_near 7 (some .int) (rmk 4 98) 139 [(0, .ref (ad (gm κ) 0)), (2, .int a2), (3, .int a3), (4, .int a4), (5, .int a5)] [] w := by
  unfold X11_near_j139 at h
  refine j_iinc (a5 + (1 : Int32)) 4 [(5, .int (a5 + (1 : Int32))), (0, .ref (ad (gm κ) 0)), (2, .int a2), (3, .int a3), (4, .int a4)] dX11_near_139 rfl (by rw [kn_1]) (by decide) rfl ?_
  refine j_goto 78 dX11_near_142 (by decide) ?_
  refine j_loc [(0, .ref (ad (gm κ) 0)), (2, .int a2), (3, .int a3), (4, .int a4), (5, .int (a5 + (1 : Int32)))] [1, 2, 3, 4, 0] rfl ?_
  have h := sel_l h
  have h := KG _ h
  exact h
noncomputable def X11_near_b78 (a2 : Int32) (s : (Int32 × Int32 × Int32 × Wd)) : Option ((Int32 × Int32 × Int32 × Wd) ⊕ (Int32 × Wd)) :=
(if (s.2.2.2.1 5 15) ≤ s.2.2.1 then
some (.inr (s.1, s.2.2.2))
else
gd (vp_in s.2.2.1 12) <|
(X2_reached (s.2.2.2.1 17 (ix s.2.2.1)) s.2.2.2).bind fun q7 =>
(if q7 = (-1 : Int32) then
X11_near_j139 a2 s.1 s.2.1 s.2.2.1 s.2.2.2
else
(if s.2.1 ≤ q7 then
X11_near_j139 a2 s.1 s.2.1 s.2.2.1 s.2.2.2
else
(X11_hasSeat s.2.2.1 a2 s.2.2.2).bind fun q9 =>
(if q9.1 = 0 then
X11_near_j139 a2 s.1 s.2.1 s.2.2.1 q9.2
else
X11_near_j139 a2 s.2.2.1 q7 s.2.2.1 q9.2))))
set_option maxRecDepth 20000 in
set_option maxHeartbeats 1000000 in
theorem t_X11_near_b78 {κ : Kx} (a2 : Int32) {P : (Int32 × Wd) → Prop} (K0 : ∀ e, P e → J κ RX11 cX11_near 7 (some .int) (rmk 4 98) 145 [(0, .ref (ad (gm κ) 0)), (3, .int e.1)] [] e.2) (s : (Int32 × Int32 × Int32 × Wd)) (h : ok (lp (X11_near_b78  a2) s) P) : J κ RX11 cX11_near 7 (some .int) (rmk 4 98) 78 [(0, .ref (ad (gm κ) 0)), (2, .int a2), (3, .int s.1), (4, .int s.2.1), (5, .int s.2.2.1)] [] s.2.2.2 := by
  refine lp_ind (fun s => J κ RX11 cX11_near 7 (some .int) (rmk 4 98) 78 [(0, .ref (ad (gm κ) 0)), (2, .int a2), (3, .int s.1), (4, .int s.2.1), (5, .int s.2.2.1)] [] s.2.2.2) (fun s h => ?_) s h
  unfold X11_near_b78 at h
  refine j_iload 4 dX11_near_78 rfl ?_
  refine j_aload_n 0 dX11_near_80 rfl rfl ?_
  refine j_getA 5 fl_RX11_19 sh_0 fk_0_1 (by decide) dX11_near_81 ?_
  refine j_getI fl_RX11_194 sh_5 fk_5_15 dX11_near_84 ?_
  refine j_ic_ge 145 dX11_near_87 (by decide) h (fun h => ?_) (fun h => ?_)
  · refine j_loc [(0, .ref (ad (gm κ) 0)), (3, .int s.1)] [0, 2] rfl ?_
    have h := sel_r h
    have h := K0 _ h
    exact h
  · refine j_aload_n 0 dX11_near_90 rfl rfl ?_
    refine j_getA 5 fl_RX11_19 sh_0 fk_0_1 (by decide) dX11_near_91 ?_
    refine j_aload_n 0 dX11_near_94 rfl rfl ?_
    refine j_getA 5 fl_RX11_19 sh_0 fk_0_1 (by decide) dX11_near_95 ?_
    refine j_getA 17 fl_RX11_393 sh_5 fk_5_16 (by decide) dX11_near_98 ?_
    refine j_iload 4 dX11_near_101 rfl ?_
    refine j_iald sh_17 dX11_near_103 h (fun h => ?_)
    obtain ⟨q7, e8, h⟩ := ok_b h
    refine j_callV (As := [.int (s.2.2.2.1 17 (ix s.2.2.1))]) (st := []) [.int q7] (c_X2_reached (kl κ) (gm κ) (kA κ) (s.2.2.2.1 17 (ix s.2.2.1)) s.2.2.2 q7 e8) ck_RX11_175 im_X2_reached se_X2_reached sh_5 cx_2 ⟨rfl, rfl⟩ ⟨by decide, by decide⟩ rfl rfl (Nat.le_of_ble_eq_true rfl) dX11_near_104 _ rfl ?_
    refine j_istore [(6, .int q7), (0, .ref (ad (gm κ) 0)), (2, .int a2), (3, .int s.1), (4, .int s.2.1), (5, .int s.2.2.1)] dX11_near_107 (by decide) rfl ?_
    refine j_iload 0 dX11_near_109 rfl ?_
    refine j_iconst (-1 : Int32) dX11_near_111 ki_m1 ?_
    refine j_ic_eq 139 dX11_near_112 (by decide) h (fun h => ?_) (fun h => ?_)
    · refine j_loc [(0, .ref (ad (gm κ) 0)), (2, .int a2), (3, .int s.1), (4, .int s.2.1), (5, .int s.2.2.1)] [1, 2, 3, 4, 5] rfl ?_
      exact t_X11_near_j139 a2 s.1 s.2.1 s.2.2.1 s.2.2.2 (fun _ h => h) K0 h
    · refine j_iload 0 dX11_near_115 rfl ?_
      refine j_iload 4 dX11_near_117 rfl ?_
      refine j_ic_ge 139 dX11_near_119 (by decide) h (fun h => ?_) (fun h => ?_)
      · refine j_loc [(0, .ref (ad (gm κ) 0)), (2, .int a2), (3, .int s.1), (4, .int s.2.1), (5, .int s.2.2.1)] [1, 2, 3, 4, 5] rfl ?_
        exact t_X11_near_j139 a2 s.1 s.2.1 s.2.2.1 s.2.2.2 (fun _ h => h) K0 h
      · refine j_aload_n 1 dX11_near_122 rfl rfl ?_
        refine j_iload 5 dX11_near_123 rfl ?_
        refine j_iload_n 2 dX11_near_125 rfl rfl ?_
        obtain ⟨q9, e10, h⟩ := ok_b h
        refine j_callV (As := [.int s.2.2.1, .int a2]) (st := []) [.int q9.1] (c_X11_hasSeat (kl κ) (gm κ) (kA κ) s.2.2.1 a2 s.2.2.2 q9 e10) ck_RX11_396 im_X11_hasSeat se_X11_hasSeat sh_0 cx_11 ⟨rfl, rfl⟩ ⟨by decide, by decide⟩ rfl rfl (Nat.le_of_ble_eq_true rfl) dX11_near_126 _ rfl ?_
        refine j_if_eq 139 dX11_near_129 (by decide) h (fun h => ?_) (fun h => ?_)
        · refine j_loc [(0, .ref (ad (gm κ) 0)), (2, .int a2), (3, .int s.1), (4, .int s.2.1), (5, .int s.2.2.1)] [1, 2, 3, 4, 5] rfl ?_
          exact t_X11_near_j139 a2 s.1 s.2.1 s.2.2.1 q9.2 (fun _ h => h) K0 h
        · refine j_iload 5 dX11_near_132 rfl ?_
          refine j_istore_n [(3, .int s.2.2.1), (6, .int q7), (0, .ref (ad (gm κ) 0)), (2, .int a2), (4, .int s.2.1), (5, .int s.2.2.1)] dX11_near_134 rfl (by decide) rfl ?_
          refine j_iload 1 dX11_near_135 rfl ?_
          refine j_istore [(4, .int q7), (3, .int s.2.2.1), (6, .int q7), (0, .ref (ad (gm κ) 0)), (2, .int a2), (5, .int s.2.2.1)] dX11_near_137 (by decide) rfl ?_
          refine j_loc [(0, .ref (ad (gm κ) 0)), (2, .int a2), (3, .int s.2.2.1), (4, .int q7), (5, .int s.2.2.1)] [3, 4, 1, 0, 5] rfl ?_
          exact t_X11_near_j139 a2 s.2.2.1 q7 s.2.2.1 q9.2 (fun _ h => h) K0 h
noncomputable def X11_near (a1 : Int32) (a2 : Int32) (w : Wd) : Option (Int32 × Wd) :=
(if (X2_isLamp a1 w) = 0 then
X11_near_j18 w
else
(if (X11_isWeek a2 w) = 0 then
X11_near_j18 w
else
(X4_callUp a2 w).bind fun q3 =>
gd (vp_in a1 12) <|
(if (q3.1 28 (ix a1)) = (-1 : Int32) then
gd (vp_in a1 12) <|
(X2_travel (q3.1 17 (ix a1)) a2 q3).bind fun q5 =>
(lp (X11_near_b78 a2) ((-1 : Int32), (60 : Int32), (0 : Int32), q5)).bind fun e11 =>
(X11_answerOr (6 : Int32) e11.1 e11.2).bind fun q12 =>
some (q12.1, q12.2)
else
(X11_deny (7 : Int32) q3).bind fun q14 =>
some (q14.1, q14.2))))
set_option maxRecDepth 20000 in
set_option maxHeartbeats 1000000 in
theorem t_X11_near {κ : Kx} (a1 : Int32) (a2 : Int32) (w : Wd) (h : ok (X11_near  a1 a2 w) (PIw κ)) : J κ RX11 cX11_near 7 (some .int) (rmk 4 98) 0 [(0, .ref (ad (gm κ) 0)), (1, .int a1), (2, .int a2)] [] w := by
  unfold X11_near at h
  refine j_aload_n 0 dX11_near_0 rfl rfl ?_
  refine j_getA 5 fl_RX11_19 sh_0 fk_0_1 (by decide) dX11_near_1 ?_
  refine j_iload_n 1 dX11_near_4 rfl rfl ?_
  refine j_callV (As := [.int a1]) (st := []) [.int (X2_isLamp a1 w)] (c_X2_isLamp (kl κ) (gm κ) (kA κ) a1 w) ck_RX11_223 im_X2_isLamp se_X2_isLamp sh_5 cx_2 ⟨rfl, rfl⟩ ⟨by decide, by decide⟩ rfl rfl (Nat.le_of_ble_eq_true rfl) dX11_near_5 _ rfl ?_
  refine j_if_eq 18 dX11_near_8 (by decide) h (fun h => ?_) (fun h => ?_)
  · refine j_loc [(0, .ref (ad (gm κ) 0))] [0] rfl ?_
    exact t_X11_near_j18 w h
  · refine j_iload_n 2 dX11_near_11 rfl rfl ?_
    refine j_callS (As := [.int a2]) (st := []) [.int (X11_isWeek a2 w)] (c_X11_isWeek (kl κ) (gm κ) (kA κ) a2 w) ck_RX11_168 st_X11_isWeek ⟨rfl, rfl⟩ ⟨by decide, by decide⟩ rfl rfl (Nat.le_of_ble_eq_true rfl) dX11_near_12 _ rfl ?_
    refine j_if_ne 24 dX11_near_15 (by decide) h (fun h => ?_) (fun h => ?_)
    · refine j_aload_n 0 dX11_near_24 rfl rfl ?_
      refine j_getA 19 fl_RX11_26 sh_0 fk_0_2 (by decide) dX11_near_25 ?_
      refine j_iload_n 2 dX11_near_28 rfl rfl ?_
      obtain ⟨q3, e4, h⟩ := ok_b h
      refine j_callV (As := [.int a2]) (st := []) [] (c_X4_callUp (kl κ) (gm κ) (kA κ) a2 w q3 e4) ck_RX11_229 im_X4_callUp se_X4_callUp sh_19 cx_4 ⟨rfl, rfl⟩ ⟨by decide, by decide⟩ rfl rfl (Nat.le_of_ble_eq_true rfl) dX11_near_29 _ rfl ?_
      refine j_aload_n 0 dX11_near_32 rfl rfl ?_
      refine j_getA 19 fl_RX11_26 sh_0 fk_0_2 (by decide) dX11_near_33 ?_
      refine j_getA 28 fl_RX11_239 sh_19 fk_19_11 (by decide) dX11_near_36 ?_
      refine j_iload_n 1 dX11_near_39 rfl rfl ?_
      refine j_iald sh_28 dX11_near_40 h (fun h => ?_)
      refine j_iconst (-1 : Int32) dX11_near_41 ki_m1 ?_
      refine j_ic_eq 52 dX11_near_42 (by decide) h (fun h => ?_) (fun h => ?_)
      · refine j_aload_n 0 dX11_near_52 rfl rfl ?_
        refine j_getA 5 fl_RX11_19 sh_0 fk_0_1 (by decide) dX11_near_53 ?_
        refine j_aload_n 0 dX11_near_56 rfl rfl ?_
        refine j_getA 5 fl_RX11_19 sh_0 fk_0_1 (by decide) dX11_near_57 ?_
        refine j_getA 17 fl_RX11_393 sh_5 fk_5_16 (by decide) dX11_near_60 ?_
        refine j_iload_n 1 dX11_near_63 rfl rfl ?_
        refine j_iald sh_17 dX11_near_64 h (fun h => ?_)
        refine j_iload_n 2 dX11_near_65 rfl rfl ?_
        obtain ⟨q5, e6, h⟩ := ok_b h
        refine j_callV (As := [.int (q3.1 17 (ix a1)), .int a2]) (st := []) [] (c_X2_travel (kl κ) (gm κ) (kA κ) (q3.1 17 (ix a1)) a2 q3 q5 e6) ck_RX11_171 im_X2_travel se_X2_travel sh_5 cx_2 ⟨rfl, rfl⟩ ⟨by decide, by decide⟩ rfl rfl (Nat.le_of_ble_eq_true rfl) dX11_near_66 _ rfl ?_
        refine j_iconst (-1 : Int32) dX11_near_69 ki_m1 ?_
        refine j_istore_n [(3, .int (-1 : Int32)), (0, .ref (ad (gm κ) 0)), (1, .int a1), (2, .int a2)] dX11_near_70 rfl (by decide) rfl ?_
        refine j_bipush (60 : Int32) dX11_near_71 kb_60 ?_
        refine j_istore [(4, .int (60 : Int32)), (3, .int (-1 : Int32)), (0, .ref (ad (gm κ) 0)), (1, .int a1), (2, .int a2)] dX11_near_73 (by decide) rfl ?_
        refine j_iconst (0 : Int32) dX11_near_75 ki_0 ?_
        refine j_istore [(5, .int (0 : Int32)), (4, .int (60 : Int32)), (3, .int (-1 : Int32)), (0, .ref (ad (gm κ) 0)), (1, .int a1), (2, .int a2)] dX11_near_76 (by decide) rfl ?_
        refine j_loc [(0, .ref (ad (gm κ) 0)), (2, .int a2), (3, .int (-1 : Int32)), (4, .int (60 : Int32)), (5, .int (0 : Int32))] [3, 5, 2, 1, 0] rfl ?_
        refine t_X11_near_b78 a2 (fun e11 h => ?_) ((-1 : Int32), (60 : Int32), (0 : Int32), q5) (ok_bb h)
        · refine j_aload_n 0 dX11_near_145 rfl rfl ?_
          refine j_bipush (6 : Int32) dX11_near_146 kb_6 ?_
          refine j_iload_n 1 dX11_near_148 rfl rfl ?_
          obtain ⟨q12, e13, h⟩ := ok_b h
          refine j_callV (As := [.int (6 : Int32), .int e11.1]) (st := []) [.int q12.1] (c_X11_answerOr (kl κ) (gm κ) (kA κ) (6 : Int32) e11.1 e11.2 q12 e13) ck_RX11_178 im_X11_answerOr se_X11_answerOr sh_0 cx_11 ⟨rfl, rfl⟩ ⟨by decide, by decide⟩ rfl rfl (Nat.le_of_ble_eq_true rfl) dX11_near_149 _ rfl ?_
          have h := ok_s h
          exact j_iret dX11_near_152 rfl rfl h
      · refine j_aload_n 0 dX11_near_45 rfl rfl ?_
        refine j_bipush (7 : Int32) dX11_near_46 kb_7 ?_
        obtain ⟨q14, e15, h⟩ := ok_b h
        refine j_callV (As := [.int (7 : Int32)]) (st := []) [.int q14.1] (c_X11_deny (kl κ) (gm κ) (kA κ) (7 : Int32) q3 q14 e15) ck_RX11_114 im_X11_deny se_X11_deny sh_0 cx_11 ⟨rfl, rfl⟩ ⟨by decide, by decide⟩ rfl rfl (Nat.le_of_ble_eq_true rfl) dX11_near_48 _ rfl ?_
        have h := ok_s h
        exact j_iret dX11_near_51 rfl rfl h
    · refine j_loc [(0, .ref (ad (gm κ) 0))] [0] rfl ?_
      exact t_X11_near_j18 w h
theorem c_X11_near (l : Launch) (γ : Gm) (A : Nat → Prop) (a1 : Int32) (a2 : Int32) (w : Wd) (q : Int32 × Wd) (e : X11_near  a1 a2 w = some q) : MetG l γ A yX11_near cX11_near 7 (some .int) (rmk 4 98) [.ref (ad (γ) 0), .int a1, .int a2] w (some (.int q.1)) q.2 := by
  refine met_of pn_RX11 (Nat.le_of_ble_eq_true rfl) ?_
  intro κ hl hγ hA hρ
  subst hl; subst hγ; subst hA
  exact t_X11_near   a1 a2 w ⟨q, e, pIw hρ rfl rfl⟩
theorem dX12_status_0 : decode cX12_status 0 = .ok (.aload_n 0, 1) := by decide +kernel
theorem dX12_status_1 : decode cX12_status 1 = .ok (.getfield 277, 3) := by decide +kernel
theorem dX12_status_4 : decode cX12_status 4 = .ok (.ireturn, 1) := by decide +kernel
noncomputable def X12_statusO (w : Wd) : Option (Int32) :=
some (w.1 97 0)
set_option maxRecDepth 20000 in
set_option maxHeartbeats 1000000 in
theorem t_X12_status {κ : Kx} (w : Wd) (h : ok (X12_statusO   w) (PI κ w)) : J κ RX12 cX12_status 1 (some .int) (rmk 0 0) 0 [(0, .ref (ad (gm κ) 97))] [] w := by
  unfold X12_statusO at h
  refine j_aload_n 0 dX12_status_0 rfl rfl ?_
  refine j_getI fl_RX12_277 sh_97 fk_97_0 dX12_status_1 ?_
  have h := ok_s h
  exact j_iret dX12_status_4 rfl rfl h
noncomputable def X12_status (w : Wd) : Int32 := (X12_statusO   w).getD 0
theorem X12_status_eq (w : Wd) : X12_statusO   w = some (X12_status   w) := by
  unfold X12_status X12_statusO
  repeat (first | rfl | split)
theorem c_X12_status (l : Launch) (γ : Gm) (A : Nat → Prop) (w : Wd) : MetG l γ A yX12_status cX12_status 1 (some .int) (rmk 0 0) [.ref (ad (γ) 97)] w (some (.int (X12_status   w))) w := by
  refine met_of pn_RX12 (Nat.le_of_ble_eq_true rfl) ?_
  intro κ hl hγ hA hρ
  subst hl; subst hγ; subst hA
  exact t_X12_status    w ⟨_, X12_status_eq   w, pI hρ rfl rfl⟩
theorem dX12_is_0 : decode cX12_is 0 = .ok (.aload_n 0, 1) := by decide +kernel
theorem dX12_is_1 : decode cX12_is 1 = .ok (.iload_n 1, 1) := by decide +kernel
theorem dX12_is_2 : decode cX12_is 2 = .ok (.putfield 277, 3) := by decide +kernel
theorem dX12_is_5 : decode cX12_is 5 = .ok (.iload_n 1, 1) := by decide +kernel
theorem dX12_is_6 : decode cX12_is 6 = .ok (.ifCond .ne 7, 3) := by decide +kernel
theorem dX12_is_9 : decode cX12_is 9 = .ok (.iconst 1, 1) := by decide +kernel
theorem dX12_is_10 : decode cX12_is 10 = .ok (.goto 4, 3) := by decide +kernel
theorem dX12_is_13 : decode cX12_is 13 = .ok (.iconst 0, 1) := by decide +kernel
theorem dX12_is_14 : decode cX12_is 14 = .ok (.ireturn, 1) := by decide +kernel
noncomputable def X12_is (a1 : Int32) (w : Wd) : Option (Int32 × Wd) :=
(some (puI w 97 0 a1)).bind fun w1 =>
(if a1 = 0 then
some ((1 : Int32), w1)
else
some ((0 : Int32), w1))
set_option maxRecDepth 20000 in
set_option maxHeartbeats 1000000 in
theorem t_X12_is {κ : Kx} (a1 : Int32) (w : Wd) (h : ok (X12_is  a1 w) (PIw κ)) : J κ RX12 cX12_is 2 (some .boolean) (rmk 0 0) 0 [(0, .ref (ad (gm κ) 97)), (1, .int a1)] [] w := by
  unfold X12_is at h
  refine j_aload_n 0 dX12_is_0 rfl rfl ?_
  refine j_iload_n 1 dX12_is_1 rfl rfl ?_
  refine j_putI fp_RX12_277 sh_97 fk_97_0 dX12_is_2 ?_
  refine j_lW h (fun w1 h => ?_)
  refine j_iload_n 1 dX12_is_5 rfl rfl ?_
  refine j_if_ne 13 dX12_is_6 (by decide) h (fun h => ?_) (fun h => ?_)
  · refine j_iconst (0 : Int32) dX12_is_13 ki_0 ?_
    have h := ok_s h
    exact j_iret dX12_is_14 rfl (by decide) h
  · refine j_iconst (1 : Int32) dX12_is_9 ki_1 ?_
    refine j_goto 14 dX12_is_10 (by decide) ?_
    have h := ok_s h
    exact j_iret dX12_is_14 rfl (by decide) h
theorem c_X12_is (l : Launch) (γ : Gm) (A : Nat → Prop) (a1 : Int32) (w : Wd) (q : Int32 × Wd) (e : X12_is  a1 w = some q) : MetG l γ A yX12_is cX12_is 2 (some .boolean) (rmk 0 0) [.ref (ad (γ) 97), .int a1] w (some (.int q.1)) q.2 := by
  refine met_of pn_RX12 (Nat.le_of_ble_eq_true rfl) ?_
  intro κ hl hγ hA hρ
  subst hl; subst hγ; subst hA
  exact t_X12_is   a1 w ⟨q, e, pIw hρ rfl rfl⟩
theorem dX12_refuse_0 : decode cX12_refuse 0 = .ok (.aload_n 0, 1) := by decide +kernel
theorem dX12_refuse_1 : decode cX12_refuse 1 = .ok (.iload_n 1, 1) := by decide +kernel
theorem dX12_refuse_2 : decode cX12_refuse 2 = .ok (.putfield 277, 3) := by decide +kernel
theorem dX12_refuse_5 : decode cX12_refuse 5 = .ok (.iconst (-1), 1) := by decide +kernel
theorem dX12_refuse_6 : decode cX12_refuse 6 = .ok (.ireturn, 1) := by decide +kernel
noncomputable def X12_refuse (a1 : Int32) (w : Wd) : Option (Int32 × Wd) :=
(some (puI w 97 0 a1)).bind fun w1 =>
some ((-1 : Int32), w1)
set_option maxRecDepth 20000 in
set_option maxHeartbeats 1000000 in
theorem t_X12_refuse {κ : Kx} (a1 : Int32) (w : Wd) (h : ok (X12_refuse  a1 w) (PIw κ)) : J κ RX12 cX12_refuse 2 (some .int) (rmk 0 0) 0 [(0, .ref (ad (gm κ) 97)), (1, .int a1)] [] w := by
  unfold X12_refuse at h
  refine j_aload_n 0 dX12_refuse_0 rfl rfl ?_
  refine j_iload_n 1 dX12_refuse_1 rfl rfl ?_
  refine j_putI fp_RX12_277 sh_97 fk_97_0 dX12_refuse_2 ?_
  refine j_lW h (fun w1 h => ?_)
  refine j_iconst (-1 : Int32) dX12_refuse_5 ki_m1 ?_
  have h := ok_s h
  exact j_iret dX12_refuse_6 rfl rfl h
theorem c_X12_refuse (l : Launch) (γ : Gm) (A : Nat → Prop) (a1 : Int32) (w : Wd) (q : Int32 × Wd) (e : X12_refuse  a1 w = some q) : MetG l γ A yX12_refuse cX12_refuse 2 (some .int) (rmk 0 0) [.ref (ad (γ) 97), .int a1] w (some (.int q.1)) q.2 := by
  refine met_of pn_RX12 (Nat.le_of_ble_eq_true rfl) ?_
  intro κ hl hγ hA hρ
  subst hl; subst hγ; subst hA
  exact t_X12_refuse   a1 w ⟨q, e, pIw hρ rfl rfl⟩
theorem dX12_gives_0 : decode cX12_gives 0 = .ok (.aload_n 0, 1) := by decide +kernel
theorem dX12_gives_1 : decode cX12_gives 1 = .ok (.iconst 0, 1) := by decide +kernel
theorem dX12_gives_2 : decode cX12_gives 2 = .ok (.putfield 277, 3) := by decide +kernel
theorem dX12_gives_5 : decode cX12_gives 5 = .ok (.iload_n 1, 1) := by decide +kernel
theorem dX12_gives_6 : decode cX12_gives 6 = .ok (.ireturn, 1) := by decide +kernel
noncomputable def X12_gives (a1 : Int32) (w : Wd) : Option (Int32 × Wd) :=
(some (puI w 97 0 (0 : Int32))).bind fun w1 =>
some (a1, w1)
set_option maxRecDepth 20000 in
set_option maxHeartbeats 1000000 in
theorem t_X12_gives {κ : Kx} (a1 : Int32) (w : Wd) (h : ok (X12_gives  a1 w) (PIw κ)) : J κ RX12 cX12_gives 2 (some .int) (rmk 0 0) 0 [(0, .ref (ad (gm κ) 97)), (1, .int a1)] [] w := by
  unfold X12_gives at h
  refine j_aload_n 0 dX12_gives_0 rfl rfl ?_
  refine j_iconst (0 : Int32) dX12_gives_1 ki_0 ?_
  refine j_putI fp_RX12_277 sh_97 fk_97_0 dX12_gives_2 ?_
  refine j_lW h (fun w1 h => ?_)
  refine j_iload_n 1 dX12_gives_5 rfl rfl ?_
  have h := ok_s h
  exact j_iret dX12_gives_6 rfl rfl h
theorem c_X12_gives (l : Launch) (γ : Gm) (A : Nat → Prop) (a1 : Int32) (w : Wd) (q : Int32 × Wd) (e : X12_gives  a1 w = some q) : MetG l γ A yX12_gives cX12_gives 2 (some .int) (rmk 0 0) [.ref (ad (γ) 97), .int a1] w (some (.int q.1)) q.2 := by
  refine met_of pn_RX12 (Nat.le_of_ble_eq_true rfl) ?_
  intro κ hl hγ hA hρ
  subst hl; subst hγ; subst hA
  exact t_X12_gives   a1 w ⟨q, e, pIw hρ rfl rfl⟩
theorem dX12_isTray_0 : decode cX12_isTray 0 = .ok (.iload_n 0, 1) := by decide +kernel
theorem dX12_isTray_1 : decode cX12_isTray 1 = .ok (.ifCond .lt 12, 3) := by decide +kernel
theorem dX12_isTray_4 : decode cX12_isTray 4 = .ok (.iload_n 0, 1) := by decide +kernel
theorem dX12_isTray_5 : decode cX12_isTray 5 = .ok (.iconst 4, 1) := by decide +kernel
theorem dX12_isTray_6 : decode cX12_isTray 6 = .ok (.if_icmp .ge 7, 3) := by decide +kernel
theorem dX12_isTray_9 : decode cX12_isTray 9 = .ok (.iconst 1, 1) := by decide +kernel
theorem dX12_isTray_10 : decode cX12_isTray 10 = .ok (.goto 4, 3) := by decide +kernel
theorem dX12_isTray_13 : decode cX12_isTray 13 = .ok (.iconst 0, 1) := by decide +kernel
theorem dX12_isTray_14 : decode cX12_isTray 14 = .ok (.ireturn, 1) := by decide +kernel
noncomputable def X12_isTrayO (a0 : Int32) (w : Wd) : Option (Int32) :=
(if a0 < 0 then
some (0 : Int32)
else
(if (4 : Int32) ≤ a0 then
some (0 : Int32)
else
some (1 : Int32)))
set_option maxRecDepth 20000 in
set_option maxHeartbeats 1000000 in
theorem t_X12_isTray {κ : Kx} (a0 : Int32) (w : Wd) (h : ok (X12_isTrayO  a0 w) (PI κ w)) : J κ RX12 cX12_isTray 1 (some .boolean) (rmk 0 0) 0 [(0, .int a0)] [] w := by
  unfold X12_isTrayO at h
  refine j_iload_n 0 dX12_isTray_0 rfl rfl ?_
  refine j_if_lt 13 dX12_isTray_1 (by decide) h (fun h => ?_) (fun h => ?_)
  · refine j_iconst (0 : Int32) dX12_isTray_13 ki_0 ?_
    have h := ok_s h
    exact j_iret dX12_isTray_14 rfl (by decide) h
  · refine j_iload_n 0 dX12_isTray_4 rfl rfl ?_
    refine j_iconst (4 : Int32) dX12_isTray_5 ki_4 ?_
    refine j_ic_ge 13 dX12_isTray_6 (by decide) h (fun h => ?_) (fun h => ?_)
    · refine j_iconst (0 : Int32) dX12_isTray_13 ki_0 ?_
      have h := ok_s h
      exact j_iret dX12_isTray_14 rfl (by decide) h
    · refine j_iconst (1 : Int32) dX12_isTray_9 ki_1 ?_
      refine j_goto 14 dX12_isTray_10 (by decide) ?_
      have h := ok_s h
      exact j_iret dX12_isTray_14 rfl (by decide) h
noncomputable def X12_isTray (a0 : Int32) (w : Wd) : Int32 := (X12_isTrayO  a0 w).getD 0
theorem X12_isTray_eq (a0 : Int32) (w : Wd) : X12_isTrayO  a0 w = some (X12_isTray  a0 w) := by
  unfold X12_isTray X12_isTrayO
  repeat (first | rfl | split)
theorem nz_X12_isTray (a0 : Int32) (w : Wd) : narrow .boolean (.int (X12_isTray  a0 w)) = .int (X12_isTray  a0 w) := by
  unfold X12_isTray X12_isTrayO
  repeat (first | rfl | split)
theorem c_X12_isTray (l : Launch) (γ : Gm) (A : Nat → Prop) (a0 : Int32) (w : Wd) : MetG l γ A yX12_isTray cX12_isTray 1 (some .boolean) (rmk 0 0) [.int a0] w (some (.int (X12_isTray  a0 w))) w := by
  refine met_of pn_RX12 (Nat.le_of_ble_eq_true rfl) ?_
  intro κ hl hγ hA hρ
  subst hl; subst hγ; subst hA
  exact t_X12_isTray   a0 w ⟨_, X12_isTray_eq  a0 w, pI hρ rfl rfl⟩
theorem dX12_cut_0 : decode cX12_cut 0 = .ok (.iload_n 2, 1) := by decide +kernel
theorem dX12_cut_1 : decode cX12_cut 1 = .ok (.ifCond .ne 10, 3) := by decide +kernel
theorem dX12_cut_4 : decode cX12_cut 4 = .ok (.lload_n 0, 1) := by decide +kernel
theorem dX12_cut_5 : decode cX12_cut 5 = .ok (.l2i, 1) := by decide +kernel
theorem dX12_cut_6 : decode cX12_cut 6 = .ok (.i2b, 1) := by decide +kernel
theorem dX12_cut_7 : decode cX12_cut 7 = .ok (.i2l, 1) := by decide +kernel
theorem dX12_cut_8 : decode cX12_cut 8 = .ok (.goto 27, 3) := by decide +kernel
theorem dX12_cut_11 : decode cX12_cut 11 = .ok (.iload_n 2, 1) := by decide +kernel
theorem dX12_cut_12 : decode cX12_cut 12 = .ok (.iconst 1, 1) := by decide +kernel
theorem dX12_cut_13 : decode cX12_cut 13 = .ok (.if_icmp .ne 10, 3) := by decide +kernel
theorem dX12_cut_16 : decode cX12_cut 16 = .ok (.lload_n 0, 1) := by decide +kernel
theorem dX12_cut_17 : decode cX12_cut 17 = .ok (.l2i, 1) := by decide +kernel
theorem dX12_cut_18 : decode cX12_cut 18 = .ok (.i2s, 1) := by decide +kernel
theorem dX12_cut_19 : decode cX12_cut 19 = .ok (.i2l, 1) := by decide +kernel
theorem dX12_cut_20 : decode cX12_cut 20 = .ok (.goto 15, 3) := by decide +kernel
theorem dX12_cut_23 : decode cX12_cut 23 = .ok (.iload_n 2, 1) := by decide +kernel
theorem dX12_cut_24 : decode cX12_cut 24 = .ok (.iconst 2, 1) := by decide +kernel
theorem dX12_cut_25 : decode cX12_cut 25 = .ok (.if_icmp .ne 9, 3) := by decide +kernel
theorem dX12_cut_28 : decode cX12_cut 28 = .ok (.lload_n 0, 1) := by decide +kernel
theorem dX12_cut_29 : decode cX12_cut 29 = .ok (.l2i, 1) := by decide +kernel
theorem dX12_cut_30 : decode cX12_cut 30 = .ok (.i2l, 1) := by decide +kernel
theorem dX12_cut_31 : decode cX12_cut 31 = .ok (.goto 4, 3) := by decide +kernel
theorem dX12_cut_34 : decode cX12_cut 34 = .ok (.lload_n 0, 1) := by decide +kernel
theorem dX12_cut_35 : decode cX12_cut 35 = .ok (.lreturn, 1) := by decide +kernel
noncomputable def X12_cutO (a0 : Int64) (a2 : Int32) (w : Wd) : Option (Int64) :=
(if a2 = 0 then
some (Int32.toInt64 (Int32.toInt8 (Int64.toInt32 a0)).toInt32)
else
(if a2 = (1 : Int32) then
some (Int32.toInt64 (Int32.toInt16 (Int64.toInt32 a0)).toInt32)
else
(if a2 = (2 : Int32) then
some (Int32.toInt64 (Int64.toInt32 a0))
else
some a0)))
set_option maxRecDepth 20000 in
set_option maxHeartbeats 1000000 in
theorem t_X12_cut {κ : Kx} (a0 : Int64) (a2 : Int32) (w : Wd) (h : ok (X12_cutO  a0 a2 w) (PJ κ w)) : J κ RX12 cX12_cut 3 (some .long) (rmk 0 0) 0 [(0, .long a0), (2, .int a2)] [] w := by
  unfold X12_cutO at h
  refine j_iload_n 1 dX12_cut_0 rfl rfl ?_
  refine j_if_ne 11 dX12_cut_1 (by decide) h (fun h => ?_) (fun h => ?_)
  · refine j_iload_n 1 dX12_cut_11 rfl rfl ?_
    refine j_iconst (1 : Int32) dX12_cut_12 ki_1 ?_
    refine j_ic_ne 23 dX12_cut_13 (by decide) h (fun h => ?_) (fun h => ?_)
    · refine j_iload_n 1 dX12_cut_23 rfl rfl ?_
      refine j_iconst (2 : Int32) dX12_cut_24 ki_2 ?_
      refine j_ic_ne 34 dX12_cut_25 (by decide) h (fun h => ?_) (fun h => ?_)
      · refine j_lload_n 0 dX12_cut_34 rfl rfl ?_
        have h := ok_s h
        exact j_lret dX12_cut_35 rfl h
      · refine j_lload_n 0 dX12_cut_28 rfl rfl ?_
        refine j_l2i dX12_cut_29 ?_
        refine j_i2l dX12_cut_30 ?_
        refine j_goto 35 dX12_cut_31 (by decide) ?_
        have h := ok_s h
        exact j_lret dX12_cut_35 rfl h
    · refine j_lload_n 0 dX12_cut_16 rfl rfl ?_
      refine j_l2i dX12_cut_17 ?_
      refine j_i2s dX12_cut_18 ?_
      refine j_i2l dX12_cut_19 ?_
      refine j_goto 35 dX12_cut_20 (by decide) ?_
      have h := ok_s h
      exact j_lret dX12_cut_35 rfl h
  · refine j_lload_n 0 dX12_cut_4 rfl rfl ?_
    refine j_l2i dX12_cut_5 ?_
    refine j_i2b dX12_cut_6 ?_
    refine j_i2l dX12_cut_7 ?_
    refine j_goto 35 dX12_cut_8 (by decide) ?_
    have h := ok_s h
    exact j_lret dX12_cut_35 rfl h
noncomputable def X12_cut (a0 : Int64) (a2 : Int32) (w : Wd) : Int64 := (X12_cutO  a0 a2 w).getD 0
theorem X12_cut_eq (a0 : Int64) (a2 : Int32) (w : Wd) : X12_cutO  a0 a2 w = some (X12_cut  a0 a2 w) := by
  unfold X12_cut X12_cutO
  repeat (first | rfl | split)
theorem c_X12_cut (l : Launch) (γ : Gm) (A : Nat → Prop) (a0 : Int64) (a2 : Int32) (w : Wd) : MetG l γ A yX12_cut cX12_cut 3 (some .long) (rmk 0 0) [.long a0, .int a2] w (some (.long (X12_cut  a0 a2 w))) w := by
  refine met_of pn_RX12 (Nat.le_of_ble_eq_true rfl) ?_
  intro κ hl hγ hA hρ
  subst hl; subst hγ; subst hA
  exact t_X12_cut   a0 a2 w ⟨_, X12_cut_eq  a0 a2 w, pJ hρ rfl rfl⟩
