theorem dX6_scan_0 : decode cX6_scan 0 = .ok (.aload_n 0, 1) := by decide +kernel
theorem dX6_scan_1 : decode cX6_scan 1 = .ok (.getfield 57, 3) := by decide +kernel
theorem dX6_scan_4 : decode cX6_scan 4 = .ok (.iload_n 1, 1) := by decide +kernel
theorem dX6_scan_5 : decode cX6_scan 5 = .ok (.if_icmp .ge 44, 3) := by decide +kernel
theorem dX6_scan_8 : decode cX6_scan 8 = .ok (.aload_n 0, 1) := by decide +kernel
theorem dX6_scan_9 : decode cX6_scan 9 = .ok (.getfield 9, 3) := by decide +kernel
theorem dX6_scan_12 : decode cX6_scan 12 = .ok (.aload_n 0, 1) := by decide +kernel
theorem dX6_scan_13 : decode cX6_scan 13 = .ok (.getfield 57, 3) := by decide +kernel
theorem dX6_scan_16 : decode cX6_scan 16 = .ok (.baload, 1) := by decide +kernel
theorem dX6_scan_17 : decode cX6_scan 17 = .ok (.bipush 10, 2) := by decide +kernel
theorem dX6_scan_19 : decode cX6_scan 19 = .ok (.if_icmp .eq 17, 3) := by decide +kernel
theorem dX6_scan_22 : decode cX6_scan 22 = .ok (.aload_n 0, 1) := by decide +kernel
theorem dX6_scan_23 : decode cX6_scan 23 = .ok (.getfield 9, 3) := by decide +kernel
theorem dX6_scan_26 : decode cX6_scan 26 = .ok (.aload_n 0, 1) := by decide +kernel
theorem dX6_scan_27 : decode cX6_scan 27 = .ok (.getfield 57, 3) := by decide +kernel
theorem dX6_scan_30 : decode cX6_scan 30 = .ok (.baload, 1) := by decide +kernel
theorem dX6_scan_31 : decode cX6_scan 31 = .ok (.bipush 32, 2) := by decide +kernel
theorem dX6_scan_33 : decode cX6_scan 33 = .ok (.if_icmp .ne 16, 3) := by decide +kernel
theorem dX6_scan_36 : decode cX6_scan 36 = .ok (.aload_n 0, 1) := by decide +kernel
theorem dX6_scan_37 : decode cX6_scan 37 = .ok (.dup, 1) := by decide +kernel
theorem dX6_scan_38 : decode cX6_scan 38 = .ok (.getfield 57, 3) := by decide +kernel
theorem dX6_scan_41 : decode cX6_scan 41 = .ok (.iconst 1, 1) := by decide +kernel
theorem dX6_scan_42 : decode cX6_scan 42 = .ok (.iadd, 1) := by decide +kernel
theorem dX6_scan_43 : decode cX6_scan 43 = .ok (.putfield 57, 3) := by decide +kernel
theorem dX6_scan_46 : decode cX6_scan 46 = .ok (.goto (-46), 3) := by decide +kernel
theorem dX6_scan_49 : decode cX6_scan 49 = .ok (.aload_n 0, 1) := by decide +kernel
theorem dX6_scan_50 : decode cX6_scan 50 = .ok (.aload_n 0, 1) := by decide +kernel
theorem dX6_scan_51 : decode cX6_scan 51 = .ok (.getfield 57, 3) := by decide +kernel
theorem dX6_scan_54 : decode cX6_scan 54 = .ok (.putfield 73, 3) := by decide +kernel
theorem dX6_scan_57 : decode cX6_scan 57 = .ok (.aload_n 0, 1) := by decide +kernel
theorem dX6_scan_58 : decode cX6_scan 58 = .ok (.getfield 57, 3) := by decide +kernel
theorem dX6_scan_61 : decode cX6_scan 61 = .ok (.iload_n 1, 1) := by decide +kernel
theorem dX6_scan_62 : decode cX6_scan 62 = .ok (.if_icmp .lt 11, 3) := by decide +kernel
theorem dX6_scan_65 : decode cX6_scan 65 = .ok (.aload_n 0, 1) := by decide +kernel
theorem dX6_scan_66 : decode cX6_scan 66 = .ok (.iconst 1, 1) := by decide +kernel
theorem dX6_scan_67 : decode cX6_scan 67 = .ok (.putfield 67, 3) := by decide +kernel
theorem dX6_scan_70 : decode cX6_scan 70 = .ok (.goto 106, 3) := by decide +kernel
theorem dX6_scan_73 : decode cX6_scan 73 = .ok (.aload_n 0, 1) := by decide +kernel
theorem dX6_scan_74 : decode cX6_scan 74 = .ok (.getfield 9, 3) := by decide +kernel
theorem dX6_scan_77 : decode cX6_scan 77 = .ok (.aload_n 0, 1) := by decide +kernel
theorem dX6_scan_78 : decode cX6_scan 78 = .ok (.getfield 57, 3) := by decide +kernel
theorem dX6_scan_81 : decode cX6_scan 81 = .ok (.baload, 1) := by decide +kernel
theorem dX6_scan_82 : decode cX6_scan 82 = .ok (.invokestatic 76, 3) := by decide +kernel
theorem dX6_scan_85 : decode cX6_scan 85 = .ok (.ifCond .eq 11, 3) := by decide +kernel
theorem dX6_scan_88 : decode cX6_scan 88 = .ok (.aload_n 0, 1) := by decide +kernel
theorem dX6_scan_89 : decode cX6_scan 89 = .ok (.iload_n 1, 1) := by decide +kernel
theorem dX6_scan_90 : decode cX6_scan 90 = .ok (.invokevirtual 80, 3) := by decide +kernel
theorem dX6_scan_93 : decode cX6_scan 93 = .ok (.goto 83, 3) := by decide +kernel
theorem dX6_scan_96 : decode cX6_scan 96 = .ok (.aload_n 0, 1) := by decide +kernel
theorem dX6_scan_97 : decode cX6_scan 97 = .ok (.getfield 9, 3) := by decide +kernel
theorem dX6_scan_100 : decode cX6_scan 100 = .ok (.aload_n 0, 1) := by decide +kernel
theorem dX6_scan_101 : decode cX6_scan 101 = .ok (.getfield 57, 3) := by decide +kernel
theorem dX6_scan_104 : decode cX6_scan 104 = .ok (.baload, 1) := by decide +kernel
theorem dX6_scan_105 : decode cX6_scan 105 = .ok (.invokestatic 83, 3) := by decide +kernel
theorem dX6_scan_108 : decode cX6_scan 108 = .ok (.ifCond .eq 11, 3) := by decide +kernel
theorem dX6_scan_111 : decode cX6_scan 111 = .ok (.aload_n 0, 1) := by decide +kernel
theorem dX6_scan_112 : decode cX6_scan 112 = .ok (.iload_n 1, 1) := by decide +kernel
theorem dX6_scan_113 : decode cX6_scan 113 = .ok (.invokevirtual 86, 3) := by decide +kernel
theorem dX6_scan_116 : decode cX6_scan 116 = .ok (.goto 60, 3) := by decide +kernel
theorem dX6_scan_119 : decode cX6_scan 119 = .ok (.aload_n 0, 1) := by decide +kernel
theorem dX6_scan_120 : decode cX6_scan 120 = .ok (.aload_n 0, 1) := by decide +kernel
theorem dX6_scan_121 : decode cX6_scan 121 = .ok (.getfield 9, 3) := by decide +kernel
theorem dX6_scan_124 : decode cX6_scan 124 = .ok (.aload_n 0, 1) := by decide +kernel
theorem dX6_scan_125 : decode cX6_scan 125 = .ok (.getfield 57, 3) := by decide +kernel
theorem dX6_scan_128 : decode cX6_scan 128 = .ok (.baload, 1) := by decide +kernel
theorem dX6_scan_129 : decode cX6_scan 129 = .ok (.ifCond .le 33, 3) := by decide +kernel
theorem dX6_scan_132 : decode cX6_scan 132 = .ok (.ldc 89, 2) := by decide +kernel
theorem dX6_scan_134 : decode cX6_scan 134 = .ok (.aload_n 0, 1) := by decide +kernel
theorem dX6_scan_135 : decode cX6_scan 135 = .ok (.getfield 9, 3) := by decide +kernel
theorem dX6_scan_138 : decode cX6_scan 138 = .ok (.aload_n 0, 1) := by decide +kernel
theorem dX6_scan_139 : decode cX6_scan 139 = .ok (.getfield 57, 3) := by decide +kernel
theorem dX6_scan_142 : decode cX6_scan 142 = .ok (.baload, 1) := by decide +kernel
theorem dX6_scan_143 : decode cX6_scan 143 = .ok (.i2c, 1) := by decide +kernel
theorem dX6_scan_144 : decode cX6_scan 144 = .ok (.invokevirtual 91, 3) := by decide +kernel
theorem dX6_scan_147 : decode cX6_scan 147 = .ok (.ifCond .lt 15, 3) := by decide +kernel
theorem dX6_scan_150 : decode cX6_scan 150 = .ok (.aload_n 0, 1) := by decide +kernel
theorem dX6_scan_151 : decode cX6_scan 151 = .ok (.getfield 9, 3) := by decide +kernel
theorem dX6_scan_154 : decode cX6_scan 154 = .ok (.aload_n 0, 1) := by decide +kernel
theorem dX6_scan_155 : decode cX6_scan 155 = .ok (.getfield 57, 3) := by decide +kernel
theorem dX6_scan_158 : decode cX6_scan 158 = .ok (.baload, 1) := by decide +kernel
theorem dX6_scan_159 : decode cX6_scan 159 = .ok (.goto 4, 3) := by decide +kernel
theorem dX6_scan_162 : decode cX6_scan 162 = .ok (.iconst 0, 1) := by decide +kernel
theorem dX6_scan_163 : decode cX6_scan 163 = .ok (.putfield 67, 3) := by decide +kernel
theorem dX6_scan_166 : decode cX6_scan 166 = .ok (.aload_n 0, 1) := by decide +kernel
theorem dX6_scan_167 : decode cX6_scan 167 = .ok (.dup, 1) := by decide +kernel
theorem dX6_scan_168 : decode cX6_scan 168 = .ok (.getfield 57, 3) := by decide +kernel
theorem dX6_scan_171 : decode cX6_scan 171 = .ok (.iconst 1, 1) := by decide +kernel
theorem dX6_scan_172 : decode cX6_scan 172 = .ok (.iadd, 1) := by decide +kernel
theorem dX6_scan_173 : decode cX6_scan 173 = .ok (.putfield 57, 3) := by decide +kernel
theorem dX6_scan_176 : decode cX6_scan 176 = .ok (.return_, 1) := by decide +kernel
noncomputable def X6_scan_j163 (s0 : Int32) (w : Wd) : Option (Wd) :=
(some (puI w 65 7 s0)).bind fun w2 =>
(some (puI w2 65 6 ((w2.1 65 6) + (1 : Int32)))).bind fun w3 =>
some w3
set_option maxRecDepth 20000 in
set_option maxHeartbeats 1000000 in
theorem t_X6_scan_j163 {κ : Kx} (s0 : Int32) (w : Wd) (h : ok (X6_scan_j163  s0 w) (PVw κ)) : J κ RX6 cX6_scan 2 none (rmk 4 91) 163 [(0, .ref (ad (gm κ) 65))] [.int s0, .ref (ad (gm κ) 65)] w := by
  unfold X6_scan_j163 at h
  refine j_putI fp_RX6_67 sh_65 fk_65_7 dX6_scan_163 ?_
  refine j_lW h (fun w2 h => ?_)
  refine j_aload_n 0 dX6_scan_166 rfl rfl ?_
  refine j_dup dX6_scan_167 rfl ?_
  refine j_getI fl_RX6_57 sh_65 fk_65_6 dX6_scan_168 ?_
  refine j_iconst (1 : Int32) dX6_scan_171 ki_1 ?_
  refine j_iadd dX6_scan_172 ?_
  refine j_putI fp_RX6_57 sh_65 fk_65_6 dX6_scan_173 ?_
  refine j_lW h (fun w3 h => ?_)
  have h := ok_s h
  exact j_vret dX6_scan_176 rfl h
noncomputable def X6_scan_j162 (w : Wd) : Option (Wd) :=
X6_scan_j163 (0 : Int32) w
set_option maxRecDepth 20000 in
set_option maxHeartbeats 1000000 in
theorem t_X6_scan_j162 {κ : Kx} (w : Wd) (h : ok (X6_scan_j162  w) (PVw κ)) : J κ RX6 cX6_scan 2 none (rmk 4 91) 162 [(0, .ref (ad (gm κ) 65))] [.ref (ad (gm κ) 65)] w := by
  unfold X6_scan_j162 at h
  refine j_iconst (0 : Int32) dX6_scan_162 ki_0 ?_
  refine j_loc [(0, .ref (ad (gm κ) 65))] [0] rfl ?_
  exact t_X6_scan_j163 (0 : Int32) w h
noncomputable def X6_scan_j36 (a1 : Int32) (w : Wd) : Option (Wd ⊕ Wd) :=
(some (puI w 65 6 ((w.1 65 6) + (1 : Int32)))).bind fun w12 =>
some (.inl w12)
set_option maxRecDepth 20000 in
set_option maxHeartbeats 1000000 in
theorem t_X6_scan_j36 {κ : Kx} (a1 : Int32) (w : Wd) {G : Wd → Prop} {P : Wd → Prop} (KG : ∀ s, G s → J κ RX6 cX6_scan 2 none (rmk 4 91) 0 [(0, .ref (ad (gm κ) 65)), (1, .int a1)] [] s) (K0 : ∀ e, P e → J κ RX6 cX6_scan 2 none (rmk 4 91) 49 [(0, .ref (ad (gm κ) 65)), (1, .int a1)] [] e) (h : ok (X6_scan_j36  a1 w) (sel G P)) : J κ RX6 cX6_scan 2 none (rmk 4 91) 36 [(0, .ref (ad (gm κ) 65)), (1, .int a1)] [] w := by
  unfold X6_scan_j36 at h
  refine j_aload_n 0 dX6_scan_36 rfl rfl ?_
  refine j_dup dX6_scan_37 rfl ?_
  refine j_getI fl_RX6_57 sh_65 fk_65_6 dX6_scan_38 ?_
  refine j_iconst (1 : Int32) dX6_scan_41 ki_1 ?_
  refine j_iadd dX6_scan_42 ?_
  refine j_putI fp_RX6_57 sh_65 fk_65_6 dX6_scan_43 ?_
  refine j_lW h (fun w12 h => ?_)
  refine j_goto 0 dX6_scan_46 (by decide) ?_
  refine j_loc [(0, .ref (ad (gm κ) 65)), (1, .int a1)] [0, 1] rfl ?_
  have h := sel_l h
  have h := KG _ h
  exact h
noncomputable def X6_scan_b0 (a1 : Int32) (s : Wd) : Option (Wd ⊕ Wd) :=
(if a1 ≤ (s.1 65 6) then
some (.inr s)
else
gd (vp_in (s.1 65 6) 600) <|
(if (s.1 66 (ix (s.1 65 6))) = (10 : Int32) then
X6_scan_j36 a1 s
else
gd (vp_in (s.1 65 6) 600) <|
(if (s.1 66 (ix (s.1 65 6))) = (32 : Int32) then
X6_scan_j36 a1 s
else
some (.inr s))))
set_option maxRecDepth 20000 in
set_option maxHeartbeats 1000000 in
theorem t_X6_scan_b0 {κ : Kx} (a1 : Int32) {P : Wd → Prop} (K0 : ∀ e, P e → J κ RX6 cX6_scan 2 none (rmk 4 91) 49 [(0, .ref (ad (gm κ) 65)), (1, .int a1)] [] e) (s : Wd) (h : ok (lp (X6_scan_b0  a1) s) P) : J κ RX6 cX6_scan 2 none (rmk 4 91) 0 [(0, .ref (ad (gm κ) 65)), (1, .int a1)] [] s := by
  refine lp_ind (fun s => J κ RX6 cX6_scan 2 none (rmk 4 91) 0 [(0, .ref (ad (gm κ) 65)), (1, .int a1)] [] s) (fun s h => ?_) s h
  unfold X6_scan_b0 at h
  refine j_aload_n 0 dX6_scan_0 rfl rfl ?_
  refine j_getI fl_RX6_57 sh_65 fk_65_6 dX6_scan_1 ?_
  refine j_iload_n 1 dX6_scan_4 rfl rfl ?_
  refine j_ic_ge 49 dX6_scan_5 (by decide) h (fun h => ?_) (fun h => ?_)
  · refine j_loc [(0, .ref (ad (gm κ) 65)), (1, .int a1)] [0, 1] rfl ?_
    have h := sel_r h
    have h := K0 _ h
    exact h
  · refine j_aload_n 0 dX6_scan_8 rfl rfl ?_
    refine j_getA 66 fl_RX6_9 sh_65 fk_65_1 (by decide) dX6_scan_9 ?_
    refine j_aload_n 0 dX6_scan_12 rfl rfl ?_
    refine j_getI fl_RX6_57 sh_65 fk_65_6 dX6_scan_13 ?_
    refine j_bald sh_66 dX6_scan_16 h (fun h => ?_)
    refine j_bipush (10 : Int32) dX6_scan_17 kb_10 ?_
    refine j_ic_eq 36 dX6_scan_19 (by decide) h (fun h => ?_) (fun h => ?_)
    · refine j_loc [(0, .ref (ad (gm κ) 65)), (1, .int a1)] [0, 1] rfl ?_
      exact t_X6_scan_j36 a1 s (fun _ h => h) K0 h
    · refine j_aload_n 0 dX6_scan_22 rfl rfl ?_
      refine j_getA 66 fl_RX6_9 sh_65 fk_65_1 (by decide) dX6_scan_23 ?_
      refine j_aload_n 0 dX6_scan_26 rfl rfl ?_
      refine j_getI fl_RX6_57 sh_65 fk_65_6 dX6_scan_27 ?_
      refine j_bald sh_66 dX6_scan_30 h (fun h => ?_)
      refine j_bipush (32 : Int32) dX6_scan_31 kb_32 ?_
      refine j_ic_ne 49 dX6_scan_33 (by decide) h (fun h => ?_) (fun h => ?_)
      · refine j_loc [(0, .ref (ad (gm κ) 65)), (1, .int a1)] [0, 1] rfl ?_
        have h := sel_r h
        have h := K0 _ h
        exact h
      · refine j_loc [(0, .ref (ad (gm κ) 65)), (1, .int a1)] [0, 1] rfl ?_
        exact t_X6_scan_j36 a1 s (fun _ h => h) K0 h
noncomputable def X6_scan (a1 : Int32) (w : Wd) : Option (Wd) :=
(if a1 ≤ (w.1 65 6) then
(some (puI w 65 8 (w.1 65 6))).bind fun w1 =>
(if (w1.1 65 6) < a1 then
gd (vp_in (w1.1 65 6) 600) <|
(if (X6_isLetter (w1.1 66 (ix (w1.1 65 6))) w1) = 0 then
gd (vp_in (w1.1 65 6) 600) <|
(if (X6_isDigit (w1.1 66 (ix (w1.1 65 6))) w1) = 0 then
gd (vp_in (w1.1 65 6) 600) <|
(if (w1.1 66 (ix (w1.1 65 6))) ≤ 0 then
X6_scan_j162 w1
else
gd (vp_in (w1.1 65 6) 600) <|
(J0_indexOf_0f7a4 1 (Int32.toUInt32 (w1.1 66 (ix (w1.1 65 6))) % 65536).toInt32 w1).bind fun q4 =>
(if q4 < 0 then
X6_scan_j162 w1
else
gd (vp_in (w1.1 65 6) 600) <|
X6_scan_j163 (w1.1 66 (ix (w1.1 65 6))) w1))
else
(X6_scanNumber a1 w1).bind fun q6 =>
some q6)
else
(X6_scanWord a1 w1).bind fun q8 =>
some q8)
else
(some (puI w1 65 7 (1 : Int32))).bind fun w10 =>
some w10)
else
gd (vp_in (w.1 65 6) 600) <|
(if (w.1 66 (ix (w.1 65 6))) = (10 : Int32) then
(some (puI w 65 6 ((w.1 65 6) + (1 : Int32)))).bind fun w11 =>
(lp (X6_scan_b0 a1) w11).bind fun e13 =>
(some (puI e13 65 8 (e13.1 65 6))).bind fun w14 =>
(if (w14.1 65 6) < a1 then
gd (vp_in (w14.1 65 6) 600) <|
(if (X6_isLetter (w14.1 66 (ix (w14.1 65 6))) w14) = 0 then
gd (vp_in (w14.1 65 6) 600) <|
(if (X6_isDigit (w14.1 66 (ix (w14.1 65 6))) w14) = 0 then
gd (vp_in (w14.1 65 6) 600) <|
(if (w14.1 66 (ix (w14.1 65 6))) ≤ 0 then
X6_scan_j162 w14
else
gd (vp_in (w14.1 65 6) 600) <|
(J0_indexOf_0f7a4 1 (Int32.toUInt32 (w14.1 66 (ix (w14.1 65 6))) % 65536).toInt32 w14).bind fun q15 =>
(if q15 < 0 then
X6_scan_j162 w14
else
gd (vp_in (w14.1 65 6) 600) <|
X6_scan_j163 (w14.1 66 (ix (w14.1 65 6))) w14))
else
(X6_scanNumber a1 w14).bind fun q17 =>
some q17)
else
(X6_scanWord a1 w14).bind fun q19 =>
some q19)
else
(some (puI w14 65 7 (1 : Int32))).bind fun w21 =>
some w21)
else
gd (vp_in (w.1 65 6) 600) <|
(if (w.1 66 (ix (w.1 65 6))) = (32 : Int32) then
(some (puI w 65 6 ((w.1 65 6) + (1 : Int32)))).bind fun w30 =>
(lp (X6_scan_b0 a1) w30).bind fun e31 =>
(some (puI e31 65 8 (e31.1 65 6))).bind fun w32 =>
(if (w32.1 65 6) < a1 then
gd (vp_in (w32.1 65 6) 600) <|
(if (X6_isLetter (w32.1 66 (ix (w32.1 65 6))) w32) = 0 then
gd (vp_in (w32.1 65 6) 600) <|
(if (X6_isDigit (w32.1 66 (ix (w32.1 65 6))) w32) = 0 then
gd (vp_in (w32.1 65 6) 600) <|
(if (w32.1 66 (ix (w32.1 65 6))) ≤ 0 then
X6_scan_j162 w32
else
gd (vp_in (w32.1 65 6) 600) <|
(J0_indexOf_0f7a4 1 (Int32.toUInt32 (w32.1 66 (ix (w32.1 65 6))) % 65536).toInt32 w32).bind fun q33 =>
(if q33 < 0 then
X6_scan_j162 w32
else
gd (vp_in (w32.1 65 6) 600) <|
X6_scan_j163 (w32.1 66 (ix (w32.1 65 6))) w32))
else
(X6_scanNumber a1 w32).bind fun q35 =>
some q35)
else
(X6_scanWord a1 w32).bind fun q37 =>
some q37)
else
(some (puI w32 65 7 (1 : Int32))).bind fun w39 =>
some w39)
else
(some (puI w 65 8 (w.1 65 6))).bind fun w22 =>
(if (w22.1 65 6) < a1 then
gd (vp_in (w22.1 65 6) 600) <|
(if (X6_isLetter (w22.1 66 (ix (w22.1 65 6))) w22) = 0 then
gd (vp_in (w22.1 65 6) 600) <|
(if (X6_isDigit (w22.1 66 (ix (w22.1 65 6))) w22) = 0 then
gd (vp_in (w22.1 65 6) 600) <|
(if (w22.1 66 (ix (w22.1 65 6))) ≤ 0 then
X6_scan_j162 w22
else
gd (vp_in (w22.1 65 6) 600) <|
(J0_indexOf_0f7a4 1 (Int32.toUInt32 (w22.1 66 (ix (w22.1 65 6))) % 65536).toInt32 w22).bind fun q23 =>
(if q23 < 0 then
X6_scan_j162 w22
else
gd (vp_in (w22.1 65 6) 600) <|
X6_scan_j163 (w22.1 66 (ix (w22.1 65 6))) w22))
else
(X6_scanNumber a1 w22).bind fun q25 =>
some q25)
else
(X6_scanWord a1 w22).bind fun q27 =>
some q27)
else
(some (puI w22 65 7 (1 : Int32))).bind fun w29 =>
some w29))))
set_option maxRecDepth 20000 in
set_option maxHeartbeats 1000000 in
theorem t_X6_scan {κ : Kx} (a1 : Int32) (w : Wd) (h : ok (X6_scan  a1 w) (PVw κ)) : J κ RX6 cX6_scan 2 none (rmk 4 91) 0 [(0, .ref (ad (gm κ) 65)), (1, .int a1)] [] w := by
  unfold X6_scan at h
  refine j_aload_n 0 dX6_scan_0 rfl rfl ?_
  refine j_getI fl_RX6_57 sh_65 fk_65_6 dX6_scan_1 ?_
  refine j_iload_n 1 dX6_scan_4 rfl rfl ?_
  refine j_ic_ge 49 dX6_scan_5 (by decide) h (fun h => ?_) (fun h => ?_)
  · refine j_aload_n 0 dX6_scan_49 rfl rfl ?_
    refine j_aload_n 0 dX6_scan_50 rfl rfl ?_
    refine j_getI fl_RX6_57 sh_65 fk_65_6 dX6_scan_51 ?_
    refine j_putI fp_RX6_73 sh_65 fk_65_8 dX6_scan_54 ?_
    refine j_lW h (fun w1 h => ?_)
    refine j_aload_n 0 dX6_scan_57 rfl rfl ?_
    refine j_getI fl_RX6_57 sh_65 fk_65_6 dX6_scan_58 ?_
    refine j_iload_n 1 dX6_scan_61 rfl rfl ?_
    refine j_ic_lt 73 dX6_scan_62 (by decide) h (fun h => ?_) (fun h => ?_)
    · refine j_aload_n 0 dX6_scan_73 rfl rfl ?_
      refine j_getA 66 fl_RX6_9 sh_65 fk_65_1 (by decide) dX6_scan_74 ?_
      refine j_aload_n 0 dX6_scan_77 rfl rfl ?_
      refine j_getI fl_RX6_57 sh_65 fk_65_6 dX6_scan_78 ?_
      refine j_bald sh_66 dX6_scan_81 h (fun h => ?_)
      refine j_callS (As := [.int (w1.1 66 (ix (w1.1 65 6)))]) (st := []) [.int (X6_isLetter (w1.1 66 (ix (w1.1 65 6))) w1)] (c_X6_isLetter (kl κ) (gm κ) (kA κ) (w1.1 66 (ix (w1.1 65 6))) w1) ck_RX6_76 st_X6_isLetter ⟨rfl, rfl⟩ ⟨by decide, by decide⟩ rfl rfl (Nat.le_of_ble_eq_true rfl) dX6_scan_82 _ rfl ?_
      refine j_if_eq 96 dX6_scan_85 (by decide) h (fun h => ?_) (fun h => ?_)
      · refine j_aload_n 0 dX6_scan_96 rfl rfl ?_
        refine j_getA 66 fl_RX6_9 sh_65 fk_65_1 (by decide) dX6_scan_97 ?_
        refine j_aload_n 0 dX6_scan_100 rfl rfl ?_
        refine j_getI fl_RX6_57 sh_65 fk_65_6 dX6_scan_101 ?_
        refine j_bald sh_66 dX6_scan_104 h (fun h => ?_)
        refine j_callS (As := [.int (w1.1 66 (ix (w1.1 65 6)))]) (st := []) [.int (X6_isDigit (w1.1 66 (ix (w1.1 65 6))) w1)] (c_X6_isDigit (kl κ) (gm κ) (kA κ) (w1.1 66 (ix (w1.1 65 6))) w1) ck_RX6_83 st_X6_isDigit ⟨rfl, rfl⟩ ⟨by decide, by decide⟩ rfl rfl (Nat.le_of_ble_eq_true rfl) dX6_scan_105 _ rfl ?_
        refine j_if_eq 119 dX6_scan_108 (by decide) h (fun h => ?_) (fun h => ?_)
        · refine j_aload_n 0 dX6_scan_119 rfl rfl ?_
          refine j_aload_n 0 dX6_scan_120 rfl rfl ?_
          refine j_getA 66 fl_RX6_9 sh_65 fk_65_1 (by decide) dX6_scan_121 ?_
          refine j_aload_n 0 dX6_scan_124 rfl rfl ?_
          refine j_getI fl_RX6_57 sh_65 fk_65_6 dX6_scan_125 ?_
          refine j_bald sh_66 dX6_scan_128 h (fun h => ?_)
          refine j_if_le 162 dX6_scan_129 (by decide) h (fun h => ?_) (fun h => ?_)
          · refine j_loc [(0, .ref (ad (gm κ) 65))] [0] rfl ?_
            exact t_X6_scan_j162 w1 h
          · refine j_ldcS (i := 1) rfl rfl rfl dX6_scan_132 ?_
            refine j_aload_n 0 dX6_scan_134 rfl rfl ?_
            refine j_getA 66 fl_RX6_9 sh_65 fk_65_1 (by decide) dX6_scan_135 ?_
            refine j_aload_n 0 dX6_scan_138 rfl rfl ?_
            refine j_getI fl_RX6_57 sh_65 fk_65_6 dX6_scan_139 ?_
            refine j_bald sh_66 dX6_scan_142 h (fun h => ?_)
            refine j_i2c dX6_scan_143 ?_
            obtain ⟨q4, e5, h⟩ := ok_b h
            refine j_callT (As := [.int (Int32.toUInt32 (w1.1 66 (ix (w1.1 65 6))) % 65536).toInt32]) (st := [.ref (ad (gm κ) 65)]) [.int q4, .ref (ad (gm κ) 65)] (c_J0_indexOf_0f7a4 (kl κ) (gm κ) (kA κ) 1 (by decide) (Int32.toUInt32 (w1.1 66 (ix (w1.1 65 6))) % 65536).toInt32 w1 q4 e5) ck_RX6_91 im_J0_indexOf_0f7a4 se_J0_indexOf_0f7a4 (by decide) rfl ⟨rfl, rfl⟩ ⟨by decide, by decide⟩ rfl rfl (Nat.le_of_ble_eq_true rfl) dX6_scan_144 _ rfl ?_
            refine j_if_lt 162 dX6_scan_147 (by decide) h (fun h => ?_) (fun h => ?_)
            · refine j_loc [(0, .ref (ad (gm κ) 65))] [0] rfl ?_
              exact t_X6_scan_j162 w1 h
            · refine j_aload_n 0 dX6_scan_150 rfl rfl ?_
              refine j_getA 66 fl_RX6_9 sh_65 fk_65_1 (by decide) dX6_scan_151 ?_
              refine j_aload_n 0 dX6_scan_154 rfl rfl ?_
              refine j_getI fl_RX6_57 sh_65 fk_65_6 dX6_scan_155 ?_
              refine j_bald sh_66 dX6_scan_158 h (fun h => ?_)
              refine j_goto 163 dX6_scan_159 (by decide) ?_
              refine j_loc [(0, .ref (ad (gm κ) 65))] [0] rfl ?_
              exact t_X6_scan_j163 (w1.1 66 (ix (w1.1 65 6))) w1 h
        · refine j_aload_n 0 dX6_scan_111 rfl rfl ?_
          refine j_iload_n 1 dX6_scan_112 rfl rfl ?_
          obtain ⟨q6, e7, h⟩ := ok_b h
          refine j_callV (As := [.int a1]) (st := []) [] (c_X6_scanNumber (kl κ) (gm κ) (kA κ) a1 w1 q6 e7) ck_RX6_86 im_X6_scanNumber se_X6_scanNumber sh_65 cx_6 ⟨rfl, rfl⟩ ⟨by decide, by decide⟩ rfl rfl (Nat.le_of_ble_eq_true rfl) dX6_scan_113 _ rfl ?_
          refine j_goto 176 dX6_scan_116 (by decide) ?_
          have h := ok_s h
          exact j_vret dX6_scan_176 rfl h
      · refine j_aload_n 0 dX6_scan_88 rfl rfl ?_
        refine j_iload_n 1 dX6_scan_89 rfl rfl ?_
        obtain ⟨q8, e9, h⟩ := ok_b h
        refine j_callV (As := [.int a1]) (st := []) [] (c_X6_scanWord (kl κ) (gm κ) (kA κ) a1 w1 q8 e9) ck_RX6_80 im_X6_scanWord se_X6_scanWord sh_65 cx_6 ⟨rfl, rfl⟩ ⟨by decide, by decide⟩ rfl rfl (Nat.le_of_ble_eq_true rfl) dX6_scan_90 _ rfl ?_
        refine j_goto 176 dX6_scan_93 (by decide) ?_
        have h := ok_s h
        exact j_vret dX6_scan_176 rfl h
    · refine j_aload_n 0 dX6_scan_65 rfl rfl ?_
      refine j_iconst (1 : Int32) dX6_scan_66 ki_1 ?_
      refine j_putI fp_RX6_67 sh_65 fk_65_7 dX6_scan_67 ?_
      refine j_lW h (fun w10 h => ?_)
      refine j_goto 176 dX6_scan_70 (by decide) ?_
      have h := ok_s h
      exact j_vret dX6_scan_176 rfl h
  · refine j_aload_n 0 dX6_scan_8 rfl rfl ?_
    refine j_getA 66 fl_RX6_9 sh_65 fk_65_1 (by decide) dX6_scan_9 ?_
    refine j_aload_n 0 dX6_scan_12 rfl rfl ?_
    refine j_getI fl_RX6_57 sh_65 fk_65_6 dX6_scan_13 ?_
    refine j_bald sh_66 dX6_scan_16 h (fun h => ?_)
    refine j_bipush (10 : Int32) dX6_scan_17 kb_10 ?_
    refine j_ic_eq 36 dX6_scan_19 (by decide) h (fun h => ?_) (fun h => ?_)
    · refine j_aload_n 0 dX6_scan_36 rfl rfl ?_
      refine j_dup dX6_scan_37 rfl ?_
      refine j_getI fl_RX6_57 sh_65 fk_65_6 dX6_scan_38 ?_
      refine j_iconst (1 : Int32) dX6_scan_41 ki_1 ?_
      refine j_iadd dX6_scan_42 ?_
      refine j_putI fp_RX6_57 sh_65 fk_65_6 dX6_scan_43 ?_
      refine j_lW h (fun w11 h => ?_)
      refine j_goto 0 dX6_scan_46 (by decide) ?_
      refine j_loc [(0, .ref (ad (gm κ) 65)), (1, .int a1)] [0, 1] rfl ?_
      refine t_X6_scan_b0 a1 (fun e13 h => ?_) w11 (ok_bb h)
      · refine j_aload_n 0 dX6_scan_49 rfl rfl ?_
        refine j_aload_n 0 dX6_scan_50 rfl rfl ?_
        refine j_getI fl_RX6_57 sh_65 fk_65_6 dX6_scan_51 ?_
        refine j_putI fp_RX6_73 sh_65 fk_65_8 dX6_scan_54 ?_
        refine j_lW h (fun w14 h => ?_)
        refine j_aload_n 0 dX6_scan_57 rfl rfl ?_
        refine j_getI fl_RX6_57 sh_65 fk_65_6 dX6_scan_58 ?_
        refine j_iload_n 1 dX6_scan_61 rfl rfl ?_
        refine j_ic_lt 73 dX6_scan_62 (by decide) h (fun h => ?_) (fun h => ?_)
        · refine j_aload_n 0 dX6_scan_73 rfl rfl ?_
          refine j_getA 66 fl_RX6_9 sh_65 fk_65_1 (by decide) dX6_scan_74 ?_
          refine j_aload_n 0 dX6_scan_77 rfl rfl ?_
          refine j_getI fl_RX6_57 sh_65 fk_65_6 dX6_scan_78 ?_
          refine j_bald sh_66 dX6_scan_81 h (fun h => ?_)
          refine j_callS (As := [.int (w14.1 66 (ix (w14.1 65 6)))]) (st := []) [.int (X6_isLetter (w14.1 66 (ix (w14.1 65 6))) w14)] (c_X6_isLetter (kl κ) (gm κ) (kA κ) (w14.1 66 (ix (w14.1 65 6))) w14) ck_RX6_76 st_X6_isLetter ⟨rfl, rfl⟩ ⟨by decide, by decide⟩ rfl rfl (Nat.le_of_ble_eq_true rfl) dX6_scan_82 _ rfl ?_
          refine j_if_eq 96 dX6_scan_85 (by decide) h (fun h => ?_) (fun h => ?_)
          · refine j_aload_n 0 dX6_scan_96 rfl rfl ?_
            refine j_getA 66 fl_RX6_9 sh_65 fk_65_1 (by decide) dX6_scan_97 ?_
            refine j_aload_n 0 dX6_scan_100 rfl rfl ?_
            refine j_getI fl_RX6_57 sh_65 fk_65_6 dX6_scan_101 ?_
            refine j_bald sh_66 dX6_scan_104 h (fun h => ?_)
            refine j_callS (As := [.int (w14.1 66 (ix (w14.1 65 6)))]) (st := []) [.int (X6_isDigit (w14.1 66 (ix (w14.1 65 6))) w14)] (c_X6_isDigit (kl κ) (gm κ) (kA κ) (w14.1 66 (ix (w14.1 65 6))) w14) ck_RX6_83 st_X6_isDigit ⟨rfl, rfl⟩ ⟨by decide, by decide⟩ rfl rfl (Nat.le_of_ble_eq_true rfl) dX6_scan_105 _ rfl ?_
            refine j_if_eq 119 dX6_scan_108 (by decide) h (fun h => ?_) (fun h => ?_)
            · refine j_aload_n 0 dX6_scan_119 rfl rfl ?_
              refine j_aload_n 0 dX6_scan_120 rfl rfl ?_
              refine j_getA 66 fl_RX6_9 sh_65 fk_65_1 (by decide) dX6_scan_121 ?_
              refine j_aload_n 0 dX6_scan_124 rfl rfl ?_
              refine j_getI fl_RX6_57 sh_65 fk_65_6 dX6_scan_125 ?_
              refine j_bald sh_66 dX6_scan_128 h (fun h => ?_)
              refine j_if_le 162 dX6_scan_129 (by decide) h (fun h => ?_) (fun h => ?_)
              · refine j_loc [(0, .ref (ad (gm κ) 65))] [0] rfl ?_
                exact t_X6_scan_j162 w14 h
              · refine j_ldcS (i := 1) rfl rfl rfl dX6_scan_132 ?_
                refine j_aload_n 0 dX6_scan_134 rfl rfl ?_
                refine j_getA 66 fl_RX6_9 sh_65 fk_65_1 (by decide) dX6_scan_135 ?_
                refine j_aload_n 0 dX6_scan_138 rfl rfl ?_
                refine j_getI fl_RX6_57 sh_65 fk_65_6 dX6_scan_139 ?_
                refine j_bald sh_66 dX6_scan_142 h (fun h => ?_)
                refine j_i2c dX6_scan_143 ?_
                obtain ⟨q15, e16, h⟩ := ok_b h
                refine j_callT (As := [.int (Int32.toUInt32 (w14.1 66 (ix (w14.1 65 6))) % 65536).toInt32]) (st := [.ref (ad (gm κ) 65)]) [.int q15, .ref (ad (gm κ) 65)] (c_J0_indexOf_0f7a4 (kl κ) (gm κ) (kA κ) 1 (by decide) (Int32.toUInt32 (w14.1 66 (ix (w14.1 65 6))) % 65536).toInt32 w14 q15 e16) ck_RX6_91 im_J0_indexOf_0f7a4 se_J0_indexOf_0f7a4 (by decide) rfl ⟨rfl, rfl⟩ ⟨by decide, by decide⟩ rfl rfl (Nat.le_of_ble_eq_true rfl) dX6_scan_144 _ rfl ?_
                refine j_if_lt 162 dX6_scan_147 (by decide) h (fun h => ?_) (fun h => ?_)
                · refine j_loc [(0, .ref (ad (gm κ) 65))] [0] rfl ?_
                  exact t_X6_scan_j162 w14 h
                · refine j_aload_n 0 dX6_scan_150 rfl rfl ?_
                  refine j_getA 66 fl_RX6_9 sh_65 fk_65_1 (by decide) dX6_scan_151 ?_
                  refine j_aload_n 0 dX6_scan_154 rfl rfl ?_
                  refine j_getI fl_RX6_57 sh_65 fk_65_6 dX6_scan_155 ?_
                  refine j_bald sh_66 dX6_scan_158 h (fun h => ?_)
                  refine j_goto 163 dX6_scan_159 (by decide) ?_
                  refine j_loc [(0, .ref (ad (gm κ) 65))] [0] rfl ?_
                  exact t_X6_scan_j163 (w14.1 66 (ix (w14.1 65 6))) w14 h
            · refine j_aload_n 0 dX6_scan_111 rfl rfl ?_
              refine j_iload_n 1 dX6_scan_112 rfl rfl ?_
              obtain ⟨q17, e18, h⟩ := ok_b h
              refine j_callV (As := [.int a1]) (st := []) [] (c_X6_scanNumber (kl κ) (gm κ) (kA κ) a1 w14 q17 e18) ck_RX6_86 im_X6_scanNumber se_X6_scanNumber sh_65 cx_6 ⟨rfl, rfl⟩ ⟨by decide, by decide⟩ rfl rfl (Nat.le_of_ble_eq_true rfl) dX6_scan_113 _ rfl ?_
              refine j_goto 176 dX6_scan_116 (by decide) ?_
              have h := ok_s h
              exact j_vret dX6_scan_176 rfl h
          · refine j_aload_n 0 dX6_scan_88 rfl rfl ?_
            refine j_iload_n 1 dX6_scan_89 rfl rfl ?_
            obtain ⟨q19, e20, h⟩ := ok_b h
            refine j_callV (As := [.int a1]) (st := []) [] (c_X6_scanWord (kl κ) (gm κ) (kA κ) a1 w14 q19 e20) ck_RX6_80 im_X6_scanWord se_X6_scanWord sh_65 cx_6 ⟨rfl, rfl⟩ ⟨by decide, by decide⟩ rfl rfl (Nat.le_of_ble_eq_true rfl) dX6_scan_90 _ rfl ?_
            refine j_goto 176 dX6_scan_93 (by decide) ?_
            have h := ok_s h
            exact j_vret dX6_scan_176 rfl h
        · refine j_aload_n 0 dX6_scan_65 rfl rfl ?_
          refine j_iconst (1 : Int32) dX6_scan_66 ki_1 ?_
          refine j_putI fp_RX6_67 sh_65 fk_65_7 dX6_scan_67 ?_
          refine j_lW h (fun w21 h => ?_)
          refine j_goto 176 dX6_scan_70 (by decide) ?_
          have h := ok_s h
          exact j_vret dX6_scan_176 rfl h
    · refine j_aload_n 0 dX6_scan_22 rfl rfl ?_
      refine j_getA 66 fl_RX6_9 sh_65 fk_65_1 (by decide) dX6_scan_23 ?_
      refine j_aload_n 0 dX6_scan_26 rfl rfl ?_
      refine j_getI fl_RX6_57 sh_65 fk_65_6 dX6_scan_27 ?_
      refine j_bald sh_66 dX6_scan_30 h (fun h => ?_)
      refine j_bipush (32 : Int32) dX6_scan_31 kb_32 ?_
      refine j_ic_ne 49 dX6_scan_33 (by decide) h (fun h => ?_) (fun h => ?_)
      · refine j_aload_n 0 dX6_scan_49 rfl rfl ?_
        refine j_aload_n 0 dX6_scan_50 rfl rfl ?_
        refine j_getI fl_RX6_57 sh_65 fk_65_6 dX6_scan_51 ?_
        refine j_putI fp_RX6_73 sh_65 fk_65_8 dX6_scan_54 ?_
        refine j_lW h (fun w22 h => ?_)
        refine j_aload_n 0 dX6_scan_57 rfl rfl ?_
        refine j_getI fl_RX6_57 sh_65 fk_65_6 dX6_scan_58 ?_
        refine j_iload_n 1 dX6_scan_61 rfl rfl ?_
        refine j_ic_lt 73 dX6_scan_62 (by decide) h (fun h => ?_) (fun h => ?_)
        · refine j_aload_n 0 dX6_scan_73 rfl rfl ?_
          refine j_getA 66 fl_RX6_9 sh_65 fk_65_1 (by decide) dX6_scan_74 ?_
          refine j_aload_n 0 dX6_scan_77 rfl rfl ?_
          refine j_getI fl_RX6_57 sh_65 fk_65_6 dX6_scan_78 ?_
          refine j_bald sh_66 dX6_scan_81 h (fun h => ?_)
          refine j_callS (As := [.int (w22.1 66 (ix (w22.1 65 6)))]) (st := []) [.int (X6_isLetter (w22.1 66 (ix (w22.1 65 6))) w22)] (c_X6_isLetter (kl κ) (gm κ) (kA κ) (w22.1 66 (ix (w22.1 65 6))) w22) ck_RX6_76 st_X6_isLetter ⟨rfl, rfl⟩ ⟨by decide, by decide⟩ rfl rfl (Nat.le_of_ble_eq_true rfl) dX6_scan_82 _ rfl ?_
          refine j_if_eq 96 dX6_scan_85 (by decide) h (fun h => ?_) (fun h => ?_)
          · refine j_aload_n 0 dX6_scan_96 rfl rfl ?_
            refine j_getA 66 fl_RX6_9 sh_65 fk_65_1 (by decide) dX6_scan_97 ?_
            refine j_aload_n 0 dX6_scan_100 rfl rfl ?_
            refine j_getI fl_RX6_57 sh_65 fk_65_6 dX6_scan_101 ?_
            refine j_bald sh_66 dX6_scan_104 h (fun h => ?_)
            refine j_callS (As := [.int (w22.1 66 (ix (w22.1 65 6)))]) (st := []) [.int (X6_isDigit (w22.1 66 (ix (w22.1 65 6))) w22)] (c_X6_isDigit (kl κ) (gm κ) (kA κ) (w22.1 66 (ix (w22.1 65 6))) w22) ck_RX6_83 st_X6_isDigit ⟨rfl, rfl⟩ ⟨by decide, by decide⟩ rfl rfl (Nat.le_of_ble_eq_true rfl) dX6_scan_105 _ rfl ?_
            refine j_if_eq 119 dX6_scan_108 (by decide) h (fun h => ?_) (fun h => ?_)
            · refine j_aload_n 0 dX6_scan_119 rfl rfl ?_
              refine j_aload_n 0 dX6_scan_120 rfl rfl ?_
              refine j_getA 66 fl_RX6_9 sh_65 fk_65_1 (by decide) dX6_scan_121 ?_
              refine j_aload_n 0 dX6_scan_124 rfl rfl ?_
              refine j_getI fl_RX6_57 sh_65 fk_65_6 dX6_scan_125 ?_
              refine j_bald sh_66 dX6_scan_128 h (fun h => ?_)
              refine j_if_le 162 dX6_scan_129 (by decide) h (fun h => ?_) (fun h => ?_)
              · refine j_loc [(0, .ref (ad (gm κ) 65))] [0] rfl ?_
                exact t_X6_scan_j162 w22 h
              · refine j_ldcS (i := 1) rfl rfl rfl dX6_scan_132 ?_
                refine j_aload_n 0 dX6_scan_134 rfl rfl ?_
                refine j_getA 66 fl_RX6_9 sh_65 fk_65_1 (by decide) dX6_scan_135 ?_
                refine j_aload_n 0 dX6_scan_138 rfl rfl ?_
                refine j_getI fl_RX6_57 sh_65 fk_65_6 dX6_scan_139 ?_
                refine j_bald sh_66 dX6_scan_142 h (fun h => ?_)
                refine j_i2c dX6_scan_143 ?_
                obtain ⟨q23, e24, h⟩ := ok_b h
                refine j_callT (As := [.int (Int32.toUInt32 (w22.1 66 (ix (w22.1 65 6))) % 65536).toInt32]) (st := [.ref (ad (gm κ) 65)]) [.int q23, .ref (ad (gm κ) 65)] (c_J0_indexOf_0f7a4 (kl κ) (gm κ) (kA κ) 1 (by decide) (Int32.toUInt32 (w22.1 66 (ix (w22.1 65 6))) % 65536).toInt32 w22 q23 e24) ck_RX6_91 im_J0_indexOf_0f7a4 se_J0_indexOf_0f7a4 (by decide) rfl ⟨rfl, rfl⟩ ⟨by decide, by decide⟩ rfl rfl (Nat.le_of_ble_eq_true rfl) dX6_scan_144 _ rfl ?_
                refine j_if_lt 162 dX6_scan_147 (by decide) h (fun h => ?_) (fun h => ?_)
                · refine j_loc [(0, .ref (ad (gm κ) 65))] [0] rfl ?_
                  exact t_X6_scan_j162 w22 h
                · refine j_aload_n 0 dX6_scan_150 rfl rfl ?_
                  refine j_getA 66 fl_RX6_9 sh_65 fk_65_1 (by decide) dX6_scan_151 ?_
                  refine j_aload_n 0 dX6_scan_154 rfl rfl ?_
                  refine j_getI fl_RX6_57 sh_65 fk_65_6 dX6_scan_155 ?_
                  refine j_bald sh_66 dX6_scan_158 h (fun h => ?_)
                  refine j_goto 163 dX6_scan_159 (by decide) ?_
                  refine j_loc [(0, .ref (ad (gm κ) 65))] [0] rfl ?_
                  exact t_X6_scan_j163 (w22.1 66 (ix (w22.1 65 6))) w22 h
            · refine j_aload_n 0 dX6_scan_111 rfl rfl ?_
              refine j_iload_n 1 dX6_scan_112 rfl rfl ?_
              obtain ⟨q25, e26, h⟩ := ok_b h
              refine j_callV (As := [.int a1]) (st := []) [] (c_X6_scanNumber (kl κ) (gm κ) (kA κ) a1 w22 q25 e26) ck_RX6_86 im_X6_scanNumber se_X6_scanNumber sh_65 cx_6 ⟨rfl, rfl⟩ ⟨by decide, by decide⟩ rfl rfl (Nat.le_of_ble_eq_true rfl) dX6_scan_113 _ rfl ?_
              refine j_goto 176 dX6_scan_116 (by decide) ?_
              have h := ok_s h
              exact j_vret dX6_scan_176 rfl h
          · refine j_aload_n 0 dX6_scan_88 rfl rfl ?_
            refine j_iload_n 1 dX6_scan_89 rfl rfl ?_
            obtain ⟨q27, e28, h⟩ := ok_b h
            refine j_callV (As := [.int a1]) (st := []) [] (c_X6_scanWord (kl κ) (gm κ) (kA κ) a1 w22 q27 e28) ck_RX6_80 im_X6_scanWord se_X6_scanWord sh_65 cx_6 ⟨rfl, rfl⟩ ⟨by decide, by decide⟩ rfl rfl (Nat.le_of_ble_eq_true rfl) dX6_scan_90 _ rfl ?_
            refine j_goto 176 dX6_scan_93 (by decide) ?_
            have h := ok_s h
            exact j_vret dX6_scan_176 rfl h
        · refine j_aload_n 0 dX6_scan_65 rfl rfl ?_
          refine j_iconst (1 : Int32) dX6_scan_66 ki_1 ?_
          refine j_putI fp_RX6_67 sh_65 fk_65_7 dX6_scan_67 ?_
          refine j_lW h (fun w29 h => ?_)
          refine j_goto 176 dX6_scan_70 (by decide) ?_
          have h := ok_s h
          exact j_vret dX6_scan_176 rfl h
      · refine j_aload_n 0 dX6_scan_36 rfl rfl ?_
        refine j_dup dX6_scan_37 rfl ?_
        refine j_getI fl_RX6_57 sh_65 fk_65_6 dX6_scan_38 ?_
        refine j_iconst (1 : Int32) dX6_scan_41 ki_1 ?_
        refine j_iadd dX6_scan_42 ?_
        refine j_putI fp_RX6_57 sh_65 fk_65_6 dX6_scan_43 ?_
        refine j_lW h (fun w30 h => ?_)
        refine j_goto 0 dX6_scan_46 (by decide) ?_
        refine j_loc [(0, .ref (ad (gm κ) 65)), (1, .int a1)] [0, 1] rfl ?_
        refine t_X6_scan_b0 a1 (fun e31 h => ?_) w30 (ok_bb h)
        · refine j_aload_n 0 dX6_scan_49 rfl rfl ?_
          refine j_aload_n 0 dX6_scan_50 rfl rfl ?_
          refine j_getI fl_RX6_57 sh_65 fk_65_6 dX6_scan_51 ?_
          refine j_putI fp_RX6_73 sh_65 fk_65_8 dX6_scan_54 ?_
          refine j_lW h (fun w32 h => ?_)
          refine j_aload_n 0 dX6_scan_57 rfl rfl ?_
          refine j_getI fl_RX6_57 sh_65 fk_65_6 dX6_scan_58 ?_
          refine j_iload_n 1 dX6_scan_61 rfl rfl ?_
          refine j_ic_lt 73 dX6_scan_62 (by decide) h (fun h => ?_) (fun h => ?_)
          · refine j_aload_n 0 dX6_scan_73 rfl rfl ?_
            refine j_getA 66 fl_RX6_9 sh_65 fk_65_1 (by decide) dX6_scan_74 ?_
            refine j_aload_n 0 dX6_scan_77 rfl rfl ?_
            refine j_getI fl_RX6_57 sh_65 fk_65_6 dX6_scan_78 ?_
            refine j_bald sh_66 dX6_scan_81 h (fun h => ?_)
            refine j_callS (As := [.int (w32.1 66 (ix (w32.1 65 6)))]) (st := []) [.int (X6_isLetter (w32.1 66 (ix (w32.1 65 6))) w32)] (c_X6_isLetter (kl κ) (gm κ) (kA κ) (w32.1 66 (ix (w32.1 65 6))) w32) ck_RX6_76 st_X6_isLetter ⟨rfl, rfl⟩ ⟨by decide, by decide⟩ rfl rfl (Nat.le_of_ble_eq_true rfl) dX6_scan_82 _ rfl ?_
            refine j_if_eq 96 dX6_scan_85 (by decide) h (fun h => ?_) (fun h => ?_)
            · refine j_aload_n 0 dX6_scan_96 rfl rfl ?_
              refine j_getA 66 fl_RX6_9 sh_65 fk_65_1 (by decide) dX6_scan_97 ?_
              refine j_aload_n 0 dX6_scan_100 rfl rfl ?_
              refine j_getI fl_RX6_57 sh_65 fk_65_6 dX6_scan_101 ?_
              refine j_bald sh_66 dX6_scan_104 h (fun h => ?_)
              refine j_callS (As := [.int (w32.1 66 (ix (w32.1 65 6)))]) (st := []) [.int (X6_isDigit (w32.1 66 (ix (w32.1 65 6))) w32)] (c_X6_isDigit (kl κ) (gm κ) (kA κ) (w32.1 66 (ix (w32.1 65 6))) w32) ck_RX6_83 st_X6_isDigit ⟨rfl, rfl⟩ ⟨by decide, by decide⟩ rfl rfl (Nat.le_of_ble_eq_true rfl) dX6_scan_105 _ rfl ?_
              refine j_if_eq 119 dX6_scan_108 (by decide) h (fun h => ?_) (fun h => ?_)
              · refine j_aload_n 0 dX6_scan_119 rfl rfl ?_
                refine j_aload_n 0 dX6_scan_120 rfl rfl ?_
                refine j_getA 66 fl_RX6_9 sh_65 fk_65_1 (by decide) dX6_scan_121 ?_
                refine j_aload_n 0 dX6_scan_124 rfl rfl ?_
                refine j_getI fl_RX6_57 sh_65 fk_65_6 dX6_scan_125 ?_
                refine j_bald sh_66 dX6_scan_128 h (fun h => ?_)
                refine j_if_le 162 dX6_scan_129 (by decide) h (fun h => ?_) (fun h => ?_)
                · refine j_loc [(0, .ref (ad (gm κ) 65))] [0] rfl ?_
                  exact t_X6_scan_j162 w32 h
                · refine j_ldcS (i := 1) rfl rfl rfl dX6_scan_132 ?_
                  refine j_aload_n 0 dX6_scan_134 rfl rfl ?_
                  refine j_getA 66 fl_RX6_9 sh_65 fk_65_1 (by decide) dX6_scan_135 ?_
                  refine j_aload_n 0 dX6_scan_138 rfl rfl ?_
                  refine j_getI fl_RX6_57 sh_65 fk_65_6 dX6_scan_139 ?_
                  refine j_bald sh_66 dX6_scan_142 h (fun h => ?_)
                  refine j_i2c dX6_scan_143 ?_
                  obtain ⟨q33, e34, h⟩ := ok_b h
                  refine j_callT (As := [.int (Int32.toUInt32 (w32.1 66 (ix (w32.1 65 6))) % 65536).toInt32]) (st := [.ref (ad (gm κ) 65)]) [.int q33, .ref (ad (gm κ) 65)] (c_J0_indexOf_0f7a4 (kl κ) (gm κ) (kA κ) 1 (by decide) (Int32.toUInt32 (w32.1 66 (ix (w32.1 65 6))) % 65536).toInt32 w32 q33 e34) ck_RX6_91 im_J0_indexOf_0f7a4 se_J0_indexOf_0f7a4 (by decide) rfl ⟨rfl, rfl⟩ ⟨by decide, by decide⟩ rfl rfl (Nat.le_of_ble_eq_true rfl) dX6_scan_144 _ rfl ?_
                  refine j_if_lt 162 dX6_scan_147 (by decide) h (fun h => ?_) (fun h => ?_)
                  · refine j_loc [(0, .ref (ad (gm κ) 65))] [0] rfl ?_
                    exact t_X6_scan_j162 w32 h
                  · refine j_aload_n 0 dX6_scan_150 rfl rfl ?_
                    refine j_getA 66 fl_RX6_9 sh_65 fk_65_1 (by decide) dX6_scan_151 ?_
                    refine j_aload_n 0 dX6_scan_154 rfl rfl ?_
                    refine j_getI fl_RX6_57 sh_65 fk_65_6 dX6_scan_155 ?_
                    refine j_bald sh_66 dX6_scan_158 h (fun h => ?_)
                    refine j_goto 163 dX6_scan_159 (by decide) ?_
                    refine j_loc [(0, .ref (ad (gm κ) 65))] [0] rfl ?_
                    exact t_X6_scan_j163 (w32.1 66 (ix (w32.1 65 6))) w32 h
              · refine j_aload_n 0 dX6_scan_111 rfl rfl ?_
                refine j_iload_n 1 dX6_scan_112 rfl rfl ?_
                obtain ⟨q35, e36, h⟩ := ok_b h
                refine j_callV (As := [.int a1]) (st := []) [] (c_X6_scanNumber (kl κ) (gm κ) (kA κ) a1 w32 q35 e36) ck_RX6_86 im_X6_scanNumber se_X6_scanNumber sh_65 cx_6 ⟨rfl, rfl⟩ ⟨by decide, by decide⟩ rfl rfl (Nat.le_of_ble_eq_true rfl) dX6_scan_113 _ rfl ?_
                refine j_goto 176 dX6_scan_116 (by decide) ?_
                have h := ok_s h
                exact j_vret dX6_scan_176 rfl h
            · refine j_aload_n 0 dX6_scan_88 rfl rfl ?_
              refine j_iload_n 1 dX6_scan_89 rfl rfl ?_
              obtain ⟨q37, e38, h⟩ := ok_b h
              refine j_callV (As := [.int a1]) (st := []) [] (c_X6_scanWord (kl κ) (gm κ) (kA κ) a1 w32 q37 e38) ck_RX6_80 im_X6_scanWord se_X6_scanWord sh_65 cx_6 ⟨rfl, rfl⟩ ⟨by decide, by decide⟩ rfl rfl (Nat.le_of_ble_eq_true rfl) dX6_scan_90 _ rfl ?_
              refine j_goto 176 dX6_scan_93 (by decide) ?_
              have h := ok_s h
              exact j_vret dX6_scan_176 rfl h
          · refine j_aload_n 0 dX6_scan_65 rfl rfl ?_
            refine j_iconst (1 : Int32) dX6_scan_66 ki_1 ?_
            refine j_putI fp_RX6_67 sh_65 fk_65_7 dX6_scan_67 ?_
            refine j_lW h (fun w39 h => ?_)
            refine j_goto 176 dX6_scan_70 (by decide) ?_
            have h := ok_s h
            exact j_vret dX6_scan_176 rfl h
theorem c_X6_scan (l : Launch) (γ : Gm) (A : Nat → Prop) (a1 : Int32) (w : Wd) (q : Wd) (e : X6_scan  a1 w = some q) : MetG l γ A yX6_scan cX6_scan 2 none (rmk 4 91) [.ref (ad (γ) 65), .int a1] w none q := by
  refine met_of pn_RX6 (Nat.le_of_ble_eq_true rfl) ?_
  intro κ hl hγ hA hρ
  subst hl; subst hγ; subst hA
  exact t_X6_scan   a1 w ⟨q, e, pVw hρ rfl rfl⟩
theorem dX6_goOn_0 : decode cX6_goOn 0 = .ok (.aload_n 0, 1) := by decide +kernel
theorem dX6_goOn_1 : decode cX6_goOn 1 = .ok (.iload_n 1, 1) := by decide +kernel
theorem dX6_goOn_2 : decode cX6_goOn 2 = .ok (.putfield 60, 3) := by decide +kernel
theorem dX6_goOn_5 : decode cX6_goOn 5 = .ok (.iconst 0, 1) := by decide +kernel
theorem dX6_goOn_6 : decode cX6_goOn 6 = .ok (.ireturn, 1) := by decide +kernel
noncomputable def X6_goOn (a1 : Int32) (w : Wd) : Option (Int32 × Wd) :=
(some (puI w 65 11 a1)).bind fun w1 =>
some ((0 : Int32), w1)
set_option maxRecDepth 20000 in
set_option maxHeartbeats 1000000 in
theorem t_X6_goOn {κ : Kx} (a1 : Int32) (w : Wd) (h : ok (X6_goOn  a1 w) (PIw κ)) : J κ RX6 cX6_goOn 2 (some .int) (rmk 0 0) 0 [(0, .ref (ad (gm κ) 65)), (1, .int a1)] [] w := by
  unfold X6_goOn at h
  refine j_aload_n 0 dX6_goOn_0 rfl rfl ?_
  refine j_iload_n 1 dX6_goOn_1 rfl rfl ?_
  refine j_putI fp_RX6_60 sh_65 fk_65_11 dX6_goOn_2 ?_
  refine j_lW h (fun w1 h => ?_)
  refine j_iconst (0 : Int32) dX6_goOn_5 ki_0 ?_
  have h := ok_s h
  exact j_iret dX6_goOn_6 rfl rfl h
theorem c_X6_goOn (l : Launch) (γ : Gm) (A : Nat → Prop) (a1 : Int32) (w : Wd) (q : Int32 × Wd) (e : X6_goOn  a1 w = some q) : MetG l γ A yX6_goOn cX6_goOn 2 (some .int) (rmk 0 0) [.ref (ad (γ) 65), .int a1] w (some (.int q.1)) q.2 := by
  refine met_of pn_RX6 (Nat.le_of_ble_eq_true rfl) ?_
  intro κ hl hγ hA hρ
  subst hl; subst hγ; subst hA
  exact t_X6_goOn   a1 w ⟨q, e, pIw hρ rfl rfl⟩
theorem dX6_takeRule_0 : decode cX6_takeRule 0 = .ok (.aload_n 0, 1) := by decide +kernel
theorem dX6_takeRule_1 : decode cX6_takeRule 1 = .ok (.getfield 67, 3) := by decide +kernel
theorem dX6_takeRule_4 : decode cX6_takeRule 4 = .ok (.iconst 1, 1) := by decide +kernel
theorem dX6_takeRule_5 : decode cX6_takeRule 5 = .ok (.if_icmp .ne 5, 3) := by decide +kernel
theorem dX6_takeRule_8 : decode cX6_takeRule 8 = .ok (.iconst 0, 1) := by decide +kernel
theorem dX6_takeRule_9 : decode cX6_takeRule 9 = .ok (.ireturn, 1) := by decide +kernel
theorem dX6_takeRule_10 : decode cX6_takeRule 10 = .ok (.aload_n 0, 1) := by decide +kernel
theorem dX6_takeRule_11 : decode cX6_takeRule 11 = .ok (.getfield 67, 3) := by decide +kernel
theorem dX6_takeRule_14 : decode cX6_takeRule 14 = .ok (.iconst 3, 1) := by decide +kernel
theorem dX6_takeRule_15 : decode cX6_takeRule 15 = .ok (.if_icmp .eq 5, 3) := by decide +kernel
theorem dX6_takeRule_18 : decode cX6_takeRule 18 = .ok (.iconst 2, 1) := by decide +kernel
theorem dX6_takeRule_19 : decode cX6_takeRule 19 = .ok (.ireturn, 1) := by decide +kernel
theorem dX6_takeRule_20 : decode cX6_takeRule 20 = .ok (.aload_n 0, 1) := by decide +kernel
theorem dX6_takeRule_21 : decode cX6_takeRule 21 = .ok (.getfield 32, 3) := by decide +kernel
theorem dX6_takeRule_24 : decode cX6_takeRule 24 = .ok (.invokevirtual 139, 3) := by decide +kernel
theorem dX6_takeRule_27 : decode cX6_takeRule 27 = .ok (.ifCond .eq 5, 3) := by decide +kernel
theorem dX6_takeRule_30 : decode cX6_takeRule 30 = .ok (.iconst 3, 1) := by decide +kernel
theorem dX6_takeRule_31 : decode cX6_takeRule 31 = .ok (.ireturn, 1) := by decide +kernel
theorem dX6_takeRule_32 : decode cX6_takeRule 32 = .ok (.aload_n 0, 1) := by decide +kernel
theorem dX6_takeRule_33 : decode cX6_takeRule 33 = .ok (.getfield 32, 3) := by decide +kernel
theorem dX6_takeRule_36 : decode cX6_takeRule 36 = .ok (.aload_n 0, 1) := by decide +kernel
theorem dX6_takeRule_37 : decode cX6_takeRule 37 = .ok (.getfield 95, 3) := by decide +kernel
theorem dX6_takeRule_40 : decode cX6_takeRule 40 = .ok (.invokevirtual 143, 3) := by decide +kernel
theorem dX6_takeRule_43 : decode cX6_takeRule 43 = .ok (.ifCond .eq 5, 3) := by decide +kernel
theorem dX6_takeRule_46 : decode cX6_takeRule 46 = .ok (.iconst 4, 1) := by decide +kernel
theorem dX6_takeRule_47 : decode cX6_takeRule 47 = .ok (.ireturn, 1) := by decide +kernel
theorem dX6_takeRule_48 : decode cX6_takeRule 48 = .ok (.aload_n 0, 1) := by decide +kernel
theorem dX6_takeRule_49 : decode cX6_takeRule 49 = .ok (.getfield 32, 3) := by decide +kernel
theorem dX6_takeRule_52 : decode cX6_takeRule 52 = .ok (.aload_n 0, 1) := by decide +kernel
theorem dX6_takeRule_53 : decode cX6_takeRule 53 = .ok (.getfield 95, 3) := by decide +kernel
theorem dX6_takeRule_56 : decode cX6_takeRule 56 = .ok (.invokevirtual 147, 3) := by decide +kernel
theorem dX6_takeRule_59 : decode cX6_takeRule 59 = .ok (.aload_n 0, 1) := by decide +kernel
theorem dX6_takeRule_60 : decode cX6_takeRule 60 = .ok (.iconst 1, 1) := by decide +kernel
theorem dX6_takeRule_61 : decode cX6_takeRule 61 = .ok (.invokevirtual 105, 3) := by decide +kernel
theorem dX6_takeRule_64 : decode cX6_takeRule 64 = .ok (.ireturn, 1) := by decide +kernel
noncomputable def X6_takeRule (w : Wd) : Option (Int32 × Wd) :=
(if (w.1 65 7) = (1 : Int32) then
some ((0 : Int32), w)
else
(if (w.1 65 7) = (3 : Int32) then
(if (X0_isFull w) = 0 then
(X0_hasDraft (w.2 65 9) w).bind fun q1 =>
(if q1 = 0 then
(X0_openRule (w.2 65 9) w).bind fun q3 =>
(X6_goOn (1 : Int32) q3).bind fun q5 =>
some (q5.1, q5.2)
else
some ((4 : Int32), w))
else
some ((3 : Int32), w))
else
some ((2 : Int32), w)))
set_option maxRecDepth 20000 in
set_option maxHeartbeats 1000000 in
theorem t_X6_takeRule {κ : Kx} (w : Wd) (h : ok (X6_takeRule   w) (PIw κ)) : J κ RX6 cX6_takeRule 1 (some .int) (rmk 1 24) 0 [(0, .ref (ad (gm κ) 65))] [] w := by
  unfold X6_takeRule at h
  refine j_aload_n 0 dX6_takeRule_0 rfl rfl ?_
  refine j_getI fl_RX6_67 sh_65 fk_65_7 dX6_takeRule_1 ?_
  refine j_iconst (1 : Int32) dX6_takeRule_4 ki_1 ?_
  refine j_ic_ne 10 dX6_takeRule_5 (by decide) h (fun h => ?_) (fun h => ?_)
  · refine j_aload_n 0 dX6_takeRule_10 rfl rfl ?_
    refine j_getI fl_RX6_67 sh_65 fk_65_7 dX6_takeRule_11 ?_
    refine j_iconst (3 : Int32) dX6_takeRule_14 ki_3 ?_
    refine j_ic_eq 20 dX6_takeRule_15 (by decide) h (fun h => ?_) (fun h => ?_)
    · refine j_aload_n 0 dX6_takeRule_20 rfl rfl ?_
      refine j_getA 30 fl_RX6_32 sh_65 fk_65_0 (by decide) dX6_takeRule_21 ?_
      refine j_callV (As := []) (st := []) [.int (X0_isFull w)] (c_X0_isFull (kl κ) (gm κ) (kA κ) w) ck_RX6_139 im_X0_isFull se_X0_isFull sh_30 cx_0 ⟨rfl, rfl⟩ ⟨by decide, by decide⟩ rfl rfl (Nat.le_of_ble_eq_true rfl) dX6_takeRule_24 _ rfl ?_
      refine j_if_eq 32 dX6_takeRule_27 (by decide) h (fun h => ?_) (fun h => ?_)
      · refine j_aload_n 0 dX6_takeRule_32 rfl rfl ?_
        refine j_getA 30 fl_RX6_32 sh_65 fk_65_0 (by decide) dX6_takeRule_33 ?_
        refine j_aload_n 0 dX6_takeRule_36 rfl rfl ?_
        refine j_getJ fl_RX6_95 sh_65 fk_65_9 dX6_takeRule_37 ?_
        obtain ⟨q1, e2, h⟩ := ok_b h
        refine j_callV (As := [.long (w.2 65 9)]) (st := []) [.int q1] (c_X0_hasDraft (kl κ) (gm κ) (kA κ) (w.2 65 9) w q1 e2) ck_RX6_143 im_X0_hasDraft se_X0_hasDraft sh_30 cx_0 ⟨rfl, rfl⟩ ⟨by decide, by decide⟩ rfl rfl (Nat.le_of_ble_eq_true rfl) dX6_takeRule_40 _ rfl ?_
        refine j_if_eq 48 dX6_takeRule_43 (by decide) h (fun h => ?_) (fun h => ?_)
        · refine j_aload_n 0 dX6_takeRule_48 rfl rfl ?_
          refine j_getA 30 fl_RX6_32 sh_65 fk_65_0 (by decide) dX6_takeRule_49 ?_
          refine j_aload_n 0 dX6_takeRule_52 rfl rfl ?_
          refine j_getJ fl_RX6_95 sh_65 fk_65_9 dX6_takeRule_53 ?_
          obtain ⟨q3, e4, h⟩ := ok_b h
          refine j_callV (As := [.long (w.2 65 9)]) (st := []) [] (c_X0_openRule (kl κ) (gm κ) (kA κ) (w.2 65 9) w q3 e4) ck_RX6_147 im_X0_openRule se_X0_openRule sh_30 cx_0 ⟨rfl, rfl⟩ ⟨by decide, by decide⟩ rfl rfl (Nat.le_of_ble_eq_true rfl) dX6_takeRule_56 _ rfl ?_
          refine j_aload_n 0 dX6_takeRule_59 rfl rfl ?_
          refine j_iconst (1 : Int32) dX6_takeRule_60 ki_1 ?_
          obtain ⟨q5, e6, h⟩ := ok_b h
          refine j_callV (As := [.int (1 : Int32)]) (st := []) [.int q5.1] (c_X6_goOn (kl κ) (gm κ) (kA κ) (1 : Int32) q3 q5 e6) ck_RX6_105 im_X6_goOn se_X6_goOn sh_65 cx_6 ⟨rfl, rfl⟩ ⟨by decide, by decide⟩ rfl rfl (Nat.le_of_ble_eq_true rfl) dX6_takeRule_61 _ rfl ?_
          have h := ok_s h
          exact j_iret dX6_takeRule_64 rfl rfl h
        · refine j_iconst (4 : Int32) dX6_takeRule_46 ki_4 ?_
          have h := ok_s h
          exact j_iret dX6_takeRule_47 rfl rfl h
      · refine j_iconst (3 : Int32) dX6_takeRule_30 ki_3 ?_
        have h := ok_s h
        exact j_iret dX6_takeRule_31 rfl rfl h
    · refine j_iconst (2 : Int32) dX6_takeRule_18 ki_2 ?_
      have h := ok_s h
      exact j_iret dX6_takeRule_19 rfl rfl h
  · refine j_iconst (0 : Int32) dX6_takeRule_8 ki_0 ?_
    have h := ok_s h
    exact j_iret dX6_takeRule_9 rfl rfl h
theorem c_X6_takeRule (l : Launch) (γ : Gm) (A : Nat → Prop) (w : Wd) (q : Int32 × Wd) (e : X6_takeRule   w = some q) : MetG l γ A yX6_takeRule cX6_takeRule 1 (some .int) (rmk 1 24) [.ref (ad (γ) 65)] w (some (.int q.1)) q.2 := by
  refine met_of pn_RX6 (Nat.le_of_ble_eq_true rfl) ?_
  intro κ hl hγ hA hρ
  subst hl; subst hγ; subst hA
  exact t_X6_takeRule    w ⟨q, e, pIw hρ rfl rfl⟩
theorem dX6_takeOnly_0 : decode cX6_takeOnly 0 = .ok (.aload_n 0, 1) := by decide +kernel
theorem dX6_takeOnly_1 : decode cX6_takeOnly 1 = .ok (.getfield 67, 3) := by decide +kernel
theorem dX6_takeOnly_4 : decode cX6_takeOnly 4 = .ok (.iload_n 1, 1) := by decide +kernel
theorem dX6_takeOnly_5 : decode cX6_takeOnly 5 = .ok (.if_icmp .ne 11, 3) := by decide +kernel
theorem dX6_takeOnly_8 : decode cX6_takeOnly 8 = .ok (.aload_n 0, 1) := by decide +kernel
theorem dX6_takeOnly_9 : decode cX6_takeOnly 9 = .ok (.iload_n 2, 1) := by decide +kernel
theorem dX6_takeOnly_10 : decode cX6_takeOnly 10 = .ok (.invokevirtual 105, 3) := by decide +kernel
theorem dX6_takeOnly_13 : decode cX6_takeOnly 13 = .ok (.goto 4, 3) := by decide +kernel
theorem dX6_takeOnly_16 : decode cX6_takeOnly 16 = .ok (.iconst 2, 1) := by decide +kernel
theorem dX6_takeOnly_17 : decode cX6_takeOnly 17 = .ok (.ireturn, 1) := by decide +kernel
noncomputable def X6_takeOnly (a1 : Int32) (a2 : Int32) (w : Wd) : Option (Int32 × Wd) :=
(if (w.1 65 7) = a1 then
(X6_goOn a2 w).bind fun q1 =>
some (q1.1, q1.2)
else
some ((2 : Int32), w))
set_option maxRecDepth 20000 in
set_option maxHeartbeats 1000000 in
theorem t_X6_takeOnly {κ : Kx} (a1 : Int32) (a2 : Int32) (w : Wd) (h : ok (X6_takeOnly  a1 a2 w) (PIw κ)) : J κ RX6 cX6_takeOnly 3 (some .int) (rmk 1 21) 0 [(0, .ref (ad (gm κ) 65)), (1, .int a1), (2, .int a2)] [] w := by
  unfold X6_takeOnly at h
  refine j_aload_n 0 dX6_takeOnly_0 rfl rfl ?_
  refine j_getI fl_RX6_67 sh_65 fk_65_7 dX6_takeOnly_1 ?_
  refine j_iload_n 1 dX6_takeOnly_4 rfl rfl ?_
  refine j_ic_ne 16 dX6_takeOnly_5 (by decide) h (fun h => ?_) (fun h => ?_)
  · refine j_iconst (2 : Int32) dX6_takeOnly_16 ki_2 ?_
    have h := ok_s h
    exact j_iret dX6_takeOnly_17 rfl rfl h
  · refine j_aload_n 0 dX6_takeOnly_8 rfl rfl ?_
    refine j_iload_n 2 dX6_takeOnly_9 rfl rfl ?_
    obtain ⟨q1, e2, h⟩ := ok_b h
    refine j_callV (As := [.int a2]) (st := []) [.int q1.1] (c_X6_goOn (kl κ) (gm κ) (kA κ) a2 w q1 e2) ck_RX6_105 im_X6_goOn se_X6_goOn sh_65 cx_6 ⟨rfl, rfl⟩ ⟨by decide, by decide⟩ rfl rfl (Nat.le_of_ble_eq_true rfl) dX6_takeOnly_10 _ rfl ?_
    refine j_goto 17 dX6_takeOnly_13 (by decide) ?_
    have h := ok_s h
    exact j_iret dX6_takeOnly_17 rfl rfl h
theorem c_X6_takeOnly (l : Launch) (γ : Gm) (A : Nat → Prop) (a1 : Int32) (a2 : Int32) (w : Wd) (q : Int32 × Wd) (e : X6_takeOnly  a1 a2 w = some q) : MetG l γ A yX6_takeOnly cX6_takeOnly 3 (some .int) (rmk 1 21) [.ref (ad (γ) 65), .int a1, .int a2] w (some (.int q.1)) q.2 := by
  refine met_of pn_RX6 (Nat.le_of_ble_eq_true rfl) ?_
  intro κ hl hγ hA hρ
  subst hl; subst hγ; subst hA
  exact t_X6_takeOnly   a1 a2 w ⟨q, e, pIw hρ rfl rfl⟩
theorem dX6_takeStruckLabel_0 : decode cX6_takeStruckLabel 0 = .ok (.aload_n 0, 1) := by decide +kernel
theorem dX6_takeStruckLabel_1 : decode cX6_takeStruckLabel 1 = .ok (.getfield 67, 3) := by decide +kernel
theorem dX6_takeStruckLabel_4 : decode cX6_takeStruckLabel 4 = .ok (.iconst 3, 1) := by decide +kernel
theorem dX6_takeStruckLabel_5 : decode cX6_takeStruckLabel 5 = .ok (.if_icmp .eq 5, 3) := by decide +kernel
theorem dX6_takeStruckLabel_8 : decode cX6_takeStruckLabel 8 = .ok (.iconst 2, 1) := by decide +kernel
theorem dX6_takeStruckLabel_9 : decode cX6_takeStruckLabel 9 = .ok (.ireturn, 1) := by decide +kernel
theorem dX6_takeStruckLabel_10 : decode cX6_takeStruckLabel 10 = .ok (.aload_n 0, 1) := by decide +kernel
theorem dX6_takeStruckLabel_11 : decode cX6_takeStruckLabel 11 = .ok (.getfield 32, 3) := by decide +kernel
theorem dX6_takeStruckLabel_14 : decode cX6_takeStruckLabel 14 = .ok (.aload_n 0, 1) := by decide +kernel
theorem dX6_takeStruckLabel_15 : decode cX6_takeStruckLabel 15 = .ok (.getfield 95, 3) := by decide +kernel
theorem dX6_takeStruckLabel_18 : decode cX6_takeStruckLabel 18 = .ok (.invokevirtual 151, 3) := by decide +kernel
theorem dX6_takeStruckLabel_21 : decode cX6_takeStruckLabel 21 = .ok (.aload_n 0, 1) := by decide +kernel
theorem dX6_takeStruckLabel_22 : decode cX6_takeStruckLabel 22 = .ok (.iconst 3, 1) := by decide +kernel
theorem dX6_takeStruckLabel_23 : decode cX6_takeStruckLabel 23 = .ok (.invokevirtual 105, 3) := by decide +kernel
theorem dX6_takeStruckLabel_26 : decode cX6_takeStruckLabel 26 = .ok (.ireturn, 1) := by decide +kernel
noncomputable def X6_takeStruckLabel (w : Wd) : Option (Int32 × Wd) :=
(if (w.1 65 7) = (3 : Int32) then
(X0_draftStrikes (w.2 65 9) w).bind fun q1 =>
(X6_goOn (3 : Int32) q1).bind fun q3 =>
some (q3.1, q3.2)
else
some ((2 : Int32), w))
set_option maxRecDepth 20000 in
set_option maxHeartbeats 1000000 in
theorem t_X6_takeStruckLabel {κ : Kx} (w : Wd) (h : ok (X6_takeStruckLabel   w) (PIw κ)) : J κ RX6 cX6_takeStruckLabel 1 (some .int) (rmk 3 65) 0 [(0, .ref (ad (gm κ) 65))] [] w := by
  unfold X6_takeStruckLabel at h
  refine j_aload_n 0 dX6_takeStruckLabel_0 rfl rfl ?_
  refine j_getI fl_RX6_67 sh_65 fk_65_7 dX6_takeStruckLabel_1 ?_
  refine j_iconst (3 : Int32) dX6_takeStruckLabel_4 ki_3 ?_
  refine j_ic_eq 10 dX6_takeStruckLabel_5 (by decide) h (fun h => ?_) (fun h => ?_)
  · refine j_aload_n 0 dX6_takeStruckLabel_10 rfl rfl ?_
    refine j_getA 30 fl_RX6_32 sh_65 fk_65_0 (by decide) dX6_takeStruckLabel_11 ?_
    refine j_aload_n 0 dX6_takeStruckLabel_14 rfl rfl ?_
    refine j_getJ fl_RX6_95 sh_65 fk_65_9 dX6_takeStruckLabel_15 ?_
    obtain ⟨q1, e2, h⟩ := ok_b h
    refine j_callV (As := [.long (w.2 65 9)]) (st := []) [] (c_X0_draftStrikes (kl κ) (gm κ) (kA κ) (w.2 65 9) w q1 e2) ck_RX6_151 im_X0_draftStrikes se_X0_draftStrikes sh_30 cx_0 ⟨rfl, rfl⟩ ⟨by decide, by decide⟩ rfl rfl (Nat.le_of_ble_eq_true rfl) dX6_takeStruckLabel_18 _ rfl ?_
    refine j_aload_n 0 dX6_takeStruckLabel_21 rfl rfl ?_
    refine j_iconst (3 : Int32) dX6_takeStruckLabel_22 ki_3 ?_
    obtain ⟨q3, e4, h⟩ := ok_b h
    refine j_callV (As := [.int (3 : Int32)]) (st := []) [.int q3.1] (c_X6_goOn (kl κ) (gm κ) (kA κ) (3 : Int32) q1 q3 e4) ck_RX6_105 im_X6_goOn se_X6_goOn sh_65 cx_6 ⟨rfl, rfl⟩ ⟨by decide, by decide⟩ rfl rfl (Nat.le_of_ble_eq_true rfl) dX6_takeStruckLabel_23 _ rfl ?_
    have h := ok_s h
    exact j_iret dX6_takeStruckLabel_26 rfl rfl h
  · refine j_iconst (2 : Int32) dX6_takeStruckLabel_8 ki_2 ?_
    have h := ok_s h
    exact j_iret dX6_takeStruckLabel_9 rfl rfl h
theorem c_X6_takeStruckLabel (l : Launch) (γ : Gm) (A : Nat → Prop) (w : Wd) (q : Int32 × Wd) (e : X6_takeStruckLabel   w = some q) : MetG l γ A yX6_takeStruckLabel cX6_takeStruckLabel 1 (some .int) (rmk 3 65) [.ref (ad (γ) 65)] w (some (.int q.1)) q.2 := by
  refine met_of pn_RX6 (Nat.le_of_ble_eq_true rfl) ?_
  intro κ hl hγ hA hρ
  subst hl; subst hγ; subst hA
  exact t_X6_takeStruckLabel    w ⟨q, e, pIw hρ rfl rfl⟩
theorem dX6_openSum_0 : decode cX6_openSum 0 = .ok (.aload_n 0, 1) := by decide +kernel
theorem dX6_openSum_1 : decode cX6_openSum 1 = .ok (.iload_n 1, 1) := by decide +kernel
theorem dX6_openSum_2 : decode cX6_openSum 2 = .ok (.putfield 163, 3) := by decide +kernel
theorem dX6_openSum_5 : decode cX6_openSum 5 = .ok (.aload_n 0, 1) := by decide +kernel
theorem dX6_openSum_6 : decode cX6_openSum 6 = .ok (.iconst 0, 1) := by decide +kernel
theorem dX6_openSum_7 : decode cX6_openSum 7 = .ok (.putfield 127, 3) := by decide +kernel
theorem dX6_openSum_10 : decode cX6_openSum 10 = .ok (.aload_n 0, 1) := by decide +kernel
theorem dX6_openSum_11 : decode cX6_openSum 11 = .ok (.iconst 0, 1) := by decide +kernel
theorem dX6_openSum_12 : decode cX6_openSum 12 = .ok (.putfield 166, 3) := by decide +kernel
theorem dX6_openSum_15 : decode cX6_openSum 15 = .ok (.aload_n 0, 1) := by decide +kernel
theorem dX6_openSum_16 : decode cX6_openSum 16 = .ok (.iload_n 2, 1) := by decide +kernel
theorem dX6_openSum_17 : decode cX6_openSum 17 = .ok (.invokevirtual 105, 3) := by decide +kernel
theorem dX6_openSum_20 : decode cX6_openSum 20 = .ok (.ireturn, 1) := by decide +kernel
noncomputable def X6_openSum (a1 : Int32) (a2 : Int32) (w : Wd) : Option (Int32 × Wd) :=
(some (puI w 65 12 a1)).bind fun w1 =>
(some (puI w1 65 14 (0 : Int32))).bind fun w2 =>
(some (puI w2 65 16 (0 : Int32))).bind fun w3 =>
(X6_goOn a2 w3).bind fun q4 =>
some (q4.1, q4.2)
set_option maxRecDepth 20000 in
set_option maxHeartbeats 1000000 in
theorem t_X6_openSum {κ : Kx} (a1 : Int32) (a2 : Int32) (w : Wd) (h : ok (X6_openSum  a1 a2 w) (PIw κ)) : J κ RX6 cX6_openSum 3 (some .int) (rmk 1 21) 0 [(0, .ref (ad (gm κ) 65)), (1, .int a1), (2, .int a2)] [] w := by
  unfold X6_openSum at h
  refine j_aload_n 0 dX6_openSum_0 rfl rfl ?_
  refine j_iload_n 1 dX6_openSum_1 rfl rfl ?_
  refine j_putI fp_RX6_163 sh_65 fk_65_12 dX6_openSum_2 ?_
  refine j_lW h (fun w1 h => ?_)
  refine j_aload_n 0 dX6_openSum_5 rfl rfl ?_
  refine j_iconst (0 : Int32) dX6_openSum_6 ki_0 ?_
  refine j_putI fp_RX6_127 sh_65 fk_65_14 dX6_openSum_7 ?_
  refine j_lW h (fun w2 h => ?_)
  refine j_aload_n 0 dX6_openSum_10 rfl rfl ?_
  refine j_iconst (0 : Int32) dX6_openSum_11 ki_0 ?_
  refine j_putI fp_RX6_166 sh_65 fk_65_16 dX6_openSum_12 ?_
  refine j_lW h (fun w3 h => ?_)
  refine j_aload_n 0 dX6_openSum_15 rfl rfl ?_
  refine j_iload_n 2 dX6_openSum_16 rfl rfl ?_
  obtain ⟨q4, e5, h⟩ := ok_b h
  refine j_callV (As := [.int a2]) (st := []) [.int q4.1] (c_X6_goOn (kl κ) (gm κ) (kA κ) a2 w3 q4 e5) ck_RX6_105 im_X6_goOn se_X6_goOn sh_65 cx_6 ⟨rfl, rfl⟩ ⟨by decide, by decide⟩ rfl rfl (Nat.le_of_ble_eq_true rfl) dX6_openSum_17 _ rfl ?_
  have h := ok_s h
  exact j_iret dX6_openSum_20 rfl rfl h
theorem c_X6_openSum (l : Launch) (γ : Gm) (A : Nat → Prop) (a1 : Int32) (a2 : Int32) (w : Wd) (q : Int32 × Wd) (e : X6_openSum  a1 a2 w = some q) : MetG l γ A yX6_openSum cX6_openSum 3 (some .int) (rmk 1 21) [.ref (ad (γ) 65), .int a1, .int a2] w (some (.int q.1)) q.2 := by
  refine met_of pn_RX6 (Nat.le_of_ble_eq_true rfl) ?_
  intro κ hl hγ hA hρ
  subst hl; subst hγ; subst hA
  exact t_X6_openSum   a1 a2 w ⟨q, e, pIw hρ rfl rfl⟩
theorem dX6_takeDoes_0 : decode cX6_takeDoes 0 = .ok (.aload_n 0, 1) := by decide +kernel
theorem dX6_takeDoes_1 : decode cX6_takeDoes 1 = .ok (.aload_n 0, 1) := by decide +kernel
theorem dX6_takeDoes_2 : decode cX6_takeDoes 2 = .ok (.getfield 67, 3) := by decide +kernel
theorem dX6_takeDoes_5 : decode cX6_takeDoes 5 = .ok (.putfield 154, 3) := by decide +kernel
theorem dX6_takeDoes_8 : decode cX6_takeDoes 8 = .ok (.aload_n 0, 1) := by decide +kernel
theorem dX6_takeDoes_9 : decode cX6_takeDoes 9 = .ok (.getfield 32, 3) := by decide +kernel
theorem dX6_takeDoes_12 : decode cX6_takeDoes 12 = .ok (.aload_n 0, 1) := by decide +kernel
theorem dX6_takeDoes_13 : decode cX6_takeDoes 13 = .ok (.getfield 67, 3) := by decide +kernel
theorem dX6_takeDoes_16 : decode cX6_takeDoes 16 = .ok (.invokevirtual 157, 3) := by decide +kernel
theorem dX6_takeDoes_19 : decode cX6_takeDoes 19 = .ok (.aload_n 0, 1) := by decide +kernel
theorem dX6_takeDoes_20 : decode cX6_takeDoes 20 = .ok (.getfield 67, 3) := by decide +kernel
theorem dX6_takeDoes_23 : decode cX6_takeDoes 23 = .ok (.tableswitch 59 101 106 #[37, 59, 45, 53, 53, 53], 37) := by decide +kernel
theorem dX6_takeDoes_60 : decode cX6_takeDoes 60 = .ok (.aload_n 0, 1) := by decide +kernel
theorem dX6_takeDoes_61 : decode cX6_takeDoes 61 = .ok (.iconst 1, 1) := by decide +kernel
theorem dX6_takeDoes_62 : decode cX6_takeDoes 62 = .ok (.bipush 7, 2) := by decide +kernel
theorem dX6_takeDoes_64 : decode cX6_takeDoes 64 = .ok (.invokevirtual 160, 3) := by decide +kernel
theorem dX6_takeDoes_67 : decode cX6_takeDoes 67 = .ok (.ireturn, 1) := by decide +kernel
theorem dX6_takeDoes_68 : decode cX6_takeDoes 68 = .ok (.aload_n 0, 1) := by decide +kernel
theorem dX6_takeDoes_69 : decode cX6_takeDoes 69 = .ok (.iconst 0, 1) := by decide +kernel
theorem dX6_takeDoes_70 : decode cX6_takeDoes 70 = .ok (.bipush 8, 2) := by decide +kernel
theorem dX6_takeDoes_72 : decode cX6_takeDoes 72 = .ok (.invokevirtual 160, 3) := by decide +kernel
theorem dX6_takeDoes_75 : decode cX6_takeDoes 75 = .ok (.ireturn, 1) := by decide +kernel
theorem dX6_takeDoes_76 : decode cX6_takeDoes 76 = .ok (.aload_n 0, 1) := by decide +kernel
theorem dX6_takeDoes_77 : decode cX6_takeDoes 77 = .ok (.iconst 5, 1) := by decide +kernel
theorem dX6_takeDoes_78 : decode cX6_takeDoes 78 = .ok (.invokevirtual 105, 3) := by decide +kernel
theorem dX6_takeDoes_81 : decode cX6_takeDoes 81 = .ok (.ireturn, 1) := by decide +kernel
theorem dX6_takeDoes_82 : decode cX6_takeDoes 82 = .ok (.iconst 2, 1) := by decide +kernel
theorem dX6_takeDoes_83 : decode cX6_takeDoes 83 = .ok (.ireturn, 1) := by decide +kernel
noncomputable def X6_takeDoes_j76 (w : Wd) : Option (Int32 × Wd) :=
(X6_goOn (5 : Int32) w).bind fun q8 =>
some (q8.1, q8.2)
set_option maxRecDepth 20000 in
set_option maxHeartbeats 1000000 in
theorem t_X6_takeDoes_j76 {κ : Kx} (w : Wd) (h : ok (X6_takeDoes_j76  w) (PIw κ)) : J κ RX6 cX6_takeDoes 1 (some .int) (rmk 3 64) 76 [(0, .ref (ad (gm κ) 65))] [] w := by
  unfold X6_takeDoes_j76 at h
  refine j_aload_n 0 dX6_takeDoes_76 rfl rfl ?_
  refine j_iconst (5 : Int32) dX6_takeDoes_77 ki_5 ?_
  obtain ⟨q8, e9, h⟩ := ok_b h
  refine j_callV (As := [.int (5 : Int32)]) (st := []) [.int q8.1] (c_X6_goOn (kl κ) (gm κ) (kA κ) (5 : Int32) w q8 e9) ck_RX6_105 im_X6_goOn se_X6_goOn sh_65 cx_6 ⟨rfl, rfl⟩ ⟨by decide, by decide⟩ rfl rfl (Nat.le_of_ble_eq_true rfl) dX6_takeDoes_78 _ rfl ?_
  have h := ok_s h
  exact j_iret dX6_takeDoes_81 rfl rfl h
noncomputable def X6_takeDoes (w : Wd) : Option (Int32 × Wd) :=
(some (puI w 65 13 (w.1 65 7))).bind fun w1 =>
(X0_draftDoes (w1.1 65 7) w1).bind fun q2 =>
(if (q2.1 65 7) = (101 : Int32) then
(X6_openSum (1 : Int32) (7 : Int32) q2).bind fun q4 =>
some (q4.1, q4.2)
else
(if (q2.1 65 7) = (102 : Int32) then
some ((2 : Int32), q2)
else
(if (q2.1 65 7) = (103 : Int32) then
(X6_openSum (0 : Int32) (8 : Int32) q2).bind fun q6 =>
some (q6.1, q6.2)
else
(if (q2.1 65 7) = (104 : Int32) then
X6_takeDoes_j76 q2
else
(if (q2.1 65 7) = (105 : Int32) then
X6_takeDoes_j76 q2
else
(if (q2.1 65 7) = (106 : Int32) then
X6_takeDoes_j76 q2
else
some ((2 : Int32), q2)))))))
set_option maxRecDepth 20000 in
set_option maxHeartbeats 1000000 in
theorem t_X6_takeDoes {κ : Kx} (w : Wd) (h : ok (X6_takeDoes   w) (PIw κ)) : J κ RX6 cX6_takeDoes 1 (some .int) (rmk 3 64) 0 [(0, .ref (ad (gm κ) 65))] [] w := by
  unfold X6_takeDoes at h
  refine j_aload_n 0 dX6_takeDoes_0 rfl rfl ?_
  refine j_aload_n 0 dX6_takeDoes_1 rfl rfl ?_
  refine j_getI fl_RX6_67 sh_65 fk_65_7 dX6_takeDoes_2 ?_
  refine j_putI fp_RX6_154 sh_65 fk_65_13 dX6_takeDoes_5 ?_
  refine j_lW h (fun w1 h => ?_)
  refine j_aload_n 0 dX6_takeDoes_8 rfl rfl ?_
  refine j_getA 30 fl_RX6_32 sh_65 fk_65_0 (by decide) dX6_takeDoes_9 ?_
  refine j_aload_n 0 dX6_takeDoes_12 rfl rfl ?_
  refine j_getI fl_RX6_67 sh_65 fk_65_7 dX6_takeDoes_13 ?_
  obtain ⟨q2, e3, h⟩ := ok_b h
  refine j_callV (As := [.int (w1.1 65 7)]) (st := []) [] (c_X0_draftDoes (kl κ) (gm κ) (kA κ) (w1.1 65 7) w1 q2 e3) ck_RX6_157 im_X0_draftDoes se_X0_draftDoes sh_30 cx_0 ⟨rfl, rfl⟩ ⟨by decide, by decide⟩ rfl rfl (Nat.le_of_ble_eq_true rfl) dX6_takeDoes_16 _ rfl ?_
  refine j_aload_n 0 dX6_takeDoes_19 rfl rfl ?_
  refine j_getI fl_RX6_67 sh_65 fk_65_7 dX6_takeDoes_20 ?_
  refine j_cs (101 : Int32) h (fun h => ?_) (fun n0 h => ?_)
  · refine j_tab 60 dX6_takeDoes_23 (by decide) (by decide) rfl (by decide) ?_
    refine j_aload_n 0 dX6_takeDoes_60 rfl rfl ?_
    refine j_iconst (1 : Int32) dX6_takeDoes_61 ki_1 ?_
    refine j_bipush (7 : Int32) dX6_takeDoes_62 kb_7 ?_
    obtain ⟨q4, e5, h⟩ := ok_b h
    refine j_callV (As := [.int (1 : Int32), .int (7 : Int32)]) (st := []) [.int q4.1] (c_X6_openSum (kl κ) (gm κ) (kA κ) (1 : Int32) (7 : Int32) q2 q4 e5) ck_RX6_160 im_X6_openSum se_X6_openSum sh_65 cx_6 ⟨rfl, rfl⟩ ⟨by decide, by decide⟩ rfl rfl (Nat.le_of_ble_eq_true rfl) dX6_takeDoes_64 _ rfl ?_
    have h := ok_s h
    exact j_iret dX6_takeDoes_67 rfl rfl h
  refine j_cs (102 : Int32) h (fun h => ?_) (fun n1 h => ?_)
  · refine j_tab 82 dX6_takeDoes_23 (by decide) (by decide) rfl (by decide) ?_
    refine j_iconst (2 : Int32) dX6_takeDoes_82 ki_2 ?_
    have h := ok_s h
    exact j_iret dX6_takeDoes_83 rfl rfl h
  refine j_cs (103 : Int32) h (fun h => ?_) (fun n2 h => ?_)
  · refine j_tab 68 dX6_takeDoes_23 (by decide) (by decide) rfl (by decide) ?_
    refine j_aload_n 0 dX6_takeDoes_68 rfl rfl ?_
    refine j_iconst (0 : Int32) dX6_takeDoes_69 ki_0 ?_
    refine j_bipush (8 : Int32) dX6_takeDoes_70 kb_8 ?_
    obtain ⟨q6, e7, h⟩ := ok_b h
    refine j_callV (As := [.int (0 : Int32), .int (8 : Int32)]) (st := []) [.int q6.1] (c_X6_openSum (kl κ) (gm κ) (kA κ) (0 : Int32) (8 : Int32) q2 q6 e7) ck_RX6_160 im_X6_openSum se_X6_openSum sh_65 cx_6 ⟨rfl, rfl⟩ ⟨by decide, by decide⟩ rfl rfl (Nat.le_of_ble_eq_true rfl) dX6_takeDoes_72 _ rfl ?_
    have h := ok_s h
    exact j_iret dX6_takeDoes_75 rfl rfl h
  refine j_cs (104 : Int32) h (fun h => ?_) (fun n3 h => ?_)
  · refine j_tab 76 dX6_takeDoes_23 (by decide) (by decide) rfl (by decide) ?_
    refine j_loc [(0, .ref (ad (gm κ) 65))] [0] rfl ?_
    exact t_X6_takeDoes_j76 q2 h
  refine j_cs (105 : Int32) h (fun h => ?_) (fun n4 h => ?_)
  · refine j_tab 76 dX6_takeDoes_23 (by decide) (by decide) rfl (by decide) ?_
    refine j_loc [(0, .ref (ad (gm κ) 65))] [0] rfl ?_
    exact t_X6_takeDoes_j76 q2 h
  refine j_cs (106 : Int32) h (fun h => ?_) (fun n5 h => ?_)
  · refine j_tab 76 dX6_takeDoes_23 (by decide) (by decide) rfl (by decide) ?_
    refine j_loc [(0, .ref (ad (gm κ) 65))] [0] rfl ?_
    exact t_X6_takeDoes_j76 q2 h
  replace n0 := lv_neT n0 (show ((101 : Int32)).toInt = 101 by decide)
  replace n1 := lv_neT n1 (show ((102 : Int32)).toInt = 102 by decide)
  replace n2 := lv_neT n2 (show ((103 : Int32)).toInt = 103 by decide)
  replace n3 := lv_neT n3 (show ((104 : Int32)).toInt = 104 by decide)
  replace n4 := lv_neT n4 (show ((105 : Int32)).toInt = 105 by decide)
  replace n5 := lv_neT n5 (show ((106 : Int32)).toInt = 106 by decide)
  refine j_tabD 82 dX6_takeDoes_23 (by omega) (by decide) ?_
  refine j_iconst (2 : Int32) dX6_takeDoes_82 ki_2 ?_
  have h := ok_s h
  exact j_iret dX6_takeDoes_83 rfl rfl h
theorem c_X6_takeDoes (l : Launch) (γ : Gm) (A : Nat → Prop) (w : Wd) (q : Int32 × Wd) (e : X6_takeDoes   w = some q) : MetG l γ A yX6_takeDoes cX6_takeDoes 1 (some .int) (rmk 3 64) [.ref (ad (γ) 65)] w (some (.int q.1)) q.2 := by
  refine met_of pn_RX6 (Nat.le_of_ble_eq_true rfl) ?_
  intro κ hl hγ hA hρ
  subst hl; subst hγ; subst hA
  exact t_X6_takeDoes    w ⟨q, e, pIw hρ rfl rfl⟩
theorem dX6_takeLimit_0 : decode cX6_takeLimit 0 = .ok (.aload_n 0, 1) := by decide +kernel
theorem dX6_takeLimit_1 : decode cX6_takeLimit 1 = .ok (.getfield 67, 3) := by decide +kernel
theorem dX6_takeLimit_4 : decode cX6_takeLimit 4 = .ok (.iconst 2, 1) := by decide +kernel
theorem dX6_takeLimit_5 : decode cX6_takeLimit 5 = .ok (.if_icmp .eq 5, 3) := by decide +kernel
theorem dX6_takeLimit_8 : decode cX6_takeLimit 8 = .ok (.iconst 2, 1) := by decide +kernel
theorem dX6_takeLimit_9 : decode cX6_takeLimit 9 = .ok (.ireturn, 1) := by decide +kernel
theorem dX6_takeLimit_10 : decode cX6_takeLimit 10 = .ok (.aload_n 0, 1) := by decide +kernel
theorem dX6_takeLimit_11 : decode cX6_takeLimit 11 = .ok (.getfield 154, 3) := by decide +kernel
theorem dX6_takeLimit_14 : decode cX6_takeLimit 14 = .ok (.bipush 105, 2) := by decide +kernel
theorem dX6_takeLimit_16 : decode cX6_takeLimit 16 = .ok (.if_icmp .ne 7, 3) := by decide +kernel
theorem dX6_takeLimit_19 : decode cX6_takeLimit 19 = .ok (.iconst 0, 1) := by decide +kernel
theorem dX6_takeLimit_20 : decode cX6_takeLimit 20 = .ok (.goto 4, 3) := by decide +kernel
theorem dX6_takeLimit_23 : decode cX6_takeLimit 23 = .ok (.iconst 1, 1) := by decide +kernel
theorem dX6_takeLimit_24 : decode cX6_takeLimit 24 = .ok (.istore_n 1, 1) := by decide +kernel
theorem dX6_takeLimit_25 : decode cX6_takeLimit 25 = .ok (.aload_n 0, 1) := by decide +kernel
theorem dX6_takeLimit_26 : decode cX6_takeLimit 26 = .ok (.getfield 154, 3) := by decide +kernel
theorem dX6_takeLimit_29 : decode cX6_takeLimit 29 = .ok (.bipush 106, 2) := by decide +kernel
theorem dX6_takeLimit_31 : decode cX6_takeLimit 31 = .ok (.if_icmp .ne 8, 3) := by decide +kernel
theorem dX6_takeLimit_34 : decode cX6_takeLimit 34 = .ok (.bipush 100, 2) := by decide +kernel
theorem dX6_takeLimit_36 : decode cX6_takeLimit 36 = .ok (.goto 5, 3) := by decide +kernel
theorem dX6_takeLimit_39 : decode cX6_takeLimit 39 = .ok (.bipush 40, 2) := by decide +kernel
theorem dX6_takeLimit_41 : decode cX6_takeLimit 41 = .ok (.istore_n 2, 1) := by decide +kernel
theorem dX6_takeLimit_42 : decode cX6_takeLimit 42 = .ok (.aload_n 0, 1) := by decide +kernel
theorem dX6_takeLimit_43 : decode cX6_takeLimit 43 = .ok (.getfield 99, 3) := by decide +kernel
theorem dX6_takeLimit_46 : decode cX6_takeLimit 46 = .ok (.iload_n 1, 1) := by decide +kernel
theorem dX6_takeLimit_47 : decode cX6_takeLimit 47 = .ok (.iload_n 2, 1) := by decide +kernel
theorem dX6_takeLimit_48 : decode cX6_takeLimit 48 = .ok (.invokestatic 169, 3) := by decide +kernel
theorem dX6_takeLimit_51 : decode cX6_takeLimit 51 = .ok (.ifCond .ne 6, 3) := by decide +kernel
theorem dX6_takeLimit_54 : decode cX6_takeLimit 54 = .ok (.bipush 6, 2) := by decide +kernel
theorem dX6_takeLimit_56 : decode cX6_takeLimit 56 = .ok (.ireturn, 1) := by decide +kernel
theorem dX6_takeLimit_57 : decode cX6_takeLimit 57 = .ok (.aload_n 0, 1) := by decide +kernel
theorem dX6_takeLimit_58 : decode cX6_takeLimit 58 = .ok (.getfield 32, 3) := by decide +kernel
theorem dX6_takeLimit_61 : decode cX6_takeLimit 61 = .ok (.aload_n 0, 1) := by decide +kernel
theorem dX6_takeLimit_62 : decode cX6_takeLimit 62 = .ok (.getfield 99, 3) := by decide +kernel
theorem dX6_takeLimit_65 : decode cX6_takeLimit 65 = .ok (.invokevirtual 173, 3) := by decide +kernel
theorem dX6_takeLimit_68 : decode cX6_takeLimit 68 = .ok (.aload_n 0, 1) := by decide +kernel
theorem dX6_takeLimit_69 : decode cX6_takeLimit 69 = .ok (.bipush 6, 2) := by decide +kernel
theorem dX6_takeLimit_71 : decode cX6_takeLimit 71 = .ok (.invokevirtual 105, 3) := by decide +kernel
theorem dX6_takeLimit_74 : decode cX6_takeLimit 74 = .ok (.ireturn, 1) := by decide +kernel
noncomputable def X6_takeLimit_j41 (a1 : Int32) (s0 : Int32) (w : Wd) : Option (Int32 × Wd) :=
(if (X11_within (w.1 65 10) a1 s0 w) = 0 then
some ((6 : Int32), w)
else
(X0_draftLimit (w.1 65 10) w).bind fun q1 =>
(X6_goOn (6 : Int32) q1).bind fun q3 =>
some (q3.1, q3.2))
set_option maxRecDepth 20000 in
set_option maxHeartbeats 1000000 in
theorem t_X6_takeLimit_j41 {κ : Kx} (a1 : Int32) (s0 : Int32) (w : Wd) (h : ok (X6_takeLimit_j41  a1 s0 w) (PIw κ)) : J κ RX6 cX6_takeLimit 3 (some .int) (rmk 3 64) 41 [(0, .ref (ad (gm κ) 65)), (1, .int a1)] [.int s0] w := by
  unfold X6_takeLimit_j41 at h
  refine j_istore_n [(2, .int s0), (0, .ref (ad (gm κ) 65)), (1, .int a1)] dX6_takeLimit_41 rfl (by decide) rfl ?_
  refine j_aload_n 1 dX6_takeLimit_42 rfl rfl ?_
  refine j_getI fl_RX6_99 sh_65 fk_65_10 dX6_takeLimit_43 ?_
  refine j_iload_n 2 dX6_takeLimit_46 rfl rfl ?_
  refine j_iload_n 0 dX6_takeLimit_47 rfl rfl ?_
  refine j_callS (As := [.int (w.1 65 10), .int a1, .int s0]) (st := []) [.int (X11_within (w.1 65 10) a1 s0 w)] (c_X11_within (kl κ) (gm κ) (kA κ) (w.1 65 10) a1 s0 w) ck_RX6_169 st_X11_within ⟨rfl, rfl⟩ ⟨by decide, by decide⟩ rfl rfl (Nat.le_of_ble_eq_true rfl) dX6_takeLimit_48 _ rfl ?_
  refine j_if_ne 57 dX6_takeLimit_51 (by decide) h (fun h => ?_) (fun h => ?_)
  · refine j_aload_n 1 dX6_takeLimit_57 rfl rfl ?_
    refine j_getA 30 fl_RX6_32 sh_65 fk_65_0 (by decide) dX6_takeLimit_58 ?_
    refine j_aload_n 1 dX6_takeLimit_61 rfl rfl ?_
    refine j_getI fl_RX6_99 sh_65 fk_65_10 dX6_takeLimit_62 ?_
    obtain ⟨q1, e2, h⟩ := ok_b h
    refine j_callV (As := [.int (w.1 65 10)]) (st := []) [] (c_X0_draftLimit (kl κ) (gm κ) (kA κ) (w.1 65 10) w q1 e2) ck_RX6_173 im_X0_draftLimit se_X0_draftLimit sh_30 cx_0 ⟨rfl, rfl⟩ ⟨by decide, by decide⟩ rfl rfl (Nat.le_of_ble_eq_true rfl) dX6_takeLimit_65 _ rfl ?_
    refine j_aload_n 1 dX6_takeLimit_68 rfl rfl ?_
    refine j_bipush (6 : Int32) dX6_takeLimit_69 kb_6 ?_
    obtain ⟨q3, e4, h⟩ := ok_b h
    refine j_callV (As := [.int (6 : Int32)]) (st := []) [.int q3.1] (c_X6_goOn (kl κ) (gm κ) (kA κ) (6 : Int32) q1 q3 e4) ck_RX6_105 im_X6_goOn se_X6_goOn sh_65 cx_6 ⟨rfl, rfl⟩ ⟨by decide, by decide⟩ rfl rfl (Nat.le_of_ble_eq_true rfl) dX6_takeLimit_71 _ rfl ?_
    have h := ok_s h
    exact j_iret dX6_takeLimit_74 rfl rfl h
  · refine j_bipush (6 : Int32) dX6_takeLimit_54 kb_6 ?_
    have h := ok_s h
    exact j_iret dX6_takeLimit_56 rfl rfl h
noncomputable def X6_takeLimit_j24 (s0 : Int32) (w : Wd) : Option (Int32 × Wd) :=
(if (w.1 65 13) = (106 : Int32) then
X6_takeLimit_j41 s0 (100 : Int32) w
else
X6_takeLimit_j41 s0 (40 : Int32) w)
set_option maxRecDepth 20000 in
set_option maxHeartbeats 1000000 in
theorem t_X6_takeLimit_j24 {κ : Kx} (s0 : Int32) (w : Wd) (h : ok (X6_takeLimit_j24  s0 w) (PIw κ)) : J κ RX6 cX6_takeLimit 3 (some .int) (rmk 3 64) 24 [(0, .ref (ad (gm κ) 65))] [.int s0] w := by
  unfold X6_takeLimit_j24 at h
  refine j_istore_n [(1, .int s0), (0, .ref (ad (gm κ) 65))] dX6_takeLimit_24 rfl (by decide) rfl ?_
  refine j_aload_n 1 dX6_takeLimit_25 rfl rfl ?_
  refine j_getI fl_RX6_154 sh_65 fk_65_13 dX6_takeLimit_26 ?_
  refine j_bipush (106 : Int32) dX6_takeLimit_29 kb_106 ?_
  refine j_ic_ne 39 dX6_takeLimit_31 (by decide) h (fun h => ?_) (fun h => ?_)
  · refine j_bipush (40 : Int32) dX6_takeLimit_39 kb_40 ?_
    refine j_loc [(0, .ref (ad (gm κ) 65)), (1, .int s0)] [1, 0] rfl ?_
    exact t_X6_takeLimit_j41 s0 (40 : Int32) w h
  · refine j_bipush (100 : Int32) dX6_takeLimit_34 kb_100 ?_
    refine j_goto 41 dX6_takeLimit_36 (by decide) ?_
    refine j_loc [(0, .ref (ad (gm κ) 65)), (1, .int s0)] [1, 0] rfl ?_
    exact t_X6_takeLimit_j41 s0 (100 : Int32) w h
noncomputable def X6_takeLimit (w : Wd) : Option (Int32 × Wd) :=
(if (w.1 65 7) = (2 : Int32) then
(if (w.1 65 13) = (105 : Int32) then
X6_takeLimit_j24 (0 : Int32) w
else
X6_takeLimit_j24 (1 : Int32) w)
else
some ((2 : Int32), w))
set_option maxRecDepth 20000 in
set_option maxHeartbeats 1000000 in
theorem t_X6_takeLimit {κ : Kx} (w : Wd) (h : ok (X6_takeLimit   w) (PIw κ)) : J κ RX6 cX6_takeLimit 3 (some .int) (rmk 3 64) 0 [(0, .ref (ad (gm κ) 65))] [] w := by
  unfold X6_takeLimit at h
  refine j_aload_n 0 dX6_takeLimit_0 rfl rfl ?_
  refine j_getI fl_RX6_67 sh_65 fk_65_7 dX6_takeLimit_1 ?_
  refine j_iconst (2 : Int32) dX6_takeLimit_4 ki_2 ?_
  refine j_ic_eq 10 dX6_takeLimit_5 (by decide) h (fun h => ?_) (fun h => ?_)
  · refine j_aload_n 0 dX6_takeLimit_10 rfl rfl ?_
    refine j_getI fl_RX6_154 sh_65 fk_65_13 dX6_takeLimit_11 ?_
    refine j_bipush (105 : Int32) dX6_takeLimit_14 kb_105 ?_
    refine j_ic_ne 23 dX6_takeLimit_16 (by decide) h (fun h => ?_) (fun h => ?_)
    · refine j_iconst (1 : Int32) dX6_takeLimit_23 ki_1 ?_
      refine j_loc [(0, .ref (ad (gm κ) 65))] [0] rfl ?_
      exact t_X6_takeLimit_j24 (1 : Int32) w h
    · refine j_iconst (0 : Int32) dX6_takeLimit_19 ki_0 ?_
      refine j_goto 24 dX6_takeLimit_20 (by decide) ?_
      refine j_loc [(0, .ref (ad (gm κ) 65))] [0] rfl ?_
      exact t_X6_takeLimit_j24 (0 : Int32) w h
  · refine j_iconst (2 : Int32) dX6_takeLimit_8 ki_2 ?_
    have h := ok_s h
    exact j_iret dX6_takeLimit_9 rfl rfl h
theorem c_X6_takeLimit (l : Launch) (γ : Gm) (A : Nat → Prop) (w : Wd) (q : Int32 × Wd) (e : X6_takeLimit   w = some q) : MetG l γ A yX6_takeLimit cX6_takeLimit 3 (some .int) (rmk 3 64) [.ref (ad (γ) 65)] w (some (.int q.1)) q.2 := by
  refine met_of pn_RX6 (Nat.le_of_ble_eq_true rfl) ?_
  intro κ hl hγ hA hρ
  subst hl; subst hγ; subst hA
  exact t_X6_takeLimit    w ⟨q, e, pIw hρ rfl rfl⟩
theorem dX6_await_0 : decode cX6_await 0 = .ok (.aload_n 0, 1) := by decide +kernel
theorem dX6_await_1 : decode cX6_await 1 = .ok (.getfield 166, 3) := by decide +kernel
theorem dX6_await_4 : decode cX6_await 4 = .ok (.aload_n 0, 1) := by decide +kernel
theorem dX6_await_5 : decode cX6_await 5 = .ok (.getfield 28, 3) := by decide +kernel
theorem dX6_await_8 : decode cX6_await 8 = .ok (.arraylength, 1) := by decide +kernel
theorem dX6_await_9 : decode cX6_await 9 = .ok (.if_icmp .ge 23, 3) := by decide +kernel
theorem dX6_await_12 : decode cX6_await 12 = .ok (.aload_n 0, 1) := by decide +kernel
theorem dX6_await_13 : decode cX6_await 13 = .ok (.getfield 28, 3) := by decide +kernel
theorem dX6_await_16 : decode cX6_await 16 = .ok (.aload_n 0, 1) := by decide +kernel
theorem dX6_await_17 : decode cX6_await 17 = .ok (.getfield 166, 3) := by decide +kernel
theorem dX6_await_20 : decode cX6_await 20 = .ok (.iload_n 1, 1) := by decide +kernel
theorem dX6_await_21 : decode cX6_await 21 = .ok (.iastore, 1) := by decide +kernel
theorem dX6_await_22 : decode cX6_await 22 = .ok (.aload_n 0, 1) := by decide +kernel
theorem dX6_await_23 : decode cX6_await 23 = .ok (.dup, 1) := by decide +kernel
theorem dX6_await_24 : decode cX6_await 24 = .ok (.getfield 166, 3) := by decide +kernel
theorem dX6_await_27 : decode cX6_await 27 = .ok (.iconst 1, 1) := by decide +kernel
theorem dX6_await_28 : decode cX6_await 28 = .ok (.iadd, 1) := by decide +kernel
theorem dX6_await_29 : decode cX6_await 29 = .ok (.putfield 166, 3) := by decide +kernel
theorem dX6_await_32 : decode cX6_await 32 = .ok (.return_, 1) := by decide +kernel
noncomputable def X6_await (a1 : Int32) (w : Wd) : Option (Wd) :=
(if (64 : Int32) ≤ (w.1 65 16) then
some w
else
gd (vp_in (w.1 65 16) 64) <|
(some (puI w 68 (ix (w.1 65 16)) a1)).bind fun w1 =>
(some (puI w1 65 16 ((w1.1 65 16) + (1 : Int32)))).bind fun w2 =>
some w2)
set_option maxRecDepth 20000 in
set_option maxHeartbeats 1000000 in
theorem t_X6_await {κ : Kx} (a1 : Int32) (w : Wd) (h : ok (X6_await  a1 w) (PVw κ)) : J κ RX6 cX6_await 2 none (rmk 0 0) 0 [(0, .ref (ad (gm κ) 65)), (1, .int a1)] [] w := by
  unfold X6_await at h
  refine j_aload_n 0 dX6_await_0 rfl rfl ?_
  refine j_getI fl_RX6_166 sh_65 fk_65_16 dX6_await_1 ?_
  refine j_aload_n 0 dX6_await_4 rfl rfl ?_
  refine j_getA 68 fl_RX6_28 sh_65 fk_65_15 (by decide) dX6_await_5 ?_
  refine j_alenI (v := (64 : Int32)) sh_68 (by decide) (by decide) dX6_await_8 ?_
  refine j_ic_ge 32 dX6_await_9 (by decide) h (fun h => ?_) (fun h => ?_)
  · have h := ok_s h
    exact j_vret dX6_await_32 rfl h
  · refine j_aload_n 0 dX6_await_12 rfl rfl ?_
    refine j_getA 68 fl_RX6_28 sh_65 fk_65_15 (by decide) dX6_await_13 ?_
    refine j_aload_n 0 dX6_await_16 rfl rfl ?_
    refine j_getI fl_RX6_166 sh_65 fk_65_16 dX6_await_17 ?_
    refine j_iload_n 1 dX6_await_20 rfl rfl ?_
    refine j_iast sh_68 dX6_await_21 h (fun h => ?_)
    refine j_lW h (fun w1 h => ?_)
    refine j_aload_n 0 dX6_await_22 rfl rfl ?_
    refine j_dup dX6_await_23 rfl ?_
    refine j_getI fl_RX6_166 sh_65 fk_65_16 dX6_await_24 ?_
    refine j_iconst (1 : Int32) dX6_await_27 ki_1 ?_
    refine j_iadd dX6_await_28 ?_
    refine j_putI fp_RX6_166 sh_65 fk_65_16 dX6_await_29 ?_
    refine j_lW h (fun w2 h => ?_)
    have h := ok_s h
    exact j_vret dX6_await_32 rfl h
theorem c_X6_await (l : Launch) (γ : Gm) (A : Nat → Prop) (a1 : Int32) (w : Wd) (q : Wd) (e : X6_await  a1 w = some q) : MetG l γ A yX6_await cX6_await 2 none (rmk 0 0) [.ref (ad (γ) 65), .int a1] w none q := by
  refine met_of pn_RX6 (Nat.le_of_ble_eq_true rfl) ?_
  intro κ hl hγ hA hρ
  subst hl; subst hγ; subst hA
  exact t_X6_await   a1 w ⟨q, e, pVw hρ rfl rfl⟩
