theorem dX8_listen_0 : decode cX8_listen 0 = .ok (.aload_n 0, 1) := by decide +kernel
theorem dX8_listen_1 : decode cX8_listen 1 = .ok (.iconst 0, 1) := by decide +kernel
theorem dX8_listen_2 : decode cX8_listen 2 = .ok (.putfield 57, 3) := by decide +kernel
theorem dX8_listen_5 : decode cX8_listen 5 = .ok (.aload_n 0, 1) := by decide +kernel
theorem dX8_listen_6 : decode cX8_listen 6 = .ok (.iconst 0, 1) := by decide +kernel
theorem dX8_listen_7 : decode cX8_listen 7 = .ok (.putfield 60, 3) := by decide +kernel
theorem dX8_listen_10 : decode cX8_listen 10 = .ok (.aload_n 0, 1) := by decide +kernel
theorem dX8_listen_11 : decode cX8_listen 11 = .ok (.bipush 40, 2) := by decide +kernel
theorem dX8_listen_13 : decode cX8_listen 13 = .ok (.putfield 63, 3) := by decide +kernel
theorem dX8_listen_16 : decode cX8_listen 16 = .ok (.aload_n 0, 1) := by decide +kernel
theorem dX8_listen_17 : decode cX8_listen 17 = .ok (.iconst 0, 1) := by decide +kernel
theorem dX8_listen_18 : decode cX8_listen 18 = .ok (.putfield 66, 3) := by decide +kernel
theorem dX8_listen_21 : decode cX8_listen 21 = .ok (.aload_n 0, 1) := by decide +kernel
theorem dX8_listen_22 : decode cX8_listen 22 = .ok (.bipush 100, 2) := by decide +kernel
theorem dX8_listen_24 : decode cX8_listen 24 = .ok (.putfield 69, 3) := by decide +kernel
theorem dX8_listen_27 : decode cX8_listen 27 = .ok (.iconst 0, 1) := by decide +kernel
theorem dX8_listen_28 : decode cX8_listen 28 = .ok (.istore_n 2, 1) := by decide +kernel
theorem dX8_listen_29 : decode cX8_listen 29 = .ok (.iload_n 2, 1) := by decide +kernel
theorem dX8_listen_30 : decode cX8_listen 30 = .ok (.aload_n 0, 1) := by decide +kernel
theorem dX8_listen_31 : decode cX8_listen 31 = .ok (.getfield 29, 3) := by decide +kernel
theorem dX8_listen_34 : decode cX8_listen 34 = .ok (.if_icmp .ge 157, 3) := by decide +kernel
theorem dX8_listen_37 : decode cX8_listen 37 = .ok (.aload_n 0, 1) := by decide +kernel
theorem dX8_listen_38 : decode cX8_listen 38 = .ok (.getfield 15, 3) := by decide +kernel
theorem dX8_listen_41 : decode cX8_listen 41 = .ok (.iload_n 2, 1) := by decide +kernel
theorem dX8_listen_42 : decode cX8_listen 42 = .ok (.iaload, 1) := by decide +kernel
theorem dX8_listen_43 : decode cX8_listen 43 = .ok (.istore_n 3, 1) := by decide +kernel
theorem dX8_listen_44 : decode cX8_listen 44 = .ok (.aload_n 0, 1) := by decide +kernel
theorem dX8_listen_45 : decode cX8_listen 45 = .ok (.getfield 19, 3) := by decide +kernel
theorem dX8_listen_48 : decode cX8_listen 48 = .ok (.iload_n 2, 1) := by decide +kernel
theorem dX8_listen_49 : decode cX8_listen 49 = .ok (.baload, 1) := by decide +kernel
theorem dX8_listen_50 : decode cX8_listen 50 = .ok (.ifCond .eq 7, 3) := by decide +kernel
theorem dX8_listen_53 : decode cX8_listen 53 = .ok (.iconst 0, 1) := by decide +kernel
theorem dX8_listen_54 : decode cX8_listen 54 = .ok (.goto 9, 3) := by decide +kernel
theorem dX8_listen_57 : decode cX8_listen 57 = .ok (.aload_n 1, 1) := by decide +kernel
theorem dX8_listen_58 : decode cX8_listen 58 = .ok (.getfield 72, 3) := by decide +kernel
theorem dX8_listen_61 : decode cX8_listen 61 = .ok (.iload_n 3, 1) := by decide +kernel
theorem dX8_listen_62 : decode cX8_listen 62 = .ok (.iaload, 1) := by decide +kernel
theorem dX8_listen_63 : decode cX8_listen 63 = .ok (.tableswitch 122 101 106 #[37, 122, 60, 83, 96, 109], 37) := by decide +kernel
theorem dX8_listen_100 : decode cX8_listen 100 = .ok (.aload_n 0, 1) := by decide +kernel
theorem dX8_listen_101 : decode cX8_listen 101 = .ok (.getfield 23, 3) := by decide +kernel
theorem dX8_listen_104 : decode cX8_listen 104 = .ok (.aload_n 0, 1) := by decide +kernel
theorem dX8_listen_105 : decode cX8_listen 105 = .ok (.getfield 57, 3) := by decide +kernel
theorem dX8_listen_108 : decode cX8_listen 108 = .ok (.iload_n 3, 1) := by decide +kernel
theorem dX8_listen_109 : decode cX8_listen 109 = .ok (.iastore, 1) := by decide +kernel
theorem dX8_listen_110 : decode cX8_listen 110 = .ok (.aload_n 0, 1) := by decide +kernel
theorem dX8_listen_111 : decode cX8_listen 111 = .ok (.dup, 1) := by decide +kernel
theorem dX8_listen_112 : decode cX8_listen 112 = .ok (.getfield 57, 3) := by decide +kernel
theorem dX8_listen_115 : decode cX8_listen 115 = .ok (.iconst 1, 1) := by decide +kernel
theorem dX8_listen_116 : decode cX8_listen 116 = .ok (.iadd, 1) := by decide +kernel
theorem dX8_listen_117 : decode cX8_listen 117 = .ok (.putfield 57, 3) := by decide +kernel
theorem dX8_listen_120 : decode cX8_listen 120 = .ok (.goto 65, 3) := by decide +kernel
theorem dX8_listen_123 : decode cX8_listen 123 = .ok (.aload_n 0, 1) := by decide +kernel
theorem dX8_listen_124 : decode cX8_listen 124 = .ok (.getfield 26, 3) := by decide +kernel
theorem dX8_listen_127 : decode cX8_listen 127 = .ok (.aload_n 0, 1) := by decide +kernel
theorem dX8_listen_128 : decode cX8_listen 128 = .ok (.getfield 60, 3) := by decide +kernel
theorem dX8_listen_131 : decode cX8_listen 131 = .ok (.iload_n 3, 1) := by decide +kernel
theorem dX8_listen_132 : decode cX8_listen 132 = .ok (.iastore, 1) := by decide +kernel
theorem dX8_listen_133 : decode cX8_listen 133 = .ok (.aload_n 0, 1) := by decide +kernel
theorem dX8_listen_134 : decode cX8_listen 134 = .ok (.dup, 1) := by decide +kernel
theorem dX8_listen_135 : decode cX8_listen 135 = .ok (.getfield 60, 3) := by decide +kernel
theorem dX8_listen_138 : decode cX8_listen 138 = .ok (.iconst 1, 1) := by decide +kernel
theorem dX8_listen_139 : decode cX8_listen 139 = .ok (.iadd, 1) := by decide +kernel
theorem dX8_listen_140 : decode cX8_listen 140 = .ok (.putfield 60, 3) := by decide +kernel
theorem dX8_listen_143 : decode cX8_listen 143 = .ok (.goto 42, 3) := by decide +kernel
theorem dX8_listen_146 : decode cX8_listen 146 = .ok (.aload_n 0, 1) := by decide +kernel
theorem dX8_listen_147 : decode cX8_listen 147 = .ok (.aload_n 1, 1) := by decide +kernel
theorem dX8_listen_148 : decode cX8_listen 148 = .ok (.getfield 75, 3) := by decide +kernel
theorem dX8_listen_151 : decode cX8_listen 151 = .ok (.iload_n 3, 1) := by decide +kernel
theorem dX8_listen_152 : decode cX8_listen 152 = .ok (.iaload, 1) := by decide +kernel
theorem dX8_listen_153 : decode cX8_listen 153 = .ok (.putfield 63, 3) := by decide +kernel
theorem dX8_listen_156 : decode cX8_listen 156 = .ok (.goto 29, 3) := by decide +kernel
theorem dX8_listen_159 : decode cX8_listen 159 = .ok (.aload_n 0, 1) := by decide +kernel
theorem dX8_listen_160 : decode cX8_listen 160 = .ok (.aload_n 1, 1) := by decide +kernel
theorem dX8_listen_161 : decode cX8_listen 161 = .ok (.getfield 75, 3) := by decide +kernel
theorem dX8_listen_164 : decode cX8_listen 164 = .ok (.iload_n 3, 1) := by decide +kernel
theorem dX8_listen_165 : decode cX8_listen 165 = .ok (.iaload, 1) := by decide +kernel
theorem dX8_listen_166 : decode cX8_listen 166 = .ok (.putfield 66, 3) := by decide +kernel
theorem dX8_listen_169 : decode cX8_listen 169 = .ok (.goto 16, 3) := by decide +kernel
theorem dX8_listen_172 : decode cX8_listen 172 = .ok (.aload_n 0, 1) := by decide +kernel
theorem dX8_listen_173 : decode cX8_listen 173 = .ok (.aload_n 1, 1) := by decide +kernel
theorem dX8_listen_174 : decode cX8_listen 174 = .ok (.getfield 75, 3) := by decide +kernel
theorem dX8_listen_177 : decode cX8_listen 177 = .ok (.iload_n 3, 1) := by decide +kernel
theorem dX8_listen_178 : decode cX8_listen 178 = .ok (.iaload, 1) := by decide +kernel
theorem dX8_listen_179 : decode cX8_listen 179 = .ok (.putfield 69, 3) := by decide +kernel
theorem dX8_listen_182 : decode cX8_listen 182 = .ok (.goto 3, 3) := by decide +kernel
theorem dX8_listen_185 : decode cX8_listen 185 = .ok (.iinc 2 1, 3) := by decide +kernel
theorem dX8_listen_188 : decode cX8_listen 188 = .ok (.goto (-159), 3) := by decide +kernel
theorem dX8_listen_191 : decode cX8_listen 191 = .ok (.return_, 1) := by decide +kernel
noncomputable def X8_listen_j185 (si : Nat) (a2 : Int32) (w : Wd) : Option ((Int32 × Wd) ⊕ Wd) :=
some (.inl ((a2 + (1 : Int32)), w))
set_option maxRecDepth 20000 in
set_option maxHeartbeats 1000000 in
theorem t_X8_listen_j185 {κ : Kx} (si : Nat) (hsi : si < 4) (a2 : Int32) (w : Wd) {G : (Int32 × Wd) → Prop} {P : Wd → Prop} (KG : ∀ s, G s → J κ RX8 cX8_listen 4 none (rmk 0 0) 29 [(0, .ref (ad (gm κ) (stc si))), (1, .ref (ad (gm κ) 30)), (2, .int s.1)] [] s.2) (K0 : ∀ e, P e → J κ RX8 cX8_listen 4 none (rmk 0 0) 191 [] [] e) (h : ok (X8_listen_j185 si a2 w) (sel G P)) : J κ RX8 cX8_listen 4 none (rmk 0 0) 185 [(0, .ref (ad (gm κ) (stc si))), (1, .ref (ad (gm κ) 30)), (2, .int a2)] [] w := by
  unfold X8_listen_j185 at h
  refine j_iinc (a2 + (1 : Int32)) 2 [(2, .int (a2 + (1 : Int32))), (0, .ref (ad (gm κ) (stc si))), (1, .ref (ad (gm κ) 30))] dX8_listen_185 rfl (by rw [kn_1]) (by decide) rfl ?_
  refine j_goto 29 dX8_listen_188 (by decide) ?_
  refine j_loc [(0, .ref (ad (gm κ) (stc si))), (1, .ref (ad (gm κ) 30)), (2, .int (a2 + (1 : Int32)))] [1, 2, 0] rfl ?_
  have h := sel_l h
  have h := KG _ h
  exact h
noncomputable def X8_listen_j63 (si : Nat) (a2 : Int32) (a3 : Int32) (s0 : Int32) (w : Wd) : Option ((Int32 × Wd) ⊕ Wd) :=
(if s0 = (101 : Int32) then
gd (vp_in (w.1 (stc si) 4) 100) <|
(some (puI w (stc si + 3) (ix (w.1 (stc si) 4)) a3)).bind fun w7 =>
(some (puI w7 (stc si) 4 ((w7.1 (stc si) 4) + (1 : Int32)))).bind fun w8 =>
X8_listen_j185 si a2 w8
else
(if s0 = (102 : Int32) then
X8_listen_j185 si a2 w
else
(if s0 = (103 : Int32) then
gd (vp_in (w.1 (stc si) 6) 100) <|
(some (puI w (stc si + 4) (ix (w.1 (stc si) 6)) a3)).bind fun w9 =>
(some (puI w9 (stc si) 6 ((w9.1 (stc si) 6) + (1 : Int32)))).bind fun w10 =>
X8_listen_j185 si a2 w10
else
(if s0 = (104 : Int32) then
gd (vp_in a3 100) <|
(some (puI w (stc si) 8 (w.1 38 (ix a3)))).bind fun w11 =>
X8_listen_j185 si a2 w11
else
(if s0 = (105 : Int32) then
gd (vp_in a3 100) <|
(some (puI w (stc si) 9 (w.1 38 (ix a3)))).bind fun w12 =>
X8_listen_j185 si a2 w12
else
(if s0 = (106 : Int32) then
gd (vp_in a3 100) <|
(some (puI w (stc si) 10 (w.1 38 (ix a3)))).bind fun w13 =>
X8_listen_j185 si a2 w13
else
X8_listen_j185 si a2 w))))))
set_option maxRecDepth 20000 in
set_option maxHeartbeats 1000000 in
theorem t_X8_listen_j63 {κ : Kx} (si : Nat) (hsi : si < 4) (a2 : Int32) (a3 : Int32) (s0 : Int32) (w : Wd) {G : (Int32 × Wd) → Prop} {P : Wd → Prop} (KG : ∀ s, G s → J κ RX8 cX8_listen 4 none (rmk 0 0) 29 [(0, .ref (ad (gm κ) (stc si))), (1, .ref (ad (gm κ) 30)), (2, .int s.1)] [] s.2) (K0 : ∀ e, P e → J κ RX8 cX8_listen 4 none (rmk 0 0) 191 [] [] e) (h : ok (X8_listen_j63 si a2 a3 s0 w) (sel G P)) : J κ RX8 cX8_listen 4 none (rmk 0 0) 63 [(0, .ref (ad (gm κ) (stc si))), (1, .ref (ad (gm κ) 30)), (2, .int a2), (3, .int a3)] [.int s0] w := by
  unfold X8_listen_j63 at h
  refine j_cs (101 : Int32) h (fun h => ?_) (fun n0 h => ?_)
  · refine j_tab 100 dX8_listen_63 (by decide) (by decide) rfl (by decide) ?_
    refine j_aload_n 0 dX8_listen_100 rfl rfl ?_
    refine j_getA (stc si + 3) fl_RX8_23 (st_sh hsi).1 (st_fk hsi).2.2.2.2.2.1 (st_lt hsi (by decide)) dX8_listen_101 ?_
    refine j_aload_n 0 dX8_listen_104 rfl rfl ?_
    refine j_getI fl_RX8_57 (st_sh hsi).1 (st_fk hsi).2.2.2.2.1 dX8_listen_105 ?_
    refine j_iload_n 3 dX8_listen_108 rfl rfl ?_
    refine j_iast (st_sh hsi).2.2.2.1 dX8_listen_109 h (fun h => ?_)
    refine j_lW h (fun w7 h => ?_)
    refine j_aload_n 0 dX8_listen_110 rfl rfl ?_
    refine j_dup dX8_listen_111 rfl ?_
    refine j_getI fl_RX8_57 (st_sh hsi).1 (st_fk hsi).2.2.2.2.1 dX8_listen_112 ?_
    refine j_iconst (1 : Int32) dX8_listen_115 ki_1 ?_
    refine j_iadd dX8_listen_116 ?_
    refine j_putI fp_RX8_57 (st_sh hsi).1 (st_fk hsi).2.2.2.2.1 dX8_listen_117 ?_
    refine j_lW h (fun w8 h => ?_)
    refine j_goto 185 dX8_listen_120 (by decide) ?_
    refine j_loc [(0, .ref (ad (gm κ) (stc si))), (1, .ref (ad (gm κ) 30)), (2, .int a2)] [0, 1, 2] rfl ?_
    exact t_X8_listen_j185 si hsi a2 w8 KG K0 h
  refine j_cs (102 : Int32) h (fun h => ?_) (fun n1 h => ?_)
  · refine j_tab 185 dX8_listen_63 (by decide) (by decide) rfl (by decide) ?_
    refine j_loc [(0, .ref (ad (gm κ) (stc si))), (1, .ref (ad (gm κ) 30)), (2, .int a2)] [0, 1, 2] rfl ?_
    exact t_X8_listen_j185 si hsi a2 w KG K0 h
  refine j_cs (103 : Int32) h (fun h => ?_) (fun n2 h => ?_)
  · refine j_tab 123 dX8_listen_63 (by decide) (by decide) rfl (by decide) ?_
    refine j_aload_n 0 dX8_listen_123 rfl rfl ?_
    refine j_getA (stc si + 4) fl_RX8_26 (st_sh hsi).1 (st_fk hsi).2.2.2.2.2.2.2.1 (st_lt hsi (by decide)) dX8_listen_124 ?_
    refine j_aload_n 0 dX8_listen_127 rfl rfl ?_
    refine j_getI fl_RX8_60 (st_sh hsi).1 (st_fk hsi).2.2.2.2.2.2.1 dX8_listen_128 ?_
    refine j_iload_n 3 dX8_listen_131 rfl rfl ?_
    refine j_iast (st_sh hsi).2.2.2.2 dX8_listen_132 h (fun h => ?_)
    refine j_lW h (fun w9 h => ?_)
    refine j_aload_n 0 dX8_listen_133 rfl rfl ?_
    refine j_dup dX8_listen_134 rfl ?_
    refine j_getI fl_RX8_60 (st_sh hsi).1 (st_fk hsi).2.2.2.2.2.2.1 dX8_listen_135 ?_
    refine j_iconst (1 : Int32) dX8_listen_138 ki_1 ?_
    refine j_iadd dX8_listen_139 ?_
    refine j_putI fp_RX8_60 (st_sh hsi).1 (st_fk hsi).2.2.2.2.2.2.1 dX8_listen_140 ?_
    refine j_lW h (fun w10 h => ?_)
    refine j_goto 185 dX8_listen_143 (by decide) ?_
    refine j_loc [(0, .ref (ad (gm κ) (stc si))), (1, .ref (ad (gm κ) 30)), (2, .int a2)] [0, 1, 2] rfl ?_
    exact t_X8_listen_j185 si hsi a2 w10 KG K0 h
  refine j_cs (104 : Int32) h (fun h => ?_) (fun n3 h => ?_)
  · refine j_tab 146 dX8_listen_63 (by decide) (by decide) rfl (by decide) ?_
    refine j_aload_n 0 dX8_listen_146 rfl rfl ?_
    refine j_aload_n 1 dX8_listen_147 rfl rfl ?_
    refine j_getA 38 fl_RX8_75 sh_30 fk_30_8 (by decide) dX8_listen_148 ?_
    refine j_iload_n 3 dX8_listen_151 rfl rfl ?_
    refine j_iald sh_38 dX8_listen_152 h (fun h => ?_)
    refine j_putI fp_RX8_63 (st_sh hsi).1 (st_fk hsi).2.2.2.2.2.2.2.2.1 dX8_listen_153 ?_
    refine j_lW h (fun w11 h => ?_)
    refine j_goto 185 dX8_listen_156 (by decide) ?_
    refine j_loc [(0, .ref (ad (gm κ) (stc si))), (1, .ref (ad (gm κ) 30)), (2, .int a2)] [0, 1, 2] rfl ?_
    exact t_X8_listen_j185 si hsi a2 w11 KG K0 h
  refine j_cs (105 : Int32) h (fun h => ?_) (fun n4 h => ?_)
  · refine j_tab 159 dX8_listen_63 (by decide) (by decide) rfl (by decide) ?_
    refine j_aload_n 0 dX8_listen_159 rfl rfl ?_
    refine j_aload_n 1 dX8_listen_160 rfl rfl ?_
    refine j_getA 38 fl_RX8_75 sh_30 fk_30_8 (by decide) dX8_listen_161 ?_
    refine j_iload_n 3 dX8_listen_164 rfl rfl ?_
    refine j_iald sh_38 dX8_listen_165 h (fun h => ?_)
    refine j_putI fp_RX8_66 (st_sh hsi).1 (st_fk hsi).2.2.2.2.2.2.2.2.2.1 dX8_listen_166 ?_
    refine j_lW h (fun w12 h => ?_)
    refine j_goto 185 dX8_listen_169 (by decide) ?_
    refine j_loc [(0, .ref (ad (gm κ) (stc si))), (1, .ref (ad (gm κ) 30)), (2, .int a2)] [0, 1, 2] rfl ?_
    exact t_X8_listen_j185 si hsi a2 w12 KG K0 h
  refine j_cs (106 : Int32) h (fun h => ?_) (fun n5 h => ?_)
  · refine j_tab 172 dX8_listen_63 (by decide) (by decide) rfl (by decide) ?_
    refine j_aload_n 0 dX8_listen_172 rfl rfl ?_
    refine j_aload_n 1 dX8_listen_173 rfl rfl ?_
    refine j_getA 38 fl_RX8_75 sh_30 fk_30_8 (by decide) dX8_listen_174 ?_
    refine j_iload_n 3 dX8_listen_177 rfl rfl ?_
    refine j_iald sh_38 dX8_listen_178 h (fun h => ?_)
    refine j_putI fp_RX8_69 (st_sh hsi).1 (st_fk hsi).2.2.2.2.2.2.2.2.2.2 dX8_listen_179 ?_
    refine j_lW h (fun w13 h => ?_)
    refine j_goto 185 dX8_listen_182 (by decide) ?_
    refine j_loc [(0, .ref (ad (gm κ) (stc si))), (1, .ref (ad (gm κ) 30)), (2, .int a2)] [0, 1, 2] rfl ?_
    exact t_X8_listen_j185 si hsi a2 w13 KG K0 h
  replace n0 := lv_neT n0 (show ((101 : Int32)).toInt = 101 by decide)
  replace n1 := lv_neT n1 (show ((102 : Int32)).toInt = 102 by decide)
  replace n2 := lv_neT n2 (show ((103 : Int32)).toInt = 103 by decide)
  replace n3 := lv_neT n3 (show ((104 : Int32)).toInt = 104 by decide)
  replace n4 := lv_neT n4 (show ((105 : Int32)).toInt = 105 by decide)
  replace n5 := lv_neT n5 (show ((106 : Int32)).toInt = 106 by decide)
  refine j_tabD 185 dX8_listen_63 (by omega) (by decide) ?_
  refine j_loc [(0, .ref (ad (gm κ) (stc si))), (1, .ref (ad (gm κ) 30)), (2, .int a2)] [0, 1, 2] rfl ?_
  exact t_X8_listen_j185 si hsi a2 w KG K0 h
noncomputable def X8_listen_b29 (si : Nat) (s : (Int32 × Wd)) : Option ((Int32 × Wd) ⊕ Wd) :=
(if (s.2.1 (stc si) 1) ≤ s.1 then
some (.inr s.2)
else
gd (vp_in s.1 100) <|
(some (s.2.1 (stc si + 1) (ix s.1))).bind fun z6 =>
gd (vp_in s.1 100) <|
(if (s.2.1 (stc si + 2) (ix s.1)) = 0 then
gd (vp_in z6 100) <|
X8_listen_j63 si s.1 z6 (s.2.1 37 (ix z6)) s.2
else
X8_listen_j63 si s.1 z6 (0 : Int32) s.2))
set_option maxRecDepth 20000 in
set_option maxHeartbeats 1000000 in
theorem t_X8_listen_b29 {κ : Kx} (si : Nat) (hsi : si < 4) {P : Wd → Prop} (K0 : ∀ e, P e → J κ RX8 cX8_listen 4 none (rmk 0 0) 191 [] [] e) (s : (Int32 × Wd)) (h : ok (lp (X8_listen_b29 si ) s) P) : J κ RX8 cX8_listen 4 none (rmk 0 0) 29 [(0, .ref (ad (gm κ) (stc si))), (1, .ref (ad (gm κ) 30)), (2, .int s.1)] [] s.2 := by
  refine lp_ind (fun s => J κ RX8 cX8_listen 4 none (rmk 0 0) 29 [(0, .ref (ad (gm κ) (stc si))), (1, .ref (ad (gm κ) 30)), (2, .int s.1)] [] s.2) (fun s h => ?_) s h
  unfold X8_listen_b29 at h
  refine j_iload_n 2 dX8_listen_29 rfl rfl ?_
  refine j_aload_n 0 dX8_listen_30 rfl rfl ?_
  refine j_getI fl_RX8_29 (st_sh hsi).1 (st_fk hsi).2.1 dX8_listen_31 ?_
  refine j_ic_ge 191 dX8_listen_34 (by decide) h (fun h => ?_) (fun h => ?_)
  · refine j_loc [] [] rfl ?_
    have h := sel_r h
    have h := K0 _ h
    exact h
  · refine j_aload_n 0 dX8_listen_37 rfl rfl ?_
    refine j_getA (stc si + 1) fl_RX8_15 (st_sh hsi).1 (st_fk hsi).2.2.1 (st_lt hsi (by decide)) dX8_listen_38 ?_
    refine j_iload_n 2 dX8_listen_41 rfl rfl ?_
    refine j_iald (st_sh hsi).2.1 dX8_listen_42 h (fun h => ?_)
    refine j_lI h (fun z6 h => ?_)
    refine j_istore_n [(3, .int z6), (0, .ref (ad (gm κ) (stc si))), (1, .ref (ad (gm κ) 30)), (2, .int s.1)] dX8_listen_43 rfl (by decide) rfl ?_
    refine j_aload_n 1 dX8_listen_44 rfl rfl ?_
    refine j_getA (stc si + 2) fl_RX8_19 (st_sh hsi).1 (st_fk hsi).2.2.2.1 (st_lt hsi (by decide)) dX8_listen_45 ?_
    refine j_iload_n 3 dX8_listen_48 rfl rfl ?_
    refine j_zald (st_sh hsi).2.2.1 dX8_listen_49 h (fun h => ?_)
    refine j_if_eq 57 dX8_listen_50 (by decide) h (fun h => ?_) (fun h => ?_)
    · refine j_aload_n 2 dX8_listen_57 rfl rfl ?_
      refine j_getA 37 fl_RX8_72 sh_30 fk_30_7 (by decide) dX8_listen_58 ?_
      refine j_iload_n 0 dX8_listen_61 rfl rfl ?_
      refine j_iald sh_37 dX8_listen_62 h (fun h => ?_)
      refine j_loc [(0, .ref (ad (gm κ) (stc si))), (1, .ref (ad (gm κ) 30)), (2, .int s.1), (3, .int z6)] [1, 2, 3, 0] rfl ?_
      exact t_X8_listen_j63 si hsi s.1 z6 (s.2.1 37 (ix z6)) s.2 (fun _ h => h) K0 h
    · refine j_iconst (0 : Int32) dX8_listen_53 ki_0 ?_
      refine j_goto 63 dX8_listen_54 (by decide) ?_
      refine j_loc [(0, .ref (ad (gm κ) (stc si))), (1, .ref (ad (gm κ) 30)), (2, .int s.1), (3, .int z6)] [1, 2, 3, 0] rfl ?_
      exact t_X8_listen_j63 si hsi s.1 z6 (0 : Int32) s.2 (fun _ h => h) K0 h
noncomputable def X8_listen (si : Nat) (w : Wd) : Option (Wd) :=
(some (puI w (stc si) 4 (0 : Int32))).bind fun w1 =>
(some (puI w1 (stc si) 6 (0 : Int32))).bind fun w2 =>
(some (puI w2 (stc si) 8 (40 : Int32))).bind fun w3 =>
(some (puI w3 (stc si) 9 (0 : Int32))).bind fun w4 =>
(some (puI w4 (stc si) 10 (100 : Int32))).bind fun w5 =>
(lp (X8_listen_b29 si) ((0 : Int32), w5)).bind fun e14 =>
some e14
set_option maxRecDepth 20000 in
set_option maxHeartbeats 1000000 in
theorem t_X8_listen {κ : Kx} (si : Nat) (hsi : si < 4) (w : Wd) (h : ok (X8_listen si  w) (PVw κ)) : J κ RX8 cX8_listen 4 none (rmk 0 0) 0 [(0, .ref (ad (gm κ) (stc si))), (1, .ref (ad (gm κ) 30))] [] w := by
  unfold X8_listen at h
  refine j_aload_n 0 dX8_listen_0 rfl rfl ?_
  refine j_iconst (0 : Int32) dX8_listen_1 ki_0 ?_
  refine j_putI fp_RX8_57 (st_sh hsi).1 (st_fk hsi).2.2.2.2.1 dX8_listen_2 ?_
  refine j_lW h (fun w1 h => ?_)
  refine j_aload_n 0 dX8_listen_5 rfl rfl ?_
  refine j_iconst (0 : Int32) dX8_listen_6 ki_0 ?_
  refine j_putI fp_RX8_60 (st_sh hsi).1 (st_fk hsi).2.2.2.2.2.2.1 dX8_listen_7 ?_
  refine j_lW h (fun w2 h => ?_)
  refine j_aload_n 0 dX8_listen_10 rfl rfl ?_
  refine j_bipush (40 : Int32) dX8_listen_11 kb_40 ?_
  refine j_putI fp_RX8_63 (st_sh hsi).1 (st_fk hsi).2.2.2.2.2.2.2.2.1 dX8_listen_13 ?_
  refine j_lW h (fun w3 h => ?_)
  refine j_aload_n 0 dX8_listen_16 rfl rfl ?_
  refine j_iconst (0 : Int32) dX8_listen_17 ki_0 ?_
  refine j_putI fp_RX8_66 (st_sh hsi).1 (st_fk hsi).2.2.2.2.2.2.2.2.2.1 dX8_listen_18 ?_
  refine j_lW h (fun w4 h => ?_)
  refine j_aload_n 0 dX8_listen_21 rfl rfl ?_
  refine j_bipush (100 : Int32) dX8_listen_22 kb_100 ?_
  refine j_putI fp_RX8_69 (st_sh hsi).1 (st_fk hsi).2.2.2.2.2.2.2.2.2.2 dX8_listen_24 ?_
  refine j_lW h (fun w5 h => ?_)
  refine j_iconst (0 : Int32) dX8_listen_27 ki_0 ?_
  refine j_istore_n [(2, .int (0 : Int32)), (0, .ref (ad (gm κ) (stc si))), (1, .ref (ad (gm κ) 30))] dX8_listen_28 rfl (by decide) rfl ?_
  refine j_loc [(0, .ref (ad (gm κ) (stc si))), (1, .ref (ad (gm κ) 30)), (2, .int (0 : Int32))] [1, 2, 0] rfl ?_
  refine t_X8_listen_b29 si hsi (fun e14 h => ?_) ((0 : Int32), w5) (ok_bb h)
  · have h := ok_s h
    exact j_vret dX8_listen_191 rfl h
theorem c_X8_listen (l : Launch) (γ : Gm) (A : Nat → Prop) (si : Nat) (hsi : si < 4) (w : Wd) (q : Wd) (e : X8_listen si  w = some q) : MetG l γ A yX8_listen cX8_listen 4 none (rmk 0 0) [.ref (ad (γ) (stc si)), .ref (ad (γ) 30)] w none q := by
  refine met_of pn_RX8 (Nat.le_of_ble_eq_true rfl) ?_
  intro κ hl hγ hA hρ
  subst hl; subst hγ; subst hA
  exact t_X8_listen si hsi  w ⟨q, e, pVw hρ rfl rfl⟩
theorem dX8_gather_0 : decode cX8_gather 0 = .ok (.iload_n 2, 1) := by decide +kernel
theorem dX8_gather_1 : decode cX8_gather 1 = .ok (.aload_n 0, 1) := by decide +kernel
theorem dX8_gather_2 : decode cX8_gather 2 = .ok (.getfield 9, 3) := by decide +kernel
theorem dX8_gather_5 : decode cX8_gather 5 = .ok (.if_icmp .ne 4, 3) := by decide +kernel
theorem dX8_gather_8 : decode cX8_gather 8 = .ok (.return_, 1) := by decide +kernel
theorem dX8_gather_9 : decode cX8_gather 9 = .ok (.aload_n 0, 1) := by decide +kernel
theorem dX8_gather_10 : decode cX8_gather 10 = .ok (.iload_n 2, 1) := by decide +kernel
theorem dX8_gather_11 : decode cX8_gather 11 = .ok (.putfield 9, 3) := by decide +kernel
theorem dX8_gather_14 : decode cX8_gather 14 = .ok (.aload_n 0, 1) := by decide +kernel
theorem dX8_gather_15 : decode cX8_gather 15 = .ok (.iconst 0, 1) := by decide +kernel
theorem dX8_gather_16 : decode cX8_gather 16 = .ok (.putfield 29, 3) := by decide +kernel
theorem dX8_gather_19 : decode cX8_gather 19 = .ok (.iconst 0, 1) := by decide +kernel
theorem dX8_gather_20 : decode cX8_gather 20 = .ok (.istore_n 3, 1) := by decide +kernel
theorem dX8_gather_21 : decode cX8_gather 21 = .ok (.iload_n 3, 1) := by decide +kernel
theorem dX8_gather_22 : decode cX8_gather 22 = .ok (.aload_n 1, 1) := by decide +kernel
theorem dX8_gather_23 : decode cX8_gather 23 = .ok (.getfield 32, 3) := by decide +kernel
theorem dX8_gather_26 : decode cX8_gather 26 = .ok (.if_icmp .ge 76, 3) := by decide +kernel
theorem dX8_gather_29 : decode cX8_gather 29 = .ok (.aload_n 1, 1) := by decide +kernel
theorem dX8_gather_30 : decode cX8_gather 30 = .ok (.getfield 37, 3) := by decide +kernel
theorem dX8_gather_33 : decode cX8_gather 33 = .ok (.iload_n 3, 1) := by decide +kernel
theorem dX8_gather_34 : decode cX8_gather 34 = .ok (.iaload, 1) := by decide +kernel
theorem dX8_gather_35 : decode cX8_gather 35 = .ok (.istore 4, 2) := by decide +kernel
theorem dX8_gather_37 : decode cX8_gather 37 = .ok (.iload_n 2, 1) := by decide +kernel
theorem dX8_gather_38 : decode cX8_gather 38 = .ok (.iload 4, 2) := by decide +kernel
theorem dX8_gather_40 : decode cX8_gather 40 = .ok (.ishr, 1) := by decide +kernel
theorem dX8_gather_41 : decode cX8_gather 41 = .ok (.iconst 1, 1) := by decide +kernel
theorem dX8_gather_42 : decode cX8_gather 42 = .ok (.iand, 1) := by decide +kernel
theorem dX8_gather_43 : decode cX8_gather 43 = .ok (.ifCond .eq 53, 3) := by decide +kernel
theorem dX8_gather_46 : decode cX8_gather 46 = .ok (.aload_n 1, 1) := by decide +kernel
theorem dX8_gather_47 : decode cX8_gather 47 = .ok (.getfield 40, 3) := by decide +kernel
theorem dX8_gather_50 : decode cX8_gather 50 = .ok (.iload 4, 2) := by decide +kernel
theorem dX8_gather_52 : decode cX8_gather 52 = .ok (.iaload, 1) := by decide +kernel
theorem dX8_gather_53 : decode cX8_gather 53 = .ok (.istore 5, 2) := by decide +kernel
theorem dX8_gather_55 : decode cX8_gather 55 = .ok (.iload 5, 2) := by decide +kernel
theorem dX8_gather_57 : decode cX8_gather 57 = .ok (.aload_n 1, 1) := by decide +kernel
theorem dX8_gather_58 : decode cX8_gather 58 = .ok (.getfield 40, 3) := by decide +kernel
theorem dX8_gather_61 : decode cX8_gather 61 = .ok (.iload 4, 2) := by decide +kernel
theorem dX8_gather_63 : decode cX8_gather 63 = .ok (.iconst 1, 1) := by decide +kernel
theorem dX8_gather_64 : decode cX8_gather 64 = .ok (.iadd, 1) := by decide +kernel
theorem dX8_gather_65 : decode cX8_gather 65 = .ok (.iaload, 1) := by decide +kernel
theorem dX8_gather_66 : decode cX8_gather 66 = .ok (.if_icmp .ge 30, 3) := by decide +kernel
theorem dX8_gather_69 : decode cX8_gather 69 = .ok (.aload_n 0, 1) := by decide +kernel
theorem dX8_gather_70 : decode cX8_gather 70 = .ok (.getfield 15, 3) := by decide +kernel
theorem dX8_gather_73 : decode cX8_gather 73 = .ok (.aload_n 0, 1) := by decide +kernel
theorem dX8_gather_74 : decode cX8_gather 74 = .ok (.getfield 29, 3) := by decide +kernel
theorem dX8_gather_77 : decode cX8_gather 77 = .ok (.iload 5, 2) := by decide +kernel
theorem dX8_gather_79 : decode cX8_gather 79 = .ok (.iastore, 1) := by decide +kernel
theorem dX8_gather_80 : decode cX8_gather 80 = .ok (.aload_n 0, 1) := by decide +kernel
theorem dX8_gather_81 : decode cX8_gather 81 = .ok (.dup, 1) := by decide +kernel
theorem dX8_gather_82 : decode cX8_gather 82 = .ok (.getfield 29, 3) := by decide +kernel
theorem dX8_gather_85 : decode cX8_gather 85 = .ok (.iconst 1, 1) := by decide +kernel
theorem dX8_gather_86 : decode cX8_gather 86 = .ok (.iadd, 1) := by decide +kernel
theorem dX8_gather_87 : decode cX8_gather 87 = .ok (.putfield 29, 3) := by decide +kernel
theorem dX8_gather_90 : decode cX8_gather 90 = .ok (.iinc 5 1, 3) := by decide +kernel
theorem dX8_gather_93 : decode cX8_gather 93 = .ok (.goto (-38), 3) := by decide +kernel
theorem dX8_gather_96 : decode cX8_gather 96 = .ok (.iinc 3 1, 3) := by decide +kernel
theorem dX8_gather_99 : decode cX8_gather 99 = .ok (.goto (-78), 3) := by decide +kernel
theorem dX8_gather_102 : decode cX8_gather 102 = .ok (.aload_n 0, 1) := by decide +kernel
theorem dX8_gather_103 : decode cX8_gather 103 = .ok (.aload_n 1, 1) := by decide +kernel
theorem dX8_gather_104 : decode cX8_gather 104 = .ok (.invokevirtual 43, 3) := by decide +kernel
theorem dX8_gather_107 : decode cX8_gather 107 = .ok (.aload_n 0, 1) := by decide +kernel
theorem dX8_gather_108 : decode cX8_gather 108 = .ok (.aload_n 1, 1) := by decide +kernel
theorem dX8_gather_109 : decode cX8_gather 109 = .ok (.invokevirtual 47, 3) := by decide +kernel
theorem dX8_gather_112 : decode cX8_gather 112 = .ok (.return_, 1) := by decide +kernel
noncomputable def X8_gather_j96 (si : Nat) (a2 : Int32) (a3 : Int32) (w : Wd) : Option ((Int32 × Wd) ⊕ Wd) :=
some (.inl ((a3 + (1 : Int32)), w))
set_option maxRecDepth 20000 in
set_option maxHeartbeats 1000000 in
theorem t_X8_gather_j96 {κ : Kx} (si : Nat) (hsi : si < 4) (a2 : Int32) (a3 : Int32) (w : Wd) {G : (Int32 × Wd) → Prop} {P : Wd → Prop} (KG : ∀ s, G s → J κ RX8 cX8_gather 6 none (rmk 1 26) 21 [(0, .ref (ad (gm κ) (stc si))), (1, .ref (ad (gm κ) 30)), (2, .int a2), (3, .int s.1)] [] s.2) (K0 : ∀ e, P e → J κ RX8 cX8_gather 6 none (rmk 1 26) 102 [(0, .ref (ad (gm κ) (stc si))), (1, .ref (ad (gm κ) 30))] [] e) (h : ok (X8_gather_j96 si a2 a3 w) (sel G P)) : J κ RX8 cX8_gather 6 none (rmk 1 26) 96 [(0, .ref (ad (gm κ) (stc si))), (1, .ref (ad (gm κ) 30)), (2, .int a2), (3, .int a3)] [] w := by
  unfold X8_gather_j96 at h
  refine j_iinc (a3 + (1 : Int32)) 3 [(3, .int (a3 + (1 : Int32))), (0, .ref (ad (gm κ) (stc si))), (1, .ref (ad (gm κ) 30)), (2, .int a2)] dX8_gather_96 rfl (by rw [kn_1]) (by decide) rfl ?_
  refine j_goto 21 dX8_gather_99 (by decide) ?_
  refine j_loc [(0, .ref (ad (gm κ) (stc si))), (1, .ref (ad (gm κ) 30)), (2, .int a2), (3, .int (a3 + (1 : Int32)))] [1, 2, 3, 0] rfl ?_
  have h := sel_l h
  have h := KG _ h
  exact h
noncomputable def X8_gather_b55 (si : Nat) (a2 : Int32) (a3 : Int32) (a4 : Int32) (s : (Int32 × Wd)) : Option ((Int32 × Wd) ⊕ Wd) :=
gd (vp_in (a4 + (1 : Int32)) 6) <|
(if (s.2.1 33 (ix (a4 + (1 : Int32)))) ≤ s.1 then
some (.inr s.2)
else
gd (vp_in (s.2.1 (stc si) 1) 100) <|
(some (puI s.2 (stc si + 1) (ix (s.2.1 (stc si) 1)) s.1)).bind fun w4 =>
(some (puI w4 (stc si) 1 ((w4.1 (stc si) 1) + (1 : Int32)))).bind fun w5 =>
some (.inl ((s.1 + (1 : Int32)), w5)))
set_option maxRecDepth 20000 in
set_option maxHeartbeats 1000000 in
theorem t_X8_gather_b55 {κ : Kx} (si : Nat) (hsi : si < 4) (a2 : Int32) (a3 : Int32) (a4 : Int32) {P : Wd → Prop} (K0 : ∀ e, P e → J κ RX8 cX8_gather 6 none (rmk 1 26) 96 [(0, .ref (ad (gm κ) (stc si))), (1, .ref (ad (gm κ) 30)), (2, .int a2), (3, .int a3)] [] e) (s : (Int32 × Wd)) (h : ok (lp (X8_gather_b55 si a2 a3 a4) s) P) : J κ RX8 cX8_gather 6 none (rmk 1 26) 55 [(0, .ref (ad (gm κ) (stc si))), (1, .ref (ad (gm κ) 30)), (2, .int a2), (3, .int a3), (4, .int a4), (5, .int s.1)] [] s.2 := by
  refine lp_ind (fun s => J κ RX8 cX8_gather 6 none (rmk 1 26) 55 [(0, .ref (ad (gm κ) (stc si))), (1, .ref (ad (gm κ) 30)), (2, .int a2), (3, .int a3), (4, .int a4), (5, .int s.1)] [] s.2) (fun s h => ?_) s h
  unfold X8_gather_b55 at h
  refine j_iload 5 dX8_gather_55 rfl ?_
  refine j_aload_n 1 dX8_gather_57 rfl rfl ?_
  refine j_getA 33 fl_RX8_40 sh_30 fk_30_3 (by decide) dX8_gather_58 ?_
  refine j_iload 4 dX8_gather_61 rfl ?_
  refine j_iconst (1 : Int32) dX8_gather_63 ki_1 ?_
  refine j_iadd dX8_gather_64 ?_
  refine j_iald sh_33 dX8_gather_65 h (fun h => ?_)
  refine j_ic_ge 96 dX8_gather_66 (by decide) h (fun h => ?_) (fun h => ?_)
  · refine j_loc [(0, .ref (ad (gm κ) (stc si))), (1, .ref (ad (gm κ) 30)), (2, .int a2), (3, .int a3)] [0, 1, 2, 3] rfl ?_
    have h := sel_r h
    have h := K0 _ h
    exact h
  · refine j_aload_n 0 dX8_gather_69 rfl rfl ?_
    refine j_getA (stc si + 1) fl_RX8_15 (st_sh hsi).1 (st_fk hsi).2.2.1 (st_lt hsi (by decide)) dX8_gather_70 ?_
    refine j_aload_n 0 dX8_gather_73 rfl rfl ?_
    refine j_getI fl_RX8_29 (st_sh hsi).1 (st_fk hsi).2.1 dX8_gather_74 ?_
    refine j_iload 5 dX8_gather_77 rfl ?_
    refine j_iast (st_sh hsi).2.1 dX8_gather_79 h (fun h => ?_)
    refine j_lW h (fun w4 h => ?_)
    refine j_aload_n 0 dX8_gather_80 rfl rfl ?_
    refine j_dup dX8_gather_81 rfl ?_
    refine j_getI fl_RX8_29 (st_sh hsi).1 (st_fk hsi).2.1 dX8_gather_82 ?_
    refine j_iconst (1 : Int32) dX8_gather_85 ki_1 ?_
    refine j_iadd dX8_gather_86 ?_
    refine j_putI fp_RX8_29 (st_sh hsi).1 (st_fk hsi).2.1 dX8_gather_87 ?_
    refine j_lW h (fun w5 h => ?_)
    refine j_iinc (s.1 + (1 : Int32)) 5 [(5, .int (s.1 + (1 : Int32))), (0, .ref (ad (gm κ) (stc si))), (1, .ref (ad (gm κ) 30)), (2, .int a2), (3, .int a3), (4, .int a4)] dX8_gather_90 rfl (by rw [kn_1]) (by decide) rfl ?_
    refine j_goto 55 dX8_gather_93 (by decide) ?_
    refine j_loc [(0, .ref (ad (gm κ) (stc si))), (1, .ref (ad (gm κ) 30)), (2, .int a2), (3, .int a3), (4, .int a4), (5, .int (s.1 + (1 : Int32)))] [1, 2, 3, 4, 5, 0] rfl ?_
    have h := sel_l h
    exact h
noncomputable def X8_gather_b21 (si : Nat) (a2 : Int32) (s : (Int32 × Wd)) : Option ((Int32 × Wd) ⊕ Wd) :=
(if (s.2.1 30 0) ≤ s.1 then
some (.inr s.2)
else
gd (vp_in s.1 5) <|
(if ((a2 >>> ((s.2.1 34 (ix s.1)) &&& 31)) &&& (1 : Int32)) = 0 then
X8_gather_j96 si a2 s.1 s.2
else
gd (vp_in (s.2.1 34 (ix s.1)) 6) <|
(some (s.2.1 33 (ix (s.2.1 34 (ix s.1))))).bind fun z3 =>
(lp (X8_gather_b55 si a2 s.1 (s.2.1 34 (ix s.1))) (z3, s.2)).bind fun e6 =>
X8_gather_j96 si a2 s.1 e6))
set_option maxRecDepth 20000 in
set_option maxHeartbeats 1000000 in
theorem t_X8_gather_b21 {κ : Kx} (si : Nat) (hsi : si < 4) (a2 : Int32) {P : Wd → Prop} (K0 : ∀ e, P e → J κ RX8 cX8_gather 6 none (rmk 1 26) 102 [(0, .ref (ad (gm κ) (stc si))), (1, .ref (ad (gm κ) 30))] [] e) (s : (Int32 × Wd)) (h : ok (lp (X8_gather_b21 si a2) s) P) : J κ RX8 cX8_gather 6 none (rmk 1 26) 21 [(0, .ref (ad (gm κ) (stc si))), (1, .ref (ad (gm κ) 30)), (2, .int a2), (3, .int s.1)] [] s.2 := by
  refine lp_ind (fun s => J κ RX8 cX8_gather 6 none (rmk 1 26) 21 [(0, .ref (ad (gm κ) (stc si))), (1, .ref (ad (gm κ) 30)), (2, .int a2), (3, .int s.1)] [] s.2) (fun s h => ?_) s h
  unfold X8_gather_b21 at h
  refine j_iload_n 3 dX8_gather_21 rfl rfl ?_
  refine j_aload_n 1 dX8_gather_22 rfl rfl ?_
  refine j_getI fl_RX8_32 sh_30 fk_30_0 dX8_gather_23 ?_
  refine j_ic_ge 102 dX8_gather_26 (by decide) h (fun h => ?_) (fun h => ?_)
  · refine j_loc [(0, .ref (ad (gm κ) (stc si))), (1, .ref (ad (gm κ) 30))] [0, 1] rfl ?_
    have h := sel_r h
    have h := K0 _ h
    exact h
  · refine j_aload_n 1 dX8_gather_29 rfl rfl ?_
    refine j_getA 34 fl_RX8_37 sh_30 fk_30_4 (by decide) dX8_gather_30 ?_
    refine j_iload_n 3 dX8_gather_33 rfl rfl ?_
    refine j_iald sh_34 dX8_gather_34 h (fun h => ?_)
    refine j_istore [(4, .int (s.2.1 34 (ix s.1))), (0, .ref (ad (gm κ) (stc si))), (1, .ref (ad (gm κ) 30)), (2, .int a2), (3, .int s.1)] dX8_gather_35 (by decide) rfl ?_
    refine j_iload_n 3 dX8_gather_37 rfl rfl ?_
    refine j_iload 0 dX8_gather_38 rfl ?_
    refine j_ishr dX8_gather_40 ?_
    refine j_iconst (1 : Int32) dX8_gather_41 ki_1 ?_
    refine j_iand dX8_gather_42 ?_
    refine j_if_eq 96 dX8_gather_43 (by decide) h (fun h => ?_) (fun h => ?_)
    · refine j_loc [(0, .ref (ad (gm κ) (stc si))), (1, .ref (ad (gm κ) 30)), (2, .int a2), (3, .int s.1)] [1, 2, 3, 4] rfl ?_
      exact t_X8_gather_j96 si hsi a2 s.1 s.2 (fun _ h => h) K0 h
    · refine j_aload_n 2 dX8_gather_46 rfl rfl ?_
      refine j_getA 33 fl_RX8_40 sh_30 fk_30_3 (by decide) dX8_gather_47 ?_
      refine j_iload 0 dX8_gather_50 rfl ?_
      refine j_iald sh_33 dX8_gather_52 h (fun h => ?_)
      refine j_lI h (fun z3 h => ?_)
      refine j_istore [(5, .int z3), (4, .int (s.2.1 34 (ix s.1))), (0, .ref (ad (gm κ) (stc si))), (1, .ref (ad (gm κ) 30)), (2, .int a2), (3, .int s.1)] dX8_gather_53 (by decide) rfl ?_
      refine j_loc [(0, .ref (ad (gm κ) (stc si))), (1, .ref (ad (gm κ) 30)), (2, .int a2), (3, .int s.1), (4, .int (s.2.1 34 (ix s.1))), (5, .int z3)] [2, 3, 4, 5, 1, 0] rfl ?_
      refine t_X8_gather_b55 si hsi a2 s.1 (s.2.1 34 (ix s.1)) (fun e6 h => ?_) (z3, s.2) (ok_bb h)
      · refine j_loc [(0, .ref (ad (gm κ) (stc si))), (1, .ref (ad (gm κ) 30)), (2, .int a2), (3, .int s.1)] [0, 1, 2, 3] rfl ?_
        exact t_X8_gather_j96 si hsi a2 s.1 e6 (fun _ h => h) K0 h
noncomputable def X8_gather (si : Nat) (a2 : Int32) (w : Wd) : Option (Wd) :=
(if a2 = (w.1 (stc si) 0) then
some w
else
(some (puI w (stc si) 0 a2)).bind fun w1 =>
(some (puI w1 (stc si) 1 (0 : Int32))).bind fun w2 =>
(lp (X8_gather_b21 si a2) ((0 : Int32), w2)).bind fun e7 =>
(X8_strike si e7).bind fun q8 =>
(X8_listen si q8).bind fun q10 =>
some q10)
set_option maxRecDepth 20000 in
set_option maxHeartbeats 1000000 in
theorem t_X8_gather {κ : Kx} (si : Nat) (hsi : si < 4) (a2 : Int32) (w : Wd) (h : ok (X8_gather si a2 w) (PVw κ)) : J κ RX8 cX8_gather 6 none (rmk 1 26) 0 [(0, .ref (ad (gm κ) (stc si))), (1, .ref (ad (gm κ) 30)), (2, .int a2)] [] w := by
  unfold X8_gather at h
  refine j_iload_n 2 dX8_gather_0 rfl rfl ?_
  refine j_aload_n 0 dX8_gather_1 rfl rfl ?_
  refine j_getI fl_RX8_9 (st_sh hsi).1 (st_fk hsi).1 dX8_gather_2 ?_
  refine j_ic_ne 9 dX8_gather_5 (by decide) h (fun h => ?_) (fun h => ?_)
  · refine j_aload_n 0 dX8_gather_9 rfl rfl ?_
    refine j_iload_n 2 dX8_gather_10 rfl rfl ?_
    refine j_putI fp_RX8_9 (st_sh hsi).1 (st_fk hsi).1 dX8_gather_11 ?_
    refine j_lW h (fun w1 h => ?_)
    refine j_aload_n 0 dX8_gather_14 rfl rfl ?_
    refine j_iconst (0 : Int32) dX8_gather_15 ki_0 ?_
    refine j_putI fp_RX8_29 (st_sh hsi).1 (st_fk hsi).2.1 dX8_gather_16 ?_
    refine j_lW h (fun w2 h => ?_)
    refine j_iconst (0 : Int32) dX8_gather_19 ki_0 ?_
    refine j_istore_n [(3, .int (0 : Int32)), (0, .ref (ad (gm κ) (stc si))), (1, .ref (ad (gm κ) 30)), (2, .int a2)] dX8_gather_20 rfl (by decide) rfl ?_
    refine j_loc [(0, .ref (ad (gm κ) (stc si))), (1, .ref (ad (gm κ) 30)), (2, .int a2), (3, .int (0 : Int32))] [1, 2, 3, 0] rfl ?_
    refine t_X8_gather_b21 si hsi a2 (fun e7 h => ?_) ((0 : Int32), w2) (ok_bb h)
    · refine j_aload_n 0 dX8_gather_102 rfl rfl ?_
      refine j_aload_n 1 dX8_gather_103 rfl rfl ?_
      obtain ⟨q8, e9, h⟩ := ok_b h
      refine j_callV (As := [.ref (ad (gm κ) 30)]) (st := []) [] (c_X8_strike (kl κ) (gm κ) (kA κ) si hsi e7 q8 e9) ck_RX8_43 im_X8_strike se_X8_strike (st_sh hsi).1 cx_8 ⟨rfl, rfl⟩ ⟨by decide, by decide⟩ rfl rfl (Nat.le_of_ble_eq_true rfl) dX8_gather_104 _ rfl ?_
      refine j_aload_n 0 dX8_gather_107 rfl rfl ?_
      refine j_aload_n 1 dX8_gather_108 rfl rfl ?_
      obtain ⟨q10, e11, h⟩ := ok_b h
      refine j_callV (As := [.ref (ad (gm κ) 30)]) (st := []) [] (c_X8_listen (kl κ) (gm κ) (kA κ) si hsi q8 q10 e11) ck_RX8_47 im_X8_listen se_X8_listen (st_sh hsi).1 cx_8 ⟨rfl, rfl⟩ ⟨by decide, by decide⟩ rfl rfl (Nat.le_of_ble_eq_true rfl) dX8_gather_109 _ rfl ?_
      have h := ok_s h
      exact j_vret dX8_gather_112 rfl h
  · have h := ok_s h
    exact j_vret dX8_gather_8 rfl h
theorem c_X8_gather (l : Launch) (γ : Gm) (A : Nat → Prop) (si : Nat) (hsi : si < 4) (a2 : Int32) (w : Wd) (q : Wd) (e : X8_gather si a2 w = some q) : MetG l γ A yX8_gather cX8_gather 6 none (rmk 1 26) [.ref (ad (γ) (stc si)), .ref (ad (γ) 30), .int a2] w none q := by
  refine met_of pn_RX8 (Nat.le_of_ble_eq_true rfl) ?_
  intro κ hl hγ hA hρ
  subst hl; subst hγ; subst hA
  exact t_X8_gather si hsi a2 w ⟨q, e, pVw hρ rfl rfl⟩
theorem dX0_standingIn_0 : decode cX0_standingIn 0 = .ok (.iconst 0, 1) := by decide +kernel
theorem dX0_standingIn_1 : decode cX0_standingIn 1 = .ok (.istore_n 3, 1) := by decide +kernel
theorem dX0_standingIn_2 : decode cX0_standingIn 2 = .ok (.iconst 0, 1) := by decide +kernel
theorem dX0_standingIn_3 : decode cX0_standingIn 3 = .ok (.istore 4, 2) := by decide +kernel
theorem dX0_standingIn_5 : decode cX0_standingIn 5 = .ok (.iload 4, 2) := by decide +kernel
theorem dX0_standingIn_7 : decode cX0_standingIn 7 = .ok (.aload_n 0, 1) := by decide +kernel
theorem dX0_standingIn_8 : decode cX0_standingIn 8 = .ok (.getfield 69, 3) := by decide +kernel
theorem dX0_standingIn_11 : decode cX0_standingIn 11 = .ok (.if_icmp .ge 41, 3) := by decide +kernel
theorem dX0_standingIn_14 : decode cX0_standingIn 14 = .ok (.aload_n 0, 1) := by decide +kernel
theorem dX0_standingIn_15 : decode cX0_standingIn 15 = .ok (.getfield 11, 3) := by decide +kernel
theorem dX0_standingIn_18 : decode cX0_standingIn 18 = .ok (.iload 4, 2) := by decide +kernel
theorem dX0_standingIn_20 : decode cX0_standingIn 20 = .ok (.iaload, 1) := by decide +kernel
theorem dX0_standingIn_21 : decode cX0_standingIn 21 = .ok (.iload_n 2, 1) := by decide +kernel
theorem dX0_standingIn_22 : decode cX0_standingIn 22 = .ok (.if_icmp .gt 24, 3) := by decide +kernel
theorem dX0_standingIn_25 : decode cX0_standingIn 25 = .ok (.aload_n 0, 1) := by decide +kernel
theorem dX0_standingIn_26 : decode cX0_standingIn 26 = .ok (.getfield 15, 3) := by decide +kernel
theorem dX0_standingIn_29 : decode cX0_standingIn 29 = .ok (.iload 4, 2) := by decide +kernel
theorem dX0_standingIn_31 : decode cX0_standingIn 31 = .ok (.iaload, 1) := by decide +kernel
theorem dX0_standingIn_32 : decode cX0_standingIn 32 = .ok (.iload_n 1, 1) := by decide +kernel
theorem dX0_standingIn_33 : decode cX0_standingIn 33 = .ok (.ishr, 1) := by decide +kernel
theorem dX0_standingIn_34 : decode cX0_standingIn 34 = .ok (.iconst 1, 1) := by decide +kernel
theorem dX0_standingIn_35 : decode cX0_standingIn 35 = .ok (.iand, 1) := by decide +kernel
theorem dX0_standingIn_36 : decode cX0_standingIn 36 = .ok (.ifCond .eq 10, 3) := by decide +kernel
theorem dX0_standingIn_39 : decode cX0_standingIn 39 = .ok (.iload_n 3, 1) := by decide +kernel
theorem dX0_standingIn_40 : decode cX0_standingIn 40 = .ok (.iconst 1, 1) := by decide +kernel
theorem dX0_standingIn_41 : decode cX0_standingIn 41 = .ok (.iload 4, 2) := by decide +kernel
theorem dX0_standingIn_43 : decode cX0_standingIn 43 = .ok (.ishl, 1) := by decide +kernel
theorem dX0_standingIn_44 : decode cX0_standingIn 44 = .ok (.ior, 1) := by decide +kernel
theorem dX0_standingIn_45 : decode cX0_standingIn 45 = .ok (.istore_n 3, 1) := by decide +kernel
theorem dX0_standingIn_46 : decode cX0_standingIn 46 = .ok (.iinc 4 1, 3) := by decide +kernel
theorem dX0_standingIn_49 : decode cX0_standingIn 49 = .ok (.goto (-44), 3) := by decide +kernel
theorem dX0_standingIn_52 : decode cX0_standingIn 52 = .ok (.aload_n 0, 1) := by decide +kernel
theorem dX0_standingIn_53 : decode cX0_standingIn 53 = .ok (.getfield 51, 3) := by decide +kernel
theorem dX0_standingIn_56 : decode cX0_standingIn 56 = .ok (.iload_n 1, 1) := by decide +kernel
theorem dX0_standingIn_57 : decode cX0_standingIn 57 = .ok (.aaload, 1) := by decide +kernel
theorem dX0_standingIn_58 : decode cX0_standingIn 58 = .ok (.aload_n 0, 1) := by decide +kernel
theorem dX0_standingIn_59 : decode cX0_standingIn 59 = .ok (.iload_n 3, 1) := by decide +kernel
theorem dX0_standingIn_60 : decode cX0_standingIn 60 = .ok (.invokevirtual 84, 3) := by decide +kernel
theorem dX0_standingIn_63 : decode cX0_standingIn 63 = .ok (.aload_n 0, 1) := by decide +kernel
theorem dX0_standingIn_64 : decode cX0_standingIn 64 = .ok (.getfield 51, 3) := by decide +kernel
theorem dX0_standingIn_67 : decode cX0_standingIn 67 = .ok (.iload_n 1, 1) := by decide +kernel
theorem dX0_standingIn_68 : decode cX0_standingIn 68 = .ok (.aaload, 1) := by decide +kernel
theorem dX0_standingIn_69 : decode cX0_standingIn 69 = .ok (.areturn, 1) := by decide +kernel
noncomputable def X0_standingIn_j46 (a1 : Int32) (a2 : Int32) (a3 : Int32) (a4 : Int32) (w : Wd) : Option ((Int32 × Int32) ⊕ Int32) :=
some (.inl (a3, (a4 + (1 : Int32))))
set_option maxRecDepth 20000 in
set_option maxHeartbeats 1000000 in
theorem t_X0_standingIn_j46 {κ : Kx} (a1 : Int32) (a2 : Int32) (a3 : Int32) (a4 : Int32) (w : Wd) {G : (Int32 × Int32) → Prop} {P : Int32 → Prop} (KG : ∀ s, G s → J κ RX0 cX0_standingIn 5 (some (.object "LampYear$Standing")) (rmk 2 51) 5 [(0, .ref (ad (gm κ) 30)), (1, .int a1), (2, .int a2), (3, .int s.1), (4, .int s.2)] [] w) (K0 : ∀ e, P e → J κ RX0 cX0_standingIn 5 (some (.object "LampYear$Standing")) (rmk 2 51) 52 [(0, .ref (ad (gm κ) 30)), (1, .int a1), (3, .int e)] [] w) (h : ok (X0_standingIn_j46  a1 a2 a3 a4 w) (sel G P)) : J κ RX0 cX0_standingIn 5 (some (.object "LampYear$Standing")) (rmk 2 51) 46 [(0, .ref (ad (gm κ) 30)), (1, .int a1), (2, .int a2), (3, .int a3), (4, .int a4)] [] w := by
  unfold X0_standingIn_j46 at h
  refine j_iinc (a4 + (1 : Int32)) 4 [(4, .int (a4 + (1 : Int32))), (0, .ref (ad (gm κ) 30)), (1, .int a1), (2, .int a2), (3, .int a3)] dX0_standingIn_46 rfl (by rw [kn_1]) (by decide) rfl ?_
  refine j_goto 5 dX0_standingIn_49 (by decide) ?_
  refine j_loc [(0, .ref (ad (gm κ) 30)), (1, .int a1), (2, .int a2), (3, .int a3), (4, .int (a4 + (1 : Int32)))] [1, 2, 3, 4, 0] rfl ?_
  have h := sel_l h
  have h := KG _ h
  exact h
noncomputable def X0_standingIn_b5 (a1 : Int32) (a2 : Int32) (w : Wd) (s : (Int32 × Int32)) : Option ((Int32 × Int32) ⊕ Int32) :=
(if (w.1 30 0) ≤ s.2 then
some (.inr s.1)
else
gd (vp_in s.2 5) <|
(if a2 < (w.1 31 (ix s.2)) then
X0_standingIn_j46 a1 a2 s.1 s.2 w
else
gd (vp_in s.2 5) <|
(if (((w.1 32 (ix s.2)) >>> (a1 &&& 31)) &&& (1 : Int32)) = 0 then
X0_standingIn_j46 a1 a2 s.1 s.2 w
else
(some (s.1 ||| ((1 : Int32) <<< (s.2 &&& 31)))).bind fun z1 =>
X0_standingIn_j46 a1 a2 z1 s.2 w)))
set_option maxRecDepth 20000 in
set_option maxHeartbeats 1000000 in
theorem t_X0_standingIn_b5 {κ : Kx} (a1 : Int32) (a2 : Int32) (w : Wd) {P : Int32 → Prop} (K0 : ∀ e, P e → J κ RX0 cX0_standingIn 5 (some (.object "LampYear$Standing")) (rmk 2 51) 52 [(0, .ref (ad (gm κ) 30)), (1, .int a1), (3, .int e)] [] w) (s : (Int32 × Int32)) (h : ok (lp (X0_standingIn_b5  a1 a2 w) s) P) : J κ RX0 cX0_standingIn 5 (some (.object "LampYear$Standing")) (rmk 2 51) 5 [(0, .ref (ad (gm κ) 30)), (1, .int a1), (2, .int a2), (3, .int s.1), (4, .int s.2)] [] w := by
  refine lp_ind (fun s => J κ RX0 cX0_standingIn 5 (some (.object "LampYear$Standing")) (rmk 2 51) 5 [(0, .ref (ad (gm κ) 30)), (1, .int a1), (2, .int a2), (3, .int s.1), (4, .int s.2)] [] w) (fun s h => ?_) s h
  unfold X0_standingIn_b5 at h
  refine j_iload 4 dX0_standingIn_5 rfl ?_
  refine j_aload_n 0 dX0_standingIn_7 rfl rfl ?_
  refine j_getI fl_RX0_69 sh_30 fk_30_0 dX0_standingIn_8 ?_
  refine j_ic_ge 52 dX0_standingIn_11 (by decide) h (fun h => ?_) (fun h => ?_)
  · refine j_loc [(0, .ref (ad (gm κ) 30)), (1, .int a1), (3, .int s.1)] [0, 1, 3] rfl ?_
    have h := sel_r h
    have h := K0 _ h
    exact h
  · refine j_aload_n 0 dX0_standingIn_14 rfl rfl ?_
    refine j_getA 31 fl_RX0_11 sh_30 fk_30_1 (by decide) dX0_standingIn_15 ?_
    refine j_iload 4 dX0_standingIn_18 rfl ?_
    refine j_iald sh_31 dX0_standingIn_20 h (fun h => ?_)
    refine j_iload_n 2 dX0_standingIn_21 rfl rfl ?_
    refine j_ic_gt 46 dX0_standingIn_22 (by decide) h (fun h => ?_) (fun h => ?_)
    · refine j_loc [(0, .ref (ad (gm κ) 30)), (1, .int a1), (2, .int a2), (3, .int s.1), (4, .int s.2)] [0, 1, 2, 3, 4] rfl ?_
      exact t_X0_standingIn_j46 a1 a2 s.1 s.2 w (fun _ h => h) K0 h
    · refine j_aload_n 0 dX0_standingIn_25 rfl rfl ?_
      refine j_getA 32 fl_RX0_15 sh_30 fk_30_2 (by decide) dX0_standingIn_26 ?_
      refine j_iload 4 dX0_standingIn_29 rfl ?_
      refine j_iald sh_32 dX0_standingIn_31 h (fun h => ?_)
      refine j_iload_n 1 dX0_standingIn_32 rfl rfl ?_
      refine j_ishr dX0_standingIn_33 ?_
      refine j_iconst (1 : Int32) dX0_standingIn_34 ki_1 ?_
      refine j_iand dX0_standingIn_35 ?_
      refine j_if_eq 46 dX0_standingIn_36 (by decide) h (fun h => ?_) (fun h => ?_)
      · refine j_loc [(0, .ref (ad (gm κ) 30)), (1, .int a1), (2, .int a2), (3, .int s.1), (4, .int s.2)] [0, 1, 2, 3, 4] rfl ?_
        exact t_X0_standingIn_j46 a1 a2 s.1 s.2 w (fun _ h => h) K0 h
      · refine j_iload_n 3 dX0_standingIn_39 rfl rfl ?_
        refine j_iconst (1 : Int32) dX0_standingIn_40 ki_1 ?_
        refine j_iload 4 dX0_standingIn_41 rfl ?_
        refine j_ishl dX0_standingIn_43 ?_
        refine j_ior dX0_standingIn_44 ?_
        refine j_lI h (fun z1 h => ?_)
        refine j_istore_n [(3, .int z1), (0, .ref (ad (gm κ) 30)), (1, .int a1), (2, .int a2), (4, .int s.2)] dX0_standingIn_45 rfl (by decide) rfl ?_
        refine j_loc [(0, .ref (ad (gm κ) 30)), (1, .int a1), (2, .int a2), (3, .int z1), (4, .int s.2)] [1, 2, 3, 0, 4] rfl ?_
        exact t_X0_standingIn_j46 a1 a2 z1 s.2 w (fun _ h => h) K0 h
noncomputable def X0_standingIn (a1 : Int32) (a2 : Int32) (w : Wd) : Option (Nat × Wd) :=
(lp (X0_standingIn_b5 a1 a2 w) ((0 : Int32), (0 : Int32))).bind fun e2 =>
gd (vp_in a1 4) <|
gd (ix a1 < 4) <|
(X8_gather (ix a1) e2 w).bind fun q4 =>
gd (vp_in a1 4) <|
gd (ix a1 < 4) <|
some ((ix a1), q4)
set_option maxRecDepth 20000 in
set_option maxHeartbeats 1000000 in
theorem t_X0_standingIn {κ : Kx} (a1 : Int32) (a2 : Int32) (w : Wd) (h : ok (X0_standingIn  a1 a2 w) (PSw κ)) : J κ RX0 cX0_standingIn 5 (some (.object "LampYear$Standing")) (rmk 2 51) 0 [(0, .ref (ad (gm κ) 30)), (1, .int a1), (2, .int a2)] [] w := by
  unfold X0_standingIn at h
  refine j_iconst (0 : Int32) dX0_standingIn_0 ki_0 ?_
  refine j_istore_n [(3, .int (0 : Int32)), (0, .ref (ad (gm κ) 30)), (1, .int a1), (2, .int a2)] dX0_standingIn_1 rfl (by decide) rfl ?_
  refine j_iconst (0 : Int32) dX0_standingIn_2 ki_0 ?_
  refine j_istore [(4, .int (0 : Int32)), (3, .int (0 : Int32)), (0, .ref (ad (gm κ) 30)), (1, .int a1), (2, .int a2)] dX0_standingIn_3 (by decide) rfl ?_
  refine j_loc [(0, .ref (ad (gm κ) 30)), (1, .int a1), (2, .int a2), (3, .int (0 : Int32)), (4, .int (0 : Int32))] [2, 3, 4, 1, 0] rfl ?_
  refine t_X0_standingIn_b5 a1 a2 w (fun e2 h => ?_) ((0 : Int32), (0 : Int32)) (ok_bb h)
  · refine j_aload_n 0 dX0_standingIn_52 rfl rfl ?_
    refine j_getA 43 fl_RX0_51 sh_30 fk_30_16 (by decide) dX0_standingIn_53 ?_
    refine j_iload_n 1 dX0_standingIn_56 rfl rfl ?_
    refine j_aald sh_43 dX0_standingIn_57 h (fun h => ?_)
    obtain ⟨h3, h⟩ := ok_g h
    refine j_aload_n 0 dX0_standingIn_58 rfl rfl ?_
    refine j_iload_n 2 dX0_standingIn_59 rfl rfl ?_
    obtain ⟨q4, e5, h⟩ := ok_b h
    refine j_callV (As := [.ref (ad (gm κ) 30), .int e2]) (st := []) [] (c_X8_gather (kl κ) (gm κ) (kA κ) (ix a1) h3 e2 w q4 e5) ck_RX0_84 im_X8_gather se_X8_gather (st_sh h3).1 cx_8 ⟨rfl, rfl⟩ ⟨by decide, by decide⟩ rfl rfl (Nat.le_of_ble_eq_true rfl) dX0_standingIn_60 _ rfl ?_
    refine j_aload_n 0 dX0_standingIn_63 rfl rfl ?_
    refine j_getA 43 fl_RX0_51 sh_30 fk_30_16 (by decide) dX0_standingIn_64 ?_
    refine j_iload_n 1 dX0_standingIn_67 rfl rfl ?_
    refine j_aald sh_43 dX0_standingIn_68 h (fun h => ?_)
    obtain ⟨h6, h⟩ := ok_g h
    have h := ok_s h
    exact j_aret dX0_standingIn_69 rfl h
theorem c_X0_standingIn (l : Launch) (γ : Gm) (A : Nat → Prop) (a1 : Int32) (a2 : Int32) (w : Wd) (q : Nat × Wd) (e : X0_standingIn  a1 a2 w = some q) : MetG l γ A yX0_standingIn cX0_standingIn 5 (some (.object "LampYear$Standing")) (rmk 2 51) [.ref (ad (γ) 30), .int a1, .int a2] w (some (.ref (ad γ (stc q.1)))) q.2 := by
  refine met_of pn_RX0 (Nat.le_of_ble_eq_true rfl) ?_
  intro κ hl hγ hA hρ
  subst hl; subst hγ; subst hA
  exact t_X0_standingIn   a1 a2 w ⟨q, e, pSw hρ rfl rfl⟩
theorem dX0_reckon_0 : decode cX0_reckon 0 = .ok (.iload_n 0, 1) := by decide +kernel
theorem dX0_reckon_1 : decode cX0_reckon 1 = .ok (.lookupswitch 141 #[(42, 83), (43, 75), (45, 79), (47, 87), (60, 101), (61, 125), (62, 113), (108, 137)], 75) := by decide +kernel
theorem dX0_reckon_76 : decode cX0_reckon 76 = .ok (.lload_n 1, 1) := by decide +kernel
theorem dX0_reckon_77 : decode cX0_reckon 77 = .ok (.lload_n 3, 1) := by decide +kernel
theorem dX0_reckon_78 : decode cX0_reckon 78 = .ok (.ladd, 1) := by decide +kernel
theorem dX0_reckon_79 : decode cX0_reckon 79 = .ok (.lreturn, 1) := by decide +kernel
theorem dX0_reckon_80 : decode cX0_reckon 80 = .ok (.lload_n 1, 1) := by decide +kernel
theorem dX0_reckon_81 : decode cX0_reckon 81 = .ok (.lload_n 3, 1) := by decide +kernel
theorem dX0_reckon_82 : decode cX0_reckon 82 = .ok (.lsub, 1) := by decide +kernel
theorem dX0_reckon_83 : decode cX0_reckon 83 = .ok (.lreturn, 1) := by decide +kernel
theorem dX0_reckon_84 : decode cX0_reckon 84 = .ok (.lload_n 1, 1) := by decide +kernel
theorem dX0_reckon_85 : decode cX0_reckon 85 = .ok (.lload_n 3, 1) := by decide +kernel
theorem dX0_reckon_86 : decode cX0_reckon 86 = .ok (.lmul, 1) := by decide +kernel
theorem dX0_reckon_87 : decode cX0_reckon 87 = .ok (.lreturn, 1) := by decide +kernel
theorem dX0_reckon_88 : decode cX0_reckon 88 = .ok (.lload_n 3, 1) := by decide +kernel
theorem dX0_reckon_89 : decode cX0_reckon 89 = .ok (.lconst 0, 1) := by decide +kernel
theorem dX0_reckon_90 : decode cX0_reckon 90 = .ok (.lcmp, 1) := by decide +kernel
theorem dX0_reckon_91 : decode cX0_reckon 91 = .ok (.ifCond .ne 7, 3) := by decide +kernel
theorem dX0_reckon_94 : decode cX0_reckon 94 = .ok (.lconst 0, 1) := by decide +kernel
theorem dX0_reckon_95 : decode cX0_reckon 95 = .ok (.goto 6, 3) := by decide +kernel
theorem dX0_reckon_98 : decode cX0_reckon 98 = .ok (.lload_n 1, 1) := by decide +kernel
theorem dX0_reckon_99 : decode cX0_reckon 99 = .ok (.lload_n 3, 1) := by decide +kernel
theorem dX0_reckon_100 : decode cX0_reckon 100 = .ok (.ldiv, 1) := by decide +kernel
theorem dX0_reckon_101 : decode cX0_reckon 101 = .ok (.lreturn, 1) := by decide +kernel
theorem dX0_reckon_102 : decode cX0_reckon 102 = .ok (.lload_n 1, 1) := by decide +kernel
theorem dX0_reckon_103 : decode cX0_reckon 103 = .ok (.lload_n 3, 1) := by decide +kernel
theorem dX0_reckon_104 : decode cX0_reckon 104 = .ok (.lcmp, 1) := by decide +kernel
theorem dX0_reckon_105 : decode cX0_reckon 105 = .ok (.ifCond .ge 7, 3) := by decide +kernel
theorem dX0_reckon_108 : decode cX0_reckon 108 = .ok (.lconst 1, 1) := by decide +kernel
theorem dX0_reckon_109 : decode cX0_reckon 109 = .ok (.goto 4, 3) := by decide +kernel
theorem dX0_reckon_112 : decode cX0_reckon 112 = .ok (.lconst 0, 1) := by decide +kernel
theorem dX0_reckon_113 : decode cX0_reckon 113 = .ok (.lreturn, 1) := by decide +kernel
theorem dX0_reckon_114 : decode cX0_reckon 114 = .ok (.lload_n 1, 1) := by decide +kernel
theorem dX0_reckon_115 : decode cX0_reckon 115 = .ok (.lload_n 3, 1) := by decide +kernel
theorem dX0_reckon_116 : decode cX0_reckon 116 = .ok (.lcmp, 1) := by decide +kernel
theorem dX0_reckon_117 : decode cX0_reckon 117 = .ok (.ifCond .le 7, 3) := by decide +kernel
theorem dX0_reckon_120 : decode cX0_reckon 120 = .ok (.lconst 1, 1) := by decide +kernel
theorem dX0_reckon_121 : decode cX0_reckon 121 = .ok (.goto 4, 3) := by decide +kernel
theorem dX0_reckon_124 : decode cX0_reckon 124 = .ok (.lconst 0, 1) := by decide +kernel
theorem dX0_reckon_125 : decode cX0_reckon 125 = .ok (.lreturn, 1) := by decide +kernel
theorem dX0_reckon_126 : decode cX0_reckon 126 = .ok (.lload_n 1, 1) := by decide +kernel
theorem dX0_reckon_127 : decode cX0_reckon 127 = .ok (.lload_n 3, 1) := by decide +kernel
theorem dX0_reckon_128 : decode cX0_reckon 128 = .ok (.lcmp, 1) := by decide +kernel
theorem dX0_reckon_129 : decode cX0_reckon 129 = .ok (.ifCond .ne 7, 3) := by decide +kernel
theorem dX0_reckon_132 : decode cX0_reckon 132 = .ok (.lconst 1, 1) := by decide +kernel
theorem dX0_reckon_133 : decode cX0_reckon 133 = .ok (.goto 4, 3) := by decide +kernel
theorem dX0_reckon_136 : decode cX0_reckon 136 = .ok (.lconst 0, 1) := by decide +kernel
theorem dX0_reckon_137 : decode cX0_reckon 137 = .ok (.lreturn, 1) := by decide +kernel
theorem dX0_reckon_138 : decode cX0_reckon 138 = .ok (.lload_n 1, 1) := by decide +kernel
theorem dX0_reckon_139 : decode cX0_reckon 139 = .ok (.lload_n 3, 1) := by decide +kernel
theorem dX0_reckon_140 : decode cX0_reckon 140 = .ok (.land, 1) := by decide +kernel
theorem dX0_reckon_141 : decode cX0_reckon 141 = .ok (.lreturn, 1) := by decide +kernel
theorem dX0_reckon_142 : decode cX0_reckon 142 = .ok (.lload_n 1, 1) := by decide +kernel
theorem dX0_reckon_143 : decode cX0_reckon 143 = .ok (.lload_n 3, 1) := by decide +kernel
theorem dX0_reckon_144 : decode cX0_reckon 144 = .ok (.lor, 1) := by decide +kernel
theorem dX0_reckon_145 : decode cX0_reckon 145 = .ok (.lreturn, 1) := by decide +kernel
noncomputable def X0_reckon (a0 : Int32) (a1 : Int64) (a3 : Int64) (w : Wd) : Option (Int64) :=
(if a0 = (42 : Int32) then
some (a1 * a3)
else
(if a0 = (43 : Int32) then
some (a1 + a3)
else
(if a0 = (45 : Int32) then
some (a1 - a3)
else
(if a0 = (47 : Int32) then
(if (lg_cmp a3 (0 : Int64)) = 0 then
some (0 : Int64)
else
gd (¬ a3 = 0) <|
some (a1 / a3))
else
(if a0 = (60 : Int32) then
(if 0 ≤ (lg_cmp a1 a3) then
some (0 : Int64)
else
some (1 : Int64))
else
(if a0 = (61 : Int32) then
(if (lg_cmp a1 a3) = 0 then
some (1 : Int64)
else
some (0 : Int64))
else
(if a0 = (62 : Int32) then
(if (lg_cmp a1 a3) ≤ 0 then
some (0 : Int64)
else
some (1 : Int64))
else
(if a0 = (108 : Int32) then
some (a1 &&& a3)
else
some (a1 ||| a3)))))))))
set_option maxRecDepth 20000 in
set_option maxHeartbeats 1000000 in
theorem t_X0_reckon {κ : Kx} (a0 : Int32) (a1 : Int64) (a3 : Int64) (w : Wd) (h : ok (X0_reckon  a0 a1 a3 w) (PJ κ w)) : J κ RX0 cX0_reckon 5 (some .long) (rmk 0 0) 0 [(0, .int a0), (1, .long a1), (3, .long a3)] [] w := by
  unfold X0_reckon at h
  refine j_iload_n 0 dX0_reckon_0 rfl rfl ?_
  refine j_cs (42 : Int32) h (fun h => ?_) (fun n0 h => ?_)
  · refine j_lk (off := 83) 84 dX0_reckon_1 (by decide +kernel) (by decide +kernel) (by decide) ?_
    refine j_lload_n 1 dX0_reckon_84 rfl rfl ?_
    refine j_lload_n 2 dX0_reckon_85 rfl rfl ?_
    refine j_lmul dX0_reckon_86 ?_
    have h := ok_s h
    exact j_lret dX0_reckon_87 rfl h
  refine j_cs (43 : Int32) h (fun h => ?_) (fun n1 h => ?_)
  · refine j_lk (off := 75) 76 dX0_reckon_1 (by decide +kernel) (by decide +kernel) (by decide) ?_
    refine j_lload_n 1 dX0_reckon_76 rfl rfl ?_
    refine j_lload_n 2 dX0_reckon_77 rfl rfl ?_
    refine j_ladd dX0_reckon_78 ?_
    have h := ok_s h
    exact j_lret dX0_reckon_79 rfl h
  refine j_cs (45 : Int32) h (fun h => ?_) (fun n2 h => ?_)
  · refine j_lk (off := 79) 80 dX0_reckon_1 (by decide +kernel) (by decide +kernel) (by decide) ?_
    refine j_lload_n 1 dX0_reckon_80 rfl rfl ?_
    refine j_lload_n 2 dX0_reckon_81 rfl rfl ?_
    refine j_lsub dX0_reckon_82 ?_
    have h := ok_s h
    exact j_lret dX0_reckon_83 rfl h
  refine j_cs (47 : Int32) h (fun h => ?_) (fun n3 h => ?_)
  · refine j_lk (off := 87) 88 dX0_reckon_1 (by decide +kernel) (by decide +kernel) (by decide) ?_
    refine j_lload_n 2 dX0_reckon_88 rfl rfl ?_
    refine j_lconst (0 : Int64) dX0_reckon_89 (by decide) ?_
    refine j_lcmp dX0_reckon_90 ?_
    refine j_if_ne 98 dX0_reckon_91 (by decide) h (fun h => ?_) (fun h => ?_)
    · refine j_lload_n 1 dX0_reckon_98 rfl rfl ?_
      refine j_lload_n 2 dX0_reckon_99 rfl rfl ?_
      obtain ⟨hz, h⟩ := ok_g h
      refine j_ldiv dX0_reckon_100 hz ?_
      have h := ok_s h
      exact j_lret dX0_reckon_101 rfl h
    · refine j_lconst (0 : Int64) dX0_reckon_94 (by decide) ?_
      refine j_goto 101 dX0_reckon_95 (by decide) ?_
      have h := ok_s h
      exact j_lret dX0_reckon_101 rfl h
  refine j_cs (60 : Int32) h (fun h => ?_) (fun n4 h => ?_)
  · refine j_lk (off := 101) 102 dX0_reckon_1 (by decide +kernel) (by decide +kernel) (by decide) ?_
    refine j_lload_n 1 dX0_reckon_102 rfl rfl ?_
    refine j_lload_n 2 dX0_reckon_103 rfl rfl ?_
    refine j_lcmp dX0_reckon_104 ?_
    refine j_if_ge 112 dX0_reckon_105 (by decide) h (fun h => ?_) (fun h => ?_)
    · refine j_lconst (0 : Int64) dX0_reckon_112 (by decide) ?_
      have h := ok_s h
      exact j_lret dX0_reckon_113 rfl h
    · refine j_lconst (1 : Int64) dX0_reckon_108 (by decide) ?_
      refine j_goto 113 dX0_reckon_109 (by decide) ?_
      have h := ok_s h
      exact j_lret dX0_reckon_113 rfl h
  refine j_cs (61 : Int32) h (fun h => ?_) (fun n5 h => ?_)
  · refine j_lk (off := 125) 126 dX0_reckon_1 (by decide +kernel) (by decide +kernel) (by decide) ?_
    refine j_lload_n 1 dX0_reckon_126 rfl rfl ?_
    refine j_lload_n 2 dX0_reckon_127 rfl rfl ?_
    refine j_lcmp dX0_reckon_128 ?_
    refine j_if_ne 136 dX0_reckon_129 (by decide) h (fun h => ?_) (fun h => ?_)
    · refine j_lconst (0 : Int64) dX0_reckon_136 (by decide) ?_
      have h := ok_s h
      exact j_lret dX0_reckon_137 rfl h
    · refine j_lconst (1 : Int64) dX0_reckon_132 (by decide) ?_
      refine j_goto 137 dX0_reckon_133 (by decide) ?_
      have h := ok_s h
      exact j_lret dX0_reckon_137 rfl h
  refine j_cs (62 : Int32) h (fun h => ?_) (fun n6 h => ?_)
  · refine j_lk (off := 113) 114 dX0_reckon_1 (by decide +kernel) (by decide +kernel) (by decide) ?_
    refine j_lload_n 1 dX0_reckon_114 rfl rfl ?_
    refine j_lload_n 2 dX0_reckon_115 rfl rfl ?_
    refine j_lcmp dX0_reckon_116 ?_
    refine j_if_le 124 dX0_reckon_117 (by decide) h (fun h => ?_) (fun h => ?_)
    · refine j_lconst (0 : Int64) dX0_reckon_124 (by decide) ?_
      have h := ok_s h
      exact j_lret dX0_reckon_125 rfl h
    · refine j_lconst (1 : Int64) dX0_reckon_120 (by decide) ?_
      refine j_goto 125 dX0_reckon_121 (by decide) ?_
      have h := ok_s h
      exact j_lret dX0_reckon_125 rfl h
  refine j_cs (108 : Int32) h (fun h => ?_) (fun n7 h => ?_)
  · refine j_lk (off := 137) 138 dX0_reckon_1 (by decide +kernel) (by decide +kernel) (by decide) ?_
    refine j_lload_n 1 dX0_reckon_138 rfl rfl ?_
    refine j_lload_n 2 dX0_reckon_139 rfl rfl ?_
    refine j_land dX0_reckon_140 ?_
    have h := ok_s h
    exact j_lret dX0_reckon_141 rfl h
  refine j_lk (off := 141) 142 dX0_reckon_1 (by decide +kernel) ?_ (by decide) ?_
  · rw [lv_osw n0 (show ((42 : Int32)).toInt = 42 by decide), lv_osw n1 (show ((43 : Int32)).toInt = 43 by decide), lv_osw n2 (show ((45 : Int32)).toInt = 45 by decide), lv_osw n3 (show ((47 : Int32)).toInt = 47 by decide), lv_osw n4 (show ((60 : Int32)).toInt = 60 by decide), lv_osw n5 (show ((61 : Int32)).toInt = 61 by decide), lv_osw n6 (show ((62 : Int32)).toInt = 62 by decide), lv_osw n7 (show ((108 : Int32)).toInt = 108 by decide)]
    rfl
  refine j_lload_n 1 dX0_reckon_142 rfl rfl ?_
  refine j_lload_n 2 dX0_reckon_143 rfl rfl ?_
  refine j_lor dX0_reckon_144 ?_
  have h := ok_s h
  exact j_lret dX0_reckon_145 rfl h
theorem c_X0_reckon (l : Launch) (γ : Gm) (A : Nat → Prop) (a0 : Int32) (a1 : Int64) (a3 : Int64) (w : Wd) (q : Int64) (e : X0_reckon  a0 a1 a3 w = some q) : MetG l γ A yX0_reckon cX0_reckon 5 (some .long) (rmk 0 0) [.int a0, .long a1, .long a3] w (some (.long q)) w := by
  refine met_of pn_RX0 (Nat.le_of_ble_eq_true rfl) ?_
  intro κ hl hγ hA hρ
  subst hl; subst hγ; subst hA
  exact t_X0_reckon   a0 a1 a3 w ⟨q, e, pJ hρ rfl rfl⟩
theorem dX0_run_0 : decode cX0_run 0 = .ok (.iconst (-1), 1) := by decide +kernel
theorem dX0_run_1 : decode cX0_run 1 = .ok (.istore 4, 2) := by decide +kernel
theorem dX0_run_3 : decode cX0_run 3 = .ok (.iload_n 1, 1) := by decide +kernel
theorem dX0_run_4 : decode cX0_run 4 = .ok (.istore 5, 2) := by decide +kernel
theorem dX0_run_6 : decode cX0_run 6 = .ok (.iload 5, 2) := by decide +kernel
theorem dX0_run_8 : decode cX0_run 8 = .ok (.iload_n 2, 1) := by decide +kernel
theorem dX0_run_9 : decode cX0_run 9 = .ok (.if_icmp .ge 140, 3) := by decide +kernel
theorem dX0_run_12 : decode cX0_run 12 = .ok (.aload_n 0, 1) := by decide +kernel
theorem dX0_run_13 : decode cX0_run 13 = .ok (.getfield 46, 3) := by decide +kernel
theorem dX0_run_16 : decode cX0_run 16 = .ok (.iload 5, 2) := by decide +kernel
theorem dX0_run_18 : decode cX0_run 18 = .ok (.iaload, 1) := by decide +kernel
theorem dX0_run_19 : decode cX0_run 19 = .ok (.istore 6, 2) := by decide +kernel
theorem dX0_run_21 : decode cX0_run 21 = .ok (.iload 6, 2) := by decide +kernel
theorem dX0_run_23 : decode cX0_run 23 = .ok (.sipush 10007, 3) := by decide +kernel
theorem dX0_run_26 : decode cX0_run 26 = .ok (.if_icmp .ge 45, 3) := by decide +kernel
theorem dX0_run_29 : decode cX0_run 29 = .ok (.iload 4, 2) := by decide +kernel
theorem dX0_run_31 : decode cX0_run 31 = .ok (.bipush 63, 2) := by decide +kernel
theorem dX0_run_33 : decode cX0_run 33 = .ok (.if_icmp .ge 110, 3) := by decide +kernel
theorem dX0_run_36 : decode cX0_run 36 = .ok (.iinc 4 1, 3) := by decide +kernel
theorem dX0_run_39 : decode cX0_run 39 = .ok (.aload_n 0, 1) := by decide +kernel
theorem dX0_run_40 : decode cX0_run 40 = .ok (.getfield 55, 3) := by decide +kernel
theorem dX0_run_43 : decode cX0_run 43 = .ok (.iload 4, 2) := by decide +kernel
theorem dX0_run_45 : decode cX0_run 45 = .ok (.iload 6, 2) := by decide +kernel
theorem dX0_run_47 : decode cX0_run 47 = .ok (.sipush 10000, 3) := by decide +kernel
theorem dX0_run_50 : decode cX0_run 50 = .ok (.if_icmp .ge 9, 3) := by decide +kernel
theorem dX0_run_53 : decode cX0_run 53 = .ok (.iload 6, 2) := by decide +kernel
theorem dX0_run_55 : decode cX0_run 55 = .ok (.i2l, 1) := by decide +kernel
theorem dX0_run_56 : decode cX0_run 56 = .ok (.goto 11, 3) := by decide +kernel
theorem dX0_run_59 : decode cX0_run 59 = .ok (.aload_n 3, 1) := by decide +kernel
theorem dX0_run_60 : decode cX0_run 60 = .ok (.iload 6, 2) := by decide +kernel
theorem dX0_run_62 : decode cX0_run 62 = .ok (.sipush 10000, 3) := by decide +kernel
theorem dX0_run_65 : decode cX0_run 65 = .ok (.isub, 1) := by decide +kernel
theorem dX0_run_66 : decode cX0_run 66 = .ok (.laload, 1) := by decide +kernel
theorem dX0_run_67 : decode cX0_run 67 = .ok (.lastore, 1) := by decide +kernel
theorem dX0_run_68 : decode cX0_run 68 = .ok (.goto 75, 3) := by decide +kernel
theorem dX0_run_71 : decode cX0_run 71 = .ok (.iload 6, 2) := by decide +kernel
theorem dX0_run_73 : decode cX0_run 73 = .ok (.sipush 10116, 3) := by decide +kernel
theorem dX0_run_76 : decode cX0_run 76 = .ok (.if_icmp .ne 27, 3) := by decide +kernel
theorem dX0_run_79 : decode cX0_run 79 = .ok (.iload 4, 2) := by decide +kernel
theorem dX0_run_81 : decode cX0_run 81 = .ok (.ifCond .lt 62, 3) := by decide +kernel
theorem dX0_run_84 : decode cX0_run 84 = .ok (.aload_n 0, 1) := by decide +kernel
theorem dX0_run_85 : decode cX0_run 85 = .ok (.getfield 55, 3) := by decide +kernel
theorem dX0_run_88 : decode cX0_run 88 = .ok (.iload 4, 2) := by decide +kernel
theorem dX0_run_90 : decode cX0_run 90 = .ok (.lconst 1, 1) := by decide +kernel
theorem dX0_run_91 : decode cX0_run 91 = .ok (.aload_n 0, 1) := by decide +kernel
theorem dX0_run_92 : decode cX0_run 92 = .ok (.getfield 55, 3) := by decide +kernel
theorem dX0_run_95 : decode cX0_run 95 = .ok (.iload 4, 2) := by decide +kernel
theorem dX0_run_97 : decode cX0_run 97 = .ok (.laload, 1) := by decide +kernel
theorem dX0_run_98 : decode cX0_run 98 = .ok (.lsub, 1) := by decide +kernel
theorem dX0_run_99 : decode cX0_run 99 = .ok (.lastore, 1) := by decide +kernel
theorem dX0_run_100 : decode cX0_run 100 = .ok (.goto 43, 3) := by decide +kernel
theorem dX0_run_103 : decode cX0_run 103 = .ok (.iload 4, 2) := by decide +kernel
theorem dX0_run_105 : decode cX0_run 105 = .ok (.ifCond .le 38, 3) := by decide +kernel
theorem dX0_run_108 : decode cX0_run 108 = .ok (.iinc 4 (-1), 3) := by decide +kernel
theorem dX0_run_111 : decode cX0_run 111 = .ok (.aload_n 0, 1) := by decide +kernel
theorem dX0_run_112 : decode cX0_run 112 = .ok (.getfield 55, 3) := by decide +kernel
theorem dX0_run_115 : decode cX0_run 115 = .ok (.iload 4, 2) := by decide +kernel
theorem dX0_run_117 : decode cX0_run 117 = .ok (.iload 6, 2) := by decide +kernel
theorem dX0_run_119 : decode cX0_run 119 = .ok (.sipush 10007, 3) := by decide +kernel
theorem dX0_run_122 : decode cX0_run 122 = .ok (.isub, 1) := by decide +kernel
theorem dX0_run_123 : decode cX0_run 123 = .ok (.aload_n 0, 1) := by decide +kernel
theorem dX0_run_124 : decode cX0_run 124 = .ok (.getfield 55, 3) := by decide +kernel
theorem dX0_run_127 : decode cX0_run 127 = .ok (.iload 4, 2) := by decide +kernel
theorem dX0_run_129 : decode cX0_run 129 = .ok (.laload, 1) := by decide +kernel
theorem dX0_run_130 : decode cX0_run 130 = .ok (.aload_n 0, 1) := by decide +kernel
theorem dX0_run_131 : decode cX0_run 131 = .ok (.getfield 55, 3) := by decide +kernel
theorem dX0_run_134 : decode cX0_run 134 = .ok (.iload 4, 2) := by decide +kernel
theorem dX0_run_136 : decode cX0_run 136 = .ok (.iconst 1, 1) := by decide +kernel
theorem dX0_run_137 : decode cX0_run 137 = .ok (.iadd, 1) := by decide +kernel
theorem dX0_run_138 : decode cX0_run 138 = .ok (.laload, 1) := by decide +kernel
theorem dX0_run_139 : decode cX0_run 139 = .ok (.invokestatic 90, 3) := by decide +kernel
theorem dX0_run_142 : decode cX0_run 142 = .ok (.lastore, 1) := by decide +kernel
theorem dX0_run_143 : decode cX0_run 143 = .ok (.iinc 5 1, 3) := by decide +kernel
theorem dX0_run_146 : decode cX0_run 146 = .ok (.goto (-140), 3) := by decide +kernel
theorem dX0_run_149 : decode cX0_run 149 = .ok (.iload 4, 2) := by decide +kernel
theorem dX0_run_151 : decode cX0_run 151 = .ok (.ifCond .lt 13, 3) := by decide +kernel
theorem dX0_run_154 : decode cX0_run 154 = .ok (.aload_n 0, 1) := by decide +kernel
theorem dX0_run_155 : decode cX0_run 155 = .ok (.getfield 55, 3) := by decide +kernel
theorem dX0_run_158 : decode cX0_run 158 = .ok (.iload 4, 2) := by decide +kernel
theorem dX0_run_160 : decode cX0_run 160 = .ok (.laload, 1) := by decide +kernel
theorem dX0_run_161 : decode cX0_run 161 = .ok (.goto 4, 3) := by decide +kernel
theorem dX0_run_164 : decode cX0_run 164 = .ok (.lconst 0, 1) := by decide +kernel
theorem dX0_run_165 : decode cX0_run 165 = .ok (.lreturn, 1) := by decide +kernel
noncomputable def X0_run_j143 (a2 : Int32) (a4 : Int32) (a5 : Int32) (w : Wd) : Option ((Int32 × Int32 × Wd) ⊕ (Int32 × Wd)) :=
some (.inl (a4, (a5 + (1 : Int32)), w))
set_option maxRecDepth 20000 in
set_option maxHeartbeats 1000000 in
theorem t_X0_run_j143 {κ : Kx} (a2 : Int32) (a4 : Int32) (a5 : Int32) (w : Wd) {G : (Int32 × Int32 × Wd) → Prop} {P : (Int32 × Wd) → Prop} (KG : ∀ s, G s → J κ RX0 cX0_run 7 (some .long) (rmk 1 24) 6 [(0, .ref (ad (gm κ) 30)), (2, .int a2), (3, .ref (ad (gm κ) 77)), (4, .int s.1), (5, .int s.2.1)] [] s.2.2) (K0 : ∀ e, P e → J κ RX0 cX0_run 7 (some .long) (rmk 1 24) 149 [(0, .ref (ad (gm κ) 30)), (4, .int e.1)] [] e.2) (h : ok (X0_run_j143  a2 a4 a5 w) (sel G P)) : J κ RX0 cX0_run 7 (some .long) (rmk 1 24) 143 [(0, .ref (ad (gm κ) 30)), (2, .int a2), (3, .ref (ad (gm κ) 77)), (4, .int a4), (5, .int a5)] [] w := by
  unfold X0_run_j143 at h
  refine j_iinc (a5 + (1 : Int32)) 4 [(5, .int (a5 + (1 : Int32))), (0, .ref (ad (gm κ) 30)), (2, .int a2), (3, .ref (ad (gm κ) 77)), (4, .int a4)] dX0_run_143 rfl (by rw [kn_1]) (by decide) rfl ?_
  refine j_goto 6 dX0_run_146 (by decide) ?_
  refine j_loc [(0, .ref (ad (gm κ) 30)), (2, .int a2), (3, .ref (ad (gm κ) 77)), (4, .int a4), (5, .int (a5 + (1 : Int32)))] [1, 2, 3, 4, 0] rfl ?_
  have h := sel_l h
  have h := KG _ h
  exact h
noncomputable def X0_run_j67 (a2 : Int32) (a4 : Int32) (a5 : Int32) (s0 : Int64) (s1 : Int32) (w : Wd) : Option ((Int32 × Int32 × Wd) ⊕ (Int32 × Wd)) :=
gd (vp_in s1 64) <|
(some (puJ w 44 (ix s1) s0)).bind fun w7 =>
X0_run_j143 a2 a4 a5 w7
set_option maxRecDepth 20000 in
set_option maxHeartbeats 1000000 in
theorem t_X0_run_j67 {κ : Kx} (a2 : Int32) (a4 : Int32) (a5 : Int32) (s0 : Int64) (s1 : Int32) (w : Wd) {G : (Int32 × Int32 × Wd) → Prop} {P : (Int32 × Wd) → Prop} (KG : ∀ s, G s → J κ RX0 cX0_run 7 (some .long) (rmk 1 24) 6 [(0, .ref (ad (gm κ) 30)), (2, .int a2), (3, .ref (ad (gm κ) 77)), (4, .int s.1), (5, .int s.2.1)] [] s.2.2) (K0 : ∀ e, P e → J κ RX0 cX0_run 7 (some .long) (rmk 1 24) 149 [(0, .ref (ad (gm κ) 30)), (4, .int e.1)] [] e.2) (h : ok (X0_run_j67  a2 a4 a5 s0 s1 w) (sel G P)) : J κ RX0 cX0_run 7 (some .long) (rmk 1 24) 67 [(0, .ref (ad (gm κ) 30)), (2, .int a2), (3, .ref (ad (gm κ) 77)), (4, .int a4), (5, .int a5)] [.long s0, .int s1, .ref (ad (gm κ) 44)] w := by
  unfold X0_run_j67 at h
  refine j_last sh_44 dX0_run_67 h (fun h => ?_)
  refine j_lW h (fun w7 h => ?_)
  refine j_goto 143 dX0_run_68 (by decide) ?_
  refine j_loc [(0, .ref (ad (gm κ) 30)), (2, .int a2), (3, .ref (ad (gm κ) 77)), (4, .int a4), (5, .int a5)] [0, 1, 2, 3, 4] rfl ?_
  exact t_X0_run_j143 a2 a4 a5 w7 KG K0 h
noncomputable def X0_run_b6 (a2 : Int32) (s : (Int32 × Int32 × Wd)) : Option ((Int32 × Int32 × Wd) ⊕ (Int32 × Wd)) :=
(if a2 ≤ s.2.1 then
some (.inr (s.1, s.2.2))
else
gd (vp_in s.2.1 3000) <|
(if (10007 : Int32) ≤ (s.2.2.1 42 (ix s.2.1)) then
(if (s.2.2.1 42 (ix s.2.1)) = (10116 : Int32) then
(if s.1 < 0 then
X0_run_j143 a2 s.1 s.2.1 s.2.2
else
gd (vp_in s.1 64) <|
gd (vp_in s.1 64) <|
(some (puJ s.2.2 44 (ix s.1) ((1 : Int64) - (s.2.2.2 44 (ix s.1))))).bind fun w5 =>
X0_run_j143 a2 s.1 s.2.1 w5)
else
(if s.1 ≤ 0 then
X0_run_j143 a2 s.1 s.2.1 s.2.2
else
gd (vp_in (s.1 + (-1 : Int32)) 64) <|
gd (vp_in ((s.1 + (-1 : Int32)) + (1 : Int32)) 64) <|
(some (s.2.2.2 44 (ix ((s.1 + (-1 : Int32)) + (1 : Int32))))).bind fun z1 =>
(X0_reckon ((s.2.2.1 42 (ix s.2.1)) - (10007 : Int32)) (s.2.2.2 44 (ix (s.1 + (-1 : Int32)))) z1 s.2.2).bind fun q2 =>
gd (vp_in (s.1 + (-1 : Int32)) 64) <|
(some (puJ s.2.2 44 (ix (s.1 + (-1 : Int32))) q2)).bind fun w4 =>
X0_run_j143 a2 (s.1 + (-1 : Int32)) s.2.1 w4))
else
(if (63 : Int32) ≤ s.1 then
X0_run_j143 a2 s.1 s.2.1 s.2.2
else
(if (10000 : Int32) ≤ (s.2.2.1 42 (ix s.2.1)) then
gd (vp_in ((s.2.2.1 42 (ix s.2.1)) - (10000 : Int32)) 7) <|
(some (s.2.2.2 77 (ix ((s.2.2.1 42 (ix s.2.1)) - (10000 : Int32))))).bind fun z6 =>
X0_run_j67 a2 (s.1 + (1 : Int32)) s.2.1 z6 (s.1 + (1 : Int32)) s.2.2
else
X0_run_j67 a2 (s.1 + (1 : Int32)) s.2.1 (Int32.toInt64 (s.2.2.1 42 (ix s.2.1))) (s.1 + (1 : Int32)) s.2.2))))
set_option maxRecDepth 20000 in
set_option maxHeartbeats 1000000 in
theorem t_X0_run_b6 {κ : Kx} (a2 : Int32) {P : (Int32 × Wd) → Prop} (K0 : ∀ e, P e → J κ RX0 cX0_run 7 (some .long) (rmk 1 24) 149 [(0, .ref (ad (gm κ) 30)), (4, .int e.1)] [] e.2) (s : (Int32 × Int32 × Wd)) (h : ok (lp (X0_run_b6  a2) s) P) : J κ RX0 cX0_run 7 (some .long) (rmk 1 24) 6 [(0, .ref (ad (gm κ) 30)), (2, .int a2), (3, .ref (ad (gm κ) 77)), (4, .int s.1), (5, .int s.2.1)] [] s.2.2 := by
  refine lp_ind (fun s => J κ RX0 cX0_run 7 (some .long) (rmk 1 24) 6 [(0, .ref (ad (gm κ) 30)), (2, .int a2), (3, .ref (ad (gm κ) 77)), (4, .int s.1), (5, .int s.2.1)] [] s.2.2) (fun s h => ?_) s h
  unfold X0_run_b6 at h
  refine j_iload 4 dX0_run_6 rfl ?_
  refine j_iload_n 1 dX0_run_8 rfl rfl ?_
  refine j_ic_ge 149 dX0_run_9 (by decide) h (fun h => ?_) (fun h => ?_)
  · refine j_loc [(0, .ref (ad (gm κ) 30)), (4, .int s.1)] [0, 3] rfl ?_
    have h := sel_r h
    have h := K0 _ h
    exact h
  · refine j_aload_n 0 dX0_run_12 rfl rfl ?_
    refine j_getA 42 fl_RX0_46 sh_30 fk_30_12 (by decide) dX0_run_13 ?_
    refine j_iload 4 dX0_run_16 rfl ?_
    refine j_iald sh_42 dX0_run_18 h (fun h => ?_)
    refine j_istore [(6, .int (s.2.2.1 42 (ix s.2.1))), (0, .ref (ad (gm κ) 30)), (2, .int a2), (3, .ref (ad (gm κ) 77)), (4, .int s.1), (5, .int s.2.1)] dX0_run_19 (by decide) rfl ?_
    refine j_iload 0 dX0_run_21 rfl ?_
    refine j_sipush (10007 : Int32) dX0_run_23 ks_10007 ?_
    refine j_ic_ge 71 dX0_run_26 (by decide) h (fun h => ?_) (fun h => ?_)
    · refine j_iload 0 dX0_run_71 rfl ?_
      refine j_sipush (10116 : Int32) dX0_run_73 ks_10116 ?_
      refine j_ic_ne 103 dX0_run_76 (by decide) h (fun h => ?_) (fun h => ?_)
      · refine j_iload 4 dX0_run_103 rfl ?_
        refine j_if_le 143 dX0_run_105 (by decide) h (fun h => ?_) (fun h => ?_)
        · refine j_loc [(0, .ref (ad (gm κ) 30)), (2, .int a2), (3, .ref (ad (gm κ) 77)), (4, .int s.1), (5, .int s.2.1)] [1, 2, 3, 4, 5] rfl ?_
          exact t_X0_run_j143 a2 s.1 s.2.1 s.2.2 (fun _ h => h) K0 h
        · refine j_iinc (s.1 + (-1 : Int32)) 4 [(4, .int (s.1 + (-1 : Int32))), (6, .int (s.2.2.1 42 (ix s.2.1))), (0, .ref (ad (gm κ) 30)), (2, .int a2), (3, .ref (ad (gm κ) 77)), (5, .int s.2.1)] dX0_run_108 rfl (by rw [kn_m1]) (by decide) rfl ?_
          refine j_aload_n 2 dX0_run_111 rfl rfl ?_
          refine j_getA 44 fl_RX0_55 sh_30 fk_30_17 (by decide) dX0_run_112 ?_
          refine j_iload 0 dX0_run_115 rfl ?_
          refine j_iload 1 dX0_run_117 rfl ?_
          refine j_sipush (10007 : Int32) dX0_run_119 ks_10007 ?_
          refine j_isub dX0_run_122 ?_
          refine j_aload_n 2 dX0_run_123 rfl rfl ?_
          refine j_getA 44 fl_RX0_55 sh_30 fk_30_17 (by decide) dX0_run_124 ?_
          refine j_iload 0 dX0_run_127 rfl ?_
          refine j_lald sh_44 dX0_run_129 h (fun h => ?_)
          refine j_aload_n 2 dX0_run_130 rfl rfl ?_
          refine j_getA 44 fl_RX0_55 sh_30 fk_30_17 (by decide) dX0_run_131 ?_
          refine j_iload 0 dX0_run_134 rfl ?_
          refine j_iconst (1 : Int32) dX0_run_136 ki_1 ?_
          refine j_iadd dX0_run_137 ?_
          refine j_lald sh_44 dX0_run_138 h (fun h => ?_)
          refine j_lJ h (fun z1 h => ?_)
          obtain ⟨q2, e3, h⟩ := ok_b h
          refine j_callS (As := [.int ((s.2.2.1 42 (ix s.2.1)) - (10007 : Int32)), .long (s.2.2.2 44 (ix (s.1 + (-1 : Int32)))), .long z1]) (st := [.int (s.1 + (-1 : Int32)), .ref (ad (gm κ) 44)]) [.long q2, .int (s.1 + (-1 : Int32)), .ref (ad (gm κ) 44)] (c_X0_reckon (kl κ) (gm κ) (kA κ) ((s.2.2.1 42 (ix s.2.1)) - (10007 : Int32)) (s.2.2.2 44 (ix (s.1 + (-1 : Int32)))) z1 s.2.2 q2 e3) ck_RX0_90 st_X0_reckon ⟨rfl, rfl⟩ ⟨by decide, by decide⟩ rfl rfl (Nat.le_of_ble_eq_true rfl) dX0_run_139 _ rfl ?_
          refine j_last sh_44 dX0_run_142 h (fun h => ?_)
          refine j_lW h (fun w4 h => ?_)
          refine j_loc [(0, .ref (ad (gm κ) 30)), (2, .int a2), (3, .ref (ad (gm κ) 77)), (4, .int (s.1 + (-1 : Int32))), (5, .int s.2.1)] [2, 3, 4, 0, 5] rfl ?_
          exact t_X0_run_j143 a2 (s.1 + (-1 : Int32)) s.2.1 w4 (fun _ h => h) K0 h
      · refine j_iload 4 dX0_run_79 rfl ?_
        refine j_if_lt 143 dX0_run_81 (by decide) h (fun h => ?_) (fun h => ?_)
        · refine j_loc [(0, .ref (ad (gm κ) 30)), (2, .int a2), (3, .ref (ad (gm κ) 77)), (4, .int s.1), (5, .int s.2.1)] [1, 2, 3, 4, 5] rfl ?_
          exact t_X0_run_j143 a2 s.1 s.2.1 s.2.2 (fun _ h => h) K0 h
        · refine j_aload_n 1 dX0_run_84 rfl rfl ?_
          refine j_getA 44 fl_RX0_55 sh_30 fk_30_17 (by decide) dX0_run_85 ?_
          refine j_iload 4 dX0_run_88 rfl ?_
          refine j_lconst (1 : Int64) dX0_run_90 (by decide) ?_
          refine j_aload_n 1 dX0_run_91 rfl rfl ?_
          refine j_getA 44 fl_RX0_55 sh_30 fk_30_17 (by decide) dX0_run_92 ?_
          refine j_iload 4 dX0_run_95 rfl ?_
          refine j_lald sh_44 dX0_run_97 h (fun h => ?_)
          refine j_lsub dX0_run_98 ?_
          refine j_last sh_44 dX0_run_99 h (fun h => ?_)
          refine j_lW h (fun w5 h => ?_)
          refine j_goto 143 dX0_run_100 (by decide) ?_
          refine j_loc [(0, .ref (ad (gm κ) 30)), (2, .int a2), (3, .ref (ad (gm κ) 77)), (4, .int s.1), (5, .int s.2.1)] [1, 2, 3, 4, 5] rfl ?_
          exact t_X0_run_j143 a2 s.1 s.2.1 w5 (fun _ h => h) K0 h
    · refine j_iload 4 dX0_run_29 rfl ?_
      refine j_bipush (63 : Int32) dX0_run_31 kb_63 ?_
      refine j_ic_ge 143 dX0_run_33 (by decide) h (fun h => ?_) (fun h => ?_)
      · refine j_loc [(0, .ref (ad (gm κ) 30)), (2, .int a2), (3, .ref (ad (gm κ) 77)), (4, .int s.1), (5, .int s.2.1)] [1, 2, 3, 4, 5] rfl ?_
        exact t_X0_run_j143 a2 s.1 s.2.1 s.2.2 (fun _ h => h) K0 h
      · refine j_iinc (s.1 + (1 : Int32)) 4 [(4, .int (s.1 + (1 : Int32))), (6, .int (s.2.2.1 42 (ix s.2.1))), (0, .ref (ad (gm κ) 30)), (2, .int a2), (3, .ref (ad (gm κ) 77)), (5, .int s.2.1)] dX0_run_36 rfl (by rw [kn_1]) (by decide) rfl ?_
        refine j_aload_n 2 dX0_run_39 rfl rfl ?_
        refine j_getA 44 fl_RX0_55 sh_30 fk_30_17 (by decide) dX0_run_40 ?_
        refine j_iload 0 dX0_run_43 rfl ?_
        refine j_iload 1 dX0_run_45 rfl ?_
        refine j_sipush (10000 : Int32) dX0_run_47 ks_10000 ?_
        refine j_ic_ge 59 dX0_run_50 (by decide) h (fun h => ?_) (fun h => ?_)
        · refine j_aload_n 4 dX0_run_59 rfl rfl ?_
          refine j_iload 1 dX0_run_60 rfl ?_
          refine j_sipush (10000 : Int32) dX0_run_62 ks_10000 ?_
          refine j_isub dX0_run_65 ?_
          refine j_lald sh_77 dX0_run_66 h (fun h => ?_)
          refine j_lJ h (fun z6 h => ?_)
          refine j_loc [(0, .ref (ad (gm κ) 30)), (2, .int a2), (3, .ref (ad (gm κ) 77)), (4, .int (s.1 + (1 : Int32))), (5, .int s.2.1)] [2, 3, 4, 0, 5] rfl ?_
          exact t_X0_run_j67 a2 (s.1 + (1 : Int32)) s.2.1 z6 (s.1 + (1 : Int32)) s.2.2 (fun _ h => h) K0 h
        · refine j_iload 1 dX0_run_53 rfl ?_
          refine j_i2l dX0_run_55 ?_
          refine j_goto 67 dX0_run_56 (by decide) ?_
          refine j_loc [(0, .ref (ad (gm κ) 30)), (2, .int a2), (3, .ref (ad (gm κ) 77)), (4, .int (s.1 + (1 : Int32))), (5, .int s.2.1)] [2, 3, 4, 0, 5] rfl ?_
          exact t_X0_run_j67 a2 (s.1 + (1 : Int32)) s.2.1 (Int32.toInt64 (s.2.2.1 42 (ix s.2.1))) (s.1 + (1 : Int32)) s.2.2 (fun _ h => h) K0 h
noncomputable def X0_run (a1 : Int32) (a2 : Int32) (w : Wd) : Option (Int64 × Wd) :=
(lp (X0_run_b6 a2) ((-1 : Int32), a1, w)).bind fun e8 =>
(if e8.1 < 0 then
some ((0 : Int64), e8.2)
else
gd (vp_in e8.1 64) <|
some ((e8.2.2 44 (ix e8.1)), e8.2))
set_option maxRecDepth 20000 in
set_option maxHeartbeats 1000000 in
theorem t_X0_run {κ : Kx} (a1 : Int32) (a2 : Int32) (w : Wd) (h : ok (X0_run  a1 a2 w) (PJw κ)) : J κ RX0 cX0_run 7 (some .long) (rmk 1 24) 0 [(0, .ref (ad (gm κ) 30)), (1, .int a1), (2, .int a2), (3, .ref (ad (gm κ) 77))] [] w := by
  unfold X0_run at h
  refine j_iconst (-1 : Int32) dX0_run_0 ki_m1 ?_
  refine j_istore [(4, .int (-1 : Int32)), (0, .ref (ad (gm κ) 30)), (1, .int a1), (2, .int a2), (3, .ref (ad (gm κ) 77))] dX0_run_1 (by decide) rfl ?_
  refine j_iload_n 2 dX0_run_3 rfl rfl ?_
  refine j_istore [(5, .int a1), (4, .int (-1 : Int32)), (0, .ref (ad (gm κ) 30)), (1, .int a1), (2, .int a2), (3, .ref (ad (gm κ) 77))] dX0_run_4 (by decide) rfl ?_
  refine j_loc [(0, .ref (ad (gm κ) 30)), (2, .int a2), (3, .ref (ad (gm κ) 77)), (4, .int (-1 : Int32)), (5, .int a1)] [2, 4, 5, 1, 0] rfl ?_
  refine t_X0_run_b6 a2 (fun e8 h => ?_) ((-1 : Int32), a1, w) (ok_bb h)
  · refine j_iload 1 dX0_run_149 rfl ?_
    refine j_if_lt 164 dX0_run_151 (by decide) h (fun h => ?_) (fun h => ?_)
    · refine j_lconst (0 : Int64) dX0_run_164 (by decide) ?_
      have h := ok_s h
      exact j_lret dX0_run_165 rfl h
    · refine j_aload_n 0 dX0_run_154 rfl rfl ?_
      refine j_getA 44 fl_RX0_55 sh_30 fk_30_17 (by decide) dX0_run_155 ?_
      refine j_iload 1 dX0_run_158 rfl ?_
      refine j_lald sh_44 dX0_run_160 h (fun h => ?_)
      refine j_goto 165 dX0_run_161 (by decide) ?_
      have h := ok_s h
      exact j_lret dX0_run_165 rfl h
theorem c_X0_run (l : Launch) (γ : Gm) (A : Nat → Prop) (a1 : Int32) (a2 : Int32) (w : Wd) (q : Int64 × Wd) (e : X0_run  a1 a2 w = some q) : MetG l γ A yX0_run cX0_run 7 (some .long) (rmk 1 24) [.ref (ad (γ) 30), .int a1, .int a2, .ref (ad (γ) 77)] w (some (.long q.1)) q.2 := by
  refine met_of pn_RX0 (Nat.le_of_ble_eq_true rfl) ?_
  intro κ hl hγ hA hρ
  subst hl; subst hγ; subst hA
  exact t_X0_run   a1 a2 w ⟨q, e, pJw hρ rfl rfl⟩
theorem dX1_choose_0 : decode cX1_choose 0 = .ok (.iload_n 2, 1) := by decide +kernel
theorem dX1_choose_1 : decode cX1_choose 1 = .ok (.ifCond .lt 8, 3) := by decide +kernel
theorem dX1_choose_4 : decode cX1_choose 4 = .ok (.iload_n 2, 1) := by decide +kernel
theorem dX1_choose_5 : decode cX1_choose 5 = .ok (.iload_n 1, 1) := by decide +kernel
theorem dX1_choose_6 : decode cX1_choose 6 = .ok (.if_icmp .le 7, 3) := by decide +kernel
theorem dX1_choose_9 : decode cX1_choose 9 = .ok (.lconst 0, 1) := by decide +kernel
theorem dX1_choose_10 : decode cX1_choose 10 = .ok (.goto 14, 3) := by decide +kernel
theorem dX1_choose_13 : decode cX1_choose 13 = .ok (.aload_n 0, 1) := by decide +kernel
theorem dX1_choose_14 : decode cX1_choose 14 = .ok (.getfield 11, 3) := by decide +kernel
theorem dX1_choose_17 : decode cX1_choose 17 = .ok (.iload_n 1, 1) := by decide +kernel
theorem dX1_choose_18 : decode cX1_choose 18 = .ok (.bipush 61, 2) := by decide +kernel
theorem dX1_choose_20 : decode cX1_choose 20 = .ok (.imul, 1) := by decide +kernel
theorem dX1_choose_21 : decode cX1_choose 21 = .ok (.iload_n 2, 1) := by decide +kernel
theorem dX1_choose_22 : decode cX1_choose 22 = .ok (.iadd, 1) := by decide +kernel
theorem dX1_choose_23 : decode cX1_choose 23 = .ok (.laload, 1) := by decide +kernel
theorem dX1_choose_24 : decode cX1_choose 24 = .ok (.lreturn, 1) := by decide +kernel
noncomputable def X1_choose (a1 : Int32) (a2 : Int32) (w : Wd) : Option (Int64) :=
(if a2 < 0 then
some (0 : Int64)
else
(if a2 ≤ a1 then
gd (vp_in ((a1 * (61 : Int32)) + a2) 3721) <|
some (w.2 96 (ix ((a1 * (61 : Int32)) + a2)))
else
some (0 : Int64)))
set_option maxRecDepth 20000 in
set_option maxHeartbeats 1000000 in
theorem t_X1_choose {κ : Kx} (a1 : Int32) (a2 : Int32) (w : Wd) (h : ok (X1_choose  a1 a2 w) (PJ κ w)) : J κ RX1 cX1_choose 3 (some .long) (rmk 0 0) 0 [(0, .ref (ad (gm κ) 95)), (1, .int a1), (2, .int a2)] [] w := by
  unfold X1_choose at h
  refine j_iload_n 2 dX1_choose_0 rfl rfl ?_
  refine j_if_lt 9 dX1_choose_1 (by decide) h (fun h => ?_) (fun h => ?_)
  · refine j_lconst (0 : Int64) dX1_choose_9 (by decide) ?_
    refine j_goto 24 dX1_choose_10 (by decide) ?_
    have h := ok_s h
    exact j_lret dX1_choose_24 rfl h
  · refine j_iload_n 2 dX1_choose_4 rfl rfl ?_
    refine j_iload_n 1 dX1_choose_5 rfl rfl ?_
    refine j_ic_le 13 dX1_choose_6 (by decide) h (fun h => ?_) (fun h => ?_)
    · refine j_aload_n 0 dX1_choose_13 rfl rfl ?_
      refine j_getA 96 fl_RX1_11 sh_95 fk_95_0 (by decide) dX1_choose_14 ?_
      refine j_iload_n 1 dX1_choose_17 rfl rfl ?_
      refine j_bipush (61 : Int32) dX1_choose_18 kb_61 ?_
      refine j_imul dX1_choose_20 ?_
      refine j_iload_n 2 dX1_choose_21 rfl rfl ?_
      refine j_iadd dX1_choose_22 ?_
      refine j_lald sh_96 dX1_choose_23 h (fun h => ?_)
      have h := ok_s h
      exact j_lret dX1_choose_24 rfl h
    · refine j_lconst (0 : Int64) dX1_choose_9 (by decide) ?_
      refine j_goto 24 dX1_choose_10 (by decide) ?_
      have h := ok_s h
      exact j_lret dX1_choose_24 rfl h
theorem c_X1_choose (l : Launch) (γ : Gm) (A : Nat → Prop) (a1 : Int32) (a2 : Int32) (w : Wd) (q : Int64) (e : X1_choose  a1 a2 w = some q) : MetG l γ A yX1_choose cX1_choose 3 (some .long) (rmk 0 0) [.ref (ad (γ) 95), .int a1, .int a2] w (some (.long q)) w := by
  refine met_of pn_RX1 (Nat.le_of_ble_eq_true rfl) ?_
  intro κ hl hγ hA hρ
  subst hl; subst hγ; subst hA
  exact t_X1_choose   a1 a2 w ⟨q, e, pJ hρ rfl rfl⟩
