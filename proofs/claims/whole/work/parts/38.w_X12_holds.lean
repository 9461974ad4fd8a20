theorem dX12_holds_0 : decode cX12_holds 0 = .ok (.iconst 1, 1) := by decide +kernel
theorem dX12_holds_1 : decode cX12_holds 1 = .ok (.istore_n 3, 1) := by decide +kernel
theorem dX12_holds_2 : decode cX12_holds 2 = .ok (.iload_n 1, 1) := by decide +kernel
theorem dX12_holds_3 : decode cX12_holds 3 = .ok (.istore 4, 2) := by decide +kernel
theorem dX12_holds_5 : decode cX12_holds 5 = .ok (.iload 4, 2) := by decide +kernel
theorem dX12_holds_7 : decode cX12_holds 7 = .ok (.iload_n 2, 1) := by decide +kernel
theorem dX12_holds_8 : decode cX12_holds 8 = .ok (.if_icmp .ge 166, 3) := by decide +kernel
theorem dX12_holds_11 : decode cX12_holds 11 = .ok (.aload_n 0, 1) := by decide +kernel
theorem dX12_holds_12 : decode cX12_holds 12 = .ok (.getfield 146, 3) := by decide +kernel
theorem dX12_holds_15 : decode cX12_holds 15 = .ok (.iload 4, 2) := by decide +kernel
theorem dX12_holds_17 : decode cX12_holds 17 = .ok (.baload, 1) := by decide +kernel
theorem dX12_holds_18 : decode cX12_holds 18 = .ok (.ifCond .eq 17, 3) := by decide +kernel
theorem dX12_holds_21 : decode cX12_holds 21 = .ok (.iload 4, 2) := by decide +kernel
theorem dX12_holds_23 : decode cX12_holds 23 = .ok (.iload_n 1, 1) := by decide +kernel
theorem dX12_holds_24 : decode cX12_holds 24 = .ok (.if_icmp .le 11, 3) := by decide +kernel
theorem dX12_holds_27 : decode cX12_holds 27 = .ok (.iload_n 3, 1) := by decide +kernel
theorem dX12_holds_28 : decode cX12_holds 28 = .ok (.ifCond .eq 5, 3) := by decide +kernel
theorem dX12_holds_31 : decode cX12_holds 31 = .ok (.iconst 1, 1) := by decide +kernel
theorem dX12_holds_32 : decode cX12_holds 32 = .ok (.ireturn, 1) := by decide +kernel
theorem dX12_holds_33 : decode cX12_holds 33 = .ok (.iconst 1, 1) := by decide +kernel
theorem dX12_holds_34 : decode cX12_holds 34 = .ok (.istore_n 3, 1) := by decide +kernel
theorem dX12_holds_35 : decode cX12_holds 35 = .ok (.aload_n 0, 1) := by decide +kernel
theorem dX12_holds_36 : decode cX12_holds 36 = .ok (.aload_n 0, 1) := by decide +kernel
theorem dX12_holds_37 : decode cX12_holds 37 = .ok (.getfield 130, 3) := by decide +kernel
theorem dX12_holds_40 : decode cX12_holds 40 = .ok (.iload 4, 2) := by decide +kernel
theorem dX12_holds_42 : decode cX12_holds 42 = .ok (.iaload, 1) := by decide +kernel
theorem dX12_holds_43 : decode cX12_holds 43 = .ok (.aload_n 0, 1) := by decide +kernel
theorem dX12_holds_44 : decode cX12_holds 44 = .ok (.getfield 133, 3) := by decide +kernel
theorem dX12_holds_47 : decode cX12_holds 47 = .ok (.iload 4, 2) := by decide +kernel
theorem dX12_holds_49 : decode cX12_holds 49 = .ok (.iaload, 1) := by decide +kernel
theorem dX12_holds_50 : decode cX12_holds 50 = .ok (.invokevirtual 484, 3) := by decide +kernel
theorem dX12_holds_53 : decode cX12_holds 53 = .ok (.lstore 5, 2) := by decide +kernel
theorem dX12_holds_55 : decode cX12_holds 55 = .ok (.aload_n 0, 1) := by decide +kernel
theorem dX12_holds_56 : decode cX12_holds 56 = .ok (.aload_n 0, 1) := by decide +kernel
theorem dX12_holds_57 : decode cX12_holds 57 = .ok (.getfield 133, 3) := by decide +kernel
theorem dX12_holds_60 : decode cX12_holds 60 = .ok (.iload 4, 2) := by decide +kernel
theorem dX12_holds_62 : decode cX12_holds 62 = .ok (.iaload, 1) := by decide +kernel
theorem dX12_holds_63 : decode cX12_holds 63 = .ok (.aload_n 0, 1) := by decide +kernel
theorem dX12_holds_64 : decode cX12_holds 64 = .ok (.getfield 136, 3) := by decide +kernel
theorem dX12_holds_67 : decode cX12_holds 67 = .ok (.iload 4, 2) := by decide +kernel
theorem dX12_holds_69 : decode cX12_holds 69 = .ok (.iaload, 1) := by decide +kernel
theorem dX12_holds_70 : decode cX12_holds 70 = .ok (.invokevirtual 484, 3) := by decide +kernel
theorem dX12_holds_73 : decode cX12_holds 73 = .ok (.lstore 7, 2) := by decide +kernel
theorem dX12_holds_75 : decode cX12_holds 75 = .ok (.aload_n 0, 1) := by decide +kernel
theorem dX12_holds_76 : decode cX12_holds 76 = .ok (.getfield 139, 3) := by decide +kernel
theorem dX12_holds_79 : decode cX12_holds 79 = .ok (.iload 4, 2) := by decide +kernel
theorem dX12_holds_81 : decode cX12_holds 81 = .ok (.iaload, 1) := by decide +kernel
theorem dX12_holds_82 : decode cX12_holds 82 = .ok (.bipush 60, 2) := by decide +kernel
theorem dX12_holds_84 : decode cX12_holds 84 = .ok (.if_icmp .ne 19, 3) := by decide +kernel
theorem dX12_holds_87 : decode cX12_holds 87 = .ok (.lload 5, 2) := by decide +kernel
theorem dX12_holds_89 : decode cX12_holds 89 = .ok (.lload 7, 2) := by decide +kernel
theorem dX12_holds_91 : decode cX12_holds 91 = .ok (.lcmp, 1) := by decide +kernel
theorem dX12_holds_92 : decode cX12_holds 92 = .ok (.ifCond .ge 7, 3) := by decide +kernel
theorem dX12_holds_95 : decode cX12_holds 95 = .ok (.iconst 1, 1) := by decide +kernel
theorem dX12_holds_96 : decode cX12_holds 96 = .ok (.goto 48, 3) := by decide +kernel
theorem dX12_holds_99 : decode cX12_holds 99 = .ok (.iconst 0, 1) := by decide +kernel
theorem dX12_holds_100 : decode cX12_holds 100 = .ok (.goto 44, 3) := by decide +kernel
theorem dX12_holds_103 : decode cX12_holds 103 = .ok (.aload_n 0, 1) := by decide +kernel
theorem dX12_holds_104 : decode cX12_holds 104 = .ok (.getfield 139, 3) := by decide +kernel
theorem dX12_holds_107 : decode cX12_holds 107 = .ok (.iload 4, 2) := by decide +kernel
theorem dX12_holds_109 : decode cX12_holds 109 = .ok (.iaload, 1) := by decide +kernel
theorem dX12_holds_110 : decode cX12_holds 110 = .ok (.bipush 62, 2) := by decide +kernel
theorem dX12_holds_112 : decode cX12_holds 112 = .ok (.if_icmp .ne 19, 3) := by decide +kernel
theorem dX12_holds_115 : decode cX12_holds 115 = .ok (.lload 5, 2) := by decide +kernel
theorem dX12_holds_117 : decode cX12_holds 117 = .ok (.lload 7, 2) := by decide +kernel
theorem dX12_holds_119 : decode cX12_holds 119 = .ok (.lcmp, 1) := by decide +kernel
theorem dX12_holds_120 : decode cX12_holds 120 = .ok (.ifCond .le 7, 3) := by decide +kernel
theorem dX12_holds_123 : decode cX12_holds 123 = .ok (.iconst 1, 1) := by decide +kernel
theorem dX12_holds_124 : decode cX12_holds 124 = .ok (.goto 20, 3) := by decide +kernel
theorem dX12_holds_127 : decode cX12_holds 127 = .ok (.iconst 0, 1) := by decide +kernel
theorem dX12_holds_128 : decode cX12_holds 128 = .ok (.goto 16, 3) := by decide +kernel
theorem dX12_holds_131 : decode cX12_holds 131 = .ok (.lload 5, 2) := by decide +kernel
theorem dX12_holds_133 : decode cX12_holds 133 = .ok (.lload 7, 2) := by decide +kernel
theorem dX12_holds_135 : decode cX12_holds 135 = .ok (.lcmp, 1) := by decide +kernel
theorem dX12_holds_136 : decode cX12_holds 136 = .ok (.ifCond .ne 7, 3) := by decide +kernel
theorem dX12_holds_139 : decode cX12_holds 139 = .ok (.iconst 1, 1) := by decide +kernel
theorem dX12_holds_140 : decode cX12_holds 140 = .ok (.goto 4, 3) := by decide +kernel
theorem dX12_holds_143 : decode cX12_holds 143 = .ok (.iconst 0, 1) := by decide +kernel
theorem dX12_holds_144 : decode cX12_holds 144 = .ok (.istore 9, 2) := by decide +kernel
theorem dX12_holds_146 : decode cX12_holds 146 = .ok (.iload_n 3, 1) := by decide +kernel
theorem dX12_holds_147 : decode cX12_holds 147 = .ok (.ifCond .eq 19, 3) := by decide +kernel
theorem dX12_holds_150 : decode cX12_holds 150 = .ok (.iload 9, 2) := by decide +kernel
theorem dX12_holds_152 : decode cX12_holds 152 = .ok (.aload_n 0, 1) := by decide +kernel
theorem dX12_holds_153 : decode cX12_holds 153 = .ok (.getfield 142, 3) := by decide +kernel
theorem dX12_holds_156 : decode cX12_holds 156 = .ok (.iload 4, 2) := by decide +kernel
theorem dX12_holds_158 : decode cX12_holds 158 = .ok (.baload, 1) := by decide +kernel
theorem dX12_holds_159 : decode cX12_holds 159 = .ok (.if_icmp .eq 7, 3) := by decide +kernel
theorem dX12_holds_162 : decode cX12_holds 162 = .ok (.iconst 1, 1) := by decide +kernel
theorem dX12_holds_163 : decode cX12_holds 163 = .ok (.goto 4, 3) := by decide +kernel
theorem dX12_holds_166 : decode cX12_holds 166 = .ok (.iconst 0, 1) := by decide +kernel
theorem dX12_holds_167 : decode cX12_holds 167 = .ok (.istore_n 3, 1) := by decide +kernel
theorem dX12_holds_168 : decode cX12_holds 168 = .ok (.iinc 4 1, 3) := by decide +kernel
theorem dX12_holds_171 : decode cX12_holds 171 = .ok (.goto (-166), 3) := by decide +kernel
theorem dX12_holds_174 : decode cX12_holds 174 = .ok (.iload_n 3, 1) := by decide +kernel
theorem dX12_holds_175 : decode cX12_holds 175 = .ok (.ireturn, 1) := by decide +kernel
noncomputable def X12_holds_j167 (a1 : Int32) (a2 : Int32) (a4 : Int32) (s0 : Int32) (w : Wd) : Option ((Int32 × Int32 × Wd) ⊕ (Wd ⊕ (Int32 × Wd))) :=
some (.inl (s0, (a4 + (1 : Int32)), w))
set_option maxRecDepth 20000 in
set_option maxHeartbeats 1000000 in
theorem t_X12_holds_j167 {κ : Kx} (a1 : Int32) (a2 : Int32) (a4 : Int32) (s0 : Int32) (w : Wd) {G : (Int32 × Int32 × Wd) → Prop} {P : (Wd ⊕ (Int32 × Wd)) → Prop} (KG : ∀ s, G s → J κ RX12 cX12_holds 10 (some .boolean) (rmk 1 29) 5 [(0, .ref (ad (gm κ) 97)), (1, .int a1), (2, .int a2), (3, .int s.1), (4, .int s.2.1)] [] s.2.2) (K0 : ∀ e, P (.inl e) → J κ RX12 cX12_holds 10 (some .boolean) (rmk 1 29) 31 [] [] e) (K1 : ∀ e, P (.inr e) → J κ RX12 cX12_holds 10 (some .boolean) (rmk 1 29) 174 [(3, .int e.1)] [] e.2) (h : ok (X12_holds_j167  a1 a2 a4 s0 w) (sel G P)) : J κ RX12 cX12_holds 10 (some .boolean) (rmk 1 29) 167 [(0, .ref (ad (gm κ) 97)), (1, .int a1), (2, .int a2), (4, .int a4)] [.int s0] w := by
  unfold X12_holds_j167 at h
  refine j_istore_n [(3, .int s0), (0, .ref (ad (gm κ) 97)), (1, .int a1), (2, .int a2), (4, .int a4)] dX12_holds_167 rfl (by decide) rfl ?_
  refine j_iinc (a4 + (1 : Int32)) 4 [(4, .int (a4 + (1 : Int32))), (3, .int s0), (0, .ref (ad (gm κ) 97)), (1, .int a1), (2, .int a2)] dX12_holds_168 rfl (by rw [kn_1]) (by decide) rfl ?_
  refine j_goto 5 dX12_holds_171 (by decide) ?_
  refine j_loc [(0, .ref (ad (gm κ) 97)), (1, .int a1), (2, .int a2), (3, .int s0), (4, .int (a4 + (1 : Int32)))] [2, 3, 4, 1, 0] rfl ?_
  have h := sel_l h
  have h := KG _ h
  exact h
noncomputable def X12_holds_j166 (a1 : Int32) (a2 : Int32) (a4 : Int32) (w : Wd) : Option ((Int32 × Int32 × Wd) ⊕ (Wd ⊕ (Int32 × Wd))) :=
X12_holds_j167 a1 a2 a4 (0 : Int32) w
set_option maxRecDepth 20000 in
set_option maxHeartbeats 1000000 in
theorem t_X12_holds_j166 {κ : Kx} (a1 : Int32) (a2 : Int32) (a4 : Int32) (w : Wd) {G : (Int32 × Int32 × Wd) → Prop} {P : (Wd ⊕ (Int32 × Wd)) → Prop} (KG : ∀ s, G s → J κ RX12 cX12_holds 10 (some .boolean) (rmk 1 29) 5 [(0, .ref (ad (gm κ) 97)), (1, .int a1), (2, .int a2), (3, .int s.1), (4, .int s.2.1)] [] s.2.2) (K0 : ∀ e, P (.inl e) → J κ RX12 cX12_holds 10 (some .boolean) (rmk 1 29) 31 [] [] e) (K1 : ∀ e, P (.inr e) → J κ RX12 cX12_holds 10 (some .boolean) (rmk 1 29) 174 [(3, .int e.1)] [] e.2) (h : ok (X12_holds_j166  a1 a2 a4 w) (sel G P)) : J κ RX12 cX12_holds 10 (some .boolean) (rmk 1 29) 166 [(0, .ref (ad (gm κ) 97)), (1, .int a1), (2, .int a2), (4, .int a4)] [] w := by
  unfold X12_holds_j166 at h
  refine j_iconst (0 : Int32) dX12_holds_166 ki_0 ?_
  refine j_loc [(0, .ref (ad (gm κ) 97)), (1, .int a1), (2, .int a2), (4, .int a4)] [0, 1, 2, 3] rfl ?_
  exact t_X12_holds_j167 a1 a2 a4 (0 : Int32) w KG K0 K1 h
noncomputable def X12_holds_j144 (a1 : Int32) (a2 : Int32) (a3 : Int32) (a4 : Int32) (s0 : Int32) (w : Wd) : Option ((Int32 × Int32 × Wd) ⊕ (Wd ⊕ (Int32 × Wd))) :=
(if a3 = 0 then
X12_holds_j166 a1 a2 a4 w
else
gd (vp_in a4 1500) <|
(if s0 = (w.1 138 (ix a4)) then
X12_holds_j166 a1 a2 a4 w
else
X12_holds_j167 a1 a2 a4 (1 : Int32) w))
set_option maxRecDepth 20000 in
set_option maxHeartbeats 1000000 in
theorem t_X12_holds_j144 {κ : Kx} (a1 : Int32) (a2 : Int32) (a3 : Int32) (a4 : Int32) (s0 : Int32) (w : Wd) {G : (Int32 × Int32 × Wd) → Prop} {P : (Wd ⊕ (Int32 × Wd)) → Prop} (KG : ∀ s, G s → J κ RX12 cX12_holds 10 (some .boolean) (rmk 1 29) 5 [(0, .ref (ad (gm κ) 97)), (1, .int a1), (2, .int a2), (3, .int s.1), (4, .int s.2.1)] [] s.2.2) (K0 : ∀ e, P (.inl e) → J κ RX12 cX12_holds 10 (some .boolean) (rmk 1 29) 31 [] [] e) (K1 : ∀ e, P (.inr e) → J κ RX12 cX12_holds 10 (some .boolean) (rmk 1 29) 174 [(3, .int e.1)] [] e.2) (h : ok (X12_holds_j144  a1 a2 a3 a4 s0 w) (sel G P)) : J κ RX12 cX12_holds 10 (some .boolean) (rmk 1 29) 144 [(0, .ref (ad (gm κ) 97)), (1, .int a1), (2, .int a2), (3, .int a3), (4, .int a4)] [.int s0] w := by
  unfold X12_holds_j144 at h
  refine j_istore [(9, .int s0), (0, .ref (ad (gm κ) 97)), (1, .int a1), (2, .int a2), (3, .int a3), (4, .int a4)] dX12_holds_144 (by decide) rfl ?_
  refine j_iload_n 4 dX12_holds_146 rfl rfl ?_
  refine j_if_eq 166 dX12_holds_147 (by decide) h (fun h => ?_) (fun h => ?_)
  · refine j_loc [(0, .ref (ad (gm κ) 97)), (1, .int a1), (2, .int a2), (4, .int a4)] [1, 2, 3, 5] rfl ?_
    exact t_X12_holds_j166 a1 a2 a4 w KG K0 K1 h
  · refine j_iload 0 dX12_holds_150 rfl ?_
    refine j_aload_n 1 dX12_holds_152 rfl rfl ?_
    refine j_getA 138 fl_RX12_142 sh_97 fk_97_61 (by decide) dX12_holds_153 ?_
    refine j_iload 5 dX12_holds_156 rfl ?_
    refine j_zald sh_138 dX12_holds_158 h (fun h => ?_)
    refine j_ic_eq 166 dX12_holds_159 (by decide) h (fun h => ?_) (fun h => ?_)
    · refine j_loc [(0, .ref (ad (gm κ) 97)), (1, .int a1), (2, .int a2), (4, .int a4)] [1, 2, 3, 5] rfl ?_
      exact t_X12_holds_j166 a1 a2 a4 w KG K0 K1 h
    · refine j_iconst (1 : Int32) dX12_holds_162 ki_1 ?_
      refine j_goto 167 dX12_holds_163 (by decide) ?_
      refine j_loc [(0, .ref (ad (gm κ) 97)), (1, .int a1), (2, .int a2), (4, .int a4)] [1, 2, 3, 5] rfl ?_
      exact t_X12_holds_j167 a1 a2 a4 (1 : Int32) w KG K0 K1 h
noncomputable def X12_holds_j35 (a1 : Int32) (a2 : Int32) (a3 : Int32) (a4 : Int32) (w : Wd) : Option ((Int32 × Int32 × Wd) ⊕ (Wd ⊕ (Int32 × Wd))) :=
gd (vp_in a4 1500) <|
gd (vp_in a4 1500) <|
(X12_work (w.1 134 (ix a4)) (w.1 135 (ix a4)) w).bind fun q1 =>
gd (vp_in a4 1500) <|
gd (vp_in a4 1500) <|
(X12_work (q1.2.1 135 (ix a4)) (q1.2.1 136 (ix a4)) q1.2).bind fun q3 =>
gd (vp_in a4 1500) <|
(if (q3.2.1 137 (ix a4)) = (60 : Int32) then
(if 0 ≤ (lg_cmp q1.1 q3.1) then
X12_holds_j144 a1 a2 a3 a4 (0 : Int32) q3.2
else
X12_holds_j144 a1 a2 a3 a4 (1 : Int32) q3.2)
else
gd (vp_in a4 1500) <|
(if (q3.2.1 137 (ix a4)) = (62 : Int32) then
(if (lg_cmp q1.1 q3.1) ≤ 0 then
X12_holds_j144 a1 a2 a3 a4 (0 : Int32) q3.2
else
X12_holds_j144 a1 a2 a3 a4 (1 : Int32) q3.2)
else
(if (lg_cmp q1.1 q3.1) = 0 then
X12_holds_j144 a1 a2 a3 a4 (1 : Int32) q3.2
else
X12_holds_j144 a1 a2 a3 a4 (0 : Int32) q3.2)))
set_option maxRecDepth 20000 in
set_option maxHeartbeats 1000000 in
theorem t_X12_holds_j35 {κ : Kx} (a1 : Int32) (a2 : Int32) (a3 : Int32) (a4 : Int32) (w : Wd) {G : (Int32 × Int32 × Wd) → Prop} {P : (Wd ⊕ (Int32 × Wd)) → Prop} (KG : ∀ s, G s → J κ RX12 cX12_holds 10 (some .boolean) (rmk 1 29) 5 [(0, .ref (ad (gm κ) 97)), (1, .int a1), (2, .int a2), (3, .int s.1), (4, .int s.2.1)] [] s.2.2) (K0 : ∀ e, P (.inl e) → J κ RX12 cX12_holds 10 (some .boolean) (rmk 1 29) 31 [] [] e) (K1 : ∀ e, P (.inr e) → J κ RX12 cX12_holds 10 (some .boolean) (rmk 1 29) 174 [(3, .int e.1)] [] e.2) (h : ok (X12_holds_j35  a1 a2 a3 a4 w) (sel G P)) : J κ RX12 cX12_holds 10 (some .boolean) (rmk 1 29) 35 [(0, .ref (ad (gm κ) 97)), (1, .int a1), (2, .int a2), (3, .int a3), (4, .int a4)] [] w := by
  unfold X12_holds_j35 at h
  refine j_aload_n 0 dX12_holds_35 rfl rfl ?_
  refine j_aload_n 0 dX12_holds_36 rfl rfl ?_
  refine j_getA 134 fl_RX12_130 sh_97 fk_97_57 (by decide) dX12_holds_37 ?_
  refine j_iload 4 dX12_holds_40 rfl ?_
  refine j_iald sh_134 dX12_holds_42 h (fun h => ?_)
  refine j_aload_n 0 dX12_holds_43 rfl rfl ?_
  refine j_getA 135 fl_RX12_133 sh_97 fk_97_58 (by decide) dX12_holds_44 ?_
  refine j_iload 4 dX12_holds_47 rfl ?_
  refine j_iald sh_135 dX12_holds_49 h (fun h => ?_)
  obtain ⟨q1, e2, h⟩ := ok_b h
  refine j_callV (As := [.int (w.1 134 (ix a4)), .int (w.1 135 (ix a4))]) (st := []) [.long q1.1] (c_X12_work (kl κ) (gm κ) (kA κ) (w.1 134 (ix a4)) (w.1 135 (ix a4)) w q1 e2) ck_RX12_484 im_X12_work se_X12_work sh_97 cx_12 ⟨rfl, rfl⟩ ⟨by decide, by decide⟩ rfl rfl (Nat.le_of_ble_eq_true rfl) dX12_holds_50 _ rfl ?_
  refine j_lstore [(5, .long q1.1), (0, .ref (ad (gm κ) 97)), (1, .int a1), (2, .int a2), (3, .int a3), (4, .int a4)] dX12_holds_53 (by decide) rfl ?_
  refine j_aload_n 1 dX12_holds_55 rfl rfl ?_
  refine j_aload_n 1 dX12_holds_56 rfl rfl ?_
  refine j_getA 135 fl_RX12_133 sh_97 fk_97_58 (by decide) dX12_holds_57 ?_
  refine j_iload 5 dX12_holds_60 rfl ?_
  refine j_iald sh_135 dX12_holds_62 h (fun h => ?_)
  refine j_aload_n 1 dX12_holds_63 rfl rfl ?_
  refine j_getA 136 fl_RX12_136 sh_97 fk_97_59 (by decide) dX12_holds_64 ?_
  refine j_iload 5 dX12_holds_67 rfl ?_
  refine j_iald sh_136 dX12_holds_69 h (fun h => ?_)
  obtain ⟨q3, e4, h⟩ := ok_b h
  refine j_callV (As := [.int (q1.2.1 135 (ix a4)), .int (q1.2.1 136 (ix a4))]) (st := []) [.long q3.1] (c_X12_work (kl κ) (gm κ) (kA κ) (q1.2.1 135 (ix a4)) (q1.2.1 136 (ix a4)) q1.2 q3 e4) ck_RX12_484 im_X12_work se_X12_work sh_97 cx_12 ⟨rfl, rfl⟩ ⟨by decide, by decide⟩ rfl rfl (Nat.le_of_ble_eq_true rfl) dX12_holds_70 _ rfl ?_
  refine j_lstore [(7, .long q3.1), (5, .long q1.1), (0, .ref (ad (gm κ) 97)), (1, .int a1), (2, .int a2), (3, .int a3), (4, .int a4)] dX12_holds_73 (by decide) rfl ?_
  refine j_aload_n 2 dX12_holds_75 rfl rfl ?_
  refine j_getA 137 fl_RX12_139 sh_97 fk_97_60 (by decide) dX12_holds_76 ?_
  refine j_iload 6 dX12_holds_79 rfl ?_
  refine j_iald sh_137 dX12_holds_81 h (fun h => ?_)
  refine j_bipush (60 : Int32) dX12_holds_82 kb_60 ?_
  refine j_ic_ne 103 dX12_holds_84 (by decide) h (fun h => ?_) (fun h => ?_)
  · refine j_aload_n 2 dX12_holds_103 rfl rfl ?_
    refine j_getA 137 fl_RX12_139 sh_97 fk_97_60 (by decide) dX12_holds_104 ?_
    refine j_iload 6 dX12_holds_107 rfl ?_
    refine j_iald sh_137 dX12_holds_109 h (fun h => ?_)
    refine j_bipush (62 : Int32) dX12_holds_110 kb_62 ?_
    refine j_ic_ne 131 dX12_holds_112 (by decide) h (fun h => ?_) (fun h => ?_)
    · refine j_lload 1 dX12_holds_131 rfl ?_
      refine j_lload 0 dX12_holds_133 rfl ?_
      refine j_lcmp dX12_holds_135 ?_
      refine j_if_ne 143 dX12_holds_136 (by decide) h (fun h => ?_) (fun h => ?_)
      · refine j_iconst (0 : Int32) dX12_holds_143 ki_0 ?_
        refine j_loc [(0, .ref (ad (gm κ) 97)), (1, .int a1), (2, .int a2), (3, .int a3), (4, .int a4)] [2, 3, 4, 5, 6] rfl ?_
        exact t_X12_holds_j144 a1 a2 a3 a4 (0 : Int32) q3.2 KG K0 K1 h
      · refine j_iconst (1 : Int32) dX12_holds_139 ki_1 ?_
        refine j_goto 144 dX12_holds_140 (by decide) ?_
        refine j_loc [(0, .ref (ad (gm κ) 97)), (1, .int a1), (2, .int a2), (3, .int a3), (4, .int a4)] [2, 3, 4, 5, 6] rfl ?_
        exact t_X12_holds_j144 a1 a2 a3 a4 (1 : Int32) q3.2 KG K0 K1 h
    · refine j_lload 1 dX12_holds_115 rfl ?_
      refine j_lload 0 dX12_holds_117 rfl ?_
      refine j_lcmp dX12_holds_119 ?_
      refine j_if_le 127 dX12_holds_120 (by decide) h (fun h => ?_) (fun h => ?_)
      · refine j_iconst (0 : Int32) dX12_holds_127 ki_0 ?_
        refine j_goto 144 dX12_holds_128 (by decide) ?_
        refine j_loc [(0, .ref (ad (gm κ) 97)), (1, .int a1), (2, .int a2), (3, .int a3), (4, .int a4)] [2, 3, 4, 5, 6] rfl ?_
        exact t_X12_holds_j144 a1 a2 a3 a4 (0 : Int32) q3.2 KG K0 K1 h
      · refine j_iconst (1 : Int32) dX12_holds_123 ki_1 ?_
        refine j_goto 144 dX12_holds_124 (by decide) ?_
        refine j_loc [(0, .ref (ad (gm κ) 97)), (1, .int a1), (2, .int a2), (3, .int a3), (4, .int a4)] [2, 3, 4, 5, 6] rfl ?_
        exact t_X12_holds_j144 a1 a2 a3 a4 (1 : Int32) q3.2 KG K0 K1 h
  · refine j_lload 1 dX12_holds_87 rfl ?_
    refine j_lload 0 dX12_holds_89 rfl ?_
    refine j_lcmp dX12_holds_91 ?_
    refine j_if_ge 99 dX12_holds_92 (by decide) h (fun h => ?_) (fun h => ?_)
    · refine j_iconst (0 : Int32) dX12_holds_99 ki_0 ?_
      refine j_goto 144 dX12_holds_100 (by decide) ?_
      refine j_loc [(0, .ref (ad (gm κ) 97)), (1, .int a1), (2, .int a2), (3, .int a3), (4, .int a4)] [2, 3, 4, 5, 6] rfl ?_
      exact t_X12_holds_j144 a1 a2 a3 a4 (0 : Int32) q3.2 KG K0 K1 h
    · refine j_iconst (1 : Int32) dX12_holds_95 ki_1 ?_
      refine j_goto 144 dX12_holds_96 (by decide) ?_
      refine j_loc [(0, .ref (ad (gm κ) 97)), (1, .int a1), (2, .int a2), (3, .int a3), (4, .int a4)] [2, 3, 4, 5, 6] rfl ?_
      exact t_X12_holds_j144 a1 a2 a3 a4 (1 : Int32) q3.2 KG K0 K1 h
noncomputable def X12_holds_b5 (a1 : Int32) (a2 : Int32) (s : (Int32 × Int32 × Wd)) : Option ((Int32 × Int32 × Wd) ⊕ (Wd ⊕ (Int32 × Wd))) :=
(if a2 ≤ s.2.1 then
some (.inr (.inr (s.1, s.2.2)))
else
gd (vp_in s.2.1 1500) <|
(if (s.2.2.1 139 (ix s.2.1)) = 0 then
X12_holds_j35 a1 a2 s.1 s.2.1 s.2.2
else
(if s.2.1 ≤ a1 then
X12_holds_j35 a1 a2 s.1 s.2.1 s.2.2
else
(if s.1 = 0 then
X12_holds_j35 a1 a2 (1 : Int32) s.2.1 s.2.2
else
some (.inr (.inl s.2.2))))))
set_option maxRecDepth 20000 in
set_option maxHeartbeats 1000000 in
theorem t_X12_holds_b5 {κ : Kx} (a1 : Int32) (a2 : Int32) {P : (Wd ⊕ (Int32 × Wd)) → Prop} (K0 : ∀ e, P (.inl e) → J κ RX12 cX12_holds 10 (some .boolean) (rmk 1 29) 31 [] [] e) (K1 : ∀ e, P (.inr e) → J κ RX12 cX12_holds 10 (some .boolean) (rmk 1 29) 174 [(3, .int e.1)] [] e.2) (s : (Int32 × Int32 × Wd)) (h : ok (lp (X12_holds_b5  a1 a2) s) P) : J κ RX12 cX12_holds 10 (some .boolean) (rmk 1 29) 5 [(0, .ref (ad (gm κ) 97)), (1, .int a1), (2, .int a2), (3, .int s.1), (4, .int s.2.1)] [] s.2.2 := by
  refine lp_ind (fun s => J κ RX12 cX12_holds 10 (some .boolean) (rmk 1 29) 5 [(0, .ref (ad (gm κ) 97)), (1, .int a1), (2, .int a2), (3, .int s.1), (4, .int s.2.1)] [] s.2.2) (fun s h => ?_) s h
  unfold X12_holds_b5 at h
  refine j_iload 4 dX12_holds_5 rfl ?_
  refine j_iload_n 2 dX12_holds_7 rfl rfl ?_
  refine j_ic_ge 174 dX12_holds_8 (by decide) h (fun h => ?_) (fun h => ?_)
  · refine j_loc [(3, .int s.1)] [3] rfl ?_
    have h := sel_r h
    have h := K1 _ h
    exact h
  · refine j_aload_n 0 dX12_holds_11 rfl rfl ?_
    refine j_getA 139 fl_RX12_146 sh_97 fk_97_62 (by decide) dX12_holds_12 ?_
    refine j_iload 4 dX12_holds_15 rfl ?_
    refine j_zald sh_139 dX12_holds_17 h (fun h => ?_)
    refine j_if_eq 35 dX12_holds_18 (by decide) h (fun h => ?_) (fun h => ?_)
    · refine j_loc [(0, .ref (ad (gm κ) 97)), (1, .int a1), (2, .int a2), (3, .int s.1), (4, .int s.2.1)] [0, 1, 2, 3, 4] rfl ?_
      exact t_X12_holds_j35 a1 a2 s.1 s.2.1 s.2.2 (fun _ h => h) K0 K1 h
    · refine j_iload 4 dX12_holds_21 rfl ?_
      refine j_iload_n 1 dX12_holds_23 rfl rfl ?_
      refine j_ic_le 35 dX12_holds_24 (by decide) h (fun h => ?_) (fun h => ?_)
      · refine j_loc [(0, .ref (ad (gm κ) 97)), (1, .int a1), (2, .int a2), (3, .int s.1), (4, .int s.2.1)] [0, 1, 2, 3, 4] rfl ?_
        exact t_X12_holds_j35 a1 a2 s.1 s.2.1 s.2.2 (fun _ h => h) K0 K1 h
      · refine j_iload_n 3 dX12_holds_27 rfl rfl ?_
        refine j_if_eq 33 dX12_holds_28 (by decide) h (fun h => ?_) (fun h => ?_)
        · refine j_iconst (1 : Int32) dX12_holds_33 ki_1 ?_
          refine j_istore_n [(3, .int (1 : Int32)), (0, .ref (ad (gm κ) 97)), (1, .int a1), (2, .int a2), (4, .int s.2.1)] dX12_holds_34 rfl (by decide) rfl ?_
          refine j_loc [(0, .ref (ad (gm κ) 97)), (1, .int a1), (2, .int a2), (3, .int (1 : Int32)), (4, .int s.2.1)] [1, 2, 3, 0, 4] rfl ?_
          exact t_X12_holds_j35 a1 a2 (1 : Int32) s.2.1 s.2.2 (fun _ h => h) K0 K1 h
        · refine j_loc [] [] rfl ?_
          have h := sel_r h
          have h := K0 _ h
          exact h
noncomputable def X12_holds (a1 : Int32) (a2 : Int32) (w : Wd) : Option (Int32 × Wd) :=
(lp (X12_holds_b5 a1 a2) ((1 : Int32), a1, w)).bind fun e5 => match e5 with
| (.inl e6) => (some ((1 : Int32), e6))
| (.inr e7) => (gd (narrow .boolean (.int e7.1) = .int e7.1) <|
some (e7.1, e7.2))
set_option maxRecDepth 20000 in
set_option maxHeartbeats 1000000 in
theorem t_X12_holds {κ : Kx} (a1 : Int32) (a2 : Int32) (w : Wd) (h : ok (X12_holds  a1 a2 w) (PIw κ)) : J κ RX12 cX12_holds 10 (some .boolean) (rmk 1 29) 0 [(0, .ref (ad (gm κ) 97)), (1, .int a1), (2, .int a2)] [] w := by
  unfold X12_holds at h
  refine j_iconst (1 : Int32) dX12_holds_0 ki_1 ?_
  refine j_istore_n [(3, .int (1 : Int32)), (0, .ref (ad (gm κ) 97)), (1, .int a1), (2, .int a2)] dX12_holds_1 rfl (by decide) rfl ?_
  refine j_iload_n 2 dX12_holds_2 rfl rfl ?_
  refine j_istore [(4, .int a1), (3, .int (1 : Int32)), (0, .ref (ad (gm κ) 97)), (1, .int a1), (2, .int a2)] dX12_holds_3 (by decide) rfl ?_
  refine j_loc [(0, .ref (ad (gm κ) 97)), (1, .int a1), (2, .int a2), (3, .int (1 : Int32)), (4, .int a1)] [2, 3, 4, 1, 0] rfl ?_
  refine t_X12_holds_b5 a1 a2 (fun e6 h => ?_) (fun e7 h => ?_) ((1 : Int32), a1, w) (ok_bb h)
  · refine j_iconst (1 : Int32) dX12_holds_31 ki_1 ?_
    have h := ok_s h
    exact j_iret dX12_holds_32 rfl (by decide) h
  · refine j_iload_n 0 dX12_holds_174 rfl rfl ?_
    obtain ⟨hz, h⟩ := ok_g h
    have h := ok_s h
    exact j_iret dX12_holds_175 rfl hz h
theorem c_X12_holds (l : Launch) (γ : Gm) (A : Nat → Prop) (a1 : Int32) (a2 : Int32) (w : Wd) (q : Int32 × Wd) (e : X12_holds  a1 a2 w = some q) : MetG l γ A yX12_holds cX12_holds 10 (some .boolean) (rmk 1 29) [.ref (ad (γ) 97), .int a1, .int a2] w (some (.int q.1)) q.2 := by
  refine met_of pn_RX12 (Nat.le_of_ble_eq_true rfl) ?_
  intro κ hl hγ hA hρ
  subst hl; subst hγ; subst hA
  exact t_X12_holds   a1 a2 w ⟨q, e, pIw hρ rfl rfl⟩
theorem dX12_isUnless_0 : decode cX12_isUnless 0 = .ok (.aload_n 0, 1) := by decide +kernel
theorem dX12_isUnless_1 : decode cX12_isUnless 1 = .ok (.getfield 121, 3) := by decide +kernel
theorem dX12_isUnless_4 : decode cX12_isUnless 4 = .ok (.iload_n 1, 1) := by decide +kernel
theorem dX12_isUnless_5 : decode cX12_isUnless 5 = .ok (.iaload, 1) := by decide +kernel
theorem dX12_isUnless_6 : decode cX12_isUnless 6 = .ok (.aload_n 0, 1) := by decide +kernel
theorem dX12_isUnless_7 : decode cX12_isUnless 7 = .ok (.getfield 118, 3) := by decide +kernel
theorem dX12_isUnless_10 : decode cX12_isUnless 10 = .ok (.iload_n 1, 1) := by decide +kernel
theorem dX12_isUnless_11 : decode cX12_isUnless 11 = .ok (.iaload, 1) := by decide +kernel
theorem dX12_isUnless_12 : decode cX12_isUnless 12 = .ok (.if_icmp .le 26, 3) := by decide +kernel
theorem dX12_isUnless_15 : decode cX12_isUnless 15 = .ok (.aload_n 0, 1) := by decide +kernel
theorem dX12_isUnless_16 : decode cX12_isUnless 16 = .ok (.aload_n 0, 1) := by decide +kernel
theorem dX12_isUnless_17 : decode cX12_isUnless 17 = .ok (.getfield 118, 3) := by decide +kernel
theorem dX12_isUnless_20 : decode cX12_isUnless 20 = .ok (.iload_n 1, 1) := by decide +kernel
theorem dX12_isUnless_21 : decode cX12_isUnless 21 = .ok (.iaload, 1) := by decide +kernel
theorem dX12_isUnless_22 : decode cX12_isUnless 22 = .ok (.aload_n 0, 1) := by decide +kernel
theorem dX12_isUnless_23 : decode cX12_isUnless 23 = .ok (.getfield 121, 3) := by decide +kernel
theorem dX12_isUnless_26 : decode cX12_isUnless 26 = .ok (.iload_n 1, 1) := by decide +kernel
theorem dX12_isUnless_27 : decode cX12_isUnless 27 = .ok (.iaload, 1) := by decide +kernel
theorem dX12_isUnless_28 : decode cX12_isUnless 28 = .ok (.invokevirtual 488, 3) := by decide +kernel
theorem dX12_isUnless_31 : decode cX12_isUnless 31 = .ok (.ifCond .eq 7, 3) := by decide +kernel
theorem dX12_isUnless_34 : decode cX12_isUnless 34 = .ok (.iconst 1, 1) := by decide +kernel
theorem dX12_isUnless_35 : decode cX12_isUnless 35 = .ok (.goto 4, 3) := by decide +kernel
theorem dX12_isUnless_38 : decode cX12_isUnless 38 = .ok (.iconst 0, 1) := by decide +kernel
theorem dX12_isUnless_39 : decode cX12_isUnless 39 = .ok (.ireturn, 1) := by decide +kernel
noncomputable def X12_isUnless (a1 : Int32) (w : Wd) : Option (Int32 × Wd) :=
gd (vp_in a1 120) <|
gd (vp_in a1 120) <|
(if (w.1 131 (ix a1)) ≤ (w.1 130 (ix a1)) then
some ((0 : Int32), w)
else
gd (vp_in a1 120) <|
gd (vp_in a1 120) <|
(X12_holds (w.1 130 (ix a1)) (w.1 131 (ix a1)) w).bind fun q1 =>
(if q1.1 = 0 then
some ((0 : Int32), q1.2)
else
some ((1 : Int32), q1.2)))
set_option maxRecDepth 20000 in
set_option maxHeartbeats 1000000 in
theorem t_X12_isUnless {κ : Kx} (a1 : Int32) (w : Wd) (h : ok (X12_isUnless  a1 w) (PIw κ)) : J κ RX12 cX12_isUnless 2 (some .boolean) (rmk 2 58) 0 [(0, .ref (ad (gm κ) 97)), (1, .int a1)] [] w := by
  unfold X12_isUnless at h
  refine j_aload_n 0 dX12_isUnless_0 rfl rfl ?_
  refine j_getA 131 fl_RX12_121 sh_97 fk_97_54 (by decide) dX12_isUnless_1 ?_
  refine j_iload_n 1 dX12_isUnless_4 rfl rfl ?_
  refine j_iald sh_131 dX12_isUnless_5 h (fun h => ?_)
  refine j_aload_n 0 dX12_isUnless_6 rfl rfl ?_
  refine j_getA 130 fl_RX12_118 sh_97 fk_97_53 (by decide) dX12_isUnless_7 ?_
  refine j_iload_n 1 dX12_isUnless_10 rfl rfl ?_
  refine j_iald sh_130 dX12_isUnless_11 h (fun h => ?_)
  refine j_ic_le 38 dX12_isUnless_12 (by decide) h (fun h => ?_) (fun h => ?_)
  · refine j_iconst (0 : Int32) dX12_isUnless_38 ki_0 ?_
    have h := ok_s h
    exact j_iret dX12_isUnless_39 rfl (by decide) h
  · refine j_aload_n 0 dX12_isUnless_15 rfl rfl ?_
    refine j_aload_n 0 dX12_isUnless_16 rfl rfl ?_
    refine j_getA 130 fl_RX12_118 sh_97 fk_97_53 (by decide) dX12_isUnless_17 ?_
    refine j_iload_n 1 dX12_isUnless_20 rfl rfl ?_
    refine j_iald sh_130 dX12_isUnless_21 h (fun h => ?_)
    refine j_aload_n 0 dX12_isUnless_22 rfl rfl ?_
    refine j_getA 131 fl_RX12_121 sh_97 fk_97_54 (by decide) dX12_isUnless_23 ?_
    refine j_iload_n 1 dX12_isUnless_26 rfl rfl ?_
    refine j_iald sh_131 dX12_isUnless_27 h (fun h => ?_)
    obtain ⟨q1, e2, h⟩ := ok_b h
    refine j_callV (As := [.int (w.1 130 (ix a1)), .int (w.1 131 (ix a1))]) (st := []) [.int q1.1] (c_X12_holds (kl κ) (gm κ) (kA κ) (w.1 130 (ix a1)) (w.1 131 (ix a1)) w q1 e2) ck_RX12_488 im_X12_holds se_X12_holds sh_97 cx_12 ⟨rfl, rfl⟩ ⟨by decide, by decide⟩ rfl rfl (Nat.le_of_ble_eq_true rfl) dX12_isUnless_28 _ rfl ?_
    refine j_if_eq 38 dX12_isUnless_31 (by decide) h (fun h => ?_) (fun h => ?_)
    · refine j_iconst (0 : Int32) dX12_isUnless_38 ki_0 ?_
      have h := ok_s h
      exact j_iret dX12_isUnless_39 rfl (by decide) h
    · refine j_iconst (1 : Int32) dX12_isUnless_34 ki_1 ?_
      refine j_goto 39 dX12_isUnless_35 (by decide) ?_
      have h := ok_s h
      exact j_iret dX12_isUnless_39 rfl (by decide) h
theorem c_X12_isUnless (l : Launch) (γ : Gm) (A : Nat → Prop) (a1 : Int32) (w : Wd) (q : Int32 × Wd) (e : X12_isUnless  a1 w = some q) : MetG l γ A yX12_isUnless cX12_isUnless 2 (some .boolean) (rmk 2 58) [.ref (ad (γ) 97), .int a1] w (some (.int q.1)) q.2 := by
  refine met_of pn_RX12 (Nat.le_of_ble_eq_true rfl) ?_
  intro κ hl hγ hA hρ
  subst hl; subst hγ; subst hA
  exact t_X12_isUnless   a1 w ⟨q, e, pIw hρ rfl rfl⟩
theorem dX12_allShut_0 : decode cX12_allShut 0 = .ok (.iconst 0, 1) := by decide +kernel
theorem dX12_allShut_1 : decode cX12_allShut 1 = .ok (.istore_n 3, 1) := by decide +kernel
theorem dX12_allShut_2 : decode cX12_allShut 2 = .ok (.iconst 0, 1) := by decide +kernel
theorem dX12_allShut_3 : decode cX12_allShut 3 = .ok (.istore 4, 2) := by decide +kernel
theorem dX12_allShut_5 : decode cX12_allShut 5 = .ok (.iload 4, 2) := by decide +kernel
theorem dX12_allShut_7 : decode cX12_allShut 7 = .ok (.aload_n 0, 1) := by decide +kernel
theorem dX12_allShut_8 : decode cX12_allShut 8 = .ok (.getfield 325, 3) := by decide +kernel
theorem dX12_allShut_11 : decode cX12_allShut 11 = .ok (.if_icmp .ge 49, 3) := by decide +kernel
theorem dX12_allShut_14 : decode cX12_allShut 14 = .ok (.aload_n 0, 1) := by decide +kernel
theorem dX12_allShut_15 : decode cX12_allShut 15 = .ok (.getfield 27, 3) := by decide +kernel
theorem dX12_allShut_18 : decode cX12_allShut 18 = .ok (.iload 4, 2) := by decide +kernel
theorem dX12_allShut_20 : decode cX12_allShut 20 = .ok (.iaload, 1) := by decide +kernel
theorem dX12_allShut_21 : decode cX12_allShut 21 = .ok (.iload_n 1, 1) := by decide +kernel
theorem dX12_allShut_22 : decode cX12_allShut 22 = .ok (.if_icmp .eq 17, 3) := by decide +kernel
theorem dX12_allShut_25 : decode cX12_allShut 25 = .ok (.aload_n 0, 1) := by decide +kernel
theorem dX12_allShut_26 : decode cX12_allShut 26 = .ok (.getfield 30, 3) := by decide +kernel
theorem dX12_allShut_29 : decode cX12_allShut 29 = .ok (.iload 4, 2) := by decide +kernel
theorem dX12_allShut_31 : decode cX12_allShut 31 = .ok (.iaload, 1) := by decide +kernel
theorem dX12_allShut_32 : decode cX12_allShut 32 = .ok (.iload_n 1, 1) := by decide +kernel
theorem dX12_allShut_33 : decode cX12_allShut 33 = .ok (.if_icmp .eq 6, 3) := by decide +kernel
theorem dX12_allShut_36 : decode cX12_allShut 36 = .ok (.goto 18, 3) := by decide +kernel
theorem dX12_allShut_39 : decode cX12_allShut 39 = .ok (.iinc 3 1, 3) := by decide +kernel
theorem dX12_allShut_42 : decode cX12_allShut 42 = .ok (.aload_n 0, 1) := by decide +kernel
theorem dX12_allShut_43 : decode cX12_allShut 43 = .ok (.iload 4, 2) := by decide +kernel
theorem dX12_allShut_45 : decode cX12_allShut 45 = .ok (.iload_n 2, 1) := by decide +kernel
theorem dX12_allShut_46 : decode cX12_allShut 46 = .ok (.invokevirtual 328, 3) := by decide +kernel
theorem dX12_allShut_49 : decode cX12_allShut 49 = .ok (.ifCond .ne 5, 3) := by decide +kernel
theorem dX12_allShut_52 : decode cX12_allShut 52 = .ok (.iconst 0, 1) := by decide +kernel
theorem dX12_allShut_53 : decode cX12_allShut 53 = .ok (.ireturn, 1) := by decide +kernel
theorem dX12_allShut_54 : decode cX12_allShut 54 = .ok (.iinc 4 1, 3) := by decide +kernel
theorem dX12_allShut_57 : decode cX12_allShut 57 = .ok (.goto (-52), 3) := by decide +kernel
theorem dX12_allShut_60 : decode cX12_allShut 60 = .ok (.iload_n 3, 1) := by decide +kernel
theorem dX12_allShut_61 : decode cX12_allShut 61 = .ok (.ifCond .le 7, 3) := by decide +kernel
theorem dX12_allShut_64 : decode cX12_allShut 64 = .ok (.iconst 1, 1) := by decide +kernel
theorem dX12_allShut_65 : decode cX12_allShut 65 = .ok (.goto 4, 3) := by decide +kernel
theorem dX12_allShut_68 : decode cX12_allShut 68 = .ok (.iconst 0, 1) := by decide +kernel
theorem dX12_allShut_69 : decode cX12_allShut 69 = .ok (.ireturn, 1) := by decide +kernel
noncomputable def X12_allShut_j54 (a1 : Int32) (a2 : Int32) (a3 : Int32) (a4 : Int32) (w : Wd) : Option ((Int32 × Int32) ⊕ (Unit ⊕ Int32)) :=
some (.inl (a3, (a4 + (1 : Int32))))
set_option maxRecDepth 20000 in
set_option maxHeartbeats 1000000 in
theorem t_X12_allShut_j54 {κ : Kx} (a1 : Int32) (a2 : Int32) (a3 : Int32) (a4 : Int32) (w : Wd) {G : (Int32 × Int32) → Prop} {P : (Unit ⊕ Int32) → Prop} (KG : ∀ s, G s → J κ RX12 cX12_allShut 5 (some .boolean) (rmk 1 22) 5 [(0, .ref (ad (gm κ) 97)), (1, .int a1), (2, .int a2), (3, .int s.1), (4, .int s.2)] [] w) (K0 : ∀ e, P (.inl e) → J κ RX12 cX12_allShut 5 (some .boolean) (rmk 1 22) 52 [] [] w) (K1 : ∀ e, P (.inr e) → J κ RX12 cX12_allShut 5 (some .boolean) (rmk 1 22) 60 [(3, .int e)] [] w) (h : ok (X12_allShut_j54  a1 a2 a3 a4 w) (sel G P)) : J κ RX12 cX12_allShut 5 (some .boolean) (rmk 1 22) 54 [(0, .ref (ad (gm κ) 97)), (1, .int a1), (2, .int a2), (3, .int a3), (4, .int a4)] [] w := by
  unfold X12_allShut_j54 at h
  refine j_iinc (a4 + (1 : Int32)) 4 [(4, .int (a4 + (1 : Int32))), (0, .ref (ad (gm κ) 97)), (1, .int a1), (2, .int a2), (3, .int a3)] dX12_allShut_54 rfl (by rw [kn_1]) (by decide) rfl ?_
  refine j_goto 5 dX12_allShut_57 (by decide) ?_
  refine j_loc [(0, .ref (ad (gm κ) 97)), (1, .int a1), (2, .int a2), (3, .int a3), (4, .int (a4 + (1 : Int32)))] [1, 2, 3, 4, 0] rfl ?_
  have h := sel_l h
  have h := KG _ h
  exact h
noncomputable def X12_allShut_j39 (a1 : Int32) (a2 : Int32) (a3 : Int32) (a4 : Int32) (w : Wd) : Option ((Int32 × Int32) ⊕ (Unit ⊕ Int32)) :=
(X12_isShut a4 a2 w).bind fun q1 =>
(if q1 = 0 then
some (.inr (.inl ()))
else
X12_allShut_j54 a1 a2 (a3 + (1 : Int32)) a4 w)
set_option maxRecDepth 20000 in
set_option maxHeartbeats 1000000 in
theorem t_X12_allShut_j39 {κ : Kx} (a1 : Int32) (a2 : Int32) (a3 : Int32) (a4 : Int32) (w : Wd) {G : (Int32 × Int32) → Prop} {P : (Unit ⊕ Int32) → Prop} (KG : ∀ s, G s → J κ RX12 cX12_allShut 5 (some .boolean) (rmk 1 22) 5 [(0, .ref (ad (gm κ) 97)), (1, .int a1), (2, .int a2), (3, .int s.1), (4, .int s.2)] [] w) (K0 : ∀ e, P (.inl e) → J κ RX12 cX12_allShut 5 (some .boolean) (rmk 1 22) 52 [] [] w) (K1 : ∀ e, P (.inr e) → J κ RX12 cX12_allShut 5 (some .boolean) (rmk 1 22) 60 [(3, .int e)] [] w) (h : ok (X12_allShut_j39  a1 a2 a3 a4 w) (sel G P)) : J κ RX12 cX12_allShut 5 (some .boolean) (rmk 1 22) 39 [(0, .ref (ad (gm κ) 97)), (1, .int a1), (2, .int a2), (3, .int a3), (4, .int a4)] [] w := by
  unfold X12_allShut_j39 at h
  refine j_iinc (a3 + (1 : Int32)) 3 [(3, .int (a3 + (1 : Int32))), (0, .ref (ad (gm κ) 97)), (1, .int a1), (2, .int a2), (4, .int a4)] dX12_allShut_39 rfl (by rw [kn_1]) (by decide) rfl ?_
  refine j_aload_n 1 dX12_allShut_42 rfl rfl ?_
  refine j_iload 4 dX12_allShut_43 rfl ?_
  refine j_iload_n 3 dX12_allShut_45 rfl rfl ?_
  obtain ⟨q1, e2, h⟩ := ok_b h
  refine j_callV (As := [.int a4, .int a2]) (st := []) [.int q1] (c_X12_isShut (kl κ) (gm κ) (kA κ) a4 a2 w q1 e2) ck_RX12_328 im_X12_isShut se_X12_isShut sh_97 cx_12 ⟨rfl, rfl⟩ ⟨by decide, by decide⟩ rfl rfl (Nat.le_of_ble_eq_true rfl) dX12_allShut_46 _ rfl ?_
  refine j_if_ne 54 dX12_allShut_49 (by decide) h (fun h => ?_) (fun h => ?_)
  · refine j_loc [(0, .ref (ad (gm κ) 97)), (1, .int a1), (2, .int a2), (3, .int (a3 + (1 : Int32))), (4, .int a4)] [1, 2, 3, 0, 4] rfl ?_
    exact t_X12_allShut_j54 a1 a2 (a3 + (1 : Int32)) a4 w KG K0 K1 h
  · refine j_loc [] [] rfl ?_
    have h := sel_r h
    have h := K0 _ h
    exact h
noncomputable def X12_allShut_b5 (a1 : Int32) (a2 : Int32) (w : Wd) (s : (Int32 × Int32)) : Option ((Int32 × Int32) ⊕ (Unit ⊕ Int32)) :=
(if (w.1 97 5) ≤ s.2 then
some (.inr (.inr s.1))
else
gd (vp_in s.2 30) <|
(if (w.1 102 (ix s.2)) = a1 then
X12_allShut_j39 a1 a2 s.1 s.2 w
else
gd (vp_in s.2 30) <|
(if (w.1 103 (ix s.2)) = a1 then
X12_allShut_j39 a1 a2 s.1 s.2 w
else
X12_allShut_j54 a1 a2 s.1 s.2 w)))
set_option maxRecDepth 20000 in
set_option maxHeartbeats 1000000 in
theorem t_X12_allShut_b5 {κ : Kx} (a1 : Int32) (a2 : Int32) (w : Wd) {P : (Unit ⊕ Int32) → Prop} (K0 : ∀ e, P (.inl e) → J κ RX12 cX12_allShut 5 (some .boolean) (rmk 1 22) 52 [] [] w) (K1 : ∀ e, P (.inr e) → J κ RX12 cX12_allShut 5 (some .boolean) (rmk 1 22) 60 [(3, .int e)] [] w) (s : (Int32 × Int32)) (h : ok (lp (X12_allShut_b5  a1 a2 w) s) P) : J κ RX12 cX12_allShut 5 (some .boolean) (rmk 1 22) 5 [(0, .ref (ad (gm κ) 97)), (1, .int a1), (2, .int a2), (3, .int s.1), (4, .int s.2)] [] w := by
  refine lp_ind (fun s => J κ RX12 cX12_allShut 5 (some .boolean) (rmk 1 22) 5 [(0, .ref (ad (gm κ) 97)), (1, .int a1), (2, .int a2), (3, .int s.1), (4, .int s.2)] [] w) (fun s h => ?_) s h
  unfold X12_allShut_b5 at h
  refine j_iload 4 dX12_allShut_5 rfl ?_
  refine j_aload_n 0 dX12_allShut_7 rfl rfl ?_
  refine j_getI fl_RX12_325 sh_97 fk_97_5 dX12_allShut_8 ?_
  refine j_ic_ge 60 dX12_allShut_11 (by decide) h (fun h => ?_) (fun h => ?_)
  · refine j_loc [(3, .int s.1)] [3] rfl ?_
    have h := sel_r h
    have h := K1 _ h
    exact h
  · refine j_aload_n 0 dX12_allShut_14 rfl rfl ?_
    refine j_getA 102 fl_RX12_27 sh_97 fk_97_13 (by decide) dX12_allShut_15 ?_
    refine j_iload 4 dX12_allShut_18 rfl ?_
    refine j_iald sh_102 dX12_allShut_20 h (fun h => ?_)
    refine j_iload_n 1 dX12_allShut_21 rfl rfl ?_
    refine j_ic_eq 39 dX12_allShut_22 (by decide) h (fun h => ?_) (fun h => ?_)
    · refine j_loc [(0, .ref (ad (gm κ) 97)), (1, .int a1), (2, .int a2), (3, .int s.1), (4, .int s.2)] [0, 1, 2, 3, 4] rfl ?_
      exact t_X12_allShut_j39 a1 a2 s.1 s.2 w (fun _ h => h) K0 K1 h
    · refine j_aload_n 0 dX12_allShut_25 rfl rfl ?_
      refine j_getA 103 fl_RX12_30 sh_97 fk_97_14 (by decide) dX12_allShut_26 ?_
      refine j_iload 4 dX12_allShut_29 rfl ?_
      refine j_iald sh_103 dX12_allShut_31 h (fun h => ?_)
      refine j_iload_n 1 dX12_allShut_32 rfl rfl ?_
      refine j_ic_eq 39 dX12_allShut_33 (by decide) h (fun h => ?_) (fun h => ?_)
      · refine j_loc [(0, .ref (ad (gm κ) 97)), (1, .int a1), (2, .int a2), (3, .int s.1), (4, .int s.2)] [0, 1, 2, 3, 4] rfl ?_
        exact t_X12_allShut_j39 a1 a2 s.1 s.2 w (fun _ h => h) K0 K1 h
      · refine j_goto 54 dX12_allShut_36 (by decide) ?_
        refine j_loc [(0, .ref (ad (gm κ) 97)), (1, .int a1), (2, .int a2), (3, .int s.1), (4, .int s.2)] [0, 1, 2, 3, 4] rfl ?_
        exact t_X12_allShut_j54 a1 a2 s.1 s.2 w (fun _ h => h) K0 K1 h
noncomputable def X12_allShut (a1 : Int32) (a2 : Int32) (w : Wd) : Option (Int32) :=
(lp (X12_allShut_b5 a1 a2 w) ((0 : Int32), (0 : Int32))).bind fun e3 => match e3 with
| (.inl e4) => (some (0 : Int32))
| (.inr e5) => ((if e5 ≤ 0 then
some (0 : Int32)
else
some (1 : Int32)))
set_option maxRecDepth 20000 in
set_option maxHeartbeats 1000000 in
theorem t_X12_allShut {κ : Kx} (a1 : Int32) (a2 : Int32) (w : Wd) (h : ok (X12_allShut  a1 a2 w) (PI κ w)) : J κ RX12 cX12_allShut 5 (some .boolean) (rmk 1 22) 0 [(0, .ref (ad (gm κ) 97)), (1, .int a1), (2, .int a2)] [] w := by
  unfold X12_allShut at h
  refine j_iconst (0 : Int32) dX12_allShut_0 ki_0 ?_
  refine j_istore_n [(3, .int (0 : Int32)), (0, .ref (ad (gm κ) 97)), (1, .int a1), (2, .int a2)] dX12_allShut_1 rfl (by decide) rfl ?_
  refine j_iconst (0 : Int32) dX12_allShut_2 ki_0 ?_
  refine j_istore [(4, .int (0 : Int32)), (3, .int (0 : Int32)), (0, .ref (ad (gm κ) 97)), (1, .int a1), (2, .int a2)] dX12_allShut_3 (by decide) rfl ?_
  refine j_loc [(0, .ref (ad (gm κ) 97)), (1, .int a1), (2, .int a2), (3, .int (0 : Int32)), (4, .int (0 : Int32))] [2, 3, 4, 1, 0] rfl ?_
  refine t_X12_allShut_b5 a1 a2 w (fun e4 h => ?_) (fun e5 h => ?_) ((0 : Int32), (0 : Int32)) (ok_bb h)
  · refine j_iconst (0 : Int32) dX12_allShut_52 ki_0 ?_
    have h := ok_s h
    exact j_iret dX12_allShut_53 rfl (by decide) h
  · refine j_iload_n 0 dX12_allShut_60 rfl rfl ?_
    refine j_if_le 68 dX12_allShut_61 (by decide) h (fun h => ?_) (fun h => ?_)
    · refine j_iconst (0 : Int32) dX12_allShut_68 ki_0 ?_
      have h := ok_s h
      exact j_iret dX12_allShut_69 rfl (by decide) h
    · refine j_iconst (1 : Int32) dX12_allShut_64 ki_1 ?_
      refine j_goto 69 dX12_allShut_65 (by decide) ?_
      have h := ok_s h
      exact j_iret dX12_allShut_69 rfl (by decide) h
theorem c_X12_allShut (l : Launch) (γ : Gm) (A : Nat → Prop) (a1 : Int32) (a2 : Int32) (w : Wd) (q : Int32) (e : X12_allShut  a1 a2 w = some q) : MetG l γ A yX12_allShut cX12_allShut 5 (some .boolean) (rmk 1 22) [.ref (ad (γ) 97), .int a1, .int a2] w (some (.int q)) w := by
  refine met_of pn_RX12 (Nat.le_of_ble_eq_true rfl) ?_
  intro κ hl hγ hA hρ
  subst hl; subst hγ; subst hA
  exact t_X12_allShut   a1 a2 w ⟨q, e, pI hρ rfl rfl⟩
