theorem dX12_one_0 : decode cX12_one 0 = .ok (.aload_n 0, 1) := by decide +kernel
theorem dX12_one_1 : decode cX12_one 1 = .ok (.getfield 434, 3) := by decide +kernel
theorem dX12_one_4 : decode cX12_one 4 = .ok (.istore_n 2, 1) := by decide +kernel
theorem dX12_one_5 : decode cX12_one 5 = .ok (.aload_n 0, 1) := by decide +kernel
theorem dX12_one_6 : decode cX12_one 6 = .ok (.getfield 146, 3) := by decide +kernel
theorem dX12_one_9 : decode cX12_one 9 = .ok (.iload_n 2, 1) := by decide +kernel
theorem dX12_one_10 : decode cX12_one 10 = .ok (.iload_n 1, 1) := by decide +kernel
theorem dX12_one_11 : decode cX12_one 11 = .ok (.bastore, 1) := by decide +kernel
theorem dX12_one_12 : decode cX12_one 12 = .ok (.aload_n 0, 1) := by decide +kernel
theorem dX12_one_13 : decode cX12_one 13 = .ok (.getfield 142, 3) := by decide +kernel
theorem dX12_one_16 : decode cX12_one 16 = .ok (.iload_n 2, 1) := by decide +kernel
theorem dX12_one_17 : decode cX12_one 17 = .ok (.aload_n 0, 1) := by decide +kernel
theorem dX12_one_18 : decode cX12_one 18 = .ok (.bipush 9, 2) := by decide +kernel
theorem dX12_one_20 : decode cX12_one 20 = .ok (.invokevirtual 437, 3) := by decide +kernel
theorem dX12_one_23 : decode cX12_one 23 = .ok (.bastore, 1) := by decide +kernel
theorem dX12_one_24 : decode cX12_one 24 = .ok (.aload_n 0, 1) := by decide +kernel
theorem dX12_one_25 : decode cX12_one 25 = .ok (.getfield 142, 3) := by decide +kernel
theorem dX12_one_28 : decode cX12_one 28 = .ok (.iload_n 2, 1) := by decide +kernel
theorem dX12_one_29 : decode cX12_one 29 = .ok (.baload, 1) := by decide +kernel
theorem dX12_one_30 : decode cX12_one 30 = .ok (.ifCond .eq 7, 3) := by decide +kernel
theorem dX12_one_33 : decode cX12_one 33 = .ok (.aload_n 0, 1) := by decide +kernel
theorem dX12_one_34 : decode cX12_one 34 = .ok (.invokevirtual 420, 3) := by decide +kernel
theorem dX12_one_37 : decode cX12_one 37 = .ok (.aload_n 0, 1) := by decide +kernel
theorem dX12_one_38 : decode cX12_one 38 = .ok (.getfield 130, 3) := by decide +kernel
theorem dX12_one_41 : decode cX12_one 41 = .ok (.iload_n 2, 1) := by decide +kernel
theorem dX12_one_42 : decode cX12_one 42 = .ok (.aload_n 0, 1) := by decide +kernel
theorem dX12_one_43 : decode cX12_one 43 = .ok (.getfield 423, 3) := by decide +kernel
theorem dX12_one_46 : decode cX12_one 46 = .ok (.iastore, 1) := by decide +kernel
theorem dX12_one_47 : decode cX12_one 47 = .ok (.aload_n 0, 1) := by decide +kernel
theorem dX12_one_48 : decode cX12_one 48 = .ok (.invokevirtual 440, 3) := by decide +kernel
theorem dX12_one_51 : decode cX12_one 51 = .ok (.ifCond .ne 5, 3) := by decide +kernel
theorem dX12_one_54 : decode cX12_one 54 = .ok (.iconst 0, 1) := by decide +kernel
theorem dX12_one_55 : decode cX12_one 55 = .ok (.ireturn, 1) := by decide +kernel
theorem dX12_one_56 : decode cX12_one 56 = .ok (.aload_n 0, 1) := by decide +kernel
theorem dX12_one_57 : decode cX12_one 57 = .ok (.getfield 133, 3) := by decide +kernel
theorem dX12_one_60 : decode cX12_one 60 = .ok (.iload_n 2, 1) := by decide +kernel
theorem dX12_one_61 : decode cX12_one 61 = .ok (.aload_n 0, 1) := by decide +kernel
theorem dX12_one_62 : decode cX12_one 62 = .ok (.getfield 423, 3) := by decide +kernel
theorem dX12_one_65 : decode cX12_one 65 = .ok (.iastore, 1) := by decide +kernel
theorem dX12_one_66 : decode cX12_one 66 = .ok (.aload_n 0, 1) := by decide +kernel
theorem dX12_one_67 : decode cX12_one 67 = .ok (.bipush 60, 2) := by decide +kernel
theorem dX12_one_69 : decode cX12_one 69 = .ok (.invokevirtual 414, 3) := by decide +kernel
theorem dX12_one_72 : decode cX12_one 72 = .ok (.ifCond .ne 27, 3) := by decide +kernel
theorem dX12_one_75 : decode cX12_one 75 = .ok (.aload_n 0, 1) := by decide +kernel
theorem dX12_one_76 : decode cX12_one 76 = .ok (.bipush 62, 2) := by decide +kernel
theorem dX12_one_78 : decode cX12_one 78 = .ok (.invokevirtual 414, 3) := by decide +kernel
theorem dX12_one_81 : decode cX12_one 81 = .ok (.ifCond .ne 18, 3) := by decide +kernel
theorem dX12_one_84 : decode cX12_one 84 = .ok (.aload_n 0, 1) := by decide +kernel
theorem dX12_one_85 : decode cX12_one 85 = .ok (.bipush 61, 2) := by decide +kernel
theorem dX12_one_87 : decode cX12_one 87 = .ok (.invokevirtual 414, 3) := by decide +kernel
theorem dX12_one_90 : decode cX12_one 90 = .ok (.ifCond .ne 9, 3) := by decide +kernel
theorem dX12_one_93 : decode cX12_one 93 = .ok (.aload_n 0, 1) := by decide +kernel
theorem dX12_one_94 : decode cX12_one 94 = .ok (.iconst 2, 1) := by decide +kernel
theorem dX12_one_95 : decode cX12_one 95 = .ok (.invokevirtual 417, 3) := by decide +kernel
theorem dX12_one_98 : decode cX12_one 98 = .ok (.ireturn, 1) := by decide +kernel
theorem dX12_one_99 : decode cX12_one 99 = .ok (.aload_n 0, 1) := by decide +kernel
theorem dX12_one_100 : decode cX12_one 100 = .ok (.getfield 139, 3) := by decide +kernel
theorem dX12_one_103 : decode cX12_one 103 = .ok (.iload_n 2, 1) := by decide +kernel
theorem dX12_one_104 : decode cX12_one 104 = .ok (.aload_n 0, 1) := by decide +kernel
theorem dX12_one_105 : decode cX12_one 105 = .ok (.getfield 377, 3) := by decide +kernel
theorem dX12_one_108 : decode cX12_one 108 = .ok (.iastore, 1) := by decide +kernel
theorem dX12_one_109 : decode cX12_one 109 = .ok (.aload_n 0, 1) := by decide +kernel
theorem dX12_one_110 : decode cX12_one 110 = .ok (.invokevirtual 420, 3) := by decide +kernel
theorem dX12_one_113 : decode cX12_one 113 = .ok (.aload_n 0, 1) := by decide +kernel
theorem dX12_one_114 : decode cX12_one 114 = .ok (.invokevirtual 440, 3) := by decide +kernel
theorem dX12_one_117 : decode cX12_one 117 = .ok (.ifCond .ne 5, 3) := by decide +kernel
theorem dX12_one_120 : decode cX12_one 120 = .ok (.iconst 0, 1) := by decide +kernel
theorem dX12_one_121 : decode cX12_one 121 = .ok (.ireturn, 1) := by decide +kernel
theorem dX12_one_122 : decode cX12_one 122 = .ok (.aload_n 0, 1) := by decide +kernel
theorem dX12_one_123 : decode cX12_one 123 = .ok (.getfield 136, 3) := by decide +kernel
theorem dX12_one_126 : decode cX12_one 126 = .ok (.iload_n 2, 1) := by decide +kernel
theorem dX12_one_127 : decode cX12_one 127 = .ok (.aload_n 0, 1) := by decide +kernel
theorem dX12_one_128 : decode cX12_one 128 = .ok (.getfield 423, 3) := by decide +kernel
theorem dX12_one_131 : decode cX12_one 131 = .ok (.iastore, 1) := by decide +kernel
theorem dX12_one_132 : decode cX12_one 132 = .ok (.aload_n 0, 1) := by decide +kernel
theorem dX12_one_133 : decode cX12_one 133 = .ok (.dup, 1) := by decide +kernel
theorem dX12_one_134 : decode cX12_one 134 = .ok (.getfield 434, 3) := by decide +kernel
theorem dX12_one_137 : decode cX12_one 137 = .ok (.iconst 1, 1) := by decide +kernel
theorem dX12_one_138 : decode cX12_one 138 = .ok (.iadd, 1) := by decide +kernel
theorem dX12_one_139 : decode cX12_one 139 = .ok (.putfield 434, 3) := by decide +kernel
theorem dX12_one_142 : decode cX12_one 142 = .ok (.iconst 1, 1) := by decide +kernel
theorem dX12_one_143 : decode cX12_one 143 = .ok (.ireturn, 1) := by decide +kernel
noncomputable def X12_one_j99 (a2 : Int32) (w : Wd) : Option (Int32 × Wd) :=
gd (vp_in a2 1500) <|
(some (puI w 137 (ix a2) (w.1 97 38))).bind fun w9 =>
(X12_next w9).bind fun q10 =>
(X12_sum q10).bind fun q12 =>
(if q12.1 = 0 then
some ((0 : Int32), q12.2)
else
gd (vp_in a2 1500) <|
(some (puI q12.2 136 (ix a2) (q12.2.1 97 43))).bind fun w14 =>
(some (puI w14 97 44 ((w14.1 97 44) + (1 : Int32)))).bind fun w15 =>
some ((1 : Int32), w15))
set_option maxRecDepth 20000 in
set_option maxHeartbeats 1000000 in
theorem t_X12_one_j99 {κ : Kx} (a2 : Int32) (w : Wd) (h : ok (X12_one_j99  a2 w) (PIw κ)) : J κ RX12 cX12_one 3 (some .boolean) (rmk 6 134) 99 [(0, .ref (ad (gm κ) 97)), (2, .int a2)] [] w := by
  unfold X12_one_j99 at h
  refine j_aload_n 0 dX12_one_99 rfl rfl ?_
  refine j_getA 137 fl_RX12_139 sh_97 fk_97_60 (by decide) dX12_one_100 ?_
  refine j_iload_n 1 dX12_one_103 rfl rfl ?_
  refine j_aload_n 0 dX12_one_104 rfl rfl ?_
  refine j_getI fl_RX12_377 sh_97 fk_97_38 dX12_one_105 ?_
  refine j_iast sh_137 dX12_one_108 h (fun h => ?_)
  refine j_lW h (fun w9 h => ?_)
  refine j_aload_n 0 dX12_one_109 rfl rfl ?_
  obtain ⟨q10, e11, h⟩ := ok_b h
  refine j_callV (As := []) (st := []) [] (c_X12_next (kl κ) (gm κ) (kA κ) w9 q10 e11) ck_RX12_420 im_X12_next se_X12_next sh_97 cx_12 ⟨rfl, rfl⟩ ⟨by decide, by decide⟩ rfl rfl (Nat.le_of_ble_eq_true rfl) dX12_one_110 _ rfl ?_
  refine j_aload_n 0 dX12_one_113 rfl rfl ?_
  obtain ⟨q12, e13, h⟩ := ok_b h
  refine j_callV (As := []) (st := []) [.int q12.1] (c_X12_sum (kl κ) (gm κ) (kA κ) q10 q12 e13) ck_RX12_440 im_X12_sum se_X12_sum sh_97 cx_12 ⟨rfl, rfl⟩ ⟨by decide, by decide⟩ rfl rfl (Nat.le_of_ble_eq_true rfl) dX12_one_114 _ rfl ?_
  refine j_if_ne 122 dX12_one_117 (by decide) h (fun h => ?_) (fun h => ?_)
  · refine j_aload_n 0 dX12_one_122 rfl rfl ?_
    refine j_getA 136 fl_RX12_136 sh_97 fk_97_59 (by decide) dX12_one_123 ?_
    refine j_iload_n 1 dX12_one_126 rfl rfl ?_
    refine j_aload_n 0 dX12_one_127 rfl rfl ?_
    refine j_getI fl_RX12_423 sh_97 fk_97_43 dX12_one_128 ?_
    refine j_iast sh_136 dX12_one_131 h (fun h => ?_)
    refine j_lW h (fun w14 h => ?_)
    refine j_aload_n 0 dX12_one_132 rfl rfl ?_
    refine j_dup dX12_one_133 rfl ?_
    refine j_getI fl_RX12_434 sh_97 fk_97_44 dX12_one_134 ?_
    refine j_iconst (1 : Int32) dX12_one_137 ki_1 ?_
    refine j_iadd dX12_one_138 ?_
    refine j_putI fp_RX12_434 sh_97 fk_97_44 dX12_one_139 ?_
    refine j_lW h (fun w15 h => ?_)
    refine j_iconst (1 : Int32) dX12_one_142 ki_1 ?_
    have h := ok_s h
    exact j_iret dX12_one_143 rfl (by decide) h
  · refine j_iconst (0 : Int32) dX12_one_120 ki_0 ?_
    have h := ok_s h
    exact j_iret dX12_one_121 rfl (by decide) h
noncomputable def X12_one_j37 (a2 : Int32) (w : Wd) : Option (Int32 × Wd) :=
gd (vp_in a2 1500) <|
(some (puI w 134 (ix a2) (w.1 97 43))).bind fun w5 =>
(X12_sum w5).bind fun q6 =>
(if q6.1 = 0 then
some ((0 : Int32), q6.2)
else
gd (vp_in a2 1500) <|
(some (puI q6.2 135 (ix a2) (q6.2.1 97 43))).bind fun w8 =>
(if (X12_isSign (60 : Int32) w8) = 0 then
(if (X12_isSign (62 : Int32) w8) = 0 then
(if (X12_isSign (61 : Int32) w8) = 0 then
(X12_fails (2 : Int32) w8).bind fun q16 =>
gd (narrow .boolean (.int q16.1) = .int q16.1) <|
some (q16.1, q16.2)
else
X12_one_j99 a2 w8)
else
X12_one_j99 a2 w8)
else
X12_one_j99 a2 w8))
set_option maxRecDepth 20000 in
set_option maxHeartbeats 1000000 in
theorem t_X12_one_j37 {κ : Kx} (a2 : Int32) (w : Wd) (h : ok (X12_one_j37  a2 w) (PIw κ)) : J κ RX12 cX12_one 3 (some .boolean) (rmk 6 134) 37 [(0, .ref (ad (gm κ) 97)), (2, .int a2)] [] w := by
  unfold X12_one_j37 at h
  refine j_aload_n 0 dX12_one_37 rfl rfl ?_
  refine j_getA 134 fl_RX12_130 sh_97 fk_97_57 (by decide) dX12_one_38 ?_
  refine j_iload_n 1 dX12_one_41 rfl rfl ?_
  refine j_aload_n 0 dX12_one_42 rfl rfl ?_
  refine j_getI fl_RX12_423 sh_97 fk_97_43 dX12_one_43 ?_
  refine j_iast sh_134 dX12_one_46 h (fun h => ?_)
  refine j_lW h (fun w5 h => ?_)
  refine j_aload_n 0 dX12_one_47 rfl rfl ?_
  obtain ⟨q6, e7, h⟩ := ok_b h
  refine j_callV (As := []) (st := []) [.int q6.1] (c_X12_sum (kl κ) (gm κ) (kA κ) w5 q6 e7) ck_RX12_440 im_X12_sum se_X12_sum sh_97 cx_12 ⟨rfl, rfl⟩ ⟨by decide, by decide⟩ rfl rfl (Nat.le_of_ble_eq_true rfl) dX12_one_48 _ rfl ?_
  refine j_if_ne 56 dX12_one_51 (by decide) h (fun h => ?_) (fun h => ?_)
  · refine j_aload_n 0 dX12_one_56 rfl rfl ?_
    refine j_getA 135 fl_RX12_133 sh_97 fk_97_58 (by decide) dX12_one_57 ?_
    refine j_iload_n 1 dX12_one_60 rfl rfl ?_
    refine j_aload_n 0 dX12_one_61 rfl rfl ?_
    refine j_getI fl_RX12_423 sh_97 fk_97_43 dX12_one_62 ?_
    refine j_iast sh_135 dX12_one_65 h (fun h => ?_)
    refine j_lW h (fun w8 h => ?_)
    refine j_aload_n 0 dX12_one_66 rfl rfl ?_
    refine j_bipush (60 : Int32) dX12_one_67 kb_60 ?_
    refine j_callV (As := [.int (60 : Int32)]) (st := []) [.int (X12_isSign (60 : Int32) w8)] (c_X12_isSign (kl κ) (gm κ) (kA κ) (60 : Int32) w8) ck_RX12_414 im_X12_isSign se_X12_isSign sh_97 cx_12 ⟨rfl, rfl⟩ ⟨by decide, by decide⟩ rfl rfl (Nat.le_of_ble_eq_true rfl) dX12_one_69 _ rfl ?_
    refine j_if_ne 99 dX12_one_72 (by decide) h (fun h => ?_) (fun h => ?_)
    · refine j_loc [(0, .ref (ad (gm κ) 97)), (2, .int a2)] [0, 1] rfl ?_
      exact t_X12_one_j99 a2 w8 h
    · refine j_aload_n 0 dX12_one_75 rfl rfl ?_
      refine j_bipush (62 : Int32) dX12_one_76 kb_62 ?_
      refine j_callV (As := [.int (62 : Int32)]) (st := []) [.int (X12_isSign (62 : Int32) w8)] (c_X12_isSign (kl κ) (gm κ) (kA κ) (62 : Int32) w8) ck_RX12_414 im_X12_isSign se_X12_isSign sh_97 cx_12 ⟨rfl, rfl⟩ ⟨by decide, by decide⟩ rfl rfl (Nat.le_of_ble_eq_true rfl) dX12_one_78 _ rfl ?_
      refine j_if_ne 99 dX12_one_81 (by decide) h (fun h => ?_) (fun h => ?_)
      · refine j_loc [(0, .ref (ad (gm κ) 97)), (2, .int a2)] [0, 1] rfl ?_
        exact t_X12_one_j99 a2 w8 h
      · refine j_aload_n 0 dX12_one_84 rfl rfl ?_
        refine j_bipush (61 : Int32) dX12_one_85 kb_61 ?_
        refine j_callV (As := [.int (61 : Int32)]) (st := []) [.int (X12_isSign (61 : Int32) w8)] (c_X12_isSign (kl κ) (gm κ) (kA κ) (61 : Int32) w8) ck_RX12_414 im_X12_isSign se_X12_isSign sh_97 cx_12 ⟨rfl, rfl⟩ ⟨by decide, by decide⟩ rfl rfl (Nat.le_of_ble_eq_true rfl) dX12_one_87 _ rfl ?_
        refine j_if_ne 99 dX12_one_90 (by decide) h (fun h => ?_) (fun h => ?_)
        · refine j_loc [(0, .ref (ad (gm κ) 97)), (2, .int a2)] [0, 1] rfl ?_
          exact t_X12_one_j99 a2 w8 h
        · refine j_aload_n 0 dX12_one_93 rfl rfl ?_
          refine j_iconst (2 : Int32) dX12_one_94 ki_2 ?_
          obtain ⟨q16, e17, h⟩ := ok_b h
          refine j_callV (As := [.int (2 : Int32)]) (st := []) [.int q16.1] (c_X12_fails (kl κ) (gm κ) (kA κ) (2 : Int32) w8 q16 e17) ck_RX12_417 im_X12_fails se_X12_fails sh_97 cx_12 ⟨rfl, rfl⟩ ⟨by decide, by decide⟩ rfl rfl (Nat.le_of_ble_eq_true rfl) dX12_one_95 _ rfl ?_
          obtain ⟨hz, h⟩ := ok_g h
          have h := ok_s h
          exact j_iret dX12_one_98 rfl hz h
  · refine j_iconst (0 : Int32) dX12_one_54 ki_0 ?_
    have h := ok_s h
    exact j_iret dX12_one_55 rfl (by decide) h
noncomputable def X12_one (a1 : Int32) (w : Wd) : Option (Int32 × Wd) :=
gd (vp_in (w.1 97 44) 1500) <|
(some (puI w 139 (ix (w.1 97 44)) (vp_nar .boolean a1))).bind fun w1 =>
(X12_isKey (9 : Int32) w1).bind fun q2 =>
gd (vp_in (w.1 97 44) 1500) <|
(some (puI w1 138 (ix (w.1 97 44)) (vp_nar .boolean q2))).bind fun w4 =>
gd (vp_in (w.1 97 44) 1500) <|
(if (w4.1 138 (ix (w.1 97 44))) = 0 then
X12_one_j37 (w.1 97 44) w4
else
(X12_next w4).bind fun q18 =>
X12_one_j37 (w.1 97 44) q18)
set_option maxRecDepth 20000 in
set_option maxHeartbeats 1000000 in
theorem t_X12_one {κ : Kx} (a1 : Int32) (w : Wd) (h : ok (X12_one  a1 w) (PIw κ)) : J κ RX12 cX12_one 3 (some .boolean) (rmk 6 134) 0 [(0, .ref (ad (gm κ) 97)), (1, .int a1)] [] w := by
  unfold X12_one at h
  refine j_aload_n 0 dX12_one_0 rfl rfl ?_
  refine j_getI fl_RX12_434 sh_97 fk_97_44 dX12_one_1 ?_
  refine j_istore_n [(2, .int (w.1 97 44)), (0, .ref (ad (gm κ) 97)), (1, .int a1)] dX12_one_4 rfl (by decide) rfl ?_
  refine j_aload_n 1 dX12_one_5 rfl rfl ?_
  refine j_getA 139 fl_RX12_146 sh_97 fk_97_62 (by decide) dX12_one_6 ?_
  refine j_iload_n 0 dX12_one_9 rfl rfl ?_
  refine j_iload_n 2 dX12_one_10 rfl rfl ?_
  refine j_zast sh_139 dX12_one_11 h (fun h => ?_)
  refine j_lW h (fun w1 h => ?_)
  refine j_aload_n 1 dX12_one_12 rfl rfl ?_
  refine j_getA 138 fl_RX12_142 sh_97 fk_97_61 (by decide) dX12_one_13 ?_
  refine j_iload_n 0 dX12_one_16 rfl rfl ?_
  refine j_aload_n 1 dX12_one_17 rfl rfl ?_
  refine j_bipush (9 : Int32) dX12_one_18 kb_9 ?_
  obtain ⟨q2, e3, h⟩ := ok_b h
  refine j_callV (As := [.int (9 : Int32)]) (st := [.int (w.1 97 44), .ref (ad (gm κ) 138)]) [.int q2, .int (w.1 97 44), .ref (ad (gm κ) 138)] (c_X12_isKey (kl κ) (gm κ) (kA κ) (9 : Int32) w1 q2 e3) ck_RX12_437 im_X12_isKey se_X12_isKey sh_97 cx_12 ⟨rfl, rfl⟩ ⟨by decide, by decide⟩ rfl rfl (Nat.le_of_ble_eq_true rfl) dX12_one_20 _ rfl ?_
  refine j_zast sh_138 dX12_one_23 h (fun h => ?_)
  refine j_lW h (fun w4 h => ?_)
  refine j_aload_n 1 dX12_one_24 rfl rfl ?_
  refine j_getA 138 fl_RX12_142 sh_97 fk_97_61 (by decide) dX12_one_25 ?_
  refine j_iload_n 0 dX12_one_28 rfl rfl ?_
  refine j_zald sh_138 dX12_one_29 h (fun h => ?_)
  refine j_if_eq 37 dX12_one_30 (by decide) h (fun h => ?_) (fun h => ?_)
  · refine j_loc [(0, .ref (ad (gm κ) 97)), (2, .int (w.1 97 44))] [1, 0] rfl ?_
    exact t_X12_one_j37 (w.1 97 44) w4 h
  · refine j_aload_n 1 dX12_one_33 rfl rfl ?_
    obtain ⟨q18, e19, h⟩ := ok_b h
    refine j_callV (As := []) (st := []) [] (c_X12_next (kl κ) (gm κ) (kA κ) w4 q18 e19) ck_RX12_420 im_X12_next se_X12_next sh_97 cx_12 ⟨rfl, rfl⟩ ⟨by decide, by decide⟩ rfl rfl (Nat.le_of_ble_eq_true rfl) dX12_one_34 _ rfl ?_
    refine j_loc [(0, .ref (ad (gm κ) 97)), (2, .int (w.1 97 44))] [1, 0] rfl ?_
    exact t_X12_one_j37 (w.1 97 44) q18 h
theorem c_X12_one (l : Launch) (γ : Gm) (A : Nat → Prop) (a1 : Int32) (w : Wd) (q : Int32 × Wd) (e : X12_one  a1 w = some q) : MetG l γ A yX12_one cX12_one 3 (some .boolean) (rmk 6 134) [.ref (ad (γ) 97), .int a1] w (some (.int q.1)) q.2 := by
  refine met_of pn_RX12 (Nat.le_of_ble_eq_true rfl) ?_
  intro κ hl hγ hA hρ
  subst hl; subst hγ; subst hA
  exact t_X12_one   a1 w ⟨q, e, pIw hρ rfl rfl⟩
theorem dX12_test_0 : decode cX12_test 0 = .ok (.aload_n 0, 1) := by decide +kernel
theorem dX12_test_1 : decode cX12_test 1 = .ok (.iconst 1, 1) := by decide +kernel
theorem dX12_test_2 : decode cX12_test 2 = .ok (.invokevirtual 444, 3) := by decide +kernel
theorem dX12_test_5 : decode cX12_test 5 = .ok (.istore_n 1, 1) := by decide +kernel
theorem dX12_test_6 : decode cX12_test 6 = .ok (.iload_n 1, 1) := by decide +kernel
theorem dX12_test_7 : decode cX12_test 7 = .ok (.ifCond .eq 41, 3) := by decide +kernel
theorem dX12_test_10 : decode cX12_test 10 = .ok (.aload_n 0, 1) := by decide +kernel
theorem dX12_test_11 : decode cX12_test 11 = .ok (.bipush 7, 2) := by decide +kernel
theorem dX12_test_13 : decode cX12_test 13 = .ok (.invokevirtual 437, 3) := by decide +kernel
theorem dX12_test_16 : decode cX12_test 16 = .ok (.ifCond .ne 12, 3) := by decide +kernel
theorem dX12_test_19 : decode cX12_test 19 = .ok (.aload_n 0, 1) := by decide +kernel
theorem dX12_test_20 : decode cX12_test 20 = .ok (.bipush 8, 2) := by decide +kernel
theorem dX12_test_22 : decode cX12_test 22 = .ok (.invokevirtual 437, 3) := by decide +kernel
theorem dX12_test_25 : decode cX12_test 25 = .ok (.ifCond .eq 23, 3) := by decide +kernel
theorem dX12_test_28 : decode cX12_test 28 = .ok (.aload_n 0, 1) := by decide +kernel
theorem dX12_test_29 : decode cX12_test 29 = .ok (.bipush 7, 2) := by decide +kernel
theorem dX12_test_31 : decode cX12_test 31 = .ok (.invokevirtual 437, 3) := by decide +kernel
theorem dX12_test_34 : decode cX12_test 34 = .ok (.istore_n 2, 1) := by decide +kernel
theorem dX12_test_35 : decode cX12_test 35 = .ok (.aload_n 0, 1) := by decide +kernel
theorem dX12_test_36 : decode cX12_test 36 = .ok (.invokevirtual 420, 3) := by decide +kernel
theorem dX12_test_39 : decode cX12_test 39 = .ok (.aload_n 0, 1) := by decide +kernel
theorem dX12_test_40 : decode cX12_test 40 = .ok (.iload_n 2, 1) := by decide +kernel
theorem dX12_test_41 : decode cX12_test 41 = .ok (.invokevirtual 444, 3) := by decide +kernel
theorem dX12_test_44 : decode cX12_test 44 = .ok (.istore_n 1, 1) := by decide +kernel
theorem dX12_test_45 : decode cX12_test 45 = .ok (.goto (-39), 3) := by decide +kernel
theorem dX12_test_48 : decode cX12_test 48 = .ok (.iload_n 1, 1) := by decide +kernel
theorem dX12_test_49 : decode cX12_test 49 = .ok (.ireturn, 1) := by decide +kernel
noncomputable def X12_test_j28 (w : Wd) : Option ((Int32 × Wd) ⊕ (Int32 × Wd)) :=
(X12_isKey (7 : Int32) w).bind fun q5 =>
(X12_next w).bind fun q7 =>
(X12_one q5 q7).bind fun q9 =>
some (.inl (q9.1, q9.2))
set_option maxRecDepth 20000 in
set_option maxHeartbeats 1000000 in
theorem t_X12_test_j28 {κ : Kx} (w : Wd) {G : (Int32 × Wd) → Prop} {P : (Int32 × Wd) → Prop} (KG : ∀ s, G s → J κ RX12 cX12_test 3 (some .boolean) (rmk 7 156) 6 [(0, .ref (ad (gm κ) 97)), (1, .int s.1)] [] s.2) (K0 : ∀ e, P e → J κ RX12 cX12_test 3 (some .boolean) (rmk 7 156) 48 [(1, .int e.1)] [] e.2) (h : ok (X12_test_j28  w) (sel G P)) : J κ RX12 cX12_test 3 (some .boolean) (rmk 7 156) 28 [(0, .ref (ad (gm κ) 97))] [] w := by
  unfold X12_test_j28 at h
  refine j_aload_n 0 dX12_test_28 rfl rfl ?_
  refine j_bipush (7 : Int32) dX12_test_29 kb_7 ?_
  obtain ⟨q5, e6, h⟩ := ok_b h
  refine j_callV (As := [.int (7 : Int32)]) (st := []) [.int q5] (c_X12_isKey (kl κ) (gm κ) (kA κ) (7 : Int32) w q5 e6) ck_RX12_437 im_X12_isKey se_X12_isKey sh_97 cx_12 ⟨rfl, rfl⟩ ⟨by decide, by decide⟩ rfl rfl (Nat.le_of_ble_eq_true rfl) dX12_test_31 _ rfl ?_
  refine j_istore_n [(2, .int q5), (0, .ref (ad (gm κ) 97))] dX12_test_34 rfl (by decide) rfl ?_
  refine j_aload_n 1 dX12_test_35 rfl rfl ?_
  obtain ⟨q7, e8, h⟩ := ok_b h
  refine j_callV (As := []) (st := []) [] (c_X12_next (kl κ) (gm κ) (kA κ) w q7 e8) ck_RX12_420 im_X12_next se_X12_next sh_97 cx_12 ⟨rfl, rfl⟩ ⟨by decide, by decide⟩ rfl rfl (Nat.le_of_ble_eq_true rfl) dX12_test_36 _ rfl ?_
  refine j_aload_n 1 dX12_test_39 rfl rfl ?_
  refine j_iload_n 0 dX12_test_40 rfl rfl ?_
  obtain ⟨q9, e10, h⟩ := ok_b h
  refine j_callV (As := [.int q5]) (st := []) [.int q9.1] (c_X12_one (kl κ) (gm κ) (kA κ) q5 q7 q9 e10) ck_RX12_444 im_X12_one se_X12_one sh_97 cx_12 ⟨rfl, rfl⟩ ⟨by decide, by decide⟩ rfl rfl (Nat.le_of_ble_eq_true rfl) dX12_test_41 _ rfl ?_
  refine j_istore_n [(1, .int q9.1), (2, .int q5), (0, .ref (ad (gm κ) 97))] dX12_test_44 rfl (by decide) rfl ?_
  refine j_goto 6 dX12_test_45 (by decide) ?_
  refine j_loc [(0, .ref (ad (gm κ) 97)), (1, .int q9.1)] [2, 0] rfl ?_
  have h := sel_l h
  have h := KG _ h
  exact h
noncomputable def X12_test_b6 (s : (Int32 × Wd)) : Option ((Int32 × Wd) ⊕ (Int32 × Wd)) :=
(if s.1 = 0 then
some (.inr (s.1, s.2))
else
(X12_isKey (7 : Int32) s.2).bind fun q3 =>
(if q3 = 0 then
(X12_isKey (8 : Int32) s.2).bind fun q11 =>
(if q11 = 0 then
some (.inr (s.1, s.2))
else
X12_test_j28 s.2)
else
X12_test_j28 s.2))
set_option maxRecDepth 20000 in
set_option maxHeartbeats 1000000 in
theorem t_X12_test_b6 {κ : Kx} {P : (Int32 × Wd) → Prop} (K0 : ∀ e, P e → J κ RX12 cX12_test 3 (some .boolean) (rmk 7 156) 48 [(1, .int e.1)] [] e.2) (s : (Int32 × Wd)) (h : ok (lp (X12_test_b6  ) s) P) : J κ RX12 cX12_test 3 (some .boolean) (rmk 7 156) 6 [(0, .ref (ad (gm κ) 97)), (1, .int s.1)] [] s.2 := by
  refine lp_ind (fun s => J κ RX12 cX12_test 3 (some .boolean) (rmk 7 156) 6 [(0, .ref (ad (gm κ) 97)), (1, .int s.1)] [] s.2) (fun s h => ?_) s h
  unfold X12_test_b6 at h
  refine j_iload_n 1 dX12_test_6 rfl rfl ?_
  refine j_if_eq 48 dX12_test_7 (by decide) h (fun h => ?_) (fun h => ?_)
  · refine j_loc [(1, .int s.1)] [1] rfl ?_
    have h := sel_r h
    have h := K0 _ h
    exact h
  · refine j_aload_n 0 dX12_test_10 rfl rfl ?_
    refine j_bipush (7 : Int32) dX12_test_11 kb_7 ?_
    obtain ⟨q3, e4, h⟩ := ok_b h
    refine j_callV (As := [.int (7 : Int32)]) (st := []) [.int q3] (c_X12_isKey (kl κ) (gm κ) (kA κ) (7 : Int32) s.2 q3 e4) ck_RX12_437 im_X12_isKey se_X12_isKey sh_97 cx_12 ⟨rfl, rfl⟩ ⟨by decide, by decide⟩ rfl rfl (Nat.le_of_ble_eq_true rfl) dX12_test_13 _ rfl ?_
    refine j_if_ne 28 dX12_test_16 (by decide) h (fun h => ?_) (fun h => ?_)
    · refine j_loc [(0, .ref (ad (gm κ) 97))] [0] rfl ?_
      exact t_X12_test_j28 s.2 (fun _ h => h) K0 h
    · refine j_aload_n 0 dX12_test_19 rfl rfl ?_
      refine j_bipush (8 : Int32) dX12_test_20 kb_8 ?_
      obtain ⟨q11, e12, h⟩ := ok_b h
      refine j_callV (As := [.int (8 : Int32)]) (st := []) [.int q11] (c_X12_isKey (kl κ) (gm κ) (kA κ) (8 : Int32) s.2 q11 e12) ck_RX12_437 im_X12_isKey se_X12_isKey sh_97 cx_12 ⟨rfl, rfl⟩ ⟨by decide, by decide⟩ rfl rfl (Nat.le_of_ble_eq_true rfl) dX12_test_22 _ rfl ?_
      refine j_if_eq 48 dX12_test_25 (by decide) h (fun h => ?_) (fun h => ?_)
      · refine j_loc [(1, .int s.1)] [1] rfl ?_
        have h := sel_r h
        have h := K0 _ h
        exact h
      · refine j_loc [(0, .ref (ad (gm κ) 97))] [0] rfl ?_
        exact t_X12_test_j28 s.2 (fun _ h => h) K0 h
noncomputable def X12_test (w : Wd) : Option (Int32 × Wd) :=
(X12_one (1 : Int32) w).bind fun q1 =>
(lp (X12_test_b6 ) (q1.1, q1.2)).bind fun e13 =>
gd (narrow .boolean (.int e13.1) = .int e13.1) <|
some (e13.1, e13.2)
set_option maxRecDepth 20000 in
set_option maxHeartbeats 1000000 in
theorem t_X12_test {κ : Kx} (w : Wd) (h : ok (X12_test   w) (PIw κ)) : J κ RX12 cX12_test 3 (some .boolean) (rmk 7 156) 0 [(0, .ref (ad (gm κ) 97))] [] w := by
  unfold X12_test at h
  refine j_aload_n 0 dX12_test_0 rfl rfl ?_
  refine j_iconst (1 : Int32) dX12_test_1 ki_1 ?_
  obtain ⟨q1, e2, h⟩ := ok_b h
  refine j_callV (As := [.int (1 : Int32)]) (st := []) [.int q1.1] (c_X12_one (kl κ) (gm κ) (kA κ) (1 : Int32) w q1 e2) ck_RX12_444 im_X12_one se_X12_one sh_97 cx_12 ⟨rfl, rfl⟩ ⟨by decide, by decide⟩ rfl rfl (Nat.le_of_ble_eq_true rfl) dX12_test_2 _ rfl ?_
  refine j_istore_n [(1, .int q1.1), (0, .ref (ad (gm κ) 97))] dX12_test_5 rfl (by decide) rfl ?_
  refine j_loc [(0, .ref (ad (gm κ) 97)), (1, .int q1.1)] [1, 0] rfl ?_
  refine t_X12_test_b6  (fun e13 h => ?_) (q1.1, q1.2) (ok_bb h)
  · refine j_iload_n 0 dX12_test_48 rfl rfl ?_
    obtain ⟨hz, h⟩ := ok_g h
    have h := ok_s h
    exact j_iret dX12_test_49 rfl hz h
theorem c_X12_test (l : Launch) (γ : Gm) (A : Nat → Prop) (w : Wd) (q : Int32 × Wd) (e : X12_test   w = some q) : MetG l γ A yX12_test cX12_test 3 (some .boolean) (rmk 7 156) [.ref (ad (γ) 97)] w (some (.int q.1)) q.2 := by
  refine met_of pn_RX12 (Nat.le_of_ble_eq_true rfl) ?_
  intro κ hl hγ hA hρ
  subst hl; subst hγ; subst hA
  exact t_X12_test    w ⟨q, e, pIw hρ rfl rfl⟩
theorem dX12_labelHere_0 : decode cX12_labelHere 0 = .ok (.aload_n 0, 1) := by decide +kernel
theorem dX12_labelHere_1 : decode cX12_labelHere 1 = .ok (.getfield 380, 3) := by decide +kernel
theorem dX12_labelHere_4 : decode cX12_labelHere 4 = .ok (.iconst 2, 1) := by decide +kernel
theorem dX12_labelHere_5 : decode cX12_labelHere 5 = .ok (.if_icmp .ne 39, 3) := by decide +kernel
theorem dX12_labelHere_8 : decode cX12_labelHere 8 = .ok (.aload_n 0, 1) := by decide +kernel
theorem dX12_labelHere_9 : decode cX12_labelHere 9 = .ok (.getfield 368, 3) := by decide +kernel
theorem dX12_labelHere_12 : decode cX12_labelHere 12 = .ok (.aload_n 0, 1) := by decide +kernel
theorem dX12_labelHere_13 : decode cX12_labelHere 13 = .ok (.getfield 374, 3) := by decide +kernel
theorem dX12_labelHere_16 : decode cX12_labelHere 16 = .ok (.isub, 1) := by decide +kernel
theorem dX12_labelHere_17 : decode cX12_labelHere 17 = .ok (.bipush 8, 2) := by decide +kernel
theorem dX12_labelHere_19 : decode cX12_labelHere 19 = .ok (.if_icmp .gt 25, 3) := by decide +kernel
theorem dX12_labelHere_22 : decode cX12_labelHere 22 = .ok (.aload_n 0, 1) := by decide +kernel
theorem dX12_labelHere_23 : decode cX12_labelHere 23 = .ok (.ldc_w 405, 3) := by decide +kernel
theorem dX12_labelHere_26 : decode cX12_labelHere 26 = .ok (.invokevirtual 407, 3) := by decide +kernel
theorem dX12_labelHere_29 : decode cX12_labelHere 29 = .ok (.iconst (-1), 1) := by decide +kernel
theorem dX12_labelHere_30 : decode cX12_labelHere 30 = .ok (.if_icmp .ne 14, 3) := by decide +kernel
theorem dX12_labelHere_33 : decode cX12_labelHere 33 = .ok (.aload_n 0, 1) := by decide +kernel
theorem dX12_labelHere_34 : decode cX12_labelHere 34 = .ok (.ldc_w 426, 3) := by decide +kernel
theorem dX12_labelHere_37 : decode cX12_labelHere 37 = .ok (.invokevirtual 407, 3) := by decide +kernel
theorem dX12_labelHere_40 : decode cX12_labelHere 40 = .ok (.iconst (-1), 1) := by decide +kernel
theorem dX12_labelHere_41 : decode cX12_labelHere 41 = .ok (.if_icmp .eq 7, 3) := by decide +kernel
theorem dX12_labelHere_44 : decode cX12_labelHere 44 = .ok (.ldc2_w 295, 3) := by decide +kernel
theorem dX12_labelHere_47 : decode cX12_labelHere 47 = .ok (.lreturn, 1) := by decide +kernel
theorem dX12_labelHere_48 : decode cX12_labelHere 48 = .ok (.lconst 0, 1) := by decide +kernel
theorem dX12_labelHere_49 : decode cX12_labelHere 49 = .ok (.lstore_n 1, 1) := by decide +kernel
theorem dX12_labelHere_50 : decode cX12_labelHere 50 = .ok (.aload_n 0, 1) := by decide +kernel
theorem dX12_labelHere_51 : decode cX12_labelHere 51 = .ok (.getfield 374, 3) := by decide +kernel
theorem dX12_labelHere_54 : decode cX12_labelHere 54 = .ok (.istore_n 3, 1) := by decide +kernel
theorem dX12_labelHere_55 : decode cX12_labelHere 55 = .ok (.iload_n 3, 1) := by decide +kernel
theorem dX12_labelHere_56 : decode cX12_labelHere 56 = .ok (.aload_n 0, 1) := by decide +kernel
theorem dX12_labelHere_57 : decode cX12_labelHere 57 = .ok (.getfield 368, 3) := by decide +kernel
theorem dX12_labelHere_60 : decode cX12_labelHere 60 = .ok (.if_icmp .ge 21, 3) := by decide +kernel
theorem dX12_labelHere_63 : decode cX12_labelHere 63 = .ok (.lload_n 1, 1) := by decide +kernel
theorem dX12_labelHere_64 : decode cX12_labelHere 64 = .ok (.bipush 8, 2) := by decide +kernel
theorem dX12_labelHere_66 : decode cX12_labelHere 66 = .ok (.lshl, 1) := by decide +kernel
theorem dX12_labelHere_67 : decode cX12_labelHere 67 = .ok (.aload_n 0, 1) := by decide +kernel
theorem dX12_labelHere_68 : decode cX12_labelHere 68 = .ok (.iload_n 3, 1) := by decide +kernel
theorem dX12_labelHere_69 : decode cX12_labelHere 69 = .ok (.invokevirtual 371, 3) := by decide +kernel
theorem dX12_labelHere_72 : decode cX12_labelHere 72 = .ok (.i2l, 1) := by decide +kernel
theorem dX12_labelHere_73 : decode cX12_labelHere 73 = .ok (.lor, 1) := by decide +kernel
theorem dX12_labelHere_74 : decode cX12_labelHere 74 = .ok (.lstore_n 1, 1) := by decide +kernel
theorem dX12_labelHere_75 : decode cX12_labelHere 75 = .ok (.iinc 3 1, 3) := by decide +kernel
theorem dX12_labelHere_78 : decode cX12_labelHere 78 = .ok (.goto (-23), 3) := by decide +kernel
theorem dX12_labelHere_81 : decode cX12_labelHere 81 = .ok (.lload_n 1, 1) := by decide +kernel
theorem dX12_labelHere_82 : decode cX12_labelHere 82 = .ok (.lreturn, 1) := by decide +kernel
noncomputable def X12_labelHere_b55 (w : Wd) (s : (Int64 × Int32)) : Option ((Int64 × Int32) ⊕ Int64) :=
(if (w.1 97 37) ≤ s.2 then
some (.inr s.1)
else
(X12_at s.2 w).bind fun q5 =>
(some ((s.1 <<< (Int32.toInt64 (8 : Int32) &&& 63)) ||| (Int32.toInt64 q5))).bind fun z7 =>
some (.inl (z7, (s.2 + (1 : Int32)))))
set_option maxRecDepth 20000 in
set_option maxHeartbeats 1000000 in
theorem t_X12_labelHere_b55 {κ : Kx} (w : Wd) {P : Int64 → Prop} (K0 : ∀ e, P e → J κ RX12 cX12_labelHere 4 (some .long) (rmk 5 111) 81 [(1, .long e)] [] w) (s : (Int64 × Int32)) (h : ok (lp (X12_labelHere_b55  w) s) P) : J κ RX12 cX12_labelHere 4 (some .long) (rmk 5 111) 55 [(0, .ref (ad (gm κ) 97)), (1, .long s.1), (3, .int s.2)] [] w := by
  refine lp_ind (fun s => J κ RX12 cX12_labelHere 4 (some .long) (rmk 5 111) 55 [(0, .ref (ad (gm κ) 97)), (1, .long s.1), (3, .int s.2)] [] w) (fun s h => ?_) s h
  unfold X12_labelHere_b55 at h
  refine j_iload_n 2 dX12_labelHere_55 rfl rfl ?_
  refine j_aload_n 0 dX12_labelHere_56 rfl rfl ?_
  refine j_getI fl_RX12_368 sh_97 fk_97_37 dX12_labelHere_57 ?_
  refine j_ic_ge 81 dX12_labelHere_60 (by decide) h (fun h => ?_) (fun h => ?_)
  · refine j_loc [(1, .long s.1)] [1] rfl ?_
    have h := sel_r h
    have h := K0 _ h
    exact h
  · refine j_lload_n 1 dX12_labelHere_63 rfl rfl ?_
    refine j_bipush (8 : Int32) dX12_labelHere_64 kb_8 ?_
    refine j_lshl dX12_labelHere_66 ?_
    refine j_aload_n 0 dX12_labelHere_67 rfl rfl ?_
    refine j_iload_n 2 dX12_labelHere_68 rfl rfl ?_
    obtain ⟨q5, e6, h⟩ := ok_b h
    refine j_callV (As := [.int s.2]) (st := [.long (s.1 <<< (Int32.toInt64 (8 : Int32) &&& 63))]) [.int q5, .long (s.1 <<< (Int32.toInt64 (8 : Int32) &&& 63))] (c_X12_at (kl κ) (gm κ) (kA κ) s.2 w q5 e6) ck_RX12_371 im_X12_at se_X12_at sh_97 cx_12 ⟨rfl, rfl⟩ ⟨by decide, by decide⟩ rfl rfl (Nat.le_of_ble_eq_true rfl) dX12_labelHere_69 _ rfl ?_
    refine j_i2l dX12_labelHere_72 ?_
    refine j_lor dX12_labelHere_73 ?_
    refine j_lJ h (fun z7 h => ?_)
    refine j_lstore_n [(1, .long z7), (0, .ref (ad (gm κ) 97)), (3, .int s.2)] dX12_labelHere_74 rfl (by decide) rfl ?_
    refine j_iinc (s.2 + (1 : Int32)) 2 [(3, .int (s.2 + (1 : Int32))), (1, .long z7), (0, .ref (ad (gm κ) 97))] dX12_labelHere_75 rfl (by rw [kn_1]) (by decide) rfl ?_
    refine j_goto 55 dX12_labelHere_78 (by decide) ?_
    refine j_loc [(0, .ref (ad (gm κ) 97)), (1, .long z7), (3, .int (s.2 + (1 : Int32)))] [2, 1, 0] rfl ?_
    have h := sel_l h
    exact h
noncomputable def X12_labelHere (w : Wd) : Option (Int64) :=
(if (w.1 97 35) = (2 : Int32) then
(if (8 : Int32) < ((w.1 97 37) - (w.1 97 36)) then
some (-1 : Int64)
else
(X12_inWords 2 w).bind fun q1 =>
(if q1 = (-1 : Int32) then
(X12_inWords 3 w).bind fun q3 =>
(if q3 = (-1 : Int32) then
(lp (X12_labelHere_b55 w) ((0 : Int64), (w.1 97 36))).bind fun e8 =>
some e8
else
some (-1 : Int64))
else
some (-1 : Int64)))
else
some (-1 : Int64))
set_option maxRecDepth 20000 in
set_option maxHeartbeats 1000000 in
theorem t_X12_labelHere {κ : Kx} (w : Wd) (h : ok (X12_labelHere   w) (PJ κ w)) : J κ RX12 cX12_labelHere 4 (some .long) (rmk 5 111) 0 [(0, .ref (ad (gm κ) 97))] [] w := by
  unfold X12_labelHere at h
  refine j_aload_n 0 dX12_labelHere_0 rfl rfl ?_
  refine j_getI fl_RX12_380 sh_97 fk_97_35 dX12_labelHere_1 ?_
  refine j_iconst (2 : Int32) dX12_labelHere_4 ki_2 ?_
  refine j_ic_ne 44 dX12_labelHere_5 (by decide) h (fun h => ?_) (fun h => ?_)
  · refine j_ldc2 cl_RX12_295 dX12_labelHere_44 ?_
    have h := ok_s h
    exact j_lret dX12_labelHere_47 rfl h
  · refine j_aload_n 0 dX12_labelHere_8 rfl rfl ?_
    refine j_getI fl_RX12_368 sh_97 fk_97_37 dX12_labelHere_9 ?_
    refine j_aload_n 0 dX12_labelHere_12 rfl rfl ?_
    refine j_getI fl_RX12_374 sh_97 fk_97_36 dX12_labelHere_13 ?_
    refine j_isub dX12_labelHere_16 ?_
    refine j_bipush (8 : Int32) dX12_labelHere_17 kb_8 ?_
    refine j_ic_gt 44 dX12_labelHere_19 (by decide) h (fun h => ?_) (fun h => ?_)
    · refine j_ldc2 cl_RX12_295 dX12_labelHere_44 ?_
      have h := ok_s h
      exact j_lret dX12_labelHere_47 rfl h
    · refine j_aload_n 0 dX12_labelHere_22 rfl rfl ?_
      refine j_ldcSw (i := 2) rfl rfl rfl dX12_labelHere_23 ?_
      obtain ⟨q1, e2, h⟩ := ok_b h
      refine j_callV (As := [.ref (sK (gm κ) 2)]) (st := []) [.int q1] (c_X12_inWords (kl κ) (gm κ) (kA κ) 2 (by decide) w q1 e2) ck_RX12_407 im_X12_inWords se_X12_inWords sh_97 cx_12 ⟨rfl, rfl⟩ ⟨by decide, by decide⟩ rfl rfl (Nat.le_of_ble_eq_true rfl) dX12_labelHere_26 _ rfl ?_
      refine j_iconst (-1 : Int32) dX12_labelHere_29 ki_m1 ?_
      refine j_ic_ne 44 dX12_labelHere_30 (by decide) h (fun h => ?_) (fun h => ?_)
      · refine j_ldc2 cl_RX12_295 dX12_labelHere_44 ?_
        have h := ok_s h
        exact j_lret dX12_labelHere_47 rfl h
      · refine j_aload_n 0 dX12_labelHere_33 rfl rfl ?_
        refine j_ldcSw (i := 3) rfl rfl rfl dX12_labelHere_34 ?_
        obtain ⟨q3, e4, h⟩ := ok_b h
        refine j_callV (As := [.ref (sK (gm κ) 3)]) (st := []) [.int q3] (c_X12_inWords (kl κ) (gm κ) (kA κ) 3 (by decide) w q3 e4) ck_RX12_407 im_X12_inWords se_X12_inWords sh_97 cx_12 ⟨rfl, rfl⟩ ⟨by decide, by decide⟩ rfl rfl (Nat.le_of_ble_eq_true rfl) dX12_labelHere_37 _ rfl ?_
        refine j_iconst (-1 : Int32) dX12_labelHere_40 ki_m1 ?_
        refine j_ic_eq 48 dX12_labelHere_41 (by decide) h (fun h => ?_) (fun h => ?_)
        · refine j_lconst (0 : Int64) dX12_labelHere_48 (by decide) ?_
          refine j_lstore_n [(1, .long (0 : Int64)), (0, .ref (ad (gm κ) 97))] dX12_labelHere_49 rfl (by decide) rfl ?_
          refine j_aload_n 1 dX12_labelHere_50 rfl rfl ?_
          refine j_getI fl_RX12_374 sh_97 fk_97_36 dX12_labelHere_51 ?_
          refine j_istore_n [(3, .int (w.1 97 36)), (1, .long (0 : Int64)), (0, .ref (ad (gm κ) 97))] dX12_labelHere_54 rfl (by decide) rfl ?_
          refine j_loc [(0, .ref (ad (gm κ) 97)), (1, .long (0 : Int64)), (3, .int (w.1 97 36))] [2, 1, 0] rfl ?_
          refine t_X12_labelHere_b55 w (fun e8 h => ?_) ((0 : Int64), (w.1 97 36)) (ok_bb h)
          · refine j_lload_n 0 dX12_labelHere_81 rfl rfl ?_
            have h := ok_s h
            exact j_lret dX12_labelHere_82 rfl h
        · refine j_ldc2 cl_RX12_295 dX12_labelHere_44 ?_
          have h := ok_s h
          exact j_lret dX12_labelHere_47 rfl h
theorem c_X12_labelHere (l : Launch) (γ : Gm) (A : Nat → Prop) (w : Wd) (q : Int64) (e : X12_labelHere   w = some q) : MetG l γ A yX12_labelHere cX12_labelHere 4 (some .long) (rmk 5 111) [.ref (ad (γ) 97)] w (some (.long q)) w := by
  refine met_of pn_RX12 (Nat.le_of_ble_eq_true rfl) ?_
  intro κ hl hγ hA hρ
  subst hl; subst hγ; subst hA
  exact t_X12_labelHere    w ⟨q, e, pJ hρ rfl rfl⟩
theorem dX12_numberIn_0 : decode cX12_numberIn 0 = .ok (.aload_n 0, 1) := by decide +kernel
theorem dX12_numberIn_1 : decode cX12_numberIn 1 = .ok (.getfield 380, 3) := by decide +kernel
theorem dX12_numberIn_4 : decode cX12_numberIn 4 = .ok (.iconst 3, 1) := by decide +kernel
theorem dX12_numberIn_5 : decode cX12_numberIn 5 = .ok (.if_icmp .eq 9, 3) := by decide +kernel
theorem dX12_numberIn_8 : decode cX12_numberIn 8 = .ok (.aload_n 0, 1) := by decide +kernel
theorem dX12_numberIn_9 : decode cX12_numberIn 9 = .ok (.iconst 2, 1) := by decide +kernel
theorem dX12_numberIn_10 : decode cX12_numberIn 10 = .ok (.invokevirtual 417, 3) := by decide +kernel
theorem dX12_numberIn_13 : decode cX12_numberIn 13 = .ok (.ireturn, 1) := by decide +kernel
theorem dX12_numberIn_14 : decode cX12_numberIn 14 = .ok (.aload_n 0, 1) := by decide +kernel
theorem dX12_numberIn_15 : decode cX12_numberIn 15 = .ok (.getfield 377, 3) := by decide +kernel
theorem dX12_numberIn_18 : decode cX12_numberIn 18 = .ok (.iload_n 2, 1) := by decide +kernel
theorem dX12_numberIn_19 : decode cX12_numberIn 19 = .ok (.if_icmp .lt 11, 3) := by decide +kernel
theorem dX12_numberIn_22 : decode cX12_numberIn 22 = .ok (.aload_n 0, 1) := by decide +kernel
theorem dX12_numberIn_23 : decode cX12_numberIn 23 = .ok (.getfield 377, 3) := by decide +kernel
theorem dX12_numberIn_26 : decode cX12_numberIn 26 = .ok (.iload_n 3, 1) := by decide +kernel
theorem dX12_numberIn_27 : decode cX12_numberIn 27 = .ok (.if_icmp .le 10, 3) := by decide +kernel
theorem dX12_numberIn_30 : decode cX12_numberIn 30 = .ok (.aload_n 0, 1) := by decide +kernel
theorem dX12_numberIn_31 : decode cX12_numberIn 31 = .ok (.bipush 6, 2) := by decide +kernel
theorem dX12_numberIn_33 : decode cX12_numberIn 33 = .ok (.invokevirtual 417, 3) := by decide +kernel
theorem dX12_numberIn_36 : decode cX12_numberIn 36 = .ok (.ireturn, 1) := by decide +kernel
theorem dX12_numberIn_37 : decode cX12_numberIn 37 = .ok (.aload_n 0, 1) := by decide +kernel
theorem dX12_numberIn_38 : decode cX12_numberIn 38 = .ok (.getfield 106, 3) := by decide +kernel
theorem dX12_numberIn_41 : decode cX12_numberIn 41 = .ok (.iload_n 1, 1) := by decide +kernel
theorem dX12_numberIn_42 : decode cX12_numberIn 42 = .ok (.aload_n 0, 1) := by decide +kernel
theorem dX12_numberIn_43 : decode cX12_numberIn 43 = .ok (.getfield 377, 3) := by decide +kernel
theorem dX12_numberIn_46 : decode cX12_numberIn 46 = .ok (.iastore, 1) := by decide +kernel
theorem dX12_numberIn_47 : decode cX12_numberIn 47 = .ok (.aload_n 0, 1) := by decide +kernel
theorem dX12_numberIn_48 : decode cX12_numberIn 48 = .ok (.invokevirtual 420, 3) := by decide +kernel
theorem dX12_numberIn_51 : decode cX12_numberIn 51 = .ok (.iconst 1, 1) := by decide +kernel
theorem dX12_numberIn_52 : decode cX12_numberIn 52 = .ok (.ireturn, 1) := by decide +kernel
noncomputable def X12_numberIn_j30 (w : Wd) : Option (Int32 × Wd) :=
(X12_fails (6 : Int32) w).bind fun q1 =>
gd (narrow .boolean (.int q1.1) = .int q1.1) <|
some (q1.1, q1.2)
set_option maxRecDepth 20000 in
set_option maxHeartbeats 1000000 in
theorem t_X12_numberIn_j30 {κ : Kx} (w : Wd) (h : ok (X12_numberIn_j30  w) (PIw κ)) : J κ RX12 cX12_numberIn 4 (some .boolean) (rmk 2 45) 30 [(0, .ref (ad (gm κ) 97))] [] w := by
  unfold X12_numberIn_j30 at h
  refine j_aload_n 0 dX12_numberIn_30 rfl rfl ?_
  refine j_bipush (6 : Int32) dX12_numberIn_31 kb_6 ?_
  obtain ⟨q1, e2, h⟩ := ok_b h
  refine j_callV (As := [.int (6 : Int32)]) (st := []) [.int q1.1] (c_X12_fails (kl κ) (gm κ) (kA κ) (6 : Int32) w q1 e2) ck_RX12_417 im_X12_fails se_X12_fails sh_97 cx_12 ⟨rfl, rfl⟩ ⟨by decide, by decide⟩ rfl rfl (Nat.le_of_ble_eq_true rfl) dX12_numberIn_33 _ rfl ?_
  obtain ⟨hz, h⟩ := ok_g h
  have h := ok_s h
  exact j_iret dX12_numberIn_36 rfl hz h
noncomputable def X12_numberIn (a1 : Int32) (a2 : Int32) (a3 : Int32) (w : Wd) : Option (Int32 × Wd) :=
(if (w.1 97 35) = (3 : Int32) then
(if (w.1 97 38) < a2 then
X12_numberIn_j30 w
else
(if (w.1 97 38) ≤ a3 then
gd (vp_in a1 120) <|
(some (puI w 126 (ix a1) (w.1 97 38))).bind fun w3 =>
(X12_next w3).bind fun q4 =>
some ((1 : Int32), q4)
else
X12_numberIn_j30 w))
else
(X12_fails (2 : Int32) w).bind fun q6 =>
gd (narrow .boolean (.int q6.1) = .int q6.1) <|
some (q6.1, q6.2))
set_option maxRecDepth 20000 in
set_option maxHeartbeats 1000000 in
theorem t_X12_numberIn {κ : Kx} (a1 : Int32) (a2 : Int32) (a3 : Int32) (w : Wd) (h : ok (X12_numberIn  a1 a2 a3 w) (PIw κ)) : J κ RX12 cX12_numberIn 4 (some .boolean) (rmk 2 45) 0 [(0, .ref (ad (gm κ) 97)), (1, .int a1), (2, .int a2), (3, .int a3)] [] w := by
  unfold X12_numberIn at h
  refine j_aload_n 0 dX12_numberIn_0 rfl rfl ?_
  refine j_getI fl_RX12_380 sh_97 fk_97_35 dX12_numberIn_1 ?_
  refine j_iconst (3 : Int32) dX12_numberIn_4 ki_3 ?_
  refine j_ic_eq 14 dX12_numberIn_5 (by decide) h (fun h => ?_) (fun h => ?_)
  · refine j_aload_n 0 dX12_numberIn_14 rfl rfl ?_
    refine j_getI fl_RX12_377 sh_97 fk_97_38 dX12_numberIn_15 ?_
    refine j_iload_n 2 dX12_numberIn_18 rfl rfl ?_
    refine j_ic_lt 30 dX12_numberIn_19 (by decide) h (fun h => ?_) (fun h => ?_)
    · refine j_loc [(0, .ref (ad (gm κ) 97))] [0] rfl ?_
      exact t_X12_numberIn_j30 w h
    · refine j_aload_n 0 dX12_numberIn_22 rfl rfl ?_
      refine j_getI fl_RX12_377 sh_97 fk_97_38 dX12_numberIn_23 ?_
      refine j_iload_n 3 dX12_numberIn_26 rfl rfl ?_
      refine j_ic_le 37 dX12_numberIn_27 (by decide) h (fun h => ?_) (fun h => ?_)
      · refine j_aload_n 0 dX12_numberIn_37 rfl rfl ?_
        refine j_getA 126 fl_RX12_106 sh_97 fk_97_49 (by decide) dX12_numberIn_38 ?_
        refine j_iload_n 1 dX12_numberIn_41 rfl rfl ?_
        refine j_aload_n 0 dX12_numberIn_42 rfl rfl ?_
        refine j_getI fl_RX12_377 sh_97 fk_97_38 dX12_numberIn_43 ?_
        refine j_iast sh_126 dX12_numberIn_46 h (fun h => ?_)
        refine j_lW h (fun w3 h => ?_)
        refine j_aload_n 0 dX12_numberIn_47 rfl rfl ?_
        obtain ⟨q4, e5, h⟩ := ok_b h
        refine j_callV (As := []) (st := []) [] (c_X12_next (kl κ) (gm κ) (kA κ) w3 q4 e5) ck_RX12_420 im_X12_next se_X12_next sh_97 cx_12 ⟨rfl, rfl⟩ ⟨by decide, by decide⟩ rfl rfl (Nat.le_of_ble_eq_true rfl) dX12_numberIn_48 _ rfl ?_
        refine j_iconst (1 : Int32) dX12_numberIn_51 ki_1 ?_
        have h := ok_s h
        exact j_iret dX12_numberIn_52 rfl (by decide) h
      · refine j_loc [(0, .ref (ad (gm κ) 97))] [0] rfl ?_
        exact t_X12_numberIn_j30 w h
  · refine j_aload_n 0 dX12_numberIn_8 rfl rfl ?_
    refine j_iconst (2 : Int32) dX12_numberIn_9 ki_2 ?_
    obtain ⟨q6, e7, h⟩ := ok_b h
    refine j_callV (As := [.int (2 : Int32)]) (st := []) [.int q6.1] (c_X12_fails (kl κ) (gm κ) (kA κ) (2 : Int32) w q6 e7) ck_RX12_417 im_X12_fails se_X12_fails sh_97 cx_12 ⟨rfl, rfl⟩ ⟨by decide, by decide⟩ rfl rfl (Nat.le_of_ble_eq_true rfl) dX12_numberIn_10 _ rfl ?_
    obtain ⟨hz, h⟩ := ok_g h
    have h := ok_s h
    exact j_iret dX12_numberIn_13 rfl hz h
theorem c_X12_numberIn (l : Launch) (γ : Gm) (A : Nat → Prop) (a1 : Int32) (a2 : Int32) (a3 : Int32) (w : Wd) (q : Int32 × Wd) (e : X12_numberIn  a1 a2 a3 w = some q) : MetG l γ A yX12_numberIn cX12_numberIn 4 (some .boolean) (rmk 2 45) [.ref (ad (γ) 97), .int a1, .int a2, .int a3] w (some (.int q.1)) q.2 := by
  refine met_of pn_RX12 (Nat.le_of_ble_eq_true rfl) ?_
  intro κ hl hγ hA hρ
  subst hl; subst hγ; subst hA
  exact t_X12_numberIn   a1 a2 a3 w ⟨q, e, pIw hρ rfl rfl⟩
theorem dX12_says_0 : decode cX12_says 0 = .ok (.aload_n 0, 1) := by decide +kernel
theorem dX12_says_1 : decode cX12_says 1 = .ok (.getfield 109, 3) := by decide +kernel
theorem dX12_says_4 : decode cX12_says 4 = .ok (.iload_n 1, 1) := by decide +kernel
theorem dX12_says_5 : decode cX12_says 5 = .ok (.aload_n 0, 1) := by decide +kernel
theorem dX12_says_6 : decode cX12_says 6 = .ok (.getfield 423, 3) := by decide +kernel
theorem dX12_says_9 : decode cX12_says 9 = .ok (.iastore, 1) := by decide +kernel
theorem dX12_says_10 : decode cX12_says 10 = .ok (.aload_n 0, 1) := by decide +kernel
theorem dX12_says_11 : decode cX12_says 11 = .ok (.getfield 103, 3) := by decide +kernel
theorem dX12_says_14 : decode cX12_says 14 = .ok (.iload_n 1, 1) := by decide +kernel
theorem dX12_says_15 : decode cX12_says 15 = .ok (.iaload, 1) := by decide +kernel
theorem dX12_says_16 : decode cX12_says 16 = .ok (.iconst 2, 1) := by decide +kernel
theorem dX12_says_17 : decode cX12_says 17 = .ok (.if_icmp .ne 12, 3) := by decide +kernel
theorem dX12_says_20 : decode cX12_says 20 = .ok (.aload_n 0, 1) := by decide +kernel
theorem dX12_says_21 : decode cX12_says 21 = .ok (.invokevirtual 440, 3) := by decide +kernel
theorem dX12_says_24 : decode cX12_says 24 = .ok (.ifCond .ne 5, 3) := by decide +kernel
theorem dX12_says_27 : decode cX12_says 27 = .ok (.iconst 0, 1) := by decide +kernel
theorem dX12_says_28 : decode cX12_says 28 = .ok (.ireturn, 1) := by decide +kernel
theorem dX12_says_29 : decode cX12_says 29 = .ok (.aload_n 0, 1) := by decide +kernel
theorem dX12_says_30 : decode cX12_says 30 = .ok (.getfield 112, 3) := by decide +kernel
theorem dX12_says_33 : decode cX12_says 33 = .ok (.iload_n 1, 1) := by decide +kernel
theorem dX12_says_34 : decode cX12_says 34 = .ok (.aload_n 0, 1) := by decide +kernel
theorem dX12_says_35 : decode cX12_says 35 = .ok (.getfield 423, 3) := by decide +kernel
theorem dX12_says_38 : decode cX12_says 38 = .ok (.iastore, 1) := by decide +kernel
theorem dX12_says_39 : decode cX12_says 39 = .ok (.aload_n 0, 1) := by decide +kernel
theorem dX12_says_40 : decode cX12_says 40 = .ok (.getfield 115, 3) := by decide +kernel
theorem dX12_says_43 : decode cX12_says 43 = .ok (.iload_n 1, 1) := by decide +kernel
theorem dX12_says_44 : decode cX12_says 44 = .ok (.aload_n 0, 1) := by decide +kernel
theorem dX12_says_45 : decode cX12_says 45 = .ok (.getfield 434, 3) := by decide +kernel
theorem dX12_says_48 : decode cX12_says 48 = .ok (.iastore, 1) := by decide +kernel
theorem dX12_says_49 : decode cX12_says 49 = .ok (.aload_n 0, 1) := by decide +kernel
theorem dX12_says_50 : decode cX12_says 50 = .ok (.getfield 103, 3) := by decide +kernel
theorem dX12_says_53 : decode cX12_says 53 = .ok (.iload_n 1, 1) := by decide +kernel
theorem dX12_says_54 : decode cX12_says 54 = .ok (.iaload, 1) := by decide +kernel
theorem dX12_says_55 : decode cX12_says 55 = .ok (.iconst 1, 1) := by decide +kernel
theorem dX12_says_56 : decode cX12_says 56 = .ok (.if_icmp .ne 12, 3) := by decide +kernel
theorem dX12_says_59 : decode cX12_says 59 = .ok (.aload_n 0, 1) := by decide +kernel
theorem dX12_says_60 : decode cX12_says 60 = .ok (.invokevirtual 462, 3) := by decide +kernel
theorem dX12_says_63 : decode cX12_says 63 = .ok (.ifCond .ne 5, 3) := by decide +kernel
theorem dX12_says_66 : decode cX12_says 66 = .ok (.iconst 0, 1) := by decide +kernel
theorem dX12_says_67 : decode cX12_says 67 = .ok (.ireturn, 1) := by decide +kernel
theorem dX12_says_68 : decode cX12_says 68 = .ok (.aload_n 0, 1) := by decide +kernel
theorem dX12_says_69 : decode cX12_says 69 = .ok (.getfield 118, 3) := by decide +kernel
theorem dX12_says_72 : decode cX12_says 72 = .ok (.iload_n 1, 1) := by decide +kernel
theorem dX12_says_73 : decode cX12_says 73 = .ok (.aload_n 0, 1) := by decide +kernel
theorem dX12_says_74 : decode cX12_says 74 = .ok (.getfield 434, 3) := by decide +kernel
theorem dX12_says_77 : decode cX12_says 77 = .ok (.iastore, 1) := by decide +kernel
theorem dX12_says_78 : decode cX12_says 78 = .ok (.aload_n 0, 1) := by decide +kernel
theorem dX12_says_79 : decode cX12_says 79 = .ok (.getfield 121, 3) := by decide +kernel
theorem dX12_says_82 : decode cX12_says 82 = .ok (.iload_n 1, 1) := by decide +kernel
theorem dX12_says_83 : decode cX12_says 83 = .ok (.aload_n 0, 1) := by decide +kernel
theorem dX12_says_84 : decode cX12_says 84 = .ok (.getfield 434, 3) := by decide +kernel
theorem dX12_says_87 : decode cX12_says 87 = .ok (.iastore, 1) := by decide +kernel
theorem dX12_says_88 : decode cX12_says 88 = .ok (.aload_n 0, 1) := by decide +kernel
theorem dX12_says_89 : decode cX12_says 89 = .ok (.bipush 6, 2) := by decide +kernel
theorem dX12_says_91 : decode cX12_says 91 = .ok (.invokevirtual 437, 3) := by decide +kernel
theorem dX12_says_94 : decode cX12_says 94 = .ok (.ifCond .ne 5, 3) := by decide +kernel
theorem dX12_says_97 : decode cX12_says 97 = .ok (.iconst 1, 1) := by decide +kernel
theorem dX12_says_98 : decode cX12_says 98 = .ok (.ireturn, 1) := by decide +kernel
theorem dX12_says_99 : decode cX12_says 99 = .ok (.aload_n 0, 1) := by decide +kernel
theorem dX12_says_100 : decode cX12_says 100 = .ok (.invokevirtual 420, 3) := by decide +kernel
theorem dX12_says_103 : decode cX12_says 103 = .ok (.aload_n 0, 1) := by decide +kernel
theorem dX12_says_104 : decode cX12_says 104 = .ok (.invokevirtual 462, 3) := by decide +kernel
theorem dX12_says_107 : decode cX12_says 107 = .ok (.ifCond .ne 5, 3) := by decide +kernel
theorem dX12_says_110 : decode cX12_says 110 = .ok (.iconst 0, 1) := by decide +kernel
theorem dX12_says_111 : decode cX12_says 111 = .ok (.ireturn, 1) := by decide +kernel
theorem dX12_says_112 : decode cX12_says 112 = .ok (.aload_n 0, 1) := by decide +kernel
theorem dX12_says_113 : decode cX12_says 113 = .ok (.getfield 121, 3) := by decide +kernel
theorem dX12_says_116 : decode cX12_says 116 = .ok (.iload_n 1, 1) := by decide +kernel
theorem dX12_says_117 : decode cX12_says 117 = .ok (.aload_n 0, 1) := by decide +kernel
theorem dX12_says_118 : decode cX12_says 118 = .ok (.getfield 434, 3) := by decide +kernel
theorem dX12_says_121 : decode cX12_says 121 = .ok (.iastore, 1) := by decide +kernel
theorem dX12_says_122 : decode cX12_says 122 = .ok (.iconst 1, 1) := by decide +kernel
theorem dX12_says_123 : decode cX12_says 123 = .ok (.ireturn, 1) := by decide +kernel
noncomputable def X12_says_j68 (a1 : Int32) (w : Wd) : Option (Int32 × Wd) :=
gd (vp_in a1 120) <|
(some (puI w 130 (ix a1) (w.1 97 44))).bind fun w4 =>
gd (vp_in a1 120) <|
(some (puI w4 131 (ix a1) (w4.1 97 44))).bind fun w5 =>
(X12_isKey (6 : Int32) w5).bind fun q6 =>
(if q6 = 0 then
some ((1 : Int32), w5)
else
(X12_next w5).bind fun q8 =>
(X12_test q8).bind fun q10 =>
(if q10.1 = 0 then
some ((0 : Int32), q10.2)
else
gd (vp_in a1 120) <|
(some (puI q10.2 131 (ix a1) (q10.2.1 97 44))).bind fun w12 =>
some ((1 : Int32), w12)))
set_option maxRecDepth 20000 in
set_option maxHeartbeats 1000000 in
theorem t_X12_says_j68 {κ : Kx} (a1 : Int32) (w : Wd) (h : ok (X12_says_j68  a1 w) (PIw κ)) : J κ RX12 cX12_says 2 (some .boolean) (rmk 8 178) 68 [(0, .ref (ad (gm κ) 97)), (1, .int a1)] [] w := by
  unfold X12_says_j68 at h
  refine j_aload_n 0 dX12_says_68 rfl rfl ?_
  refine j_getA 130 fl_RX12_118 sh_97 fk_97_53 (by decide) dX12_says_69 ?_
  refine j_iload_n 1 dX12_says_72 rfl rfl ?_
  refine j_aload_n 0 dX12_says_73 rfl rfl ?_
  refine j_getI fl_RX12_434 sh_97 fk_97_44 dX12_says_74 ?_
  refine j_iast sh_130 dX12_says_77 h (fun h => ?_)
  refine j_lW h (fun w4 h => ?_)
  refine j_aload_n 0 dX12_says_78 rfl rfl ?_
  refine j_getA 131 fl_RX12_121 sh_97 fk_97_54 (by decide) dX12_says_79 ?_
  refine j_iload_n 1 dX12_says_82 rfl rfl ?_
  refine j_aload_n 0 dX12_says_83 rfl rfl ?_
  refine j_getI fl_RX12_434 sh_97 fk_97_44 dX12_says_84 ?_
  refine j_iast sh_131 dX12_says_87 h (fun h => ?_)
  refine j_lW h (fun w5 h => ?_)
  refine j_aload_n 0 dX12_says_88 rfl rfl ?_
  refine j_bipush (6 : Int32) dX12_says_89 kb_6 ?_
  obtain ⟨q6, e7, h⟩ := ok_b h
  refine j_callV (As := [.int (6 : Int32)]) (st := []) [.int q6] (c_X12_isKey (kl κ) (gm κ) (kA κ) (6 : Int32) w5 q6 e7) ck_RX12_437 im_X12_isKey se_X12_isKey sh_97 cx_12 ⟨rfl, rfl⟩ ⟨by decide, by decide⟩ rfl rfl (Nat.le_of_ble_eq_true rfl) dX12_says_91 _ rfl ?_
  refine j_if_ne 99 dX12_says_94 (by decide) h (fun h => ?_) (fun h => ?_)
  · refine j_aload_n 0 dX12_says_99 rfl rfl ?_
    obtain ⟨q8, e9, h⟩ := ok_b h
    refine j_callV (As := []) (st := []) [] (c_X12_next (kl κ) (gm κ) (kA κ) w5 q8 e9) ck_RX12_420 im_X12_next se_X12_next sh_97 cx_12 ⟨rfl, rfl⟩ ⟨by decide, by decide⟩ rfl rfl (Nat.le_of_ble_eq_true rfl) dX12_says_100 _ rfl ?_
    refine j_aload_n 0 dX12_says_103 rfl rfl ?_
    obtain ⟨q10, e11, h⟩ := ok_b h
    refine j_callV (As := []) (st := []) [.int q10.1] (c_X12_test (kl κ) (gm κ) (kA κ) q8 q10 e11) ck_RX12_462 im_X12_test se_X12_test sh_97 cx_12 ⟨rfl, rfl⟩ ⟨by decide, by decide⟩ rfl rfl (Nat.le_of_ble_eq_true rfl) dX12_says_104 _ rfl ?_
    refine j_if_ne 112 dX12_says_107 (by decide) h (fun h => ?_) (fun h => ?_)
    · refine j_aload_n 0 dX12_says_112 rfl rfl ?_
      refine j_getA 131 fl_RX12_121 sh_97 fk_97_54 (by decide) dX12_says_113 ?_
      refine j_iload_n 1 dX12_says_116 rfl rfl ?_
      refine j_aload_n 0 dX12_says_117 rfl rfl ?_
      refine j_getI fl_RX12_434 sh_97 fk_97_44 dX12_says_118 ?_
      refine j_iast sh_131 dX12_says_121 h (fun h => ?_)
      refine j_lW h (fun w12 h => ?_)
      refine j_iconst (1 : Int32) dX12_says_122 ki_1 ?_
      have h := ok_s h
      exact j_iret dX12_says_123 rfl (by decide) h
    · refine j_iconst (0 : Int32) dX12_says_110 ki_0 ?_
      have h := ok_s h
      exact j_iret dX12_says_111 rfl (by decide) h
  · refine j_iconst (1 : Int32) dX12_says_97 ki_1 ?_
    have h := ok_s h
    exact j_iret dX12_says_98 rfl (by decide) h
noncomputable def X12_says_j29 (a1 : Int32) (w : Wd) : Option (Int32 × Wd) :=
gd (vp_in a1 120) <|
(some (puI w 128 (ix a1) (w.1 97 43))).bind fun w2 =>
gd (vp_in a1 120) <|
(some (puI w2 129 (ix a1) (w2.1 97 44))).bind fun w3 =>
gd (vp_in a1 120) <|
(if (w3.1 125 (ix a1)) = (1 : Int32) then
(X12_test w3).bind fun q13 =>
(if q13.1 = 0 then
some ((0 : Int32), q13.2)
else
X12_says_j68 a1 q13.2)
else
X12_says_j68 a1 w3)
set_option maxRecDepth 20000 in
set_option maxHeartbeats 1000000 in
theorem t_X12_says_j29 {κ : Kx} (a1 : Int32) (w : Wd) (h : ok (X12_says_j29  a1 w) (PIw κ)) : J κ RX12 cX12_says 2 (some .boolean) (rmk 8 178) 29 [(0, .ref (ad (gm κ) 97)), (1, .int a1)] [] w := by
  unfold X12_says_j29 at h
  refine j_aload_n 0 dX12_says_29 rfl rfl ?_
  refine j_getA 128 fl_RX12_112 sh_97 fk_97_51 (by decide) dX12_says_30 ?_
  refine j_iload_n 1 dX12_says_33 rfl rfl ?_
  refine j_aload_n 0 dX12_says_34 rfl rfl ?_
  refine j_getI fl_RX12_423 sh_97 fk_97_43 dX12_says_35 ?_
  refine j_iast sh_128 dX12_says_38 h (fun h => ?_)
  refine j_lW h (fun w2 h => ?_)
  refine j_aload_n 0 dX12_says_39 rfl rfl ?_
  refine j_getA 129 fl_RX12_115 sh_97 fk_97_52 (by decide) dX12_says_40 ?_
  refine j_iload_n 1 dX12_says_43 rfl rfl ?_
  refine j_aload_n 0 dX12_says_44 rfl rfl ?_
  refine j_getI fl_RX12_434 sh_97 fk_97_44 dX12_says_45 ?_
  refine j_iast sh_129 dX12_says_48 h (fun h => ?_)
  refine j_lW h (fun w3 h => ?_)
  refine j_aload_n 0 dX12_says_49 rfl rfl ?_
  refine j_getA 125 fl_RX12_103 sh_97 fk_97_48 (by decide) dX12_says_50 ?_
  refine j_iload_n 1 dX12_says_53 rfl rfl ?_
  refine j_iald sh_125 dX12_says_54 h (fun h => ?_)
  refine j_iconst (1 : Int32) dX12_says_55 ki_1 ?_
  refine j_ic_ne 68 dX12_says_56 (by decide) h (fun h => ?_) (fun h => ?_)
  · refine j_loc [(0, .ref (ad (gm κ) 97)), (1, .int a1)] [0, 1] rfl ?_
    exact t_X12_says_j68 a1 w3 h
  · refine j_aload_n 0 dX12_says_59 rfl rfl ?_
    obtain ⟨q13, e14, h⟩ := ok_b h
    refine j_callV (As := []) (st := []) [.int q13.1] (c_X12_test (kl κ) (gm κ) (kA κ) w3 q13 e14) ck_RX12_462 im_X12_test se_X12_test sh_97 cx_12 ⟨rfl, rfl⟩ ⟨by decide, by decide⟩ rfl rfl (Nat.le_of_ble_eq_true rfl) dX12_says_60 _ rfl ?_
    refine j_if_ne 68 dX12_says_63 (by decide) h (fun h => ?_) (fun h => ?_)
    · refine j_loc [(0, .ref (ad (gm κ) 97)), (1, .int a1)] [0, 1] rfl ?_
      exact t_X12_says_j68 a1 q13.2 h
    · refine j_iconst (0 : Int32) dX12_says_66 ki_0 ?_
      have h := ok_s h
      exact j_iret dX12_says_67 rfl (by decide) h
noncomputable def X12_says (a1 : Int32) (w : Wd) : Option (Int32 × Wd) :=
gd (vp_in a1 120) <|
(some (puI w 127 (ix a1) (w.1 97 43))).bind fun w1 =>
gd (vp_in a1 120) <|
(if (w1.1 125 (ix a1)) = (2 : Int32) then
(X12_sum w1).bind fun q15 =>
(if q15.1 = 0 then
some ((0 : Int32), q15.2)
else
X12_says_j29 a1 q15.2)
else
X12_says_j29 a1 w1)
set_option maxRecDepth 20000 in
set_option maxHeartbeats 1000000 in
theorem t_X12_says {κ : Kx} (a1 : Int32) (w : Wd) (h : ok (X12_says  a1 w) (PIw κ)) : J κ RX12 cX12_says 2 (some .boolean) (rmk 8 178) 0 [(0, .ref (ad (gm κ) 97)), (1, .int a1)] [] w := by
  unfold X12_says at h
  refine j_aload_n 0 dX12_says_0 rfl rfl ?_
  refine j_getA 127 fl_RX12_109 sh_97 fk_97_50 (by decide) dX12_says_1 ?_
  refine j_iload_n 1 dX12_says_4 rfl rfl ?_
  refine j_aload_n 0 dX12_says_5 rfl rfl ?_
  refine j_getI fl_RX12_423 sh_97 fk_97_43 dX12_says_6 ?_
  refine j_iast sh_127 dX12_says_9 h (fun h => ?_)
  refine j_lW h (fun w1 h => ?_)
  refine j_aload_n 0 dX12_says_10 rfl rfl ?_
  refine j_getA 125 fl_RX12_103 sh_97 fk_97_48 (by decide) dX12_says_11 ?_
  refine j_iload_n 1 dX12_says_14 rfl rfl ?_
  refine j_iald sh_125 dX12_says_15 h (fun h => ?_)
  refine j_iconst (2 : Int32) dX12_says_16 ki_2 ?_
  refine j_ic_ne 29 dX12_says_17 (by decide) h (fun h => ?_) (fun h => ?_)
  · refine j_loc [(0, .ref (ad (gm κ) 97)), (1, .int a1)] [0, 1] rfl ?_
    exact t_X12_says_j29 a1 w1 h
  · refine j_aload_n 0 dX12_says_20 rfl rfl ?_
    obtain ⟨q15, e16, h⟩ := ok_b h
    refine j_callV (As := []) (st := []) [.int q15.1] (c_X12_sum (kl κ) (gm κ) (kA κ) w1 q15 e16) ck_RX12_440 im_X12_sum se_X12_sum sh_97 cx_12 ⟨rfl, rfl⟩ ⟨by decide, by decide⟩ rfl rfl (Nat.le_of_ble_eq_true rfl) dX12_says_21 _ rfl ?_
    refine j_if_ne 29 dX12_says_24 (by decide) h (fun h => ?_) (fun h => ?_)
    · refine j_loc [(0, .ref (ad (gm κ) 97)), (1, .int a1)] [0, 1] rfl ?_
      exact t_X12_says_j29 a1 q15.2 h
    · refine j_iconst (0 : Int32) dX12_says_27 ki_0 ?_
      have h := ok_s h
      exact j_iret dX12_says_28 rfl (by decide) h
theorem c_X12_says (l : Launch) (γ : Gm) (A : Nat → Prop) (a1 : Int32) (w : Wd) (q : Int32 × Wd) (e : X12_says  a1 w = some q) : MetG l γ A yX12_says cX12_says 2 (some .boolean) (rmk 8 178) [.ref (ad (γ) 97), .int a1] w (some (.int q.1)) q.2 := by
  refine met_of pn_RX12 (Nat.le_of_ble_eq_true rfl) ?_
  intro κ hl hγ hA hρ
  subst hl; subst hγ; subst hA
  exact t_X12_says   a1 w ⟨q, e, pIw hρ rfl rfl⟩
