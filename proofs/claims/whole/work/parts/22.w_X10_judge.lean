theorem dX10_judge_0 : decode cX10_judge 0 = .ok (.aload_n 0, 1) := by decide +kernel
theorem dX10_judge_1 : decode cX10_judge 1 = .ok (.getfield 39, 3) := by decide +kernel
theorem dX10_judge_4 : decode cX10_judge 4 = .ok (.getfield 119, 3) := by decide +kernel
theorem dX10_judge_7 : decode cX10_judge 7 = .ok (.iload_n 1, 1) := by decide +kernel
theorem dX10_judge_8 : decode cX10_judge 8 = .ok (.iaload, 1) := by decide +kernel
theorem dX10_judge_9 : decode cX10_judge 9 = .ok (.istore_n 3, 1) := by decide +kernel
theorem dX10_judge_10 : decode cX10_judge 10 = .ok (.iload_n 3, 1) := by decide +kernel
theorem dX10_judge_11 : decode cX10_judge 11 = .ok (.iconst (-1), 1) := by decide +kernel
theorem dX10_judge_12 : decode cX10_judge 12 = .ok (.if_icmp .eq 16, 3) := by decide +kernel
theorem dX10_judge_15 : decode cX10_judge 15 = .ok (.aload_n 0, 1) := by decide +kernel
theorem dX10_judge_16 : decode cX10_judge 16 = .ok (.getfield 39, 3) := by decide +kernel
theorem dX10_judge_19 : decode cX10_judge 19 = .ok (.getfield 122, 3) := by decide +kernel
theorem dX10_judge_22 : decode cX10_judge 22 = .ok (.iload_n 3, 1) := by decide +kernel
theorem dX10_judge_23 : decode cX10_judge 23 = .ok (.iaload, 1) := by decide +kernel
theorem dX10_judge_24 : decode cX10_judge 24 = .ok (.iconst (-1), 1) := by decide +kernel
theorem dX10_judge_25 : decode cX10_judge 25 = .ok (.if_icmp .ne 5, 3) := by decide +kernel
theorem dX10_judge_28 : decode cX10_judge 28 = .ok (.iconst 0, 1) := by decide +kernel
theorem dX10_judge_29 : decode cX10_judge 29 = .ok (.ireturn, 1) := by decide +kernel
theorem dX10_judge_30 : decode cX10_judge 30 = .ok (.aload_n 0, 1) := by decide +kernel
theorem dX10_judge_31 : decode cX10_judge 31 = .ok (.getfield 35, 3) := by decide +kernel
theorem dX10_judge_34 : decode cX10_judge 34 = .ok (.getfield 125, 3) := by decide +kernel
theorem dX10_judge_37 : decode cX10_judge 37 = .ok (.iload_n 3, 1) := by decide +kernel
theorem dX10_judge_38 : decode cX10_judge 38 = .ok (.iaload, 1) := by decide +kernel
theorem dX10_judge_39 : decode cX10_judge 39 = .ok (.istore 4, 2) := by decide +kernel
theorem dX10_judge_41 : decode cX10_judge 41 = .ok (.aload_n 0, 1) := by decide +kernel
theorem dX10_judge_42 : decode cX10_judge 42 = .ok (.getfield 43, 3) := by decide +kernel
theorem dX10_judge_45 : decode cX10_judge 45 = .ok (.aload_n 0, 1) := by decide +kernel
theorem dX10_judge_46 : decode cX10_judge 46 = .ok (.getfield 35, 3) := by decide +kernel
theorem dX10_judge_49 : decode cX10_judge 49 = .ok (.getfield 128, 3) := by decide +kernel
theorem dX10_judge_52 : decode cX10_judge 52 = .ok (.iload 4, 2) := by decide +kernel
theorem dX10_judge_54 : decode cX10_judge 54 = .ok (.iaload, 1) := by decide +kernel
theorem dX10_judge_55 : decode cX10_judge 55 = .ok (.iload_n 2, 1) := by decide +kernel
theorem dX10_judge_56 : decode cX10_judge 56 = .ok (.invokevirtual 131, 3) := by decide +kernel
theorem dX10_judge_59 : decode cX10_judge 59 = .ok (.astore 5, 2) := by decide +kernel
theorem dX10_judge_61 : decode cX10_judge 61 = .ok (.aload 5, 2) := by decide +kernel
theorem dX10_judge_63 : decode cX10_judge 63 = .ok (.invokevirtual 135, 3) := by decide +kernel
theorem dX10_judge_66 : decode cX10_judge 66 = .ok (.ifCond .eq 10, 3) := by decide +kernel
theorem dX10_judge_69 : decode cX10_judge 69 = .ok (.aload_n 0, 1) := by decide +kernel
theorem dX10_judge_70 : decode cX10_judge 70 = .ok (.iload_n 1, 1) := by decide +kernel
theorem dX10_judge_71 : decode cX10_judge 71 = .ok (.iload_n 3, 1) := by decide +kernel
theorem dX10_judge_72 : decode cX10_judge 72 = .ok (.iload_n 2, 1) := by decide +kernel
theorem dX10_judge_73 : decode cX10_judge 73 = .ok (.invokevirtual 141, 3) := by decide +kernel
theorem dX10_judge_76 : decode cX10_judge 76 = .ok (.aload 5, 2) := by decide +kernel
theorem dX10_judge_78 : decode cX10_judge 78 = .ok (.aload_n 0, 1) := by decide +kernel
theorem dX10_judge_79 : decode cX10_judge 79 = .ok (.getfield 43, 3) := by decide +kernel
theorem dX10_judge_82 : decode cX10_judge 82 = .ok (.aload_n 0, 1) := by decide +kernel
theorem dX10_judge_83 : decode cX10_judge 83 = .ok (.getfield 24, 3) := by decide +kernel
theorem dX10_judge_86 : decode cX10_judge 86 = .ok (.invokevirtual 145, 3) := by decide +kernel
theorem dX10_judge_89 : decode cX10_judge 89 = .ok (.ifCond .ne 5, 3) := by decide +kernel
theorem dX10_judge_92 : decode cX10_judge 92 = .ok (.iconst 1, 1) := by decide +kernel
theorem dX10_judge_93 : decode cX10_judge 93 = .ok (.ireturn, 1) := by decide +kernel
theorem dX10_judge_94 : decode cX10_judge 94 = .ok (.aload_n 0, 1) := by decide +kernel
theorem dX10_judge_95 : decode cX10_judge 95 = .ok (.getfield 28, 3) := by decide +kernel
theorem dX10_judge_98 : decode cX10_judge 98 = .ok (.iload_n 3, 1) := by decide +kernel
theorem dX10_judge_99 : decode cX10_judge 99 = .ok (.iaload, 1) := by decide +kernel
theorem dX10_judge_100 : decode cX10_judge 100 = .ok (.aload 5, 2) := by decide +kernel
theorem dX10_judge_102 : decode cX10_judge 102 = .ok (.getfield 149, 3) := by decide +kernel
theorem dX10_judge_105 : decode cX10_judge 105 = .ok (.if_icmp .lt 5, 3) := by decide +kernel
theorem dX10_judge_108 : decode cX10_judge 108 = .ok (.iconst 2, 1) := by decide +kernel
theorem dX10_judge_109 : decode cX10_judge 109 = .ok (.ireturn, 1) := by decide +kernel
theorem dX10_judge_110 : decode cX10_judge 110 = .ok (.aload_n 0, 1) := by decide +kernel
theorem dX10_judge_111 : decode cX10_judge 111 = .ok (.getfield 28, 3) := by decide +kernel
theorem dX10_judge_114 : decode cX10_judge 114 = .ok (.iload_n 3, 1) := by decide +kernel
theorem dX10_judge_115 : decode cX10_judge 115 = .ok (.dup2, 1) := by decide +kernel
theorem dX10_judge_116 : decode cX10_judge 116 = .ok (.iaload, 1) := by decide +kernel
theorem dX10_judge_117 : decode cX10_judge 117 = .ok (.iconst 1, 1) := by decide +kernel
theorem dX10_judge_118 : decode cX10_judge 118 = .ok (.iadd, 1) := by decide +kernel
theorem dX10_judge_119 : decode cX10_judge 119 = .ok (.iastore, 1) := by decide +kernel
theorem dX10_judge_120 : decode cX10_judge 120 = .ok (.iconst 3, 1) := by decide +kernel
theorem dX10_judge_121 : decode cX10_judge 121 = .ok (.aload 5, 2) := by decide +kernel
theorem dX10_judge_123 : decode cX10_judge 123 = .ok (.aload_n 0, 1) := by decide +kernel
theorem dX10_judge_124 : decode cX10_judge 124 = .ok (.getfield 43, 3) := by decide +kernel
theorem dX10_judge_127 : decode cX10_judge 127 = .ok (.aload_n 0, 1) := by decide +kernel
theorem dX10_judge_128 : decode cX10_judge 128 = .ok (.getfield 24, 3) := by decide +kernel
theorem dX10_judge_131 : decode cX10_judge 131 = .ok (.invokevirtual 152, 3) := by decide +kernel
theorem dX10_judge_134 : decode cX10_judge 134 = .ok (.iadd, 1) := by decide +kernel
theorem dX10_judge_135 : decode cX10_judge 135 = .ok (.ireturn, 1) := by decide +kernel
noncomputable def X10_judge_j76 (a3 : Int32) (a5 : Nat) (w : Wd) : Option (Int32 × Wd) :=
(X8_admits a5 w).bind fun q5 =>
(if q5.1 = 0 then
some ((1 : Int32), q5.2)
else
gd (vp_in a3 12) <|
(if (q5.2.1 78 (ix a3)) < (q5.2.1 (stc a5) 8) then
gd (vp_in a3 12) <|
gd (vp_in a3 12) <|
(some (puI q5.2 78 (ix a3) ((q5.2.1 78 (ix a3)) + (1 : Int32)))).bind fun w7 =>
(X8_hoursFor a5 w7).bind fun q8 =>
some (((3 : Int32) + q8.1), q8.2)
else
some ((2 : Int32), q5.2)))
set_option maxRecDepth 20000 in
set_option maxHeartbeats 1000000 in
theorem t_X10_judge_j76 {κ : Kx} (a3 : Int32) (a5 : Nat) (w : Wd) (ha5 : a5 < 4) (h : ok (X10_judge_j76  a3 a5 w) (PIw κ)) : J κ RX10 cX10_judge 6 (some .int) (rmk 3 79) 76 [(0, .ref (ad (gm κ) 73)), (3, .int a3), (5, .ref (ad (gm κ) (stc a5)))] [] w := by
  unfold X10_judge_j76 at h
  refine j_aload 2 dX10_judge_76 rfl ?_
  refine j_aload_n 0 dX10_judge_78 rfl rfl ?_
  refine j_getA 30 fl_RX10_43 sh_73 fk_73_2 (by decide) dX10_judge_79 ?_
  refine j_aload_n 0 dX10_judge_82 rfl rfl ?_
  refine j_getA 77 fl_RX10_24 sh_73 fk_73_8 (by decide) dX10_judge_83 ?_
  obtain ⟨q5, e6, h⟩ := ok_b h
  refine j_callV (As := [.ref (ad (gm κ) 30), .ref (ad (gm κ) 77)]) (st := []) [.int q5.1] (c_X8_admits (kl κ) (gm κ) (kA κ) a5 ha5 w q5 e6) ck_RX10_145 im_X8_admits se_X8_admits (st_sh ha5).1 cx_8 ⟨rfl, rfl⟩ ⟨by decide, by decide⟩ rfl rfl (Nat.le_of_ble_eq_true rfl) dX10_judge_86 _ rfl ?_
  refine j_if_ne 94 dX10_judge_89 (by decide) h (fun h => ?_) (fun h => ?_)
  · refine j_aload_n 0 dX10_judge_94 rfl rfl ?_
    refine j_getA 78 fl_RX10_28 sh_73 fk_73_9 (by decide) dX10_judge_95 ?_
    refine j_iload_n 1 dX10_judge_98 rfl rfl ?_
    refine j_iald sh_78 dX10_judge_99 h (fun h => ?_)
    refine j_aload 2 dX10_judge_100 rfl ?_
    refine j_getI fl_RX10_149 (st_sh ha5).1 (st_fk ha5).2.2.2.2.2.2.2.2.1 dX10_judge_102 ?_
    refine j_ic_lt 110 dX10_judge_105 (by decide) h (fun h => ?_) (fun h => ?_)
    · refine j_aload_n 0 dX10_judge_110 rfl rfl ?_
      refine j_getA 78 fl_RX10_28 sh_73 fk_73_9 (by decide) dX10_judge_111 ?_
      refine j_iload_n 1 dX10_judge_114 rfl rfl ?_
      refine j_dup2 dX10_judge_115 rfl rfl ?_
      refine j_iald sh_78 dX10_judge_116 h (fun h => ?_)
      refine j_iconst (1 : Int32) dX10_judge_117 ki_1 ?_
      refine j_iadd dX10_judge_118 ?_
      refine j_iast sh_78 dX10_judge_119 h (fun h => ?_)
      refine j_lW h (fun w7 h => ?_)
      refine j_iconst (3 : Int32) dX10_judge_120 ki_3 ?_
      refine j_aload 2 dX10_judge_121 rfl ?_
      refine j_aload_n 0 dX10_judge_123 rfl rfl ?_
      refine j_getA 30 fl_RX10_43 sh_73 fk_73_2 (by decide) dX10_judge_124 ?_
      refine j_aload_n 0 dX10_judge_127 rfl rfl ?_
      refine j_getA 77 fl_RX10_24 sh_73 fk_73_8 (by decide) dX10_judge_128 ?_
      obtain ⟨q8, e9, h⟩ := ok_b h
      refine j_callV (As := [.ref (ad (gm κ) 30), .ref (ad (gm κ) 77)]) (st := [.int (3 : Int32)]) [.int q8.1, .int (3 : Int32)] (c_X8_hoursFor (kl κ) (gm κ) (kA κ) a5 ha5 w7 q8 e9) ck_RX10_152 im_X8_hoursFor se_X8_hoursFor (st_sh ha5).1 cx_8 ⟨rfl, rfl⟩ ⟨by decide, by decide⟩ rfl rfl (Nat.le_of_ble_eq_true rfl) dX10_judge_131 _ rfl ?_
      refine j_iadd dX10_judge_134 ?_
      have h := ok_s h
      exact j_iret dX10_judge_135 rfl rfl h
    · refine j_iconst (2 : Int32) dX10_judge_108 ki_2 ?_
      have h := ok_s h
      exact j_iret dX10_judge_109 rfl rfl h
  · refine j_iconst (1 : Int32) dX10_judge_92 ki_1 ?_
    have h := ok_s h
    exact j_iret dX10_judge_93 rfl rfl h
noncomputable def X10_judge (a1 : Int32) (a2 : Int32) (w : Wd) : Option (Int32 × Wd) :=
gd (vp_in a1 40) <|
(if (w.1 27 (ix a1)) = (-1 : Int32) then
some ((0 : Int32), w)
else
gd (vp_in (w.1 27 (ix a1)) 12) <|
(if (w.1 28 (ix (w.1 27 (ix a1)))) = (-1 : Int32) then
some ((0 : Int32), w)
else
gd (vp_in (w.1 27 (ix a1)) 12) <|
(some (w.1 17 (ix (w.1 27 (ix a1))))).bind fun z1 =>
gd (vp_in z1 16) <|
(X0_standingIn (w.1 6 (ix z1)) a2 w).bind fun q2 =>
gd (q2.1 < 4) <|
(if (X8_asksForFacts q2.1 q2.2) = 0 then
X10_judge_j76 (w.1 27 (ix a1)) q2.1 q2.2
else
(X10_gatherFacts a1 (w.1 27 (ix a1)) a2 q2.2).bind fun q10 =>
X10_judge_j76 (w.1 27 (ix a1)) q2.1 q10)))
set_option maxRecDepth 20000 in
set_option maxHeartbeats 1000000 in
theorem t_X10_judge {κ : Kx} (a1 : Int32) (a2 : Int32) (w : Wd) (h : ok (X10_judge  a1 a2 w) (PIw κ)) : J κ RX10 cX10_judge 6 (some .int) (rmk 3 79) 0 [(0, .ref (ad (gm κ) 73)), (1, .int a1), (2, .int a2)] [] w := by
  unfold X10_judge at h
  refine j_aload_n 0 dX10_judge_0 rfl rfl ?_
  refine j_getA 19 fl_RX10_39 sh_73 fk_73_1 (by decide) dX10_judge_1 ?_
  refine j_getA 27 fl_RX10_119 sh_19 fk_19_10 (by decide) dX10_judge_4 ?_
  refine j_iload_n 1 dX10_judge_7 rfl rfl ?_
  refine j_iald sh_27 dX10_judge_8 h (fun h => ?_)
  refine j_istore_n [(3, .int (w.1 27 (ix a1))), (0, .ref (ad (gm κ) 73)), (1, .int a1), (2, .int a2)] dX10_judge_9 rfl (by decide) rfl ?_
  refine j_iload_n 0 dX10_judge_10 rfl rfl ?_
  refine j_iconst (-1 : Int32) dX10_judge_11 ki_m1 ?_
  refine j_ic_eq 28 dX10_judge_12 (by decide) h (fun h => ?_) (fun h => ?_)
  · refine j_iconst (0 : Int32) dX10_judge_28 ki_0 ?_
    have h := ok_s h
    exact j_iret dX10_judge_29 rfl rfl h
  · refine j_aload_n 1 dX10_judge_15 rfl rfl ?_
    refine j_getA 19 fl_RX10_39 sh_73 fk_73_1 (by decide) dX10_judge_16 ?_
    refine j_getA 28 fl_RX10_122 sh_19 fk_19_11 (by decide) dX10_judge_19 ?_
    refine j_iload_n 0 dX10_judge_22 rfl rfl ?_
    refine j_iald sh_28 dX10_judge_23 h (fun h => ?_)
    refine j_iconst (-1 : Int32) dX10_judge_24 ki_m1 ?_
    refine j_ic_ne 30 dX10_judge_25 (by decide) h (fun h => ?_) (fun h => ?_)
    · refine j_aload_n 1 dX10_judge_30 rfl rfl ?_
      refine j_getA 5 fl_RX10_35 sh_73 fk_73_0 (by decide) dX10_judge_31 ?_
      refine j_getA 17 fl_RX10_125 sh_5 fk_5_16 (by decide) dX10_judge_34 ?_
      refine j_iload_n 0 dX10_judge_37 rfl rfl ?_
      refine j_iald sh_17 dX10_judge_38 h (fun h => ?_)
      refine j_lI h (fun z1 h => ?_)
      refine j_istore [(4, .int z1), (3, .int (w.1 27 (ix a1))), (0, .ref (ad (gm κ) 73)), (1, .int a1), (2, .int a2)] dX10_judge_39 (by decide) rfl ?_
      refine j_aload_n 2 dX10_judge_41 rfl rfl ?_
      refine j_getA 30 fl_RX10_43 sh_73 fk_73_2 (by decide) dX10_judge_42 ?_
      refine j_aload_n 2 dX10_judge_45 rfl rfl ?_
      refine j_getA 5 fl_RX10_35 sh_73 fk_73_0 (by decide) dX10_judge_46 ?_
      refine j_getA 6 fl_RX10_128 sh_5 fk_5_1 (by decide) dX10_judge_49 ?_
      refine j_iload 0 dX10_judge_52 rfl ?_
      refine j_iald sh_6 dX10_judge_54 h (fun h => ?_)
      refine j_iload_n 4 dX10_judge_55 rfl rfl ?_
      obtain ⟨q2, e3, h⟩ := ok_b h
      refine j_callV (As := [.int (w.1 6 (ix z1)), .int a2]) (st := []) [.ref (ad (gm κ) (stc q2.1))] (c_X0_standingIn (kl κ) (gm κ) (kA κ) (w.1 6 (ix z1)) a2 w q2 e3) ck_RX10_131 im_X0_standingIn se_X0_standingIn sh_30 cx_0 ⟨rfl, rfl⟩ ⟨by decide, by decide⟩ rfl rfl (Nat.le_of_ble_eq_true rfl) dX10_judge_56 _ rfl ?_
      obtain ⟨h4, h⟩ := ok_g h
      refine j_astore [(5, .ref (ad (gm κ) (stc q2.1))), (4, .int z1), (3, .int (w.1 27 (ix a1))), (0, .ref (ad (gm κ) 73)), (1, .int a1), (2, .int a2)] dX10_judge_59 (by decide) rfl ?_
      refine j_aload 0 dX10_judge_61 rfl ?_
      refine j_callV (As := []) (st := []) [.int (X8_asksForFacts q2.1 q2.2)] (c_X8_asksForFacts (kl κ) (gm κ) (kA κ) q2.1 h4 q2.2) ck_RX10_135 im_X8_asksForFacts se_X8_asksForFacts (st_sh h4).1 cx_8 ⟨rfl, rfl⟩ ⟨by decide, by decide⟩ rfl rfl (Nat.le_of_ble_eq_true rfl) dX10_judge_63 _ rfl ?_
      refine j_if_eq 76 dX10_judge_66 (by decide) h (fun h => ?_) (fun h => ?_)
      · refine j_loc [(0, .ref (ad (gm κ) 73)), (3, .int (w.1 27 (ix a1))), (5, .ref (ad (gm κ) (stc q2.1)))] [3, 2, 0] rfl ?_
        exact t_X10_judge_j76 (w.1 27 (ix a1)) q2.1 q2.2 h4 h
      · refine j_aload_n 3 dX10_judge_69 rfl rfl ?_
        refine j_iload_n 4 dX10_judge_70 rfl rfl ?_
        refine j_iload_n 2 dX10_judge_71 rfl rfl ?_
        refine j_iload_n 5 dX10_judge_72 rfl rfl ?_
        obtain ⟨q10, e11, h⟩ := ok_b h
        refine j_callV (As := [.int a1, .int (w.1 27 (ix a1)), .int a2]) (st := []) [] (c_X10_gatherFacts (kl κ) (gm κ) (kA κ) a1 (w.1 27 (ix a1)) a2 q2.2 q10 e11) ck_RX10_141 im_X10_gatherFacts se_X10_gatherFacts sh_73 cx_10 ⟨rfl, rfl⟩ ⟨by decide, by decide⟩ rfl rfl (Nat.le_of_ble_eq_true rfl) dX10_judge_73 _ rfl ?_
        refine j_loc [(0, .ref (ad (gm κ) 73)), (3, .int (w.1 27 (ix a1))), (5, .ref (ad (gm κ) (stc q2.1)))] [3, 2, 0] rfl ?_
        exact t_X10_judge_j76 (w.1 27 (ix a1)) q2.1 q10 h4 h
    · refine j_iconst (0 : Int32) dX10_judge_28 ki_0 ?_
      have h := ok_s h
      exact j_iret dX10_judge_29 rfl rfl h
theorem c_X10_judge (l : Launch) (γ : Gm) (A : Nat → Prop) (a1 : Int32) (a2 : Int32) (w : Wd) (q : Int32 × Wd) (e : X10_judge  a1 a2 w = some q) : MetG l γ A yX10_judge cX10_judge 6 (some .int) (rmk 3 79) [.ref (ad (γ) 73), .int a1, .int a2] w (some (.int q.1)) q.2 := by
  refine met_of pn_RX10 (Nat.le_of_ble_eq_true rfl) ?_
  intro κ hl hγ hA hρ
  subst hl; subst hγ; subst hA
  exact t_X10_judge   a1 a2 w ⟨q, e, pIw hρ rfl rfl⟩
theorem dJ7_fill_eb02e_0 : decode cJ7_fill_eb02e 0 = .ok (.aload_n 0, 1) := by decide +kernel
theorem dJ7_fill_eb02e_1 : decode cJ7_fill_eb02e 1 = .ok (.arraylength, 1) := by decide +kernel
theorem dJ7_fill_eb02e_2 : decode cJ7_fill_eb02e 2 = .ok (.iload_n 1, 1) := by decide +kernel
theorem dJ7_fill_eb02e_3 : decode cJ7_fill_eb02e 3 = .ok (.iload_n 2, 1) := by decide +kernel
theorem dJ7_fill_eb02e_4 : decode cJ7_fill_eb02e 4 = .ok (.invokestatic 13, 3) := by decide +kernel
theorem dJ7_fill_eb02e_7 : decode cJ7_fill_eb02e 7 = .ok (.iload_n 1, 1) := by decide +kernel
theorem dJ7_fill_eb02e_8 : decode cJ7_fill_eb02e 8 = .ok (.istore 4, 2) := by decide +kernel
theorem dJ7_fill_eb02e_10 : decode cJ7_fill_eb02e 10 = .ok (.iload 4, 2) := by decide +kernel
theorem dJ7_fill_eb02e_12 : decode cJ7_fill_eb02e 12 = .ok (.iload_n 2, 1) := by decide +kernel
theorem dJ7_fill_eb02e_13 : decode cJ7_fill_eb02e 13 = .ok (.if_icmp .ge 14, 3) := by decide +kernel
theorem dJ7_fill_eb02e_16 : decode cJ7_fill_eb02e 16 = .ok (.aload_n 0, 1) := by decide +kernel
theorem dJ7_fill_eb02e_17 : decode cJ7_fill_eb02e 17 = .ok (.iload 4, 2) := by decide +kernel
theorem dJ7_fill_eb02e_19 : decode cJ7_fill_eb02e 19 = .ok (.iload_n 3, 1) := by decide +kernel
theorem dJ7_fill_eb02e_20 : decode cJ7_fill_eb02e 20 = .ok (.bastore, 1) := by decide +kernel
theorem dJ7_fill_eb02e_21 : decode cJ7_fill_eb02e 21 = .ok (.iinc 4 1, 3) := by decide +kernel
theorem dJ7_fill_eb02e_24 : decode cJ7_fill_eb02e 24 = .ok (.goto (-14), 3) := by decide +kernel
theorem dJ7_fill_eb02e_27 : decode cJ7_fill_eb02e 27 = .ok (.return_, 1) := by decide +kernel
noncomputable def J7_fill_eb02e_b10 (kv : Nat) (nv : Nat) (a2 : Int32) (a3 : Int32) (s : (Int32 × Wd)) : Option ((Int32 × Wd) ⊕ Wd) :=
(if a2 ≤ s.1 then
some (.inr s.2)
else
gd (vp_in s.1 nv) <|
(some (puI s.2 kv (ix s.1) (vp_nar .byte a3))).bind fun w3 =>
some (.inl ((s.1 + (1 : Int32)), w3)))
set_option maxRecDepth 20000 in
set_option maxHeartbeats 1000000 in
theorem t_J7_fill_eb02e_b10 {κ : Kx} (kv : Nat) (nv : Nat) (hkv : sh kv = (1, nv)) (a2 : Int32) (a3 : Int32) {P : Wd → Prop} (K0 : ∀ e, P e → J κ RJ7 cJ7_fill_eb02e 5 none (rmk 1 22) 27 [] [] e) (s : (Int32 × Wd)) (h : ok (lp (J7_fill_eb02e_b10 kv nv a2 a3) s) P) : J κ RJ7 cJ7_fill_eb02e 5 none (rmk 1 22) 10 [(0, .ref (ad (gm κ) kv)), (2, .int a2), (3, .int a3), (4, .int s.1)] [] s.2 := by
  refine lp_ind (fun s => J κ RJ7 cJ7_fill_eb02e 5 none (rmk 1 22) 10 [(0, .ref (ad (gm κ) kv)), (2, .int a2), (3, .int a3), (4, .int s.1)] [] s.2) (fun s h => ?_) s h
  unfold J7_fill_eb02e_b10 at h
  refine j_iload 3 dJ7_fill_eb02e_10 rfl ?_
  refine j_iload_n 1 dJ7_fill_eb02e_12 rfl rfl ?_
  refine j_ic_ge 27 dJ7_fill_eb02e_13 (by decide) h (fun h => ?_) (fun h => ?_)
  · refine j_loc [] [] rfl ?_
    have h := sel_r h
    have h := K0 _ h
    exact h
  · refine j_aload_n 0 dJ7_fill_eb02e_16 rfl rfl ?_
    refine j_iload 3 dJ7_fill_eb02e_17 rfl ?_
    refine j_iload_n 2 dJ7_fill_eb02e_19 rfl rfl ?_
    refine j_bast hkv dJ7_fill_eb02e_20 h (fun h => ?_)
    refine j_lW h (fun w3 h => ?_)
    refine j_iinc (s.1 + (1 : Int32)) 3 [(4, .int (s.1 + (1 : Int32))), (0, .ref (ad (gm κ) kv)), (2, .int a2), (3, .int a3)] dJ7_fill_eb02e_21 rfl (by rw [kn_1]) (by decide) rfl ?_
    refine j_goto 10 dJ7_fill_eb02e_24 (by decide) ?_
    refine j_loc [(0, .ref (ad (gm κ) kv)), (2, .int a2), (3, .int a3), (4, .int (s.1 + (1 : Int32)))] [1, 2, 3, 0] rfl ?_
    have h := sel_l h
    exact h
noncomputable def J7_fill_eb02e (kv : Nat) (nv : Nat) (a1 : Int32) (a2 : Int32) (a3 : Int32) (w : Wd) : Option (Wd) :=
(J7_rangeCheck_23922 (Int32.ofNat nv) a1 a2 w).bind fun q1 =>
(lp (J7_fill_eb02e_b10 kv nv a2 a3) (a1, w)).bind fun e4 =>
some e4
set_option maxRecDepth 20000 in
set_option maxHeartbeats 1000000 in
theorem t_J7_fill_eb02e {κ : Kx} (kv : Nat) (nv : Nat) (hkv : sh kv = (1, nv)) (a1 : Int32) (a2 : Int32) (a3 : Int32) (w : Wd) (h : ok (J7_fill_eb02e kv nv a1 a2 a3 w) (PVw κ)) : J κ RJ7 cJ7_fill_eb02e 5 none (rmk 1 22) 0 [(0, .ref (ad (gm κ) kv)), (1, .int a1), (2, .int a2), (3, .int a3)] [] w := by
  unfold J7_fill_eb02e at h
  refine j_aload_n 0 dJ7_fill_eb02e_0 rfl rfl ?_
  refine j_alenI (v := (Int32.ofNat nv)) hkv (by decide) rfl dJ7_fill_eb02e_1 ?_
  refine j_iload_n 1 dJ7_fill_eb02e_2 rfl rfl ?_
  refine j_iload_n 2 dJ7_fill_eb02e_3 rfl rfl ?_
  obtain ⟨q1, e2, h⟩ := ok_b h
  refine j_callS (As := [.int (Int32.ofNat nv), .int a1, .int a2]) (st := []) [] (c_J7_rangeCheck_23922 (kl κ) (gm κ) (kA κ) (Int32.ofNat nv) a1 a2 w q1 e2) ck_RJ7_13 st_J7_rangeCheck_23922 ⟨rfl, rfl⟩ ⟨by decide, by decide⟩ rfl rfl (Nat.le_of_ble_eq_true rfl) dJ7_fill_eb02e_4 _ rfl ?_
  refine j_iload_n 1 dJ7_fill_eb02e_7 rfl rfl ?_
  refine j_istore [(4, .int a1), (0, .ref (ad (gm κ) kv)), (1, .int a1), (2, .int a2), (3, .int a3)] dJ7_fill_eb02e_8 (by decide) rfl ?_
  refine j_loc [(0, .ref (ad (gm κ) kv)), (2, .int a2), (3, .int a3), (4, .int a1)] [1, 3, 4, 0] rfl ?_
  refine t_J7_fill_eb02e_b10 kv nv hkv a2 a3 (fun e4 h => ?_) (a1, w) (ok_bb h)
  · have h := ok_s h
    exact j_vret dJ7_fill_eb02e_27 rfl h
theorem c_J7_fill_eb02e (l : Launch) (γ : Gm) (A : Nat → Prop) (kv : Nat) (nv : Nat) (hkv : sh kv = (1, nv)) (a1 : Int32) (a2 : Int32) (a3 : Int32) (w : Wd) (q : Wd) (e : J7_fill_eb02e kv nv a1 a2 a3 w = some q) : MetG l γ A yJ7_fill_eb02e cJ7_fill_eb02e 5 none (rmk 1 22) [.ref (ad (γ) kv), .int a1, .int a2, .int a3] w none q := by
  refine met_of pn_RJ7 (Nat.le_of_ble_eq_true rfl) ?_
  intro κ hl hγ hA hρ
  subst hl; subst hγ; subst hA
  exact t_J7_fill_eb02e kv nv hkv a1 a2 a3 w ⟨q, e, pVw hρ rfl rfl⟩
theorem dX10_live_0 : decode cX10_live 0 = .ok (.aload_n 0, 1) := by decide +kernel
theorem dX10_live_1 : decode cX10_live 1 = .ok (.getfield 39, 3) := by decide +kernel
theorem dX10_live_4 : decode cX10_live 4 = .ok (.iload_n 1, 1) := by decide +kernel
theorem dX10_live_5 : decode cX10_live 5 = .ok (.invokevirtual 74, 3) := by decide +kernel
theorem dX10_live_8 : decode cX10_live 8 = .ok (.aload_n 0, 1) := by decide +kernel
theorem dX10_live_9 : decode cX10_live 9 = .ok (.getfield 28, 3) := by decide +kernel
theorem dX10_live_12 : decode cX10_live 12 = .ok (.iconst 0, 1) := by decide +kernel
theorem dX10_live_13 : decode cX10_live 13 = .ok (.invokestatic 79, 3) := by decide +kernel
theorem dX10_live_16 : decode cX10_live 16 = .ok (.iconst 0, 1) := by decide +kernel
theorem dX10_live_17 : decode cX10_live 17 = .ok (.istore_n 2, 1) := by decide +kernel
theorem dX10_live_18 : decode cX10_live 18 = .ok (.iload_n 2, 1) := by decide +kernel
theorem dX10_live_19 : decode cX10_live 19 = .ok (.aload_n 0, 1) := by decide +kernel
theorem dX10_live_20 : decode cX10_live 20 = .ok (.getfield 35, 3) := by decide +kernel
theorem dX10_live_23 : decode cX10_live 23 = .ok (.getfield 85, 3) := by decide +kernel
theorem dX10_live_26 : decode cX10_live 26 = .ok (.if_icmp .ge 183, 3) := by decide +kernel
theorem dX10_live_29 : decode cX10_live 29 = .ok (.aload_n 0, 1) := by decide +kernel
theorem dX10_live_30 : decode cX10_live 30 = .ok (.iload_n 2, 1) := by decide +kernel
theorem dX10_live_31 : decode cX10_live 31 = .ok (.iload_n 1, 1) := by decide +kernel
theorem dX10_live_32 : decode cX10_live 32 = .ok (.invokevirtual 90, 3) := by decide +kernel
theorem dX10_live_35 : decode cX10_live 35 = .ok (.istore_n 3, 1) := by decide +kernel
theorem dX10_live_36 : decode cX10_live 36 = .ok (.iload_n 2, 1) := by decide +kernel
theorem dX10_live_37 : decode cX10_live 37 = .ok (.iload_n 1, 1) := by decide +kernel
theorem dX10_live_38 : decode cX10_live 38 = .ok (.invokestatic 65, 3) := by decide +kernel
theorem dX10_live_41 : decode cX10_live 41 = .ok (.istore 4, 2) := by decide +kernel
theorem dX10_live_43 : decode cX10_live 43 = .ok (.iload 4, 2) := by decide +kernel
theorem dX10_live_45 : decode cX10_live 45 = .ok (.bipush 15, 2) := by decide +kernel
theorem dX10_live_47 : decode cX10_live 47 = .ok (.imul, 1) := by decide +kernel
theorem dX10_live_48 : decode cX10_live 48 = .ok (.istore 5, 2) := by decide +kernel
theorem dX10_live_50 : decode cX10_live 50 = .ok (.iconst 0, 1) := by decide +kernel
theorem dX10_live_51 : decode cX10_live 51 = .ok (.istore 6, 2) := by decide +kernel
theorem dX10_live_53 : decode cX10_live 53 = .ok (.iload_n 1, 1) := by decide +kernel
theorem dX10_live_54 : decode cX10_live 54 = .ok (.ifCond .ne 21, 3) := by decide +kernel
theorem dX10_live_57 : decode cX10_live 57 = .ok (.aload_n 0, 1) := by decide +kernel
theorem dX10_live_58 : decode cX10_live 58 = .ok (.getfield 16, 3) := by decide +kernel
theorem dX10_live_61 : decode cX10_live 61 = .ok (.iload 5, 2) := by decide +kernel
theorem dX10_live_63 : decode cX10_live 63 = .ok (.iload 5, 2) := by decide +kernel
theorem dX10_live_65 : decode cX10_live 65 = .ok (.bipush 15, 2) := by decide +kernel
theorem dX10_live_67 : decode cX10_live 67 = .ok (.iadd, 1) := by decide +kernel
theorem dX10_live_68 : decode cX10_live 68 = .ok (.iconst 0, 1) := by decide +kernel
theorem dX10_live_69 : decode cX10_live 69 = .ok (.invokestatic 93, 3) := by decide +kernel
theorem dX10_live_72 : decode cX10_live 72 = .ok (.goto 41, 3) := by decide +kernel
theorem dX10_live_75 : decode cX10_live 75 = .ok (.iload_n 2, 1) := by decide +kernel
theorem dX10_live_76 : decode cX10_live 76 = .ok (.iload_n 1, 1) := by decide +kernel
theorem dX10_live_77 : decode cX10_live 77 = .ok (.iconst 1, 1) := by decide +kernel
theorem dX10_live_78 : decode cX10_live 78 = .ok (.isub, 1) := by decide +kernel
theorem dX10_live_79 : decode cX10_live 79 = .ok (.invokestatic 65, 3) := by decide +kernel
theorem dX10_live_82 : decode cX10_live 82 = .ok (.istore 7, 2) := by decide +kernel
theorem dX10_live_84 : decode cX10_live 84 = .ok (.aload_n 0, 1) := by decide +kernel
theorem dX10_live_85 : decode cX10_live 85 = .ok (.getfield 16, 3) := by decide +kernel
theorem dX10_live_88 : decode cX10_live 88 = .ok (.iload 7, 2) := by decide +kernel
theorem dX10_live_90 : decode cX10_live 90 = .ok (.bipush 15, 2) := by decide +kernel
theorem dX10_live_92 : decode cX10_live 92 = .ok (.imul, 1) := by decide +kernel
theorem dX10_live_93 : decode cX10_live 93 = .ok (.aload_n 0, 1) := by decide +kernel
theorem dX10_live_94 : decode cX10_live 94 = .ok (.getfield 16, 3) := by decide +kernel
theorem dX10_live_97 : decode cX10_live 97 = .ok (.iload 5, 2) := by decide +kernel
theorem dX10_live_99 : decode cX10_live 99 = .ok (.bipush 15, 2) := by decide +kernel
theorem dX10_live_101 : decode cX10_live 101 = .ok (.invokestatic 96, 3) := by decide +kernel
theorem dX10_live_104 : decode cX10_live 104 = .ok (.aload_n 0, 1) := by decide +kernel
theorem dX10_live_105 : decode cX10_live 105 = .ok (.getfield 19, 3) := by decide +kernel
theorem dX10_live_108 : decode cX10_live 108 = .ok (.iload 7, 2) := by decide +kernel
theorem dX10_live_110 : decode cX10_live 110 = .ok (.baload, 1) := by decide +kernel
theorem dX10_live_111 : decode cX10_live 111 = .ok (.istore 6, 2) := by decide +kernel
theorem dX10_live_113 : decode cX10_live 113 = .ok (.aload_n 0, 1) := by decide +kernel
theorem dX10_live_114 : decode cX10_live 114 = .ok (.getfield 9, 3) := by decide +kernel
theorem dX10_live_117 : decode cX10_live 117 = .ok (.iload 4, 2) := by decide +kernel
theorem dX10_live_119 : decode cX10_live 119 = .ok (.iload_n 3, 1) := by decide +kernel
theorem dX10_live_120 : decode cX10_live 120 = .ok (.i2b, 1) := by decide +kernel
theorem dX10_live_121 : decode cX10_live 121 = .ok (.bastore, 1) := by decide +kernel
theorem dX10_live_122 : decode cX10_live 122 = .ok (.iload_n 3, 1) := by decide +kernel
theorem dX10_live_123 : decode cX10_live 123 = .ok (.iconst 3, 1) := by decide +kernel
theorem dX10_live_124 : decode cX10_live 124 = .ok (.if_icmp .lt 42, 3) := by decide +kernel
theorem dX10_live_127 : decode cX10_live 127 = .ok (.aload_n 0, 1) := by decide +kernel
theorem dX10_live_128 : decode cX10_live 128 = .ok (.getfield 47, 3) := by decide +kernel
theorem dX10_live_131 : decode cX10_live 131 = .ok (.aload_n 0, 1) := by decide +kernel
theorem dX10_live_132 : decode cX10_live 132 = .ok (.getfield 16, 3) := by decide +kernel
theorem dX10_live_135 : decode cX10_live 135 = .ok (.iload 5, 2) := by decide +kernel
theorem dX10_live_137 : decode cX10_live 137 = .ok (.aload_n 0, 1) := by decide +kernel
theorem dX10_live_138 : decode cX10_live 138 = .ok (.getfield 35, 3) := by decide +kernel
theorem dX10_live_141 : decode cX10_live 141 = .ok (.getfield 102, 3) := by decide +kernel
theorem dX10_live_144 : decode cX10_live 144 = .ok (.iload_n 2, 1) := by decide +kernel
theorem dX10_live_145 : decode cX10_live 145 = .ok (.iaload, 1) := by decide +kernel
theorem dX10_live_146 : decode cX10_live 146 = .ok (.iload_n 3, 1) := by decide +kernel
theorem dX10_live_147 : decode cX10_live 147 = .ok (.iconst 3, 1) := by decide +kernel
theorem dX10_live_148 : decode cX10_live 148 = .ok (.isub, 1) := by decide +kernel
theorem dX10_live_149 : decode cX10_live 149 = .ok (.invokestatic 105, 3) := by decide +kernel
theorem dX10_live_152 : decode cX10_live 152 = .ok (.invokevirtual 108, 3) := by decide +kernel
theorem dX10_live_155 : decode cX10_live 155 = .ok (.aload_n 0, 1) := by decide +kernel
theorem dX10_live_156 : decode cX10_live 156 = .ok (.getfield 19, 3) := by decide +kernel
theorem dX10_live_159 : decode cX10_live 159 = .ok (.iload 4, 2) := by decide +kernel
theorem dX10_live_161 : decode cX10_live 161 = .ok (.iconst 0, 1) := by decide +kernel
theorem dX10_live_162 : decode cX10_live 162 = .ok (.bastore, 1) := by decide +kernel
theorem dX10_live_163 : decode cX10_live 163 = .ok (.goto 40, 3) := by decide +kernel
theorem dX10_live_166 : decode cX10_live 166 = .ok (.aload_n 0, 1) := by decide +kernel
theorem dX10_live_167 : decode cX10_live 167 = .ok (.getfield 19, 3) := by decide +kernel
theorem dX10_live_170 : decode cX10_live 170 = .ok (.iload 4, 2) := by decide +kernel
theorem dX10_live_172 : decode cX10_live 172 = .ok (.iload 6, 2) := by decide +kernel
theorem dX10_live_174 : decode cX10_live 174 = .ok (.iconst 1, 1) := by decide +kernel
theorem dX10_live_175 : decode cX10_live 175 = .ok (.iadd, 1) := by decide +kernel
theorem dX10_live_176 : decode cX10_live 176 = .ok (.i2b, 1) := by decide +kernel
theorem dX10_live_177 : decode cX10_live 177 = .ok (.bastore, 1) := by decide +kernel
theorem dX10_live_178 : decode cX10_live 178 = .ok (.iload 6, 2) := by decide +kernel
theorem dX10_live_180 : decode cX10_live 180 = .ok (.aload_n 0, 1) := by decide +kernel
theorem dX10_live_181 : decode cX10_live 181 = .ok (.getfield 47, 3) := by decide +kernel
theorem dX10_live_184 : decode cX10_live 184 = .ok (.getfield 112, 3) := by decide +kernel
theorem dX10_live_187 : decode cX10_live 187 = .ok (.if_icmp .lt 16, 3) := by decide +kernel
theorem dX10_live_190 : decode cX10_live 190 = .ok (.aload_n 0, 1) := by decide +kernel
theorem dX10_live_191 : decode cX10_live 191 = .ok (.getfield 47, 3) := by decide +kernel
theorem dX10_live_194 : decode cX10_live 194 = .ok (.aload_n 0, 1) := by decide +kernel
theorem dX10_live_195 : decode cX10_live 195 = .ok (.getfield 16, 3) := by decide +kernel
theorem dX10_live_198 : decode cX10_live 198 = .ok (.iload 5, 2) := by decide +kernel
theorem dX10_live_200 : decode cX10_live 200 = .ok (.invokevirtual 115, 3) := by decide +kernel
theorem dX10_live_203 : decode cX10_live 203 = .ok (.iinc 2 1, 3) := by decide +kernel
theorem dX10_live_206 : decode cX10_live 206 = .ok (.goto (-188), 3) := by decide +kernel
theorem dX10_live_209 : decode cX10_live 209 = .ok (.return_, 1) := by decide +kernel
noncomputable def X10_live_j203 (a1 : Int32) (a2 : Int32) (w : Wd) : Option ((Int32 × Wd) ⊕ Wd) :=
some (.inl ((a2 + (1 : Int32)), w))
set_option maxRecDepth 20000 in
set_option maxHeartbeats 1000000 in
theorem t_X10_live_j203 {κ : Kx} (a1 : Int32) (a2 : Int32) (w : Wd) {G : (Int32 × Wd) → Prop} {P : Wd → Prop} (KG : ∀ s, G s → J κ RX10 cX10_live 8 none (rmk 4 104) 18 [(0, .ref (ad (gm κ) 73)), (1, .int a1), (2, .int s.1)] [] s.2) (K0 : ∀ e, P e → J κ RX10 cX10_live 8 none (rmk 4 104) 209 [] [] e) (h : ok (X10_live_j203  a1 a2 w) (sel G P)) : J κ RX10 cX10_live 8 none (rmk 4 104) 203 [(0, .ref (ad (gm κ) 73)), (1, .int a1), (2, .int a2)] [] w := by
  unfold X10_live_j203 at h
  refine j_iinc (a2 + (1 : Int32)) 2 [(2, .int (a2 + (1 : Int32))), (0, .ref (ad (gm κ) 73)), (1, .int a1)] dX10_live_203 rfl (by rw [kn_1]) (by decide) rfl ?_
  refine j_goto 18 dX10_live_206 (by decide) ?_
  refine j_loc [(0, .ref (ad (gm κ) 73)), (1, .int a1), (2, .int (a2 + (1 : Int32)))] [1, 2, 0] rfl ?_
  have h := sel_l h
  have h := KG _ h
  exact h
noncomputable def X10_live_j113 (a1 : Int32) (a2 : Int32) (a3 : Int32) (a4 : Int32) (a5 : Int32) (a6 : Int32) (w : Wd) : Option ((Int32 × Wd) ⊕ Wd) :=
gd (vp_in a4 2400) <|
(some (puI w 74 (ix a4) (vp_nar .byte (Int32.toInt8 a3).toInt32))).bind fun w10 =>
(if a3 < (3 : Int32) then
gd (vp_in a4 2400) <|
(some (puI w10 76 (ix a4) (vp_nar .byte (Int32.toInt8 (a6 + (1 : Int32))).toInt32))).bind fun w11 =>
(if a6 < (w11.1 69 3) then
X10_live_j203 a1 a2 w11
else
(X3_forget 75 36000 a5 w11).bind fun q12 =>
X10_live_j203 a1 a2 q12)
else
gd (vp_in a2 40) <|
(X3_worthAt (w10.1 13 (ix a2)) (a3 - (3 : Int32)) w10).bind fun q14 =>
(X3_learn 75 36000 a5 q14 w10).bind fun q16 =>
gd (vp_in a4 2400) <|
(some (puI q16 76 (ix a4) (vp_nar .byte (0 : Int32)))).bind fun w18 =>
X10_live_j203 a1 a2 w18)
set_option maxRecDepth 20000 in
set_option maxHeartbeats 1000000 in
theorem t_X10_live_j113 {κ : Kx} (a1 : Int32) (a2 : Int32) (a3 : Int32) (a4 : Int32) (a5 : Int32) (a6 : Int32) (w : Wd) {G : (Int32 × Wd) → Prop} {P : Wd → Prop} (KG : ∀ s, G s → J κ RX10 cX10_live 8 none (rmk 4 104) 18 [(0, .ref (ad (gm κ) 73)), (1, .int a1), (2, .int s.1)] [] s.2) (K0 : ∀ e, P e → J κ RX10 cX10_live 8 none (rmk 4 104) 209 [] [] e) (h : ok (X10_live_j113  a1 a2 a3 a4 a5 a6 w) (sel G P)) : J κ RX10 cX10_live 8 none (rmk 4 104) 113 [(0, .ref (ad (gm κ) 73)), (1, .int a1), (2, .int a2), (3, .int a3), (4, .int a4), (5, .int a5), (6, .int a6)] [] w := by
  unfold X10_live_j113 at h
  refine j_aload_n 0 dX10_live_113 rfl rfl ?_
  refine j_getA 74 fl_RX10_9 sh_73 fk_73_5 (by decide) dX10_live_114 ?_
  refine j_iload 4 dX10_live_117 rfl ?_
  refine j_iload_n 3 dX10_live_119 rfl rfl ?_
  refine j_i2b dX10_live_120 ?_
  refine j_bast sh_74 dX10_live_121 h (fun h => ?_)
  refine j_lW h (fun w10 h => ?_)
  refine j_iload_n 3 dX10_live_122 rfl rfl ?_
  refine j_iconst (3 : Int32) dX10_live_123 ki_3 ?_
  refine j_ic_lt 166 dX10_live_124 (by decide) h (fun h => ?_) (fun h => ?_)
  · refine j_aload_n 0 dX10_live_166 rfl rfl ?_
    refine j_getA 76 fl_RX10_19 sh_73 fk_73_7 (by decide) dX10_live_167 ?_
    refine j_iload 4 dX10_live_170 rfl ?_
    refine j_iload 6 dX10_live_172 rfl ?_
    refine j_iconst (1 : Int32) dX10_live_174 ki_1 ?_
    refine j_iadd dX10_live_175 ?_
    refine j_i2b dX10_live_176 ?_
    refine j_bast sh_76 dX10_live_177 h (fun h => ?_)
    refine j_lW h (fun w11 h => ?_)
    refine j_iload 6 dX10_live_178 rfl ?_
    refine j_aload_n 0 dX10_live_180 rfl rfl ?_
    refine j_getA 69 fl_RX10_47 sh_73 fk_73_3 (by decide) dX10_live_181 ?_
    refine j_getI fl_RX10_112 sh_69 fk_69_3 dX10_live_184 ?_
    refine j_ic_lt 203 dX10_live_187 (by decide) h (fun h => ?_) (fun h => ?_)
    · refine j_loc [(0, .ref (ad (gm κ) 73)), (1, .int a1), (2, .int a2)] [0, 1, 2] rfl ?_
      exact t_X10_live_j203 a1 a2 w11 KG K0 h
    · refine j_aload_n 0 dX10_live_190 rfl rfl ?_
      refine j_getA 69 fl_RX10_47 sh_73 fk_73_3 (by decide) dX10_live_191 ?_
      refine j_aload_n 0 dX10_live_194 rfl rfl ?_
      refine j_getA 75 fl_RX10_16 sh_73 fk_73_6 (by decide) dX10_live_195 ?_
      refine j_iload 5 dX10_live_198 rfl ?_
      obtain ⟨q12, e13, h⟩ := ok_b h
      refine j_callV (As := [.ref (ad (gm κ) 75), .int a5]) (st := []) [] (c_X3_forget (kl κ) (gm κ) (kA κ) 75 36000 sh_75 a5 w11 q12 e13) ck_RX10_115 im_X3_forget se_X3_forget sh_69 cx_3 ⟨rfl, rfl⟩ ⟨by decide, by decide⟩ rfl rfl (Nat.le_of_ble_eq_true rfl) dX10_live_200 _ rfl ?_
      refine j_loc [(0, .ref (ad (gm κ) 73)), (1, .int a1), (2, .int a2)] [0, 1, 2] rfl ?_
      exact t_X10_live_j203 a1 a2 q12 KG K0 h
  · refine j_aload_n 0 dX10_live_127 rfl rfl ?_
    refine j_getA 69 fl_RX10_47 sh_73 fk_73_3 (by decide) dX10_live_128 ?_
    refine j_aload_n 0 dX10_live_131 rfl rfl ?_
    refine j_getA 75 fl_RX10_16 sh_73 fk_73_6 (by decide) dX10_live_132 ?_
    refine j_iload 5 dX10_live_135 rfl ?_
    refine j_aload_n 0 dX10_live_137 rfl rfl ?_
    refine j_getA 5 fl_RX10_35 sh_73 fk_73_0 (by decide) dX10_live_138 ?_
    refine j_getA 13 fl_RX10_102 sh_5 fk_5_10 (by decide) dX10_live_141 ?_
    refine j_iload_n 2 dX10_live_144 rfl rfl ?_
    refine j_iald sh_13 dX10_live_145 h (fun h => ?_)
    refine j_iload_n 3 dX10_live_146 rfl rfl ?_
    refine j_iconst (3 : Int32) dX10_live_147 ki_3 ?_
    refine j_isub dX10_live_148 ?_
    obtain ⟨q14, e15, h⟩ := ok_b h
    refine j_callS (As := [.int (w10.1 13 (ix a2)), .int (a3 - (3 : Int32))]) (st := [.int a5, .ref (ad (gm κ) 75), .ref (ad (gm κ) 69)]) [.int q14, .int a5, .ref (ad (gm κ) 75), .ref (ad (gm κ) 69)] (c_X3_worthAt (kl κ) (gm κ) (kA κ) (w10.1 13 (ix a2)) (a3 - (3 : Int32)) w10 q14 e15) ck_RX10_105 st_X3_worthAt ⟨rfl, rfl⟩ ⟨by decide, by decide⟩ rfl rfl (Nat.le_of_ble_eq_true rfl) dX10_live_149 _ rfl ?_
    obtain ⟨q16, e17, h⟩ := ok_b h
    refine j_callV (As := [.ref (ad (gm κ) 75), .int a5, .int q14]) (st := []) [] (c_X3_learn (kl κ) (gm κ) (kA κ) 75 36000 sh_75 a5 q14 w10 q16 e17) ck_RX10_108 im_X3_learn se_X3_learn sh_69 cx_3 ⟨rfl, rfl⟩ ⟨by decide, by decide⟩ rfl rfl (Nat.le_of_ble_eq_true rfl) dX10_live_152 _ rfl ?_
    refine j_aload_n 0 dX10_live_155 rfl rfl ?_
    refine j_getA 76 fl_RX10_19 sh_73 fk_73_7 (by decide) dX10_live_156 ?_
    refine j_iload 4 dX10_live_159 rfl ?_
    refine j_iconst (0 : Int32) dX10_live_161 ki_0 ?_
    refine j_bast sh_76 dX10_live_162 h (fun h => ?_)
    refine j_lW h (fun w18 h => ?_)
    refine j_goto 203 dX10_live_163 (by decide) ?_
    refine j_loc [(0, .ref (ad (gm κ) 73)), (1, .int a1), (2, .int a2)] [0, 1, 2] rfl ?_
    exact t_X10_live_j203 a1 a2 w18 KG K0 h
noncomputable def X10_live_b18 (a1 : Int32) (s : (Int32 × Wd)) : Option ((Int32 × Wd) ⊕ Wd) :=
(if (s.2.1 5 8) ≤ s.1 then
some (.inr s.2)
else
(X10_judge s.1 a1 s.2).bind fun q5 =>
(some ((X10_cell s.1 a1 q5.2) * (15 : Int32))).bind fun z7 =>
(if a1 = 0 then
(J7_fill_eb02e 75 36000 z7 (z7 + (15 : Int32)) (0 : Int32) q5.2).bind fun q19 =>
X10_live_j113 a1 s.1 q5.1 (X10_cell s.1 a1 q5.2) z7 (0 : Int32) q19
else
(some (X10_cell s.1 (a1 - (1 : Int32)) q5.2)).bind fun z8 =>
gd (cpok (z8 * (15 : Int32)) z7 (15 : Int32) 36000 36000 ∧ fitB (q5.2.1 75) (ix (z8 * (15 : Int32))) (ix (15 : Int32))) <|
(some (seI q5.2 75 (va_cpy (q5.2.1 75) (q5.2.1 75) (ix (z8 * (15 : Int32))) (ix z7) (ix (15 : Int32))))).bind fun w9 =>
gd (vp_in z8 2400) <|
X10_live_j113 a1 s.1 q5.1 (X10_cell s.1 a1 q5.2) z7 (w9.1 76 (ix z8)) w9))
set_option maxRecDepth 20000 in
set_option maxHeartbeats 1000000 in
theorem t_X10_live_b18 {κ : Kx} (a1 : Int32) {P : Wd → Prop} (K0 : ∀ e, P e → J κ RX10 cX10_live 8 none (rmk 4 104) 209 [] [] e) (s : (Int32 × Wd)) (h : ok (lp (X10_live_b18  a1) s) P) : J κ RX10 cX10_live 8 none (rmk 4 104) 18 [(0, .ref (ad (gm κ) 73)), (1, .int a1), (2, .int s.1)] [] s.2 := by
  refine lp_ind (fun s => J κ RX10 cX10_live 8 none (rmk 4 104) 18 [(0, .ref (ad (gm κ) 73)), (1, .int a1), (2, .int s.1)] [] s.2) (fun s h => ?_) s h
  unfold X10_live_b18 at h
  refine j_iload_n 2 dX10_live_18 rfl rfl ?_
  refine j_aload_n 0 dX10_live_19 rfl rfl ?_
  refine j_getA 5 fl_RX10_35 sh_73 fk_73_0 (by decide) dX10_live_20 ?_
  refine j_getI fl_RX10_85 sh_5 fk_5_8 dX10_live_23 ?_
  refine j_ic_ge 209 dX10_live_26 (by decide) h (fun h => ?_) (fun h => ?_)
  · refine j_loc [] [] rfl ?_
    have h := sel_r h
    have h := K0 _ h
    exact h
  · refine j_aload_n 0 dX10_live_29 rfl rfl ?_
    refine j_iload_n 2 dX10_live_30 rfl rfl ?_
    refine j_iload_n 1 dX10_live_31 rfl rfl ?_
    obtain ⟨q5, e6, h⟩ := ok_b h
    refine j_callV (As := [.int s.1, .int a1]) (st := []) [.int q5.1] (c_X10_judge (kl κ) (gm κ) (kA κ) s.1 a1 s.2 q5 e6) ck_RX10_90 im_X10_judge se_X10_judge sh_73 cx_10 ⟨rfl, rfl⟩ ⟨by decide, by decide⟩ rfl rfl (Nat.le_of_ble_eq_true rfl) dX10_live_32 _ rfl ?_
    refine j_istore_n [(3, .int q5.1), (0, .ref (ad (gm κ) 73)), (1, .int a1), (2, .int s.1)] dX10_live_35 rfl (by decide) rfl ?_
    refine j_iload_n 3 dX10_live_36 rfl rfl ?_
    refine j_iload_n 2 dX10_live_37 rfl rfl ?_
    refine j_callS (As := [.int s.1, .int a1]) (st := []) [.int (X10_cell s.1 a1 q5.2)] (c_X10_cell (kl κ) (gm κ) (kA κ) s.1 a1 q5.2) ck_RX10_65 st_X10_cell ⟨rfl, rfl⟩ ⟨by decide, by decide⟩ rfl rfl (Nat.le_of_ble_eq_true rfl) dX10_live_38 _ rfl ?_
    refine j_istore [(4, .int (X10_cell s.1 a1 q5.2)), (3, .int q5.1), (0, .ref (ad (gm κ) 73)), (1, .int a1), (2, .int s.1)] dX10_live_41 (by decide) rfl ?_
    refine j_iload 0 dX10_live_43 rfl ?_
    refine j_bipush (15 : Int32) dX10_live_45 kb_15 ?_
    refine j_imul dX10_live_47 ?_
    refine j_lI h (fun z7 h => ?_)
    refine j_istore [(5, .int z7), (4, .int (X10_cell s.1 a1 q5.2)), (3, .int q5.1), (0, .ref (ad (gm κ) 73)), (1, .int a1), (2, .int s.1)] dX10_live_48 (by decide) rfl ?_
    refine j_iconst (0 : Int32) dX10_live_50 ki_0 ?_
    refine j_istore [(6, .int (0 : Int32)), (5, .int z7), (4, .int (X10_cell s.1 a1 q5.2)), (3, .int q5.1), (0, .ref (ad (gm κ) 73)), (1, .int a1), (2, .int s.1)] dX10_live_51 (by decide) rfl ?_
    refine j_iload_n 5 dX10_live_53 rfl rfl ?_
    refine j_if_ne 75 dX10_live_54 (by decide) h (fun h => ?_) (fun h => ?_)
    · refine j_iload_n 6 dX10_live_75 rfl rfl ?_
      refine j_iload_n 5 dX10_live_76 rfl rfl ?_
      refine j_iconst (1 : Int32) dX10_live_77 ki_1 ?_
      refine j_isub dX10_live_78 ?_
      refine j_callS (As := [.int s.1, .int (a1 - (1 : Int32))]) (st := []) [.int (X10_cell s.1 (a1 - (1 : Int32)) q5.2)] (c_X10_cell (kl κ) (gm κ) (kA κ) s.1 (a1 - (1 : Int32)) q5.2) ck_RX10_65 st_X10_cell ⟨rfl, rfl⟩ ⟨by decide, by decide⟩ rfl rfl (Nat.le_of_ble_eq_true rfl) dX10_live_79 _ rfl ?_
      refine j_lI h (fun z8 h => ?_)
      refine j_istore [(7, .int z8), (6, .int (0 : Int32)), (5, .int z7), (4, .int (X10_cell s.1 a1 q5.2)), (3, .int q5.1), (0, .ref (ad (gm κ) 73)), (1, .int a1), (2, .int s.1)] dX10_live_82 (by decide) rfl ?_
      refine j_aload_n 5 dX10_live_84 rfl rfl ?_
      refine j_getA 75 fl_RX10_16 sh_73 fk_73_6 (by decide) dX10_live_85 ?_
      refine j_iload 0 dX10_live_88 rfl ?_
      refine j_bipush (15 : Int32) dX10_live_90 kb_15 ?_
      refine j_imul dX10_live_92 ?_
      refine j_aload_n 5 dX10_live_93 rfl rfl ?_
      refine j_getA 75 fl_RX10_16 sh_73 fk_73_6 (by decide) dX10_live_94 ?_
      refine j_iload 2 dX10_live_97 rfl ?_
      refine j_bipush (15 : Int32) dX10_live_99 kb_15 ?_
      refine j_copyB cp_RX10_96 sh_75 sh_75 (by decide) (Nat.le_of_ble_eq_true rfl) dX10_live_101 h (fun h => ?_)
      refine j_lW h (fun w9 h => ?_)
      refine j_aload_n 5 dX10_live_104 rfl rfl ?_
      refine j_getA 76 fl_RX10_19 sh_73 fk_73_7 (by decide) dX10_live_105 ?_
      refine j_iload 0 dX10_live_108 rfl ?_
      refine j_bald sh_76 dX10_live_110 h (fun h => ?_)
      refine j_istore [(6, .int (w9.1 76 (ix z8))), (7, .int z8), (5, .int z7), (4, .int (X10_cell s.1 a1 q5.2)), (3, .int q5.1), (0, .ref (ad (gm κ) 73)), (1, .int a1), (2, .int s.1)] dX10_live_111 (by decide) rfl ?_
      refine j_loc [(0, .ref (ad (gm κ) 73)), (1, .int a1), (2, .int s.1), (3, .int q5.1), (4, .int (X10_cell s.1 a1 q5.2)), (5, .int z7), (6, .int (w9.1 76 (ix z8)))] [5, 6, 7, 4, 3, 2, 0] rfl ?_
      exact t_X10_live_j113 a1 s.1 q5.1 (X10_cell s.1 a1 q5.2) z7 (w9.1 76 (ix z8)) w9 (fun _ h => h) K0 h
    · refine j_aload_n 4 dX10_live_57 rfl rfl ?_
      refine j_getA 75 fl_RX10_16 sh_73 fk_73_6 (by decide) dX10_live_58 ?_
      refine j_iload 1 dX10_live_61 rfl ?_
      refine j_iload 1 dX10_live_63 rfl ?_
      refine j_bipush (15 : Int32) dX10_live_65 kb_15 ?_
      refine j_iadd dX10_live_67 ?_
      refine j_iconst (0 : Int32) dX10_live_68 ki_0 ?_
      obtain ⟨q19, e20, h⟩ := ok_b h
      refine j_callS (As := [.ref (ad (gm κ) 75), .int z7, .int (z7 + (15 : Int32)), .int (0 : Int32)]) (st := []) [] (c_J7_fill_eb02e (kl κ) (gm κ) (kA κ) 75 36000 sh_75 z7 (z7 + (15 : Int32)) (0 : Int32) q5.2 q19 e20) ck_RX10_93 st_J7_fill_eb02e ⟨rfl, rfl⟩ ⟨by decide, by decide⟩ rfl rfl (Nat.le_of_ble_eq_true rfl) dX10_live_69 _ rfl ?_
      refine j_goto 113 dX10_live_72 (by decide) ?_
      refine j_loc [(0, .ref (ad (gm κ) 73)), (1, .int a1), (2, .int s.1), (3, .int q5.1), (4, .int (X10_cell s.1 a1 q5.2)), (5, .int z7), (6, .int (0 : Int32))] [4, 5, 6, 3, 2, 1, 0] rfl ?_
      exact t_X10_live_j113 a1 s.1 q5.1 (X10_cell s.1 a1 q5.2) z7 (0 : Int32) q19 (fun _ h => h) K0 h
noncomputable def X10_live (a1 : Int32) (w : Wd) : Option (Wd) :=
(X4_callUp a1 w).bind fun q1 =>
(J7_fill_53178 78 12 (0 : Int32) q1).bind fun q3 =>
(lp (X10_live_b18 a1) ((0 : Int32), q3)).bind fun e21 =>
some e21
set_option maxRecDepth 20000 in
set_option maxHeartbeats 1000000 in
theorem t_X10_live {κ : Kx} (a1 : Int32) (w : Wd) (h : ok (X10_live  a1 w) (PVw κ)) : J κ RX10 cX10_live 8 none (rmk 4 104) 0 [(0, .ref (ad (gm κ) 73)), (1, .int a1)] [] w := by
  unfold X10_live at h
  refine j_aload_n 0 dX10_live_0 rfl rfl ?_
  refine j_getA 19 fl_RX10_39 sh_73 fk_73_1 (by decide) dX10_live_1 ?_
  refine j_iload_n 1 dX10_live_4 rfl rfl ?_
  obtain ⟨q1, e2, h⟩ := ok_b h
  refine j_callV (As := [.int a1]) (st := []) [] (c_X4_callUp (kl κ) (gm κ) (kA κ) a1 w q1 e2) ck_RX10_74 im_X4_callUp se_X4_callUp sh_19 cx_4 ⟨rfl, rfl⟩ ⟨by decide, by decide⟩ rfl rfl (Nat.le_of_ble_eq_true rfl) dX10_live_5 _ rfl ?_
  refine j_aload_n 0 dX10_live_8 rfl rfl ?_
  refine j_getA 78 fl_RX10_28 sh_73 fk_73_9 (by decide) dX10_live_9 ?_
  refine j_iconst (0 : Int32) dX10_live_12 ki_0 ?_
  obtain ⟨q3, e4, h⟩ := ok_b h
  refine j_callS (As := [.ref (ad (gm κ) 78), .int (0 : Int32)]) (st := []) [] (c_J7_fill_53178 (kl κ) (gm κ) (kA κ) 78 12 sh_78 (0 : Int32) q1 q3 e4) ck_RX10_79 st_J7_fill_53178 ⟨rfl, rfl⟩ ⟨by decide, by decide⟩ rfl rfl (Nat.le_of_ble_eq_true rfl) dX10_live_13 _ rfl ?_
  refine j_iconst (0 : Int32) dX10_live_16 ki_0 ?_
  refine j_istore_n [(2, .int (0 : Int32)), (0, .ref (ad (gm κ) 73)), (1, .int a1)] dX10_live_17 rfl (by decide) rfl ?_
  refine j_loc [(0, .ref (ad (gm κ) 73)), (1, .int a1), (2, .int (0 : Int32))] [1, 2, 0] rfl ?_
  refine t_X10_live_b18 a1 (fun e21 h => ?_) ((0 : Int32), q3) (ok_bb h)
  · have h := ok_s h
    exact j_vret dX10_live_209 rfl h
theorem c_X10_live (l : Launch) (γ : Gm) (A : Nat → Prop) (a1 : Int32) (w : Wd) (q : Wd) (e : X10_live  a1 w = some q) : MetG l γ A yX10_live cX10_live 8 none (rmk 4 104) [.ref (ad (γ) 73), .int a1] w none q := by
  refine met_of pn_RX10 (Nat.le_of_ble_eq_true rfl) ?_
  intro κ hl hγ hA hρ
  subst hl; subst hγ; subst hA
  exact t_X10_live   a1 w ⟨q, e, pVw hρ rfl rfl⟩
theorem dX10_reach_0 : decode cX10_reach 0 = .ok (.aload_n 0, 1) := by decide +kernel
theorem dX10_reach_1 : decode cX10_reach 1 = .ok (.getfield 51, 3) := by decide +kernel
theorem dX10_reach_4 : decode cX10_reach 4 = .ok (.istore_n 2, 1) := by decide +kernel
theorem dX10_reach_5 : decode cX10_reach 5 = .ok (.iload_n 2, 1) := by decide +kernel
theorem dX10_reach_6 : decode cX10_reach 6 = .ok (.iload_n 1, 1) := by decide +kernel
theorem dX10_reach_7 : decode cX10_reach 7 = .ok (.if_icmp .gt 21, 3) := by decide +kernel
theorem dX10_reach_10 : decode cX10_reach 10 = .ok (.aload_n 0, 1) := by decide +kernel
theorem dX10_reach_11 : decode cX10_reach 11 = .ok (.iload_n 2, 1) := by decide +kernel
theorem dX10_reach_12 : decode cX10_reach 12 = .ok (.invokevirtual 61, 3) := by decide +kernel
theorem dX10_reach_15 : decode cX10_reach 15 = .ok (.aload_n 0, 1) := by decide +kernel
theorem dX10_reach_16 : decode cX10_reach 16 = .ok (.iload_n 2, 1) := by decide +kernel
theorem dX10_reach_17 : decode cX10_reach 17 = .ok (.iconst 1, 1) := by decide +kernel
theorem dX10_reach_18 : decode cX10_reach 18 = .ok (.iadd, 1) := by decide +kernel
theorem dX10_reach_19 : decode cX10_reach 19 = .ok (.putfield 51, 3) := by decide +kernel
theorem dX10_reach_22 : decode cX10_reach 22 = .ok (.iinc 2 1, 3) := by decide +kernel
theorem dX10_reach_25 : decode cX10_reach 25 = .ok (.goto (-20), 3) := by decide +kernel
theorem dX10_reach_28 : decode cX10_reach 28 = .ok (.return_, 1) := by decide +kernel
noncomputable def X10_reach_b5 (a1 : Int32) (s : (Int32 × Wd)) : Option ((Int32 × Wd) ⊕ Wd) :=
(if a1 < s.1 then
some (.inr s.2)
else
(X10_live s.1 s.2).bind fun q1 =>
(some (puI q1 73 4 (s.1 + (1 : Int32)))).bind fun w3 =>
some (.inl ((s.1 + (1 : Int32)), w3)))
set_option maxRecDepth 20000 in
set_option maxHeartbeats 1000000 in
theorem t_X10_reach_b5 {κ : Kx} (a1 : Int32) {P : Wd → Prop} (K0 : ∀ e, P e → J κ RX10 cX10_reach 3 none (rmk 5 131) 28 [] [] e) (s : (Int32 × Wd)) (h : ok (lp (X10_reach_b5  a1) s) P) : J κ RX10 cX10_reach 3 none (rmk 5 131) 5 [(0, .ref (ad (gm κ) 73)), (1, .int a1), (2, .int s.1)] [] s.2 := by
  refine lp_ind (fun s => J κ RX10 cX10_reach 3 none (rmk 5 131) 5 [(0, .ref (ad (gm κ) 73)), (1, .int a1), (2, .int s.1)] [] s.2) (fun s h => ?_) s h
  unfold X10_reach_b5 at h
  refine j_iload_n 2 dX10_reach_5 rfl rfl ?_
  refine j_iload_n 1 dX10_reach_6 rfl rfl ?_
  refine j_ic_gt 28 dX10_reach_7 (by decide) h (fun h => ?_) (fun h => ?_)
  · refine j_loc [] [] rfl ?_
    have h := sel_r h
    have h := K0 _ h
    exact h
  · refine j_aload_n 0 dX10_reach_10 rfl rfl ?_
    refine j_iload_n 2 dX10_reach_11 rfl rfl ?_
    obtain ⟨q1, e2, h⟩ := ok_b h
    refine j_callV (As := [.int s.1]) (st := []) [] (c_X10_live (kl κ) (gm κ) (kA κ) s.1 s.2 q1 e2) ck_RX10_61 im_X10_live se_X10_live sh_73 cx_10 ⟨rfl, rfl⟩ ⟨by decide, by decide⟩ rfl rfl (Nat.le_of_ble_eq_true rfl) dX10_reach_12 _ rfl ?_
    refine j_aload_n 0 dX10_reach_15 rfl rfl ?_
    refine j_iload_n 2 dX10_reach_16 rfl rfl ?_
    refine j_iconst (1 : Int32) dX10_reach_17 ki_1 ?_
    refine j_iadd dX10_reach_18 ?_
    refine j_putI fp_RX10_51 sh_73 fk_73_4 dX10_reach_19 ?_
    refine j_lW h (fun w3 h => ?_)
    refine j_iinc (s.1 + (1 : Int32)) 2 [(2, .int (s.1 + (1 : Int32))), (0, .ref (ad (gm κ) 73)), (1, .int a1)] dX10_reach_22 rfl (by rw [kn_1]) (by decide) rfl ?_
    refine j_goto 5 dX10_reach_25 (by decide) ?_
    refine j_loc [(0, .ref (ad (gm κ) 73)), (1, .int a1), (2, .int (s.1 + (1 : Int32)))] [1, 2, 0] rfl ?_
    have h := sel_l h
    exact h
noncomputable def X10_reach (a1 : Int32) (w : Wd) : Option (Wd) :=
(lp (X10_reach_b5 a1) ((w.1 73 4), w)).bind fun e4 =>
some e4
set_option maxRecDepth 20000 in
set_option maxHeartbeats 1000000 in
theorem t_X10_reach {κ : Kx} (a1 : Int32) (w : Wd) (h : ok (X10_reach  a1 w) (PVw κ)) : J κ RX10 cX10_reach 3 none (rmk 5 131) 0 [(0, .ref (ad (gm κ) 73)), (1, .int a1)] [] w := by
  unfold X10_reach at h
  refine j_aload_n 0 dX10_reach_0 rfl rfl ?_
  refine j_getI fl_RX10_51 sh_73 fk_73_4 dX10_reach_1 ?_
  refine j_istore_n [(2, .int (w.1 73 4)), (0, .ref (ad (gm κ) 73)), (1, .int a1)] dX10_reach_4 rfl (by decide) rfl ?_
  refine j_loc [(0, .ref (ad (gm κ) 73)), (1, .int a1), (2, .int (w.1 73 4))] [1, 2, 0] rfl ?_
  refine t_X10_reach_b5 a1 (fun e4 h => ?_) ((w.1 73 4), w) (ok_bb h)
  · have h := ok_s h
    exact j_vret dX10_reach_28 rfl h
theorem c_X10_reach (l : Launch) (γ : Gm) (A : Nat → Prop) (a1 : Int32) (w : Wd) (q : Wd) (e : X10_reach  a1 w = some q) : MetG l γ A yX10_reach cX10_reach 3 none (rmk 5 131) [.ref (ad (γ) 73), .int a1] w none q := by
  refine met_of pn_RX10 (Nat.le_of_ble_eq_true rfl) ?_
  intro κ hl hγ hA hρ
  subst hl; subst hγ; subst hA
  exact t_X10_reach   a1 w ⟨q, e, pVw hρ rfl rfl⟩
theorem dX10_outcomeOf_0 : decode cX10_outcomeOf 0 = .ok (.aload_n 0, 1) := by decide +kernel
theorem dX10_outcomeOf_1 : decode cX10_outcomeOf 1 = .ok (.getfield 9, 3) := by decide +kernel
theorem dX10_outcomeOf_4 : decode cX10_outcomeOf 4 = .ok (.iload_n 1, 1) := by decide +kernel
theorem dX10_outcomeOf_5 : decode cX10_outcomeOf 5 = .ok (.iload_n 2, 1) := by decide +kernel
theorem dX10_outcomeOf_6 : decode cX10_outcomeOf 6 = .ok (.invokestatic 65, 3) := by decide +kernel
theorem dX10_outcomeOf_9 : decode cX10_outcomeOf 9 = .ok (.baload, 1) := by decide +kernel
theorem dX10_outcomeOf_10 : decode cX10_outcomeOf 10 = .ok (.ireturn, 1) := by decide +kernel
noncomputable def X10_outcomeOf (a1 : Int32) (a2 : Int32) (w : Wd) : Option (Int32) :=
gd (vp_in (X10_cell a1 a2 w) 2400) <|
some (w.1 74 (ix (X10_cell a1 a2 w)))
set_option maxRecDepth 20000 in
set_option maxHeartbeats 1000000 in
theorem t_X10_outcomeOf {κ : Kx} (a1 : Int32) (a2 : Int32) (w : Wd) (h : ok (X10_outcomeOf  a1 a2 w) (PI κ w)) : J κ RX10 cX10_outcomeOf 3 (some .int) (rmk 1 21) 0 [(0, .ref (ad (gm κ) 73)), (1, .int a1), (2, .int a2)] [] w := by
  unfold X10_outcomeOf at h
  refine j_aload_n 0 dX10_outcomeOf_0 rfl rfl ?_
  refine j_getA 74 fl_RX10_9 sh_73 fk_73_5 (by decide) dX10_outcomeOf_1 ?_
  refine j_iload_n 1 dX10_outcomeOf_4 rfl rfl ?_
  refine j_iload_n 2 dX10_outcomeOf_5 rfl rfl ?_
  refine j_callS (As := [.int a1, .int a2]) (st := [.ref (ad (gm κ) 74)]) [.int (X10_cell a1 a2 w), .ref (ad (gm κ) 74)] (c_X10_cell (kl κ) (gm κ) (kA κ) a1 a2 w) ck_RX10_65 st_X10_cell ⟨rfl, rfl⟩ ⟨by decide, by decide⟩ rfl rfl (Nat.le_of_ble_eq_true rfl) dX10_outcomeOf_6 _ rfl ?_
  refine j_bald sh_74 dX10_outcomeOf_9 h (fun h => ?_)
  have h := ok_s h
  exact j_iret dX10_outcomeOf_10 rfl rfl h
theorem c_X10_outcomeOf (l : Launch) (γ : Gm) (A : Nat → Prop) (a1 : Int32) (a2 : Int32) (w : Wd) (q : Int32) (e : X10_outcomeOf  a1 a2 w = some q) : MetG l γ A yX10_outcomeOf cX10_outcomeOf 3 (some .int) (rmk 1 21) [.ref (ad (γ) 73), .int a1, .int a2] w (some (.int q)) w := by
  refine met_of pn_RX10 (Nat.le_of_ble_eq_true rfl) ?_
  intro κ hl hγ hA hρ
  subst hl; subst hγ; subst hA
  exact t_X10_outcomeOf   a1 a2 w ⟨q, e, pI hρ rfl rfl⟩
theorem dX10_hoursBehind_0 : decode cX10_hoursBehind 0 = .ok (.aload_n 0, 1) := by decide +kernel
theorem dX10_hoursBehind_1 : decode cX10_hoursBehind 1 = .ok (.getfield 16, 3) := by decide +kernel
theorem dX10_hoursBehind_4 : decode cX10_hoursBehind 4 = .ok (.iload_n 1, 1) := by decide +kernel
theorem dX10_hoursBehind_5 : decode cX10_hoursBehind 5 = .ok (.iload_n 3, 1) := by decide +kernel
theorem dX10_hoursBehind_6 : decode cX10_hoursBehind 6 = .ok (.invokestatic 65, 3) := by decide +kernel
theorem dX10_hoursBehind_9 : decode cX10_hoursBehind 9 = .ok (.bipush 15, 2) := by decide +kernel
theorem dX10_hoursBehind_11 : decode cX10_hoursBehind 11 = .ok (.imul, 1) := by decide +kernel
theorem dX10_hoursBehind_12 : decode cX10_hoursBehind 12 = .ok (.iload_n 2, 1) := by decide +kernel
theorem dX10_hoursBehind_13 : decode cX10_hoursBehind 13 = .ok (.iadd, 1) := by decide +kernel
theorem dX10_hoursBehind_14 : decode cX10_hoursBehind 14 = .ok (.baload, 1) := by decide +kernel
theorem dX10_hoursBehind_15 : decode cX10_hoursBehind 15 = .ok (.ireturn, 1) := by decide +kernel
noncomputable def X10_hoursBehind (a1 : Int32) (a2 : Int32) (a3 : Int32) (w : Wd) : Option (Int32) :=
gd (vp_in (((X10_cell a1 a3 w) * (15 : Int32)) + a2) 36000) <|
(some (w.1 75 (ix (((X10_cell a1 a3 w) * (15 : Int32)) + a2)))).bind fun z1 =>
some z1
set_option maxRecDepth 20000 in
set_option maxHeartbeats 1000000 in
theorem t_X10_hoursBehind {κ : Kx} (a1 : Int32) (a2 : Int32) (a3 : Int32) (w : Wd) (h : ok (X10_hoursBehind  a1 a2 a3 w) (PI κ w)) : J κ RX10 cX10_hoursBehind 4 (some .int) (rmk 1 21) 0 [(0, .ref (ad (gm κ) 73)), (1, .int a1), (2, .int a2), (3, .int a3)] [] w := by
  unfold X10_hoursBehind at h
  refine j_aload_n 0 dX10_hoursBehind_0 rfl rfl ?_
  refine j_getA 75 fl_RX10_16 sh_73 fk_73_6 (by decide) dX10_hoursBehind_1 ?_
  refine j_iload_n 1 dX10_hoursBehind_4 rfl rfl ?_
  refine j_iload_n 3 dX10_hoursBehind_5 rfl rfl ?_
  refine j_callS (As := [.int a1, .int a3]) (st := [.ref (ad (gm κ) 75)]) [.int (X10_cell a1 a3 w), .ref (ad (gm κ) 75)] (c_X10_cell (kl κ) (gm κ) (kA κ) a1 a3 w) ck_RX10_65 st_X10_cell ⟨rfl, rfl⟩ ⟨by decide, by decide⟩ rfl rfl (Nat.le_of_ble_eq_true rfl) dX10_hoursBehind_6 _ rfl ?_
  refine j_bipush (15 : Int32) dX10_hoursBehind_9 kb_15 ?_
  refine j_imul dX10_hoursBehind_11 ?_
  refine j_iload_n 2 dX10_hoursBehind_12 rfl rfl ?_
  refine j_iadd dX10_hoursBehind_13 ?_
  refine j_bald sh_75 dX10_hoursBehind_14 h (fun h => ?_)
  refine j_lI h (fun z1 h => ?_)
  have h := ok_s h
  exact j_iret dX10_hoursBehind_15 rfl rfl h
theorem c_X10_hoursBehind (l : Launch) (γ : Gm) (A : Nat → Prop) (a1 : Int32) (a2 : Int32) (a3 : Int32) (w : Wd) (q : Int32) (e : X10_hoursBehind  a1 a2 a3 w = some q) : MetG l γ A yX10_hoursBehind cX10_hoursBehind 4 (some .int) (rmk 1 21) [.ref (ad (γ) 73), .int a1, .int a2, .int a3] w (some (.int q)) w := by
  refine met_of pn_RX10 (Nat.le_of_ble_eq_true rfl) ?_
  intro κ hl hγ hA hρ
  subst hl; subst hγ; subst hA
  exact t_X10_hoursBehind   a1 a2 a3 w ⟨q, e, pI hρ rfl rfl⟩
theorem dX10_gapsBehind_0 : decode cX10_gapsBehind 0 = .ok (.aload_n 0, 1) := by decide +kernel
theorem dX10_gapsBehind_1 : decode cX10_gapsBehind 1 = .ok (.getfield 19, 3) := by decide +kernel
theorem dX10_gapsBehind_4 : decode cX10_gapsBehind 4 = .ok (.iload_n 1, 1) := by decide +kernel
theorem dX10_gapsBehind_5 : decode cX10_gapsBehind 5 = .ok (.iload_n 2, 1) := by decide +kernel
theorem dX10_gapsBehind_6 : decode cX10_gapsBehind 6 = .ok (.invokestatic 65, 3) := by decide +kernel
theorem dX10_gapsBehind_9 : decode cX10_gapsBehind 9 = .ok (.baload, 1) := by decide +kernel
theorem dX10_gapsBehind_10 : decode cX10_gapsBehind 10 = .ok (.ireturn, 1) := by decide +kernel
noncomputable def X10_gapsBehind (a1 : Int32) (a2 : Int32) (w : Wd) : Option (Int32) :=
gd (vp_in (X10_cell a1 a2 w) 2400) <|
some (w.1 76 (ix (X10_cell a1 a2 w)))
set_option maxRecDepth 20000 in
set_option maxHeartbeats 1000000 in
theorem t_X10_gapsBehind {κ : Kx} (a1 : Int32) (a2 : Int32) (w : Wd) (h : ok (X10_gapsBehind  a1 a2 w) (PI κ w)) : J κ RX10 cX10_gapsBehind 3 (some .int) (rmk 1 21) 0 [(0, .ref (ad (gm κ) 73)), (1, .int a1), (2, .int a2)] [] w := by
  unfold X10_gapsBehind at h
  refine j_aload_n 0 dX10_gapsBehind_0 rfl rfl ?_
  refine j_getA 76 fl_RX10_19 sh_73 fk_73_7 (by decide) dX10_gapsBehind_1 ?_
  refine j_iload_n 1 dX10_gapsBehind_4 rfl rfl ?_
  refine j_iload_n 2 dX10_gapsBehind_5 rfl rfl ?_
  refine j_callS (As := [.int a1, .int a2]) (st := [.ref (ad (gm κ) 76)]) [.int (X10_cell a1 a2 w), .ref (ad (gm κ) 76)] (c_X10_cell (kl κ) (gm κ) (kA κ) a1 a2 w) ck_RX10_65 st_X10_cell ⟨rfl, rfl⟩ ⟨by decide, by decide⟩ rfl rfl (Nat.le_of_ble_eq_true rfl) dX10_gapsBehind_6 _ rfl ?_
  refine j_bald sh_76 dX10_gapsBehind_9 h (fun h => ?_)
  have h := ok_s h
  exact j_iret dX10_gapsBehind_10 rfl rfl h
theorem c_X10_gapsBehind (l : Launch) (γ : Gm) (A : Nat → Prop) (a1 : Int32) (a2 : Int32) (w : Wd) (q : Int32) (e : X10_gapsBehind  a1 a2 w = some q) : MetG l γ A yX10_gapsBehind cX10_gapsBehind 3 (some .int) (rmk 1 21) [.ref (ad (γ) 73), .int a1, .int a2] w (some (.int q)) w := by
  refine met_of pn_RX10 (Nat.le_of_ble_eq_true rfl) ?_
  intro κ hl hγ hA hρ
  subst hl; subst hγ; subst hA
  exact t_X10_gapsBehind   a1 a2 w ⟨q, e, pI hρ rfl rfl⟩
theorem dX10_foretell_0 : decode cX10_foretell 0 = .ok (.iload_n 1, 1) := by decide +kernel
theorem dX10_foretell_1 : decode cX10_foretell 1 = .ok (.iload_n 2, 1) := by decide +kernel
theorem dX10_foretell_2 : decode cX10_foretell 2 = .ok (.invokestatic 65, 3) := by decide +kernel
theorem dX10_foretell_5 : decode cX10_foretell 5 = .ok (.istore 5, 2) := by decide +kernel
theorem dX10_foretell_7 : decode cX10_foretell 7 = .ok (.aload_n 0, 1) := by decide +kernel
theorem dX10_foretell_8 : decode cX10_foretell 8 = .ok (.getfield 16, 3) := by decide +kernel
theorem dX10_foretell_11 : decode cX10_foretell 11 = .ok (.iload 5, 2) := by decide +kernel
theorem dX10_foretell_13 : decode cX10_foretell 13 = .ok (.bipush 15, 2) := by decide +kernel
theorem dX10_foretell_15 : decode cX10_foretell 15 = .ok (.imul, 1) := by decide +kernel
theorem dX10_foretell_16 : decode cX10_foretell 16 = .ok (.aload_n 0, 1) := by decide +kernel
theorem dX10_foretell_17 : decode cX10_foretell 17 = .ok (.getfield 32, 3) := by decide +kernel
theorem dX10_foretell_20 : decode cX10_foretell 20 = .ok (.iconst 0, 1) := by decide +kernel
theorem dX10_foretell_21 : decode cX10_foretell 21 = .ok (.bipush 15, 2) := by decide +kernel
theorem dX10_foretell_23 : decode cX10_foretell 23 = .ok (.invokestatic 96, 3) := by decide +kernel
theorem dX10_foretell_26 : decode cX10_foretell 26 = .ok (.aload_n 0, 1) := by decide +kernel
theorem dX10_foretell_27 : decode cX10_foretell 27 = .ok (.getfield 35, 3) := by decide +kernel
theorem dX10_foretell_30 : decode cX10_foretell 30 = .ok (.getfield 102, 3) := by decide +kernel
theorem dX10_foretell_33 : decode cX10_foretell 33 = .ok (.iload_n 1, 1) := by decide +kernel
theorem dX10_foretell_34 : decode cX10_foretell 34 = .ok (.iaload, 1) := by decide +kernel
theorem dX10_foretell_35 : decode cX10_foretell 35 = .ok (.iload 4, 2) := by decide +kernel
theorem dX10_foretell_37 : decode cX10_foretell 37 = .ok (.invokestatic 105, 3) := by decide +kernel
theorem dX10_foretell_40 : decode cX10_foretell 40 = .ok (.istore 6, 2) := by decide +kernel
theorem dX10_foretell_42 : decode cX10_foretell 42 = .ok (.aload_n 0, 1) := by decide +kernel
theorem dX10_foretell_43 : decode cX10_foretell 43 = .ok (.getfield 19, 3) := by decide +kernel
theorem dX10_foretell_46 : decode cX10_foretell 46 = .ok (.iload 5, 2) := by decide +kernel
theorem dX10_foretell_48 : decode cX10_foretell 48 = .ok (.baload, 1) := by decide +kernel
theorem dX10_foretell_49 : decode cX10_foretell 49 = .ok (.istore 7, 2) := by decide +kernel
theorem dX10_foretell_51 : decode cX10_foretell 51 = .ok (.iconst 0, 1) := by decide +kernel
theorem dX10_foretell_52 : decode cX10_foretell 52 = .ok (.istore 8, 2) := by decide +kernel
theorem dX10_foretell_54 : decode cX10_foretell 54 = .ok (.iload 8, 2) := by decide +kernel
theorem dX10_foretell_56 : decode cX10_foretell 56 = .ok (.iload_n 3, 1) := by decide +kernel
theorem dX10_foretell_57 : decode cX10_foretell 57 = .ok (.if_icmp .ge 58, 3) := by decide +kernel
theorem dX10_foretell_60 : decode cX10_foretell 60 = .ok (.iload 4, 2) := by decide +kernel
theorem dX10_foretell_62 : decode cX10_foretell 62 = .ok (.ifCond .le 20, 3) := by decide +kernel
theorem dX10_foretell_65 : decode cX10_foretell 65 = .ok (.aload_n 0, 1) := by decide +kernel
theorem dX10_foretell_66 : decode cX10_foretell 66 = .ok (.getfield 47, 3) := by decide +kernel
theorem dX10_foretell_69 : decode cX10_foretell 69 = .ok (.aload_n 0, 1) := by decide +kernel
theorem dX10_foretell_70 : decode cX10_foretell 70 = .ok (.getfield 32, 3) := by decide +kernel
theorem dX10_foretell_73 : decode cX10_foretell 73 = .ok (.iconst 0, 1) := by decide +kernel
theorem dX10_foretell_74 : decode cX10_foretell 74 = .ok (.iload 6, 2) := by decide +kernel
theorem dX10_foretell_76 : decode cX10_foretell 76 = .ok (.invokevirtual 108, 3) := by decide +kernel
theorem dX10_foretell_79 : decode cX10_foretell 79 = .ok (.goto 30, 3) := by decide +kernel
theorem dX10_foretell_82 : decode cX10_foretell 82 = .ok (.iload 7, 2) := by decide +kernel
theorem dX10_foretell_84 : decode cX10_foretell 84 = .ok (.aload_n 0, 1) := by decide +kernel
theorem dX10_foretell_85 : decode cX10_foretell 85 = .ok (.getfield 47, 3) := by decide +kernel
theorem dX10_foretell_88 : decode cX10_foretell 88 = .ok (.getfield 112, 3) := by decide +kernel
theorem dX10_foretell_91 : decode cX10_foretell 91 = .ok (.if_icmp .lt 15, 3) := by decide +kernel
theorem dX10_foretell_94 : decode cX10_foretell 94 = .ok (.aload_n 0, 1) := by decide +kernel
theorem dX10_foretell_95 : decode cX10_foretell 95 = .ok (.getfield 47, 3) := by decide +kernel
theorem dX10_foretell_98 : decode cX10_foretell 98 = .ok (.aload_n 0, 1) := by decide +kernel
theorem dX10_foretell_99 : decode cX10_foretell 99 = .ok (.getfield 32, 3) := by decide +kernel
theorem dX10_foretell_102 : decode cX10_foretell 102 = .ok (.iconst 0, 1) := by decide +kernel
theorem dX10_foretell_103 : decode cX10_foretell 103 = .ok (.invokevirtual 115, 3) := by decide +kernel
theorem dX10_foretell_106 : decode cX10_foretell 106 = .ok (.iinc 7 1, 3) := by decide +kernel
theorem dX10_foretell_109 : decode cX10_foretell 109 = .ok (.iinc 8 1, 3) := by decide +kernel
theorem dX10_foretell_112 : decode cX10_foretell 112 = .ok (.goto (-58), 3) := by decide +kernel
theorem dX10_foretell_115 : decode cX10_foretell 115 = .ok (.aload_n 0, 1) := by decide +kernel
theorem dX10_foretell_116 : decode cX10_foretell 116 = .ok (.getfield 47, 3) := by decide +kernel
theorem dX10_foretell_119 : decode cX10_foretell 119 = .ok (.aload_n 0, 1) := by decide +kernel
theorem dX10_foretell_120 : decode cX10_foretell 120 = .ok (.getfield 32, 3) := by decide +kernel
theorem dX10_foretell_123 : decode cX10_foretell 123 = .ok (.iconst 0, 1) := by decide +kernel
theorem dX10_foretell_124 : decode cX10_foretell 124 = .ok (.invokevirtual 68, 3) := by decide +kernel
theorem dX10_foretell_127 : decode cX10_foretell 127 = .ok (.ireturn, 1) := by decide +kernel
noncomputable def X10_foretell_j109 (a3 : Int32) (a4 : Int32) (a6 : Int32) (a7 : Int32) (a8 : Int32) (w : Wd) : Option ((Int32 × Int32 × Wd) ⊕ Wd) :=
some (.inl (a7, (a8 + (1 : Int32)), w))
set_option maxRecDepth 20000 in
set_option maxHeartbeats 1000000 in
theorem t_X10_foretell_j109 {κ : Kx} (a3 : Int32) (a4 : Int32) (a6 : Int32) (a7 : Int32) (a8 : Int32) (w : Wd) {G : (Int32 × Int32 × Wd) → Prop} {P : Wd → Prop} (KG : ∀ s, G s → J κ RX10 cX10_foretell 9 (some .int) (rmk 2 52) 54 [(0, .ref (ad (gm κ) 73)), (3, .int a3), (4, .int a4), (6, .int a6), (7, .int s.1), (8, .int s.2.1)] [] s.2.2) (K0 : ∀ e, P e → J κ RX10 cX10_foretell 9 (some .int) (rmk 2 52) 115 [(0, .ref (ad (gm κ) 73))] [] e) (h : ok (X10_foretell_j109  a3 a4 a6 a7 a8 w) (sel G P)) : J κ RX10 cX10_foretell 9 (some .int) (rmk 2 52) 109 [(0, .ref (ad (gm κ) 73)), (3, .int a3), (4, .int a4), (6, .int a6), (7, .int a7), (8, .int a8)] [] w := by
  unfold X10_foretell_j109 at h
  refine j_iinc (a8 + (1 : Int32)) 5 [(8, .int (a8 + (1 : Int32))), (0, .ref (ad (gm κ) 73)), (3, .int a3), (4, .int a4), (6, .int a6), (7, .int a7)] dX10_foretell_109 rfl (by rw [kn_1]) (by decide) rfl ?_
  refine j_goto 54 dX10_foretell_112 (by decide) ?_
  refine j_loc [(0, .ref (ad (gm κ) 73)), (3, .int a3), (4, .int a4), (6, .int a6), (7, .int a7), (8, .int (a8 + (1 : Int32)))] [1, 2, 3, 4, 5, 0] rfl ?_
  have h := sel_l h
  have h := KG _ h
  exact h
noncomputable def X10_foretell_j106 (a3 : Int32) (a4 : Int32) (a6 : Int32) (a7 : Int32) (a8 : Int32) (w : Wd) : Option ((Int32 × Int32 × Wd) ⊕ Wd) :=
X10_foretell_j109 a3 a4 a6 (a7 + (1 : Int32)) a8 w
set_option maxRecDepth 20000 in
set_option maxHeartbeats 1000000 in
theorem t_X10_foretell_j106 {κ : Kx} (a3 : Int32) (a4 : Int32) (a6 : Int32) (a7 : Int32) (a8 : Int32) (w : Wd) {G : (Int32 × Int32 × Wd) → Prop} {P : Wd → Prop} (KG : ∀ s, G s → J κ RX10 cX10_foretell 9 (some .int) (rmk 2 52) 54 [(0, .ref (ad (gm κ) 73)), (3, .int a3), (4, .int a4), (6, .int a6), (7, .int s.1), (8, .int s.2.1)] [] s.2.2) (K0 : ∀ e, P e → J κ RX10 cX10_foretell 9 (some .int) (rmk 2 52) 115 [(0, .ref (ad (gm κ) 73))] [] e) (h : ok (X10_foretell_j106  a3 a4 a6 a7 a8 w) (sel G P)) : J κ RX10 cX10_foretell 9 (some .int) (rmk 2 52) 106 [(0, .ref (ad (gm κ) 73)), (3, .int a3), (4, .int a4), (6, .int a6), (7, .int a7), (8, .int a8)] [] w := by
  unfold X10_foretell_j106 at h
  refine j_iinc (a7 + (1 : Int32)) 4 [(7, .int (a7 + (1 : Int32))), (0, .ref (ad (gm κ) 73)), (3, .int a3), (4, .int a4), (6, .int a6), (8, .int a8)] dX10_foretell_106 rfl (by rw [kn_1]) (by decide) rfl ?_
  refine j_loc [(0, .ref (ad (gm κ) 73)), (3, .int a3), (4, .int a4), (6, .int a6), (7, .int (a7 + (1 : Int32))), (8, .int a8)] [1, 2, 3, 4, 0, 5] rfl ?_
  exact t_X10_foretell_j109 a3 a4 a6 (a7 + (1 : Int32)) a8 w KG K0 h
noncomputable def X10_foretell_b54 (a3 : Int32) (a4 : Int32) (a6 : Int32) (s : (Int32 × Int32 × Wd)) : Option ((Int32 × Int32 × Wd) ⊕ Wd) :=
(if a3 ≤ s.2.1 then
some (.inr s.2.2)
else
(if a4 ≤ 0 then
(if s.1 < (s.2.2.1 69 3) then
X10_foretell_j106 a3 a4 a6 s.1 s.2.1 s.2.2
else
(X3_forget 79 15 (0 : Int32) s.2.2).bind fun q5 =>
X10_foretell_j106 a3 a4 a6 s.1 s.2.1 q5)
else
(X3_learn 79 15 (0 : Int32) a6 s.2.2).bind fun q7 =>
X10_foretell_j109 a3 a4 a6 s.1 s.2.1 q7))
set_option maxRecDepth 20000 in
set_option maxHeartbeats 1000000 in
theorem t_X10_foretell_b54 {κ : Kx} (a3 : Int32) (a4 : Int32) (a6 : Int32) {P : Wd → Prop} (K0 : ∀ e, P e → J κ RX10 cX10_foretell 9 (some .int) (rmk 2 52) 115 [(0, .ref (ad (gm κ) 73))] [] e) (s : (Int32 × Int32 × Wd)) (h : ok (lp (X10_foretell_b54  a3 a4 a6) s) P) : J κ RX10 cX10_foretell 9 (some .int) (rmk 2 52) 54 [(0, .ref (ad (gm κ) 73)), (3, .int a3), (4, .int a4), (6, .int a6), (7, .int s.1), (8, .int s.2.1)] [] s.2.2 := by
  refine lp_ind (fun s => J κ RX10 cX10_foretell 9 (some .int) (rmk 2 52) 54 [(0, .ref (ad (gm κ) 73)), (3, .int a3), (4, .int a4), (6, .int a6), (7, .int s.1), (8, .int s.2.1)] [] s.2.2) (fun s h => ?_) s h
  unfold X10_foretell_b54 at h
  refine j_iload 5 dX10_foretell_54 rfl ?_
  refine j_iload_n 1 dX10_foretell_56 rfl rfl ?_
  refine j_ic_ge 115 dX10_foretell_57 (by decide) h (fun h => ?_) (fun h => ?_)
  · refine j_loc [(0, .ref (ad (gm κ) 73))] [0] rfl ?_
    have h := sel_r h
    have h := K0 _ h
    exact h
  · refine j_iload 2 dX10_foretell_60 rfl ?_
    refine j_if_le 82 dX10_foretell_62 (by decide) h (fun h => ?_) (fun h => ?_)
    · refine j_iload 4 dX10_foretell_82 rfl ?_
      refine j_aload_n 0 dX10_foretell_84 rfl rfl ?_
      refine j_getA 69 fl_RX10_47 sh_73 fk_73_3 (by decide) dX10_foretell_85 ?_
      refine j_getI fl_RX10_112 sh_69 fk_69_3 dX10_foretell_88 ?_
      refine j_ic_lt 106 dX10_foretell_91 (by decide) h (fun h => ?_) (fun h => ?_)
      · refine j_loc [(0, .ref (ad (gm κ) 73)), (3, .int a3), (4, .int a4), (6, .int a6), (7, .int s.1), (8, .int s.2.1)] [0, 1, 2, 3, 4, 5] rfl ?_
        exact t_X10_foretell_j106 a3 a4 a6 s.1 s.2.1 s.2.2 (fun _ h => h) K0 h
      · refine j_aload_n 0 dX10_foretell_94 rfl rfl ?_
        refine j_getA 69 fl_RX10_47 sh_73 fk_73_3 (by decide) dX10_foretell_95 ?_
        refine j_aload_n 0 dX10_foretell_98 rfl rfl ?_
        refine j_getA 79 fl_RX10_32 sh_73 fk_73_10 (by decide) dX10_foretell_99 ?_
        refine j_iconst (0 : Int32) dX10_foretell_102 ki_0 ?_
        obtain ⟨q5, e6, h⟩ := ok_b h
        refine j_callV (As := [.ref (ad (gm κ) 79), .int (0 : Int32)]) (st := []) [] (c_X3_forget (kl κ) (gm κ) (kA κ) 79 15 sh_79 (0 : Int32) s.2.2 q5 e6) ck_RX10_115 im_X3_forget se_X3_forget sh_69 cx_3 ⟨rfl, rfl⟩ ⟨by decide, by decide⟩ rfl rfl (Nat.le_of_ble_eq_true rfl) dX10_foretell_103 _ rfl ?_
        refine j_loc [(0, .ref (ad (gm κ) 73)), (3, .int a3), (4, .int a4), (6, .int a6), (7, .int s.1), (8, .int s.2.1)] [0, 1, 2, 3, 4, 5] rfl ?_
        exact t_X10_foretell_j106 a3 a4 a6 s.1 s.2.1 q5 (fun _ h => h) K0 h
    · refine j_aload_n 0 dX10_foretell_65 rfl rfl ?_
      refine j_getA 69 fl_RX10_47 sh_73 fk_73_3 (by decide) dX10_foretell_66 ?_
      refine j_aload_n 0 dX10_foretell_69 rfl rfl ?_
      refine j_getA 79 fl_RX10_32 sh_73 fk_73_10 (by decide) dX10_foretell_70 ?_
      refine j_iconst (0 : Int32) dX10_foretell_73 ki_0 ?_
      refine j_iload 3 dX10_foretell_74 rfl ?_
      obtain ⟨q7, e8, h⟩ := ok_b h
      refine j_callV (As := [.ref (ad (gm κ) 79), .int (0 : Int32), .int a6]) (st := []) [] (c_X3_learn (kl κ) (gm κ) (kA κ) 79 15 sh_79 (0 : Int32) a6 s.2.2 q7 e8) ck_RX10_108 im_X3_learn se_X3_learn sh_69 cx_3 ⟨rfl, rfl⟩ ⟨by decide, by decide⟩ rfl rfl (Nat.le_of_ble_eq_true rfl) dX10_foretell_76 _ rfl ?_
      refine j_goto 109 dX10_foretell_79 (by decide) ?_
      refine j_loc [(0, .ref (ad (gm κ) 73)), (3, .int a3), (4, .int a4), (6, .int a6), (7, .int s.1), (8, .int s.2.1)] [0, 1, 2, 3, 4, 5] rfl ?_
      exact t_X10_foretell_j109 a3 a4 a6 s.1 s.2.1 q7 (fun _ h => h) K0 h
noncomputable def X10_foretell (a1 : Int32) (a2 : Int32) (a3 : Int32) (a4 : Int32) (w : Wd) : Option (Int32 × Wd) :=
gd (cpok ((X10_cell a1 a2 w) * (15 : Int32)) (0 : Int32) (15 : Int32) 36000 15 ∧ fitB (w.1 75) (ix ((X10_cell a1 a2 w) * (15 : Int32))) (ix (15 : Int32))) <|
(some (seI w 79 (va_cpy (w.1 75) (w.1 79) (ix ((X10_cell a1 a2 w) * (15 : Int32))) (ix (0 : Int32)) (ix (15 : Int32))))).bind fun w1 =>
gd (vp_in a1 40) <|
(X3_worthAt (w1.1 13 (ix a1)) a4 w1).bind fun q2 =>
gd (vp_in (X10_cell a1 a2 w) 2400) <|
(some (w1.1 76 (ix (X10_cell a1 a2 w)))).bind fun z4 =>
(lp (X10_foretell_b54 a3 a4 q2) (z4, (0 : Int32), w1)).bind fun e9 =>
(X3_doneIn 79 15 (0 : Int32) e9).bind fun q10 =>
some (q10, e9)
set_option maxRecDepth 20000 in
set_option maxHeartbeats 1000000 in
theorem t_X10_foretell {κ : Kx} (a1 : Int32) (a2 : Int32) (a3 : Int32) (a4 : Int32) (w : Wd) (h : ok (X10_foretell  a1 a2 a3 a4 w) (PIw κ)) : J κ RX10 cX10_foretell 9 (some .int) (rmk 2 52) 0 [(0, .ref (ad (gm κ) 73)), (1, .int a1), (2, .int a2), (3, .int a3), (4, .int a4)] [] w := by
  unfold X10_foretell at h
  refine j_iload_n 1 dX10_foretell_0 rfl rfl ?_
  refine j_iload_n 2 dX10_foretell_1 rfl rfl ?_
  refine j_callS (As := [.int a1, .int a2]) (st := []) [.int (X10_cell a1 a2 w)] (c_X10_cell (kl κ) (gm κ) (kA κ) a1 a2 w) ck_RX10_65 st_X10_cell ⟨rfl, rfl⟩ ⟨by decide, by decide⟩ rfl rfl (Nat.le_of_ble_eq_true rfl) dX10_foretell_2 _ rfl ?_
  refine j_istore [(5, .int (X10_cell a1 a2 w)), (0, .ref (ad (gm κ) 73)), (1, .int a1), (2, .int a2), (3, .int a3), (4, .int a4)] dX10_foretell_5 (by decide) rfl ?_
  refine j_aload_n 1 dX10_foretell_7 rfl rfl ?_
  refine j_getA 75 fl_RX10_16 sh_73 fk_73_6 (by decide) dX10_foretell_8 ?_
  refine j_iload 0 dX10_foretell_11 rfl ?_
  refine j_bipush (15 : Int32) dX10_foretell_13 kb_15 ?_
  refine j_imul dX10_foretell_15 ?_
  refine j_aload_n 1 dX10_foretell_16 rfl rfl ?_
  refine j_getA 79 fl_RX10_32 sh_73 fk_73_10 (by decide) dX10_foretell_17 ?_
  refine j_iconst (0 : Int32) dX10_foretell_20 ki_0 ?_
  refine j_bipush (15 : Int32) dX10_foretell_21 kb_15 ?_
  refine j_copyB cp_RX10_96 sh_75 sh_79 (by decide) (Nat.le_of_ble_eq_true rfl) dX10_foretell_23 h (fun h => ?_)
  refine j_lW h (fun w1 h => ?_)
  refine j_aload_n 1 dX10_foretell_26 rfl rfl ?_
  refine j_getA 5 fl_RX10_35 sh_73 fk_73_0 (by decide) dX10_foretell_27 ?_
  refine j_getA 13 fl_RX10_102 sh_5 fk_5_10 (by decide) dX10_foretell_30 ?_
  refine j_iload_n 2 dX10_foretell_33 rfl rfl ?_
  refine j_iald sh_13 dX10_foretell_34 h (fun h => ?_)
  refine j_iload 5 dX10_foretell_35 rfl ?_
  obtain ⟨q2, e3, h⟩ := ok_b h
  refine j_callS (As := [.int (w1.1 13 (ix a1)), .int a4]) (st := []) [.int q2] (c_X3_worthAt (kl κ) (gm κ) (kA κ) (w1.1 13 (ix a1)) a4 w1 q2 e3) ck_RX10_105 st_X3_worthAt ⟨rfl, rfl⟩ ⟨by decide, by decide⟩ rfl rfl (Nat.le_of_ble_eq_true rfl) dX10_foretell_37 _ rfl ?_
  refine j_istore [(6, .int q2), (5, .int (X10_cell a1 a2 w)), (0, .ref (ad (gm κ) 73)), (1, .int a1), (2, .int a2), (3, .int a3), (4, .int a4)] dX10_foretell_40 (by decide) rfl ?_
  refine j_aload_n 2 dX10_foretell_42 rfl rfl ?_
  refine j_getA 76 fl_RX10_19 sh_73 fk_73_7 (by decide) dX10_foretell_43 ?_
  refine j_iload 1 dX10_foretell_46 rfl ?_
  refine j_bald sh_76 dX10_foretell_48 h (fun h => ?_)
  refine j_lI h (fun z4 h => ?_)
  refine j_istore [(7, .int z4), (6, .int q2), (5, .int (X10_cell a1 a2 w)), (0, .ref (ad (gm κ) 73)), (1, .int a1), (2, .int a2), (3, .int a3), (4, .int a4)] dX10_foretell_49 (by decide) rfl ?_
  refine j_iconst (0 : Int32) dX10_foretell_51 ki_0 ?_
  refine j_istore [(8, .int (0 : Int32)), (7, .int z4), (6, .int q2), (5, .int (X10_cell a1 a2 w)), (0, .ref (ad (gm κ) 73)), (1, .int a1), (2, .int a2), (3, .int a3), (4, .int a4)] dX10_foretell_52 (by decide) rfl ?_
  refine j_loc [(0, .ref (ad (gm κ) 73)), (3, .int a3), (4, .int a4), (6, .int q2), (7, .int z4), (8, .int (0 : Int32))] [4, 7, 8, 2, 1, 0] rfl ?_
  refine t_X10_foretell_b54 a3 a4 q2 (fun e9 h => ?_) (z4, (0 : Int32), w1) (ok_bb h)
  · refine j_aload_n 0 dX10_foretell_115 rfl rfl ?_
    refine j_getA 69 fl_RX10_47 sh_73 fk_73_3 (by decide) dX10_foretell_116 ?_
    refine j_aload_n 0 dX10_foretell_119 rfl rfl ?_
    refine j_getA 79 fl_RX10_32 sh_73 fk_73_10 (by decide) dX10_foretell_120 ?_
    refine j_iconst (0 : Int32) dX10_foretell_123 ki_0 ?_
    obtain ⟨q10, e11, h⟩ := ok_b h
    refine j_callV (As := [.ref (ad (gm κ) 79), .int (0 : Int32)]) (st := []) [.int q10] (c_X3_doneIn (kl κ) (gm κ) (kA κ) 79 15 sh_79 (0 : Int32) e9 q10 e11) ck_RX10_68 im_X3_doneIn se_X3_doneIn sh_69 cx_3 ⟨rfl, rfl⟩ ⟨by decide, by decide⟩ rfl rfl (Nat.le_of_ble_eq_true rfl) dX10_foretell_124 _ rfl ?_
    have h := ok_s h
    exact j_iret dX10_foretell_127 rfl rfl h
theorem c_X10_foretell (l : Launch) (γ : Gm) (A : Nat → Prop) (a1 : Int32) (a2 : Int32) (a3 : Int32) (a4 : Int32) (w : Wd) (q : Int32 × Wd) (e : X10_foretell  a1 a2 a3 a4 w = some q) : MetG l γ A yX10_foretell cX10_foretell 9 (some .int) (rmk 2 52) [.ref (ad (γ) 73), .int a1, .int a2, .int a3, .int a4] w (some (.int q.1)) q.2 := by
  refine met_of pn_RX10 (Nat.le_of_ble_eq_true rfl) ?_
  intro κ hl hγ hA hρ
  subst hl; subst hγ; subst hA
  exact t_X10_foretell   a1 a2 a3 a4 w ⟨q, e, pIw hρ rfl rfl⟩
theorem dX11_status_0 : decode cX11_status 0 = .ok (.aload_n 0, 1) := by decide +kernel
theorem dX11_status_1 : decode cX11_status 1 = .ok (.getfield 83, 3) := by decide +kernel
theorem dX11_status_4 : decode cX11_status 4 = .ok (.ireturn, 1) := by decide +kernel
noncomputable def X11_statusO (w : Wd) : Option (Int32) :=
some (w.1 0 10)
set_option maxRecDepth 20000 in
set_option maxHeartbeats 1000000 in
theorem t_X11_status {κ : Kx} (w : Wd) (h : ok (X11_statusO   w) (PI κ w)) : J κ RX11 cX11_status 1 (some .int) (rmk 0 0) 0 [(0, .ref (ad (gm κ) 0))] [] w := by
  unfold X11_statusO at h
  refine j_aload_n 0 dX11_status_0 rfl rfl ?_
  refine j_getI fl_RX11_83 sh_0 fk_0_10 dX11_status_1 ?_
  have h := ok_s h
  exact j_iret dX11_status_4 rfl rfl h
noncomputable def X11_status (w : Wd) : Int32 := (X11_statusO   w).getD 0
theorem X11_status_eq (w : Wd) : X11_statusO   w = some (X11_status   w) := by
  unfold X11_status X11_statusO
  repeat (first | rfl | split)
theorem c_X11_status (l : Launch) (γ : Gm) (A : Nat → Prop) (w : Wd) : MetG l γ A yX11_status cX11_status 1 (some .int) (rmk 0 0) [.ref (ad (γ) 0)] w (some (.int (X11_status   w))) w := by
  refine met_of pn_RX11 (Nat.le_of_ble_eq_true rfl) ?_
  intro κ hl hγ hA hρ
  subst hl; subst hγ; subst hA
  exact t_X11_status    w ⟨_, X11_status_eq   w, pI hρ rfl rfl⟩
theorem dX11_refuse_0 : decode cX11_refuse 0 = .ok (.aload_n 0, 1) := by decide +kernel
theorem dX11_refuse_1 : decode cX11_refuse 1 = .ok (.iload_n 1, 1) := by decide +kernel
theorem dX11_refuse_2 : decode cX11_refuse 2 = .ok (.putfield 83, 3) := by decide +kernel
theorem dX11_refuse_5 : decode cX11_refuse 5 = .ok (.iconst 0, 1) := by decide +kernel
theorem dX11_refuse_6 : decode cX11_refuse 6 = .ok (.ireturn, 1) := by decide +kernel
noncomputable def X11_refuse (a1 : Int32) (w : Wd) : Option (Int32 × Wd) :=
(some (puI w 0 10 a1)).bind fun w1 =>
some ((0 : Int32), w1)
set_option maxRecDepth 20000 in
set_option maxHeartbeats 1000000 in
theorem t_X11_refuse {κ : Kx} (a1 : Int32) (w : Wd) (h : ok (X11_refuse  a1 w) (PIw κ)) : J κ RX11 cX11_refuse 2 (some .boolean) (rmk 0 0) 0 [(0, .ref (ad (gm κ) 0)), (1, .int a1)] [] w := by
  unfold X11_refuse at h
  refine j_aload_n 0 dX11_refuse_0 rfl rfl ?_
  refine j_iload_n 1 dX11_refuse_1 rfl rfl ?_
  refine j_putI fp_RX11_83 sh_0 fk_0_10 dX11_refuse_2 ?_
  refine j_lW h (fun w1 h => ?_)
  refine j_iconst (0 : Int32) dX11_refuse_5 ki_0 ?_
  have h := ok_s h
  exact j_iret dX11_refuse_6 rfl (by decide) h
theorem c_X11_refuse (l : Launch) (γ : Gm) (A : Nat → Prop) (a1 : Int32) (w : Wd) (q : Int32 × Wd) (e : X11_refuse  a1 w = some q) : MetG l γ A yX11_refuse cX11_refuse 2 (some .boolean) (rmk 0 0) [.ref (ad (γ) 0), .int a1] w (some (.int q.1)) q.2 := by
  refine met_of pn_RX11 (Nat.le_of_ble_eq_true rfl) ?_
  intro κ hl hγ hA hρ
  subst hl; subst hγ; subst hA
  exact t_X11_refuse   a1 w ⟨q, e, pIw hρ rfl rfl⟩
theorem dX11_agree_0 : decode cX11_agree 0 = .ok (.aload_n 0, 1) := by decide +kernel
theorem dX11_agree_1 : decode cX11_agree 1 = .ok (.iconst 0, 1) := by decide +kernel
theorem dX11_agree_2 : decode cX11_agree 2 = .ok (.putfield 83, 3) := by decide +kernel
theorem dX11_agree_5 : decode cX11_agree 5 = .ok (.iconst 1, 1) := by decide +kernel
theorem dX11_agree_6 : decode cX11_agree 6 = .ok (.ireturn, 1) := by decide +kernel
noncomputable def X11_agree (w : Wd) : Option (Int32 × Wd) :=
(some (puI w 0 10 (0 : Int32))).bind fun w1 =>
some ((1 : Int32), w1)
set_option maxRecDepth 20000 in
set_option maxHeartbeats 1000000 in
theorem t_X11_agree {κ : Kx} (w : Wd) (h : ok (X11_agree   w) (PIw κ)) : J κ RX11 cX11_agree 1 (some .boolean) (rmk 0 0) 0 [(0, .ref (ad (gm κ) 0))] [] w := by
  unfold X11_agree at h
  refine j_aload_n 0 dX11_agree_0 rfl rfl ?_
  refine j_iconst (0 : Int32) dX11_agree_1 ki_0 ?_
  refine j_putI fp_RX11_83 sh_0 fk_0_10 dX11_agree_2 ?_
  refine j_lW h (fun w1 h => ?_)
  refine j_iconst (1 : Int32) dX11_agree_5 ki_1 ?_
  have h := ok_s h
  exact j_iret dX11_agree_6 rfl (by decide) h
theorem c_X11_agree (l : Launch) (γ : Gm) (A : Nat → Prop) (w : Wd) (q : Int32 × Wd) (e : X11_agree   w = some q) : MetG l γ A yX11_agree cX11_agree 1 (some .boolean) (rmk 0 0) [.ref (ad (γ) 0)] w (some (.int q.1)) q.2 := by
  refine met_of pn_RX11 (Nat.le_of_ble_eq_true rfl) ?_
  intro κ hl hγ hA hρ
  subst hl; subst hγ; subst hA
  exact t_X11_agree    w ⟨q, e, pIw hρ rfl rfl⟩
theorem dX11_tray_0 : decode cX11_tray 0 = .ok (.iload_n 1, 1) := by decide +kernel
theorem dX11_tray_1 : decode cX11_tray 1 = .ok (.invokestatic 87, 3) := by decide +kernel
theorem dX11_tray_4 : decode cX11_tray 4 = .ok (.ifCond .eq 22, 3) := by decide +kernel
theorem dX11_tray_7 : decode cX11_tray 7 = .ok (.iload_n 2, 1) := by decide +kernel
theorem dX11_tray_8 : decode cX11_tray 8 = .ok (.iconst 0, 1) := by decide +kernel
theorem dX11_tray_9 : decode cX11_tray 9 = .ok (.iconst 3, 1) := by decide +kernel
theorem dX11_tray_10 : decode cX11_tray 10 = .ok (.invokestatic 91, 3) := by decide +kernel
theorem dX11_tray_13 : decode cX11_tray 13 = .ok (.ifCond .eq 13, 3) := by decide +kernel
theorem dX11_tray_16 : decode cX11_tray 16 = .ok (.iload_n 3, 1) := by decide +kernel
theorem dX11_tray_17 : decode cX11_tray 17 = .ok (.iconst 0, 1) := by decide +kernel
theorem dX11_tray_18 : decode cX11_tray 18 = .ok (.bipush 60, 2) := by decide +kernel
theorem dX11_tray_20 : decode cX11_tray 20 = .ok (.invokestatic 91, 3) := by decide +kernel
theorem dX11_tray_23 : decode cX11_tray 23 = .ok (.ifCond .ne 9, 3) := by decide +kernel
theorem dX11_tray_26 : decode cX11_tray 26 = .ok (.aload_n 0, 1) := by decide +kernel
theorem dX11_tray_27 : decode cX11_tray 27 = .ok (.iconst 1, 1) := by decide +kernel
theorem dX11_tray_28 : decode cX11_tray 28 = .ok (.invokevirtual 95, 3) := by decide +kernel
theorem dX11_tray_31 : decode cX11_tray 31 = .ok (.ireturn, 1) := by decide +kernel
theorem dX11_tray_32 : decode cX11_tray 32 = .ok (.aload_n 0, 1) := by decide +kernel
theorem dX11_tray_33 : decode cX11_tray 33 = .ok (.getfield 10, 3) := by decide +kernel
theorem dX11_tray_36 : decode cX11_tray 36 = .ok (.iload_n 1, 1) := by decide +kernel
theorem dX11_tray_37 : decode cX11_tray 37 = .ok (.iload_n 2, 1) := by decide +kernel
theorem dX11_tray_38 : decode cX11_tray 38 = .ok (.iload_n 3, 1) := by decide +kernel
theorem dX11_tray_39 : decode cX11_tray 39 = .ok (.invokevirtual 98, 3) := by decide +kernel
theorem dX11_tray_42 : decode cX11_tray 42 = .ok (.aload_n 0, 1) := by decide +kernel
theorem dX11_tray_43 : decode cX11_tray 43 = .ok (.invokevirtual 102, 3) := by decide +kernel
theorem dX11_tray_46 : decode cX11_tray 46 = .ok (.ireturn, 1) := by decide +kernel
noncomputable def X11_tray_j26 (w : Wd) : Option (Int32 × Wd) :=
(X11_refuse (1 : Int32) w).bind fun q1 =>
gd (narrow .boolean (.int q1.1) = .int q1.1) <|
some (q1.1, q1.2)
set_option maxRecDepth 20000 in
set_option maxHeartbeats 1000000 in
theorem t_X11_tray_j26 {κ : Kx} (w : Wd) (h : ok (X11_tray_j26  w) (PIw κ)) : J κ RX11 cX11_tray 4 (some .boolean) (rmk 3 70) 26 [(0, .ref (ad (gm κ) 0))] [] w := by
  unfold X11_tray_j26 at h
  refine j_aload_n 0 dX11_tray_26 rfl rfl ?_
  refine j_iconst (1 : Int32) dX11_tray_27 ki_1 ?_
  obtain ⟨q1, e2, h⟩ := ok_b h
  refine j_callV (As := [.int (1 : Int32)]) (st := []) [.int q1.1] (c_X11_refuse (kl κ) (gm κ) (kA κ) (1 : Int32) w q1 e2) ck_RX11_95 im_X11_refuse se_X11_refuse sh_0 cx_11 ⟨rfl, rfl⟩ ⟨by decide, by decide⟩ rfl rfl (Nat.le_of_ble_eq_true rfl) dX11_tray_28 _ rfl ?_
  obtain ⟨hz, h⟩ := ok_g h
  have h := ok_s h
  exact j_iret dX11_tray_31 rfl hz h
noncomputable def X11_tray (a1 : Int32) (a2 : Int32) (a3 : Int32) (w : Wd) : Option (Int32 × Wd) :=
(if (X9_isTray a1 w) = 0 then
X11_tray_j26 w
else
(if (X11_within a2 (0 : Int32) (3 : Int32) w) = 0 then
X11_tray_j26 w
else
(if (X11_within a3 (0 : Int32) (60 : Int32) w) = 0 then
X11_tray_j26 w
else
(X9_lay a1 a2 a3 w).bind fun q3 =>
(X11_agree q3).bind fun q5 =>
gd (narrow .boolean (.int q5.1) = .int q5.1) <|
some (q5.1, q5.2))))
set_option maxRecDepth 20000 in
set_option maxHeartbeats 1000000 in
theorem t_X11_tray {κ : Kx} (a1 : Int32) (a2 : Int32) (a3 : Int32) (w : Wd) (h : ok (X11_tray  a1 a2 a3 w) (PIw κ)) : J κ RX11 cX11_tray 4 (some .boolean) (rmk 3 70) 0 [(0, .ref (ad (gm κ) 0)), (1, .int a1), (2, .int a2), (3, .int a3)] [] w := by
  unfold X11_tray at h
  refine j_iload_n 1 dX11_tray_0 rfl rfl ?_
  refine j_callS (As := [.int a1]) (st := []) [.int (X9_isTray a1 w)] (c_X9_isTray (kl κ) (gm κ) (kA κ) a1 w) ck_RX11_87 st_X9_isTray ⟨rfl, rfl⟩ ⟨by decide, by decide⟩ rfl rfl (Nat.le_of_ble_eq_true rfl) dX11_tray_1 _ rfl ?_
  refine j_if_eq 26 dX11_tray_4 (by decide) h (fun h => ?_) (fun h => ?_)
  · refine j_loc [(0, .ref (ad (gm κ) 0))] [0] rfl ?_
    exact t_X11_tray_j26 w h
  · refine j_iload_n 2 dX11_tray_7 rfl rfl ?_
    refine j_iconst (0 : Int32) dX11_tray_8 ki_0 ?_
    refine j_iconst (3 : Int32) dX11_tray_9 ki_3 ?_
    refine j_callS (As := [.int a2, .int (0 : Int32), .int (3 : Int32)]) (st := []) [.int (X11_within a2 (0 : Int32) (3 : Int32) w)] (c_X11_within (kl κ) (gm κ) (kA κ) a2 (0 : Int32) (3 : Int32) w) ck_RX11_91 st_X11_within ⟨rfl, rfl⟩ ⟨by decide, by decide⟩ rfl rfl (Nat.le_of_ble_eq_true rfl) dX11_tray_10 _ rfl ?_
    refine j_if_eq 26 dX11_tray_13 (by decide) h (fun h => ?_) (fun h => ?_)
    · refine j_loc [(0, .ref (ad (gm κ) 0))] [0] rfl ?_
      exact t_X11_tray_j26 w h
    · refine j_iload_n 3 dX11_tray_16 rfl rfl ?_
      refine j_iconst (0 : Int32) dX11_tray_17 ki_0 ?_
      refine j_bipush (60 : Int32) dX11_tray_18 kb_60 ?_
      refine j_callS (As := [.int a3, .int (0 : Int32), .int (60 : Int32)]) (st := []) [.int (X11_within a3 (0 : Int32) (60 : Int32) w)] (c_X11_within (kl κ) (gm κ) (kA κ) a3 (0 : Int32) (60 : Int32) w) ck_RX11_91 st_X11_within ⟨rfl, rfl⟩ ⟨by decide, by decide⟩ rfl rfl (Nat.le_of_ble_eq_true rfl) dX11_tray_20 _ rfl ?_
      refine j_if_ne 32 dX11_tray_23 (by decide) h (fun h => ?_) (fun h => ?_)
      · refine j_aload_n 0 dX11_tray_32 rfl rfl ?_
        refine j_getA 1 fl_RX11_10 sh_0 fk_0_0 (by decide) dX11_tray_33 ?_
        refine j_iload_n 1 dX11_tray_36 rfl rfl ?_
        refine j_iload_n 2 dX11_tray_37 rfl rfl ?_
        refine j_iload_n 3 dX11_tray_38 rfl rfl ?_
        obtain ⟨q3, e4, h⟩ := ok_b h
        refine j_callV (As := [.int a1, .int a2, .int a3]) (st := []) [] (c_X9_lay (kl κ) (gm κ) (kA κ) a1 a2 a3 w q3 e4) ck_RX11_98 im_X9_lay se_X9_lay sh_1 cx_9 ⟨rfl, rfl⟩ ⟨by decide, by decide⟩ rfl rfl (Nat.le_of_ble_eq_true rfl) dX11_tray_39 _ rfl ?_
        refine j_aload_n 0 dX11_tray_42 rfl rfl ?_
        obtain ⟨q5, e6, h⟩ := ok_b h
        refine j_callV (As := []) (st := []) [.int q5.1] (c_X11_agree (kl κ) (gm κ) (kA κ) q3 q5 e6) ck_RX11_102 im_X11_agree se_X11_agree sh_0 cx_11 ⟨rfl, rfl⟩ ⟨by decide, by decide⟩ rfl rfl (Nat.le_of_ble_eq_true rfl) dX11_tray_43 _ rfl ?_
        obtain ⟨hz, h⟩ := ok_g h
        have h := ok_s h
        exact j_iret dX11_tray_46 rfl hz h
      · refine j_loc [(0, .ref (ad (gm κ) 0))] [0] rfl ?_
        exact t_X11_tray_j26 w h
theorem c_X11_tray (l : Launch) (γ : Gm) (A : Nat → Prop) (a1 : Int32) (a2 : Int32) (a3 : Int32) (w : Wd) (q : Int32 × Wd) (e : X11_tray  a1 a2 a3 w = some q) : MetG l γ A yX11_tray cX11_tray 4 (some .boolean) (rmk 3 70) [.ref (ad (γ) 0), .int a1, .int a2, .int a3] w (some (.int q.1)) q.2 := by
  refine met_of pn_RX11 (Nat.le_of_ble_eq_true rfl) ?_
  intro κ hl hγ hA hρ
  subst hl; subst hγ; subst hA
  exact t_X11_tray   a1 a2 a3 w ⟨q, e, pIw hρ rfl rfl⟩
