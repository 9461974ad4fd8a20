theorem dX11_write_0 : decode cX11_write 0 = .ok (.aload_n 0, 1) := by decide +kernel
theorem dX11_write_1 : decode cX11_write 1 = .ok (.getfield 10, 3) := by decide +kernel
theorem dX11_write_4 : decode cX11_write 4 = .ok (.iload_n 1, 1) := by decide +kernel
theorem dX11_write_5 : decode cX11_write 5 = .ok (.iload_n 2, 1) := by decide +kernel
theorem dX11_write_6 : decode cX11_write 6 = .ok (.invokevirtual 106, 3) := by decide +kernel
theorem dX11_write_9 : decode cX11_write 9 = .ok (.istore 5, 2) := by decide +kernel
theorem dX11_write_11 : decode cX11_write 11 = .ok (.iload 5, 2) := by decide +kernel
theorem dX11_write_13 : decode cX11_write 13 = .ok (.ifCond .eq 10, 3) := by decide +kernel
theorem dX11_write_16 : decode cX11_write 16 = .ok (.aload_n 0, 1) := by decide +kernel
theorem dX11_write_17 : decode cX11_write 17 = .ok (.iload 5, 2) := by decide +kernel
theorem dX11_write_19 : decode cX11_write 19 = .ok (.invokevirtual 95, 3) := by decide +kernel
theorem dX11_write_22 : decode cX11_write 22 = .ok (.ireturn, 1) := by decide +kernel
theorem dX11_write_23 : decode cX11_write 23 = .ok (.aload_n 0, 1) := by decide +kernel
theorem dX11_write_24 : decode cX11_write 24 = .ok (.getfield 10, 3) := by decide +kernel
theorem dX11_write_27 : decode cX11_write 27 = .ok (.iload_n 1, 1) := by decide +kernel
theorem dX11_write_28 : decode cX11_write 28 = .ok (.iload_n 2, 1) := by decide +kernel
theorem dX11_write_29 : decode cX11_write 29 = .ok (.lload_n 3, 1) := by decide +kernel
theorem dX11_write_30 : decode cX11_write 30 = .ok (.invokevirtual 110, 3) := by decide +kernel
theorem dX11_write_33 : decode cX11_write 33 = .ok (.aload_n 0, 1) := by decide +kernel
theorem dX11_write_34 : decode cX11_write 34 = .ok (.invokevirtual 102, 3) := by decide +kernel
theorem dX11_write_37 : decode cX11_write 37 = .ok (.ireturn, 1) := by decide +kernel
noncomputable def X11_write (a1 : Int32) (a2 : Int32) (a3 : Int64) (w : Wd) : Option (Int32 × Wd) :=
(X9_whyNot a1 a2 w).bind fun q1 =>
(if q1 = 0 then
(X9_put a1 a2 a3 w).bind fun q3 =>
(X11_agree q3).bind fun q5 =>
gd (narrow .boolean (.int q5.1) = .int q5.1) <|
some (q5.1, q5.2)
else
(X11_refuse q1 w).bind fun q7 =>
gd (narrow .boolean (.int q7.1) = .int q7.1) <|
some (q7.1, q7.2))
set_option maxRecDepth 20000 in
set_option maxHeartbeats 1000000 in
theorem t_X11_write {κ : Kx} (a1 : Int32) (a2 : Int32) (a3 : Int64) (w : Wd) (h : ok (X11_write  a1 a2 a3 w) (PIw κ)) : J κ RX11 cX11_write 6 (some .boolean) (rmk 3 64) 0 [(0, .ref (ad (gm κ) 0)), (1, .int a1), (2, .int a2), (3, .long a3)] [] w := by
  unfold X11_write at h
  refine j_aload_n 0 dX11_write_0 rfl rfl ?_
  refine j_getA 1 fl_RX11_10 sh_0 fk_0_0 (by decide) dX11_write_1 ?_
  refine j_iload_n 1 dX11_write_4 rfl rfl ?_
  refine j_iload_n 2 dX11_write_5 rfl rfl ?_
  obtain ⟨q1, e2, h⟩ := ok_b h
  refine j_callV (As := [.int a1, .int a2]) (st := []) [.int q1] (c_X9_whyNot (kl κ) (gm κ) (kA κ) a1 a2 w q1 e2) ck_RX11_106 im_X9_whyNot se_X9_whyNot sh_1 cx_9 ⟨rfl, rfl⟩ ⟨by decide, by decide⟩ rfl rfl (Nat.le_of_ble_eq_true rfl) dX11_write_6 _ rfl ?_
  refine j_istore [(5, .int q1), (0, .ref (ad (gm κ) 0)), (1, .int a1), (2, .int a2), (3, .long a3)] dX11_write_9 (by decide) rfl ?_
  refine j_iload 0 dX11_write_11 rfl ?_
  refine j_if_eq 23 dX11_write_13 (by decide) h (fun h => ?_) (fun h => ?_)
  · refine j_aload_n 1 dX11_write_23 rfl rfl ?_
    refine j_getA 1 fl_RX11_10 sh_0 fk_0_0 (by decide) dX11_write_24 ?_
    refine j_iload_n 2 dX11_write_27 rfl rfl ?_
    refine j_iload_n 3 dX11_write_28 rfl rfl ?_
    refine j_lload_n 4 dX11_write_29 rfl rfl ?_
    obtain ⟨q3, e4, h⟩ := ok_b h
    refine j_callV (As := [.int a1, .int a2, .long a3]) (st := []) [] (c_X9_put (kl κ) (gm κ) (kA κ) a1 a2 a3 w q3 e4) ck_RX11_110 im_X9_put se_X9_put sh_1 cx_9 ⟨rfl, rfl⟩ ⟨by decide, by decide⟩ rfl rfl (Nat.le_of_ble_eq_true rfl) dX11_write_30 _ rfl ?_
    refine j_aload_n 1 dX11_write_33 rfl rfl ?_
    obtain ⟨q5, e6, h⟩ := ok_b h
    refine j_callV (As := []) (st := []) [.int q5.1] (c_X11_agree (kl κ) (gm κ) (kA κ) q3 q5 e6) ck_RX11_102 im_X11_agree se_X11_agree sh_0 cx_11 ⟨rfl, rfl⟩ ⟨by decide, by decide⟩ rfl rfl (Nat.le_of_ble_eq_true rfl) dX11_write_34 _ rfl ?_
    obtain ⟨hz, h⟩ := ok_g h
    have h := ok_s h
    exact j_iret dX11_write_37 rfl hz h
  · refine j_aload_n 1 dX11_write_16 rfl rfl ?_
    refine j_iload 0 dX11_write_17 rfl ?_
    obtain ⟨q7, e8, h⟩ := ok_b h
    refine j_callV (As := [.int q1]) (st := []) [.int q7.1] (c_X11_refuse (kl κ) (gm κ) (kA κ) q1 w q7 e8) ck_RX11_95 im_X11_refuse se_X11_refuse sh_0 cx_11 ⟨rfl, rfl⟩ ⟨by decide, by decide⟩ rfl rfl (Nat.le_of_ble_eq_true rfl) dX11_write_19 _ rfl ?_
    obtain ⟨hz, h⟩ := ok_g h
    have h := ok_s h
    exact j_iret dX11_write_22 rfl hz h
theorem c_X11_write (l : Launch) (γ : Gm) (A : Nat → Prop) (a1 : Int32) (a2 : Int32) (a3 : Int64) (w : Wd) (q : Int32 × Wd) (e : X11_write  a1 a2 a3 w = some q) : MetG l γ A yX11_write cX11_write 6 (some .boolean) (rmk 3 64) [.ref (ad (γ) 0), .int a1, .int a2, .long a3] w (some (.int q.1)) q.2 := by
  refine met_of pn_RX11 (Nat.le_of_ble_eq_true rfl) ?_
  intro κ hl hγ hA hρ
  subst hl; subst hγ; subst hA
  exact t_X11_write   a1 a2 a3 w ⟨q, e, pIw hρ rfl rfl⟩
theorem dX11_deny_0 : decode cX11_deny 0 = .ok (.aload_n 0, 1) := by decide +kernel
theorem dX11_deny_1 : decode cX11_deny 1 = .ok (.iload_n 1, 1) := by decide +kernel
theorem dX11_deny_2 : decode cX11_deny 2 = .ok (.putfield 83, 3) := by decide +kernel
theorem dX11_deny_5 : decode cX11_deny 5 = .ok (.iconst (-1), 1) := by decide +kernel
theorem dX11_deny_6 : decode cX11_deny 6 = .ok (.ireturn, 1) := by decide +kernel
noncomputable def X11_deny (a1 : Int32) (w : Wd) : Option (Int32 × Wd) :=
(some (puI w 0 10 a1)).bind fun w1 =>
some ((-1 : Int32), w1)
set_option maxRecDepth 20000 in
set_option maxHeartbeats 1000000 in
theorem t_X11_deny {κ : Kx} (a1 : Int32) (w : Wd) (h : ok (X11_deny  a1 w) (PIw κ)) : J κ RX11 cX11_deny 2 (some .int) (rmk 0 0) 0 [(0, .ref (ad (gm κ) 0)), (1, .int a1)] [] w := by
  unfold X11_deny at h
  refine j_aload_n 0 dX11_deny_0 rfl rfl ?_
  refine j_iload_n 1 dX11_deny_1 rfl rfl ?_
  refine j_putI fp_RX11_83 sh_0 fk_0_10 dX11_deny_2 ?_
  refine j_lW h (fun w1 h => ?_)
  refine j_iconst (-1 : Int32) dX11_deny_5 ki_m1 ?_
  have h := ok_s h
  exact j_iret dX11_deny_6 rfl rfl h
theorem c_X11_deny (l : Launch) (γ : Gm) (A : Nat → Prop) (a1 : Int32) (w : Wd) (q : Int32 × Wd) (e : X11_deny  a1 w = some q) : MetG l γ A yX11_deny cX11_deny 2 (some .int) (rmk 0 0) [.ref (ad (γ) 0), .int a1] w (some (.int q.1)) q.2 := by
  refine met_of pn_RX11 (Nat.le_of_ble_eq_true rfl) ?_
  intro κ hl hγ hA hρ
  subst hl; subst hγ; subst hA
  exact t_X11_deny   a1 w ⟨q, e, pIw hρ rfl rfl⟩
theorem dX11_read_0 : decode cX11_read 0 = .ok (.aload_n 0, 1) := by decide +kernel
theorem dX11_read_1 : decode cX11_read 1 = .ok (.getfield 10, 3) := by decide +kernel
theorem dX11_read_4 : decode cX11_read 4 = .ok (.iload_n 1, 1) := by decide +kernel
theorem dX11_read_5 : decode cX11_read 5 = .ok (.iload_n 2, 1) := by decide +kernel
theorem dX11_read_6 : decode cX11_read 6 = .ok (.invokevirtual 106, 3) := by decide +kernel
theorem dX11_read_9 : decode cX11_read 9 = .ok (.istore_n 3, 1) := by decide +kernel
theorem dX11_read_10 : decode cX11_read 10 = .ok (.iload_n 3, 1) := by decide +kernel
theorem dX11_read_11 : decode cX11_read 11 = .ok (.ifCond .eq 10, 3) := by decide +kernel
theorem dX11_read_14 : decode cX11_read 14 = .ok (.aload_n 0, 1) := by decide +kernel
theorem dX11_read_15 : decode cX11_read 15 = .ok (.iload_n 3, 1) := by decide +kernel
theorem dX11_read_16 : decode cX11_read 16 = .ok (.invokevirtual 114, 3) := by decide +kernel
theorem dX11_read_19 : decode cX11_read 19 = .ok (.i2l, 1) := by decide +kernel
theorem dX11_read_20 : decode cX11_read 20 = .ok (.lreturn, 1) := by decide +kernel
theorem dX11_read_21 : decode cX11_read 21 = .ok (.aload_n 0, 1) := by decide +kernel
theorem dX11_read_22 : decode cX11_read 22 = .ok (.iconst 0, 1) := by decide +kernel
theorem dX11_read_23 : decode cX11_read 23 = .ok (.putfield 83, 3) := by decide +kernel
theorem dX11_read_26 : decode cX11_read 26 = .ok (.aload_n 0, 1) := by decide +kernel
theorem dX11_read_27 : decode cX11_read 27 = .ok (.getfield 10, 3) := by decide +kernel
theorem dX11_read_30 : decode cX11_read 30 = .ok (.iload_n 1, 1) := by decide +kernel
theorem dX11_read_31 : decode cX11_read 31 = .ok (.iload_n 2, 1) := by decide +kernel
theorem dX11_read_32 : decode cX11_read 32 = .ok (.invokevirtual 118, 3) := by decide +kernel
theorem dX11_read_35 : decode cX11_read 35 = .ok (.lreturn, 1) := by decide +kernel
noncomputable def X11_read (a1 : Int32) (a2 : Int32) (w : Wd) : Option (Int64 × Wd) :=
(X9_whyNot a1 a2 w).bind fun q1 =>
(if q1 = 0 then
(some (puI w 0 10 (0 : Int32))).bind fun w3 =>
(X9_at a1 a2 w3).bind fun q4 =>
some (q4, w3)
else
(X11_deny q1 w).bind fun q6 =>
some ((Int32.toInt64 q6.1), q6.2))
set_option maxRecDepth 20000 in
set_option maxHeartbeats 1000000 in
theorem t_X11_read {κ : Kx} (a1 : Int32) (a2 : Int32) (w : Wd) (h : ok (X11_read  a1 a2 w) (PJw κ)) : J κ RX11 cX11_read 4 (some .long) (rmk 3 64) 0 [(0, .ref (ad (gm κ) 0)), (1, .int a1), (2, .int a2)] [] w := by
  unfold X11_read at h
  refine j_aload_n 0 dX11_read_0 rfl rfl ?_
  refine j_getA 1 fl_RX11_10 sh_0 fk_0_0 (by decide) dX11_read_1 ?_
  refine j_iload_n 1 dX11_read_4 rfl rfl ?_
  refine j_iload_n 2 dX11_read_5 rfl rfl ?_
  obtain ⟨q1, e2, h⟩ := ok_b h
  refine j_callV (As := [.int a1, .int a2]) (st := []) [.int q1] (c_X9_whyNot (kl κ) (gm κ) (kA κ) a1 a2 w q1 e2) ck_RX11_106 im_X9_whyNot se_X9_whyNot sh_1 cx_9 ⟨rfl, rfl⟩ ⟨by decide, by decide⟩ rfl rfl (Nat.le_of_ble_eq_true rfl) dX11_read_6 _ rfl ?_
  refine j_istore_n [(3, .int q1), (0, .ref (ad (gm κ) 0)), (1, .int a1), (2, .int a2)] dX11_read_9 rfl (by decide) rfl ?_
  refine j_iload_n 0 dX11_read_10 rfl rfl ?_
  refine j_if_eq 21 dX11_read_11 (by decide) h (fun h => ?_) (fun h => ?_)
  · refine j_aload_n 1 dX11_read_21 rfl rfl ?_
    refine j_iconst (0 : Int32) dX11_read_22 ki_0 ?_
    refine j_putI fp_RX11_83 sh_0 fk_0_10 dX11_read_23 ?_
    refine j_lW h (fun w3 h => ?_)
    refine j_aload_n 1 dX11_read_26 rfl rfl ?_
    refine j_getA 1 fl_RX11_10 sh_0 fk_0_0 (by decide) dX11_read_27 ?_
    refine j_iload_n 2 dX11_read_30 rfl rfl ?_
    refine j_iload_n 3 dX11_read_31 rfl rfl ?_
    obtain ⟨q4, e5, h⟩ := ok_b h
    refine j_callV (As := [.int a1, .int a2]) (st := []) [.long q4] (c_X9_at (kl κ) (gm κ) (kA κ) a1 a2 w3 q4 e5) ck_RX11_118 im_X9_at se_X9_at sh_1 cx_9 ⟨rfl, rfl⟩ ⟨by decide, by decide⟩ rfl rfl (Nat.le_of_ble_eq_true rfl) dX11_read_32 _ rfl ?_
    have h := ok_s h
    exact j_lret dX11_read_35 rfl h
  · refine j_aload_n 1 dX11_read_14 rfl rfl ?_
    refine j_iload_n 0 dX11_read_15 rfl rfl ?_
    obtain ⟨q6, e7, h⟩ := ok_b h
    refine j_callV (As := [.int q1]) (st := []) [.int q6.1] (c_X11_deny (kl κ) (gm κ) (kA κ) q1 w q6 e7) ck_RX11_114 im_X11_deny se_X11_deny sh_0 cx_11 ⟨rfl, rfl⟩ ⟨by decide, by decide⟩ rfl rfl (Nat.le_of_ble_eq_true rfl) dX11_read_16 _ rfl ?_
    refine j_i2l dX11_read_19 ?_
    have h := ok_s h
    exact j_lret dX11_read_20 rfl h
theorem c_X11_read (l : Launch) (γ : Gm) (A : Nat → Prop) (a1 : Int32) (a2 : Int32) (w : Wd) (q : Int64 × Wd) (e : X11_read  a1 a2 w = some q) : MetG l γ A yX11_read cX11_read 4 (some .long) (rmk 3 64) [.ref (ad (γ) 0), .int a1, .int a2] w (some (.long q.1)) q.2 := by
  refine met_of pn_RX11 (Nat.le_of_ble_eq_true rfl) ?_
  intro κ hl hγ hA hρ
  subst hl; subst hγ; subst hA
  exact t_X11_read   a1 a2 w ⟨q, e, pJw hρ rfl rfl⟩
theorem dX11_pour_0 : decode cX11_pour 0 = .ok (.iload_n 1, 1) := by decide +kernel
theorem dX11_pour_1 : decode cX11_pour 1 = .ok (.invokestatic 87, 3) := by decide +kernel
theorem dX11_pour_4 : decode cX11_pour 4 = .ok (.ifCond .eq 24, 3) := by decide +kernel
theorem dX11_pour_7 : decode cX11_pour 7 = .ok (.iload_n 3, 1) := by decide +kernel
theorem dX11_pour_8 : decode cX11_pour 8 = .ok (.invokestatic 87, 3) := by decide +kernel
theorem dX11_pour_11 : decode cX11_pour 11 = .ok (.ifCond .eq 17, 3) := by decide +kernel
theorem dX11_pour_14 : decode cX11_pour 14 = .ok (.iload_n 2, 1) := by decide +kernel
theorem dX11_pour_15 : decode cX11_pour 15 = .ok (.ifCond .lt 13, 3) := by decide +kernel
theorem dX11_pour_18 : decode cX11_pour 18 = .ok (.iload 4, 2) := by decide +kernel
theorem dX11_pour_20 : decode cX11_pour 20 = .ok (.ifCond .lt 8, 3) := by decide +kernel
theorem dX11_pour_23 : decode cX11_pour 23 = .ok (.iload 5, 2) := by decide +kernel
theorem dX11_pour_25 : decode cX11_pour 25 = .ok (.ifCond .ge 9, 3) := by decide +kernel
theorem dX11_pour_28 : decode cX11_pour 28 = .ok (.aload_n 0, 1) := by decide +kernel
theorem dX11_pour_29 : decode cX11_pour 29 = .ok (.iconst 1, 1) := by decide +kernel
theorem dX11_pour_30 : decode cX11_pour 30 = .ok (.invokevirtual 95, 3) := by decide +kernel
theorem dX11_pour_33 : decode cX11_pour 33 = .ok (.ireturn, 1) := by decide +kernel
theorem dX11_pour_34 : decode cX11_pour 34 = .ok (.aload_n 0, 1) := by decide +kernel
theorem dX11_pour_35 : decode cX11_pour 35 = .ok (.getfield 10, 3) := by decide +kernel
theorem dX11_pour_38 : decode cX11_pour 38 = .ok (.iload_n 1, 1) := by decide +kernel
theorem dX11_pour_39 : decode cX11_pour 39 = .ok (.invokevirtual 122, 3) := by decide +kernel
theorem dX11_pour_42 : decode cX11_pour 42 = .ok (.ifCond .ne 14, 3) := by decide +kernel
theorem dX11_pour_45 : decode cX11_pour 45 = .ok (.aload_n 0, 1) := by decide +kernel
theorem dX11_pour_46 : decode cX11_pour 46 = .ok (.getfield 10, 3) := by decide +kernel
theorem dX11_pour_49 : decode cX11_pour 49 = .ok (.iload_n 3, 1) := by decide +kernel
theorem dX11_pour_50 : decode cX11_pour 50 = .ok (.invokevirtual 122, 3) := by decide +kernel
theorem dX11_pour_53 : decode cX11_pour 53 = .ok (.ifCond .eq 9, 3) := by decide +kernel
theorem dX11_pour_56 : decode cX11_pour 56 = .ok (.aload_n 0, 1) := by decide +kernel
theorem dX11_pour_57 : decode cX11_pour 57 = .ok (.iconst 2, 1) := by decide +kernel
theorem dX11_pour_58 : decode cX11_pour 58 = .ok (.invokevirtual 95, 3) := by decide +kernel
theorem dX11_pour_61 : decode cX11_pour 61 = .ok (.ireturn, 1) := by decide +kernel
theorem dX11_pour_62 : decode cX11_pour 62 = .ok (.aload_n 0, 1) := by decide +kernel
theorem dX11_pour_63 : decode cX11_pour 63 = .ok (.getfield 10, 3) := by decide +kernel
theorem dX11_pour_66 : decode cX11_pour 66 = .ok (.iload_n 1, 1) := by decide +kernel
theorem dX11_pour_67 : decode cX11_pour 67 = .ok (.iload_n 3, 1) := by decide +kernel
theorem dX11_pour_68 : decode cX11_pour 68 = .ok (.invokevirtual 125, 3) := by decide +kernel
theorem dX11_pour_71 : decode cX11_pour 71 = .ok (.ifCond .ne 10, 3) := by decide +kernel
theorem dX11_pour_74 : decode cX11_pour 74 = .ok (.aload_n 0, 1) := by decide +kernel
theorem dX11_pour_75 : decode cX11_pour 75 = .ok (.bipush 8, 2) := by decide +kernel
theorem dX11_pour_77 : decode cX11_pour 77 = .ok (.invokevirtual 95, 3) := by decide +kernel
theorem dX11_pour_80 : decode cX11_pour 80 = .ok (.ireturn, 1) := by decide +kernel
theorem dX11_pour_81 : decode cX11_pour 81 = .ok (.aload_n 0, 1) := by decide +kernel
theorem dX11_pour_82 : decode cX11_pour 82 = .ok (.getfield 10, 3) := by decide +kernel
theorem dX11_pour_85 : decode cX11_pour 85 = .ok (.iload_n 1, 1) := by decide +kernel
theorem dX11_pour_86 : decode cX11_pour 86 = .ok (.iload_n 2, 1) := by decide +kernel
theorem dX11_pour_87 : decode cX11_pour 87 = .ok (.iload 5, 2) := by decide +kernel
theorem dX11_pour_89 : decode cX11_pour 89 = .ok (.invokevirtual 129, 3) := by decide +kernel
theorem dX11_pour_92 : decode cX11_pour 92 = .ok (.ifCond .eq 18, 3) := by decide +kernel
theorem dX11_pour_95 : decode cX11_pour 95 = .ok (.aload_n 0, 1) := by decide +kernel
theorem dX11_pour_96 : decode cX11_pour 96 = .ok (.getfield 10, 3) := by decide +kernel
theorem dX11_pour_99 : decode cX11_pour 99 = .ok (.iload_n 3, 1) := by decide +kernel
theorem dX11_pour_100 : decode cX11_pour 100 = .ok (.iload 4, 2) := by decide +kernel
theorem dX11_pour_102 : decode cX11_pour 102 = .ok (.iload 5, 2) := by decide +kernel
theorem dX11_pour_104 : decode cX11_pour 104 = .ok (.invokevirtual 129, 3) := by decide +kernel
theorem dX11_pour_107 : decode cX11_pour 107 = .ok (.ifCond .ne 9, 3) := by decide +kernel
theorem dX11_pour_110 : decode cX11_pour 110 = .ok (.aload_n 0, 1) := by decide +kernel
theorem dX11_pour_111 : decode cX11_pour 111 = .ok (.iconst 3, 1) := by decide +kernel
theorem dX11_pour_112 : decode cX11_pour 112 = .ok (.invokevirtual 95, 3) := by decide +kernel
theorem dX11_pour_115 : decode cX11_pour 115 = .ok (.ireturn, 1) := by decide +kernel
theorem dX11_pour_116 : decode cX11_pour 116 = .ok (.aload_n 0, 1) := by decide +kernel
theorem dX11_pour_117 : decode cX11_pour 117 = .ok (.getfield 10, 3) := by decide +kernel
theorem dX11_pour_120 : decode cX11_pour 120 = .ok (.iload_n 1, 1) := by decide +kernel
theorem dX11_pour_121 : decode cX11_pour 121 = .ok (.iload_n 2, 1) := by decide +kernel
theorem dX11_pour_122 : decode cX11_pour 122 = .ok (.iload_n 3, 1) := by decide +kernel
theorem dX11_pour_123 : decode cX11_pour 123 = .ok (.iload 4, 2) := by decide +kernel
theorem dX11_pour_125 : decode cX11_pour 125 = .ok (.iload 5, 2) := by decide +kernel
theorem dX11_pour_127 : decode cX11_pour 127 = .ok (.invokevirtual 132, 3) := by decide +kernel
theorem dX11_pour_130 : decode cX11_pour 130 = .ok (.aload_n 0, 1) := by decide +kernel
theorem dX11_pour_131 : decode cX11_pour 131 = .ok (.invokevirtual 102, 3) := by decide +kernel
theorem dX11_pour_134 : decode cX11_pour 134 = .ok (.ireturn, 1) := by decide +kernel
noncomputable def X11_pour_j28 (w : Wd) : Option (Int32 × Wd) :=
(X11_refuse (1 : Int32) w).bind fun q1 =>
gd (narrow .boolean (.int q1.1) = .int q1.1) <|
some (q1.1, q1.2)
set_option maxRecDepth 20000 in
set_option maxHeartbeats 1000000 in
theorem t_X11_pour_j28 {κ : Kx} (w : Wd) (h : ok (X11_pour_j28  w) (PIw κ)) : J κ RX11 cX11_pour 6 (some .boolean) (rmk 2 51) 28 [(0, .ref (ad (gm κ) 0))] [] w := by
  unfold X11_pour_j28 at h
  refine j_aload_n 0 dX11_pour_28 rfl rfl ?_
  refine j_iconst (1 : Int32) dX11_pour_29 ki_1 ?_
  obtain ⟨q1, e2, h⟩ := ok_b h
  refine j_callV (As := [.int (1 : Int32)]) (st := []) [.int q1.1] (c_X11_refuse (kl κ) (gm κ) (kA κ) (1 : Int32) w q1 e2) ck_RX11_95 im_X11_refuse se_X11_refuse sh_0 cx_11 ⟨rfl, rfl⟩ ⟨by decide, by decide⟩ rfl rfl (Nat.le_of_ble_eq_true rfl) dX11_pour_30 _ rfl ?_
  obtain ⟨hz, h⟩ := ok_g h
  have h := ok_s h
  exact j_iret dX11_pour_33 rfl hz h
noncomputable def X11_pour_j56 (w : Wd) : Option (Int32 × Wd) :=
(X11_refuse (2 : Int32) w).bind fun q5 =>
gd (narrow .boolean (.int q5.1) = .int q5.1) <|
some (q5.1, q5.2)
set_option maxRecDepth 20000 in
set_option maxHeartbeats 1000000 in
theorem t_X11_pour_j56 {κ : Kx} (w : Wd) (h : ok (X11_pour_j56  w) (PIw κ)) : J κ RX11 cX11_pour 6 (some .boolean) (rmk 2 51) 56 [(0, .ref (ad (gm κ) 0))] [] w := by
  unfold X11_pour_j56 at h
  refine j_aload_n 0 dX11_pour_56 rfl rfl ?_
  refine j_iconst (2 : Int32) dX11_pour_57 ki_2 ?_
  obtain ⟨q5, e6, h⟩ := ok_b h
  refine j_callV (As := [.int (2 : Int32)]) (st := []) [.int q5.1] (c_X11_refuse (kl κ) (gm κ) (kA κ) (2 : Int32) w q5 e6) ck_RX11_95 im_X11_refuse se_X11_refuse sh_0 cx_11 ⟨rfl, rfl⟩ ⟨by decide, by decide⟩ rfl rfl (Nat.le_of_ble_eq_true rfl) dX11_pour_58 _ rfl ?_
  obtain ⟨hz, h⟩ := ok_g h
  have h := ok_s h
  exact j_iret dX11_pour_61 rfl hz h
noncomputable def X11_pour_j110 (w : Wd) : Option (Int32 × Wd) :=
(X11_refuse (3 : Int32) w).bind fun q13 =>
gd (narrow .boolean (.int q13.1) = .int q13.1) <|
some (q13.1, q13.2)
set_option maxRecDepth 20000 in
set_option maxHeartbeats 1000000 in
theorem t_X11_pour_j110 {κ : Kx} (w : Wd) (h : ok (X11_pour_j110  w) (PIw κ)) : J κ RX11 cX11_pour 6 (some .boolean) (rmk 2 51) 110 [(0, .ref (ad (gm κ) 0))] [] w := by
  unfold X11_pour_j110 at h
  refine j_aload_n 0 dX11_pour_110 rfl rfl ?_
  refine j_iconst (3 : Int32) dX11_pour_111 ki_3 ?_
  obtain ⟨q13, e14, h⟩ := ok_b h
  refine j_callV (As := [.int (3 : Int32)]) (st := []) [.int q13.1] (c_X11_refuse (kl κ) (gm κ) (kA κ) (3 : Int32) w q13 e14) ck_RX11_95 im_X11_refuse se_X11_refuse sh_0 cx_11 ⟨rfl, rfl⟩ ⟨by decide, by decide⟩ rfl rfl (Nat.le_of_ble_eq_true rfl) dX11_pour_112 _ rfl ?_
  obtain ⟨hz, h⟩ := ok_g h
  have h := ok_s h
  exact j_iret dX11_pour_115 rfl hz h
noncomputable def X11_pour (a1 : Int32) (a2 : Int32) (a3 : Int32) (a4 : Int32) (a5 : Int32) (w : Wd) : Option (Int32 × Wd) :=
(if (X9_isTray a1 w) = 0 then
X11_pour_j28 w
else
(if (X9_isTray a3 w) = 0 then
X11_pour_j28 w
else
(if a2 < 0 then
X11_pour_j28 w
else
(if a4 < 0 then
X11_pour_j28 w
else
(if 0 ≤ a5 then
(X9_isMissing a1 w).bind fun q3 =>
(if q3 = 0 then
(X9_isMissing a3 w).bind fun q7 =>
(if q7 = 0 then
(X9_alike a1 a3 w).bind fun q9 =>
(if q9 = 0 then
(X11_refuse (8 : Int32) w).bind fun q21 =>
gd (narrow .boolean (.int q21.1) = .int q21.1) <|
some (q21.1, q21.2)
else
(X9_reaches a1 a2 a5 w).bind fun q11 =>
(if q11 = 0 then
X11_pour_j110 w
else
(X9_reaches a3 a4 a5 w).bind fun q15 =>
(if q15 = 0 then
X11_pour_j110 w
else
(X9_carry a1 a2 a3 a4 a5 w).bind fun q17 =>
(X11_agree q17).bind fun q19 =>
gd (narrow .boolean (.int q19.1) = .int q19.1) <|
some (q19.1, q19.2))))
else
X11_pour_j56 w)
else
X11_pour_j56 w)
else
X11_pour_j28 w)))))
set_option maxRecDepth 20000 in
set_option maxHeartbeats 1000000 in
theorem t_X11_pour {κ : Kx} (a1 : Int32) (a2 : Int32) (a3 : Int32) (a4 : Int32) (a5 : Int32) (w : Wd) (h : ok (X11_pour  a1 a2 a3 a4 a5 w) (PIw κ)) : J κ RX11 cX11_pour 6 (some .boolean) (rmk 2 51) 0 [(0, .ref (ad (gm κ) 0)), (1, .int a1), (2, .int a2), (3, .int a3), (4, .int a4), (5, .int a5)] [] w := by
  unfold X11_pour at h
  refine j_iload_n 1 dX11_pour_0 rfl rfl ?_
  refine j_callS (As := [.int a1]) (st := []) [.int (X9_isTray a1 w)] (c_X9_isTray (kl κ) (gm κ) (kA κ) a1 w) ck_RX11_87 st_X9_isTray ⟨rfl, rfl⟩ ⟨by decide, by decide⟩ rfl rfl (Nat.le_of_ble_eq_true rfl) dX11_pour_1 _ rfl ?_
  refine j_if_eq 28 dX11_pour_4 (by decide) h (fun h => ?_) (fun h => ?_)
  · refine j_loc [(0, .ref (ad (gm κ) 0))] [0] rfl ?_
    exact t_X11_pour_j28 w h
  · refine j_iload_n 3 dX11_pour_7 rfl rfl ?_
    refine j_callS (As := [.int a3]) (st := []) [.int (X9_isTray a3 w)] (c_X9_isTray (kl κ) (gm κ) (kA κ) a3 w) ck_RX11_87 st_X9_isTray ⟨rfl, rfl⟩ ⟨by decide, by decide⟩ rfl rfl (Nat.le_of_ble_eq_true rfl) dX11_pour_8 _ rfl ?_
    refine j_if_eq 28 dX11_pour_11 (by decide) h (fun h => ?_) (fun h => ?_)
    · refine j_loc [(0, .ref (ad (gm κ) 0))] [0] rfl ?_
      exact t_X11_pour_j28 w h
    · refine j_iload_n 2 dX11_pour_14 rfl rfl ?_
      refine j_if_lt 28 dX11_pour_15 (by decide) h (fun h => ?_) (fun h => ?_)
      · refine j_loc [(0, .ref (ad (gm κ) 0))] [0] rfl ?_
        exact t_X11_pour_j28 w h
      · refine j_iload 4 dX11_pour_18 rfl ?_
        refine j_if_lt 28 dX11_pour_20 (by decide) h (fun h => ?_) (fun h => ?_)
        · refine j_loc [(0, .ref (ad (gm κ) 0))] [0] rfl ?_
          exact t_X11_pour_j28 w h
        · refine j_iload 5 dX11_pour_23 rfl ?_
          refine j_if_ge 34 dX11_pour_25 (by decide) h (fun h => ?_) (fun h => ?_)
          · refine j_aload_n 0 dX11_pour_34 rfl rfl ?_
            refine j_getA 1 fl_RX11_10 sh_0 fk_0_0 (by decide) dX11_pour_35 ?_
            refine j_iload_n 1 dX11_pour_38 rfl rfl ?_
            obtain ⟨q3, e4, h⟩ := ok_b h
            refine j_callV (As := [.int a1]) (st := []) [.int q3] (c_X9_isMissing (kl κ) (gm κ) (kA κ) a1 w q3 e4) ck_RX11_122 im_X9_isMissing se_X9_isMissing sh_1 cx_9 ⟨rfl, rfl⟩ ⟨by decide, by decide⟩ rfl rfl (Nat.le_of_ble_eq_true rfl) dX11_pour_39 _ rfl ?_
            refine j_if_ne 56 dX11_pour_42 (by decide) h (fun h => ?_) (fun h => ?_)
            · refine j_loc [(0, .ref (ad (gm κ) 0))] [0] rfl ?_
              exact t_X11_pour_j56 w h
            · refine j_aload_n 0 dX11_pour_45 rfl rfl ?_
              refine j_getA 1 fl_RX11_10 sh_0 fk_0_0 (by decide) dX11_pour_46 ?_
              refine j_iload_n 3 dX11_pour_49 rfl rfl ?_
              obtain ⟨q7, e8, h⟩ := ok_b h
              refine j_callV (As := [.int a3]) (st := []) [.int q7] (c_X9_isMissing (kl κ) (gm κ) (kA κ) a3 w q7 e8) ck_RX11_122 im_X9_isMissing se_X9_isMissing sh_1 cx_9 ⟨rfl, rfl⟩ ⟨by decide, by decide⟩ rfl rfl (Nat.le_of_ble_eq_true rfl) dX11_pour_50 _ rfl ?_
              refine j_if_eq 62 dX11_pour_53 (by decide) h (fun h => ?_) (fun h => ?_)
              · refine j_aload_n 0 dX11_pour_62 rfl rfl ?_
                refine j_getA 1 fl_RX11_10 sh_0 fk_0_0 (by decide) dX11_pour_63 ?_
                refine j_iload_n 1 dX11_pour_66 rfl rfl ?_
                refine j_iload_n 3 dX11_pour_67 rfl rfl ?_
                obtain ⟨q9, e10, h⟩ := ok_b h
                refine j_callV (As := [.int a1, .int a3]) (st := []) [.int q9] (c_X9_alike (kl κ) (gm κ) (kA κ) a1 a3 w q9 e10) ck_RX11_125 im_X9_alike se_X9_alike sh_1 cx_9 ⟨rfl, rfl⟩ ⟨by decide, by decide⟩ rfl rfl (Nat.le_of_ble_eq_true rfl) dX11_pour_68 _ rfl ?_
                refine j_if_ne 81 dX11_pour_71 (by decide) h (fun h => ?_) (fun h => ?_)
                · refine j_aload_n 0 dX11_pour_81 rfl rfl ?_
                  refine j_getA 1 fl_RX11_10 sh_0 fk_0_0 (by decide) dX11_pour_82 ?_
                  refine j_iload_n 1 dX11_pour_85 rfl rfl ?_
                  refine j_iload_n 2 dX11_pour_86 rfl rfl ?_
                  refine j_iload 5 dX11_pour_87 rfl ?_
                  obtain ⟨q11, e12, h⟩ := ok_b h
                  refine j_callV (As := [.int a1, .int a2, .int a5]) (st := []) [.int q11] (c_X9_reaches (kl κ) (gm κ) (kA κ) a1 a2 a5 w q11 e12) ck_RX11_129 im_X9_reaches se_X9_reaches sh_1 cx_9 ⟨rfl, rfl⟩ ⟨by decide, by decide⟩ rfl rfl (Nat.le_of_ble_eq_true rfl) dX11_pour_89 _ rfl ?_
                  refine j_if_eq 110 dX11_pour_92 (by decide) h (fun h => ?_) (fun h => ?_)
                  · refine j_loc [(0, .ref (ad (gm κ) 0))] [0] rfl ?_
                    exact t_X11_pour_j110 w h
                  · refine j_aload_n 0 dX11_pour_95 rfl rfl ?_
                    refine j_getA 1 fl_RX11_10 sh_0 fk_0_0 (by decide) dX11_pour_96 ?_
                    refine j_iload_n 3 dX11_pour_99 rfl rfl ?_
                    refine j_iload 4 dX11_pour_100 rfl ?_
                    refine j_iload 5 dX11_pour_102 rfl ?_
                    obtain ⟨q15, e16, h⟩ := ok_b h
                    refine j_callV (As := [.int a3, .int a4, .int a5]) (st := []) [.int q15] (c_X9_reaches (kl κ) (gm κ) (kA κ) a3 a4 a5 w q15 e16) ck_RX11_129 im_X9_reaches se_X9_reaches sh_1 cx_9 ⟨rfl, rfl⟩ ⟨by decide, by decide⟩ rfl rfl (Nat.le_of_ble_eq_true rfl) dX11_pour_104 _ rfl ?_
                    refine j_if_ne 116 dX11_pour_107 (by decide) h (fun h => ?_) (fun h => ?_)
                    · refine j_aload_n 0 dX11_pour_116 rfl rfl ?_
                      refine j_getA 1 fl_RX11_10 sh_0 fk_0_0 (by decide) dX11_pour_117 ?_
                      refine j_iload_n 1 dX11_pour_120 rfl rfl ?_
                      refine j_iload_n 2 dX11_pour_121 rfl rfl ?_
                      refine j_iload_n 3 dX11_pour_122 rfl rfl ?_
                      refine j_iload 4 dX11_pour_123 rfl ?_
                      refine j_iload 5 dX11_pour_125 rfl ?_
                      obtain ⟨q17, e18, h⟩ := ok_b h
                      refine j_callV (As := [.int a1, .int a2, .int a3, .int a4, .int a5]) (st := []) [] (c_X9_carry (kl κ) (gm κ) (kA κ) a1 a2 a3 a4 a5 w q17 e18) ck_RX11_132 im_X9_carry se_X9_carry sh_1 cx_9 ⟨rfl, rfl⟩ ⟨by decide, by decide⟩ rfl rfl (Nat.le_of_ble_eq_true rfl) dX11_pour_127 _ rfl ?_
                      refine j_aload_n 0 dX11_pour_130 rfl rfl ?_
                      obtain ⟨q19, e20, h⟩ := ok_b h
                      refine j_callV (As := []) (st := []) [.int q19.1] (c_X11_agree (kl κ) (gm κ) (kA κ) q17 q19 e20) ck_RX11_102 im_X11_agree se_X11_agree sh_0 cx_11 ⟨rfl, rfl⟩ ⟨by decide, by decide⟩ rfl rfl (Nat.le_of_ble_eq_true rfl) dX11_pour_131 _ rfl ?_
                      obtain ⟨hz, h⟩ := ok_g h
                      have h := ok_s h
                      exact j_iret dX11_pour_134 rfl hz h
                    · refine j_loc [(0, .ref (ad (gm κ) 0))] [0] rfl ?_
                      exact t_X11_pour_j110 w h
                · refine j_aload_n 0 dX11_pour_74 rfl rfl ?_
                  refine j_bipush (8 : Int32) dX11_pour_75 kb_8 ?_
                  obtain ⟨q21, e22, h⟩ := ok_b h
                  refine j_callV (As := [.int (8 : Int32)]) (st := []) [.int q21.1] (c_X11_refuse (kl κ) (gm κ) (kA κ) (8 : Int32) w q21 e22) ck_RX11_95 im_X11_refuse se_X11_refuse sh_0 cx_11 ⟨rfl, rfl⟩ ⟨by decide, by decide⟩ rfl rfl (Nat.le_of_ble_eq_true rfl) dX11_pour_77 _ rfl ?_
                  obtain ⟨hz, h⟩ := ok_g h
                  have h := ok_s h
                  exact j_iret dX11_pour_80 rfl hz h
              · refine j_loc [(0, .ref (ad (gm κ) 0))] [0] rfl ?_
                exact t_X11_pour_j56 w h
          · refine j_loc [(0, .ref (ad (gm κ) 0))] [0] rfl ?_
            exact t_X11_pour_j28 w h
theorem c_X11_pour (l : Launch) (γ : Gm) (A : Nat → Prop) (a1 : Int32) (a2 : Int32) (a3 : Int32) (a4 : Int32) (a5 : Int32) (w : Wd) (q : Int32 × Wd) (e : X11_pour  a1 a2 a3 a4 a5 w = some q) : MetG l γ A yX11_pour cX11_pour 6 (some .boolean) (rmk 2 51) [.ref (ad (γ) 0), .int a1, .int a2, .int a3, .int a4, .int a5] w (some (.int q.1)) q.2 := by
  refine met_of pn_RX11 (Nat.le_of_ble_eq_true rfl) ?_
  intro κ hl hγ hA hρ
  subst hl; subst hγ; subst hA
  exact t_X11_pour   a1 a2 a3 a4 a5 w ⟨q, e, pIw hρ rfl rfl⟩
theorem dX11_isShire_0 : decode cX11_isShire 0 = .ok (.iload_n 0, 1) := by decide +kernel
theorem dX11_isShire_1 : decode cX11_isShire 1 = .ok (.iconst 0, 1) := by decide +kernel
theorem dX11_isShire_2 : decode cX11_isShire 2 = .ok (.iconst 3, 1) := by decide +kernel
theorem dX11_isShire_3 : decode cX11_isShire 3 = .ok (.invokestatic 91, 3) := by decide +kernel
theorem dX11_isShire_6 : decode cX11_isShire 6 = .ok (.ireturn, 1) := by decide +kernel
noncomputable def X11_isShireO (a0 : Int32) (w : Wd) : Option (Int32) :=
some (X11_within a0 (0 : Int32) (3 : Int32) w)
set_option maxRecDepth 20000 in
set_option maxHeartbeats 1000000 in
theorem t_X11_isShire {κ : Kx} (a0 : Int32) (w : Wd) (h : ok (X11_isShireO  a0 w) (PI κ w)) : J κ RX11 cX11_isShire 1 (some .boolean) (rmk 1 22) 0 [(0, .int a0)] [] w := by
  unfold X11_isShireO at h
  refine j_iload_n 0 dX11_isShire_0 rfl rfl ?_
  refine j_iconst (0 : Int32) dX11_isShire_1 ki_0 ?_
  refine j_iconst (3 : Int32) dX11_isShire_2 ki_3 ?_
  refine j_callS (As := [.int a0, .int (0 : Int32), .int (3 : Int32)]) (st := []) [.int (X11_within a0 (0 : Int32) (3 : Int32) w)] (c_X11_within (kl κ) (gm κ) (kA κ) a0 (0 : Int32) (3 : Int32) w) ck_RX11_91 st_X11_within ⟨rfl, rfl⟩ ⟨by decide, by decide⟩ rfl rfl (Nat.le_of_ble_eq_true rfl) dX11_isShire_3 _ rfl ?_
  have h := ok_s h
  exact j_iret dX11_isShire_6 rfl (nz_X11_within _ _ _ _) h
noncomputable def X11_isShire (a0 : Int32) (w : Wd) : Int32 := (X11_isShireO  a0 w).getD 0
theorem X11_isShire_eq (a0 : Int32) (w : Wd) : X11_isShireO  a0 w = some (X11_isShire  a0 w) := by
  unfold X11_isShire X11_isShireO
  repeat (first | rfl | split)
theorem nz_X11_isShire (a0 : Int32) (w : Wd) : narrow .boolean (.int (X11_isShire  a0 w)) = .int (X11_isShire  a0 w) := by
  unfold X11_isShire X11_isShireO
  repeat (first | rfl | split | exact nz_X11_within _ _ _ _)
theorem c_X11_isShire (l : Launch) (γ : Gm) (A : Nat → Prop) (a0 : Int32) (w : Wd) : MetG l γ A yX11_isShire cX11_isShire 1 (some .boolean) (rmk 1 22) [.int a0] w (some (.int (X11_isShire  a0 w))) w := by
  refine met_of pn_RX11 (Nat.le_of_ble_eq_true rfl) ?_
  intro κ hl hγ hA hρ
  subst hl; subst hγ; subst hA
  exact t_X11_isShire   a0 w ⟨_, X11_isShire_eq  a0 w, pI hρ rfl rfl⟩
theorem dX11_answer_0 : decode cX11_answer 0 = .ok (.aload_n 0, 1) := by decide +kernel
theorem dX11_answer_1 : decode cX11_answer 1 = .ok (.iconst 0, 1) := by decide +kernel
theorem dX11_answer_2 : decode cX11_answer 2 = .ok (.putfield 83, 3) := by decide +kernel
theorem dX11_answer_5 : decode cX11_answer 5 = .ok (.iload_n 1, 1) := by decide +kernel
theorem dX11_answer_6 : decode cX11_answer 6 = .ok (.ireturn, 1) := by decide +kernel
noncomputable def X11_answer (a1 : Int32) (w : Wd) : Option (Int32 × Wd) :=
(some (puI w 0 10 (0 : Int32))).bind fun w1 =>
some (a1, w1)
set_option maxRecDepth 20000 in
set_option maxHeartbeats 1000000 in
theorem t_X11_answer {κ : Kx} (a1 : Int32) (w : Wd) (h : ok (X11_answer  a1 w) (PIw κ)) : J κ RX11 cX11_answer 2 (some .int) (rmk 0 0) 0 [(0, .ref (ad (gm κ) 0)), (1, .int a1)] [] w := by
  unfold X11_answer at h
  refine j_aload_n 0 dX11_answer_0 rfl rfl ?_
  refine j_iconst (0 : Int32) dX11_answer_1 ki_0 ?_
  refine j_putI fp_RX11_83 sh_0 fk_0_10 dX11_answer_2 ?_
  refine j_lW h (fun w1 h => ?_)
  refine j_iload_n 1 dX11_answer_5 rfl rfl ?_
  have h := ok_s h
  exact j_iret dX11_answer_6 rfl rfl h
theorem c_X11_answer (l : Launch) (γ : Gm) (A : Nat → Prop) (a1 : Int32) (w : Wd) (q : Int32 × Wd) (e : X11_answer  a1 w = some q) : MetG l γ A yX11_answer cX11_answer 2 (some .int) (rmk 0 0) [.ref (ad (γ) 0), .int a1] w (some (.int q.1)) q.2 := by
  refine met_of pn_RX11 (Nat.le_of_ble_eq_true rfl) ?_
  intro κ hl hγ hA hρ
  subst hl; subst hγ; subst hA
  exact t_X11_answer   a1 w ⟨q, e, pIw hρ rfl rfl⟩
theorem dX11_place_0 : decode cX11_place 0 = .ok (.iload_n 1, 1) := by decide +kernel
theorem dX11_place_1 : decode cX11_place 1 = .ok (.invokestatic 136, 3) := by decide +kernel
theorem dX11_place_4 : decode cX11_place 4 = .ok (.ifCond .ne 9, 3) := by decide +kernel
theorem dX11_place_7 : decode cX11_place 7 = .ok (.aload_n 0, 1) := by decide +kernel
theorem dX11_place_8 : decode cX11_place 8 = .ok (.iconst 1, 1) := by decide +kernel
theorem dX11_place_9 : decode cX11_place 9 = .ok (.invokevirtual 114, 3) := by decide +kernel
theorem dX11_place_12 : decode cX11_place 12 = .ok (.ireturn, 1) := by decide +kernel
theorem dX11_place_13 : decode cX11_place 13 = .ok (.aload_n 0, 1) := by decide +kernel
theorem dX11_place_14 : decode cX11_place 14 = .ok (.getfield 19, 3) := by decide +kernel
theorem dX11_place_17 : decode cX11_place 17 = .ok (.getfield 139, 3) := by decide +kernel
theorem dX11_place_20 : decode cX11_place 20 = .ok (.bipush 16, 2) := by decide +kernel
theorem dX11_place_22 : decode cX11_place 22 = .ok (.if_icmp .lt 11, 3) := by decide +kernel
theorem dX11_place_25 : decode cX11_place 25 = .ok (.aload_n 0, 1) := by decide +kernel
theorem dX11_place_26 : decode cX11_place 26 = .ok (.iconst 4, 1) := by decide +kernel
theorem dX11_place_27 : decode cX11_place 27 = .ok (.invokevirtual 114, 3) := by decide +kernel
theorem dX11_place_30 : decode cX11_place 30 = .ok (.goto 15, 3) := by decide +kernel
theorem dX11_place_33 : decode cX11_place 33 = .ok (.aload_n 0, 1) := by decide +kernel
theorem dX11_place_34 : decode cX11_place 34 = .ok (.aload_n 0, 1) := by decide +kernel
theorem dX11_place_35 : decode cX11_place 35 = .ok (.getfield 19, 3) := by decide +kernel
theorem dX11_place_38 : decode cX11_place 38 = .ok (.iload_n 1, 1) := by decide +kernel
theorem dX11_place_39 : decode cX11_place 39 = .ok (.invokevirtual 142, 3) := by decide +kernel
theorem dX11_place_42 : decode cX11_place 42 = .ok (.invokevirtual 145, 3) := by decide +kernel
theorem dX11_place_45 : decode cX11_place 45 = .ok (.ireturn, 1) := by decide +kernel
noncomputable def X11_place (a1 : Int32) (w : Wd) : Option (Int32 × Wd) :=
(if (X11_isShire a1 w) = 0 then
(X11_deny (1 : Int32) w).bind fun q7 =>
some (q7.1, q7.2)
else
(if (w.1 5 0) < (16 : Int32) then
(X2_addPlace a1 w).bind fun q1 =>
(X11_answer q1.1 q1.2).bind fun q3 =>
some (q3.1, q3.2)
else
(X11_deny (4 : Int32) w).bind fun q5 =>
some (q5.1, q5.2)))
set_option maxRecDepth 20000 in
set_option maxHeartbeats 1000000 in
theorem t_X11_place {κ : Kx} (a1 : Int32) (w : Wd) (h : ok (X11_place  a1 w) (PIw κ)) : J κ RX11 cX11_place 2 (some .int) (rmk 2 42) 0 [(0, .ref (ad (gm κ) 0)), (1, .int a1)] [] w := by
  unfold X11_place at h
  refine j_iload_n 1 dX11_place_0 rfl rfl ?_
  refine j_callS (As := [.int a1]) (st := []) [.int (X11_isShire a1 w)] (c_X11_isShire (kl κ) (gm κ) (kA κ) a1 w) ck_RX11_136 st_X11_isShire ⟨rfl, rfl⟩ ⟨by decide, by decide⟩ rfl rfl (Nat.le_of_ble_eq_true rfl) dX11_place_1 _ rfl ?_
  refine j_if_ne 13 dX11_place_4 (by decide) h (fun h => ?_) (fun h => ?_)
  · refine j_aload_n 0 dX11_place_13 rfl rfl ?_
    refine j_getA 5 fl_RX11_19 sh_0 fk_0_1 (by decide) dX11_place_14 ?_
    refine j_getI fl_RX11_139 sh_5 fk_5_0 dX11_place_17 ?_
    refine j_bipush (16 : Int32) dX11_place_20 kb_16 ?_
    refine j_ic_lt 33 dX11_place_22 (by decide) h (fun h => ?_) (fun h => ?_)
    · refine j_aload_n 0 dX11_place_33 rfl rfl ?_
      refine j_aload_n 0 dX11_place_34 rfl rfl ?_
      refine j_getA 5 fl_RX11_19 sh_0 fk_0_1 (by decide) dX11_place_35 ?_
      refine j_iload_n 1 dX11_place_38 rfl rfl ?_
      obtain ⟨q1, e2, h⟩ := ok_b h
      refine j_callV (As := [.int a1]) (st := [.ref (ad (gm κ) 0)]) [.int q1.1, .ref (ad (gm κ) 0)] (c_X2_addPlace (kl κ) (gm κ) (kA κ) a1 w q1 e2) ck_RX11_142 im_X2_addPlace se_X2_addPlace sh_5 cx_2 ⟨rfl, rfl⟩ ⟨by decide, by decide⟩ rfl rfl (Nat.le_of_ble_eq_true rfl) dX11_place_39 _ rfl ?_
      obtain ⟨q3, e4, h⟩ := ok_b h
      refine j_callV (As := [.int q1.1]) (st := []) [.int q3.1] (c_X11_answer (kl κ) (gm κ) (kA κ) q1.1 q1.2 q3 e4) ck_RX11_145 im_X11_answer se_X11_answer sh_0 cx_11 ⟨rfl, rfl⟩ ⟨by decide, by decide⟩ rfl rfl (Nat.le_of_ble_eq_true rfl) dX11_place_42 _ rfl ?_
      have h := ok_s h
      exact j_iret dX11_place_45 rfl rfl h
    · refine j_aload_n 0 dX11_place_25 rfl rfl ?_
      refine j_iconst (4 : Int32) dX11_place_26 ki_4 ?_
      obtain ⟨q5, e6, h⟩ := ok_b h
      refine j_callV (As := [.int (4 : Int32)]) (st := []) [.int q5.1] (c_X11_deny (kl κ) (gm κ) (kA κ) (4 : Int32) w q5 e6) ck_RX11_114 im_X11_deny se_X11_deny sh_0 cx_11 ⟨rfl, rfl⟩ ⟨by decide, by decide⟩ rfl rfl (Nat.le_of_ble_eq_true rfl) dX11_place_27 _ rfl ?_
      refine j_goto 45 dX11_place_30 (by decide) ?_
      have h := ok_s h
      exact j_iret dX11_place_45 rfl rfl h
  · refine j_aload_n 0 dX11_place_7 rfl rfl ?_
    refine j_iconst (1 : Int32) dX11_place_8 ki_1 ?_
    obtain ⟨q7, e8, h⟩ := ok_b h
    refine j_callV (As := [.int (1 : Int32)]) (st := []) [.int q7.1] (c_X11_deny (kl κ) (gm κ) (kA κ) (1 : Int32) w q7 e8) ck_RX11_114 im_X11_deny se_X11_deny sh_0 cx_11 ⟨rfl, rfl⟩ ⟨by decide, by decide⟩ rfl rfl (Nat.le_of_ble_eq_true rfl) dX11_place_9 _ rfl ?_
    have h := ok_s h
    exact j_iret dX11_place_12 rfl rfl h
theorem c_X11_place (l : Launch) (γ : Gm) (A : Nat → Prop) (a1 : Int32) (w : Wd) (q : Int32 × Wd) (e : X11_place  a1 w = some q) : MetG l γ A yX11_place cX11_place 2 (some .int) (rmk 2 42) [.ref (ad (γ) 0), .int a1] w (some (.int q.1)) q.2 := by
  refine met_of pn_RX11 (Nat.le_of_ble_eq_true rfl) ?_
  intro κ hl hγ hA hρ
  subst hl; subst hγ; subst hA
  exact t_X11_place   a1 w ⟨q, e, pIw hρ rfl rfl⟩
theorem dX11_isWeek_0 : decode cX11_isWeek 0 = .ok (.iload_n 0, 1) := by decide +kernel
theorem dX11_isWeek_1 : decode cX11_isWeek 1 = .ok (.iconst 0, 1) := by decide +kernel
theorem dX11_isWeek_2 : decode cX11_isWeek 2 = .ok (.bipush 59, 2) := by decide +kernel
theorem dX11_isWeek_4 : decode cX11_isWeek 4 = .ok (.invokestatic 91, 3) := by decide +kernel
theorem dX11_isWeek_7 : decode cX11_isWeek 7 = .ok (.ireturn, 1) := by decide +kernel
noncomputable def X11_isWeekO (a0 : Int32) (w : Wd) : Option (Int32) :=
some (X11_within a0 (0 : Int32) (59 : Int32) w)
set_option maxRecDepth 20000 in
set_option maxHeartbeats 1000000 in
theorem t_X11_isWeek {κ : Kx} (a0 : Int32) (w : Wd) (h : ok (X11_isWeekO  a0 w) (PI κ w)) : J κ RX11 cX11_isWeek 1 (some .boolean) (rmk 1 22) 0 [(0, .int a0)] [] w := by
  unfold X11_isWeekO at h
  refine j_iload_n 0 dX11_isWeek_0 rfl rfl ?_
  refine j_iconst (0 : Int32) dX11_isWeek_1 ki_0 ?_
  refine j_bipush (59 : Int32) dX11_isWeek_2 kb_59 ?_
  refine j_callS (As := [.int a0, .int (0 : Int32), .int (59 : Int32)]) (st := []) [.int (X11_within a0 (0 : Int32) (59 : Int32) w)] (c_X11_within (kl κ) (gm κ) (kA κ) a0 (0 : Int32) (59 : Int32) w) ck_RX11_91 st_X11_within ⟨rfl, rfl⟩ ⟨by decide, by decide⟩ rfl rfl (Nat.le_of_ble_eq_true rfl) dX11_isWeek_4 _ rfl ?_
  have h := ok_s h
  exact j_iret dX11_isWeek_7 rfl (nz_X11_within _ _ _ _) h
noncomputable def X11_isWeek (a0 : Int32) (w : Wd) : Int32 := (X11_isWeekO  a0 w).getD 0
theorem X11_isWeek_eq (a0 : Int32) (w : Wd) : X11_isWeekO  a0 w = some (X11_isWeek  a0 w) := by
  unfold X11_isWeek X11_isWeekO
  repeat (first | rfl | split)
theorem nz_X11_isWeek (a0 : Int32) (w : Wd) : narrow .boolean (.int (X11_isWeek  a0 w)) = .int (X11_isWeek  a0 w) := by
  unfold X11_isWeek X11_isWeekO
  repeat (first | rfl | split | exact nz_X11_within _ _ _ _)
theorem c_X11_isWeek (l : Launch) (γ : Gm) (A : Nat → Prop) (a0 : Int32) (w : Wd) : MetG l γ A yX11_isWeek cX11_isWeek 1 (some .boolean) (rmk 1 22) [.int a0] w (some (.int (X11_isWeek  a0 w))) w := by
  refine met_of pn_RX11 (Nat.le_of_ble_eq_true rfl) ?_
  intro κ hl hγ hA hρ
  subst hl; subst hγ; subst hA
  exact t_X11_isWeek   a0 w ⟨_, X11_isWeek_eq  a0 w, pI hρ rfl rfl⟩
theorem dX11_isSpan_0 : decode cX11_isSpan 0 = .ok (.iload_n 0, 1) := by decide +kernel
theorem dX11_isSpan_1 : decode cX11_isSpan 1 = .ok (.invokestatic 168, 3) := by decide +kernel
theorem dX11_isSpan_4 : decode cX11_isSpan 4 = .ok (.ifCond .eq 19, 3) := by decide +kernel
theorem dX11_isSpan_7 : decode cX11_isSpan 7 = .ok (.iload_n 1, 1) := by decide +kernel
theorem dX11_isSpan_8 : decode cX11_isSpan 8 = .ok (.invokestatic 168, 3) := by decide +kernel
theorem dX11_isSpan_11 : decode cX11_isSpan 11 = .ok (.ifCond .eq 12, 3) := by decide +kernel
theorem dX11_isSpan_14 : decode cX11_isSpan 14 = .ok (.iload_n 0, 1) := by decide +kernel
theorem dX11_isSpan_15 : decode cX11_isSpan 15 = .ok (.iload_n 1, 1) := by decide +kernel
theorem dX11_isSpan_16 : decode cX11_isSpan 16 = .ok (.if_icmp .gt 7, 3) := by decide +kernel
theorem dX11_isSpan_19 : decode cX11_isSpan 19 = .ok (.iconst 1, 1) := by decide +kernel
theorem dX11_isSpan_20 : decode cX11_isSpan 20 = .ok (.goto 4, 3) := by decide +kernel
theorem dX11_isSpan_23 : decode cX11_isSpan 23 = .ok (.iconst 0, 1) := by decide +kernel
theorem dX11_isSpan_24 : decode cX11_isSpan 24 = .ok (.ireturn, 1) := by decide +kernel
noncomputable def X11_isSpanO (a0 : Int32) (a1 : Int32) (w : Wd) : Option (Int32) :=
(if (X11_isWeek a0 w) = 0 then
some (0 : Int32)
else
(if (X11_isWeek a1 w) = 0 then
some (0 : Int32)
else
(if a1 < a0 then
some (0 : Int32)
else
some (1 : Int32))))
set_option maxRecDepth 20000 in
set_option maxHeartbeats 1000000 in
theorem t_X11_isSpan {κ : Kx} (a0 : Int32) (a1 : Int32) (w : Wd) (h : ok (X11_isSpanO  a0 a1 w) (PI κ w)) : J κ RX11 cX11_isSpan 2 (some .boolean) (rmk 2 42) 0 [(0, .int a0), (1, .int a1)] [] w := by
  unfold X11_isSpanO at h
  refine j_iload_n 0 dX11_isSpan_0 rfl rfl ?_
  refine j_callS (As := [.int a0]) (st := []) [.int (X11_isWeek a0 w)] (c_X11_isWeek (kl κ) (gm κ) (kA κ) a0 w) ck_RX11_168 st_X11_isWeek ⟨rfl, rfl⟩ ⟨by decide, by decide⟩ rfl rfl (Nat.le_of_ble_eq_true rfl) dX11_isSpan_1 _ rfl ?_
  refine j_if_eq 23 dX11_isSpan_4 (by decide) h (fun h => ?_) (fun h => ?_)
  · refine j_iconst (0 : Int32) dX11_isSpan_23 ki_0 ?_
    have h := ok_s h
    exact j_iret dX11_isSpan_24 rfl (by decide) h
  · refine j_iload_n 1 dX11_isSpan_7 rfl rfl ?_
    refine j_callS (As := [.int a1]) (st := []) [.int (X11_isWeek a1 w)] (c_X11_isWeek (kl κ) (gm κ) (kA κ) a1 w) ck_RX11_168 st_X11_isWeek ⟨rfl, rfl⟩ ⟨by decide, by decide⟩ rfl rfl (Nat.le_of_ble_eq_true rfl) dX11_isSpan_8 _ rfl ?_
    refine j_if_eq 23 dX11_isSpan_11 (by decide) h (fun h => ?_) (fun h => ?_)
    · refine j_iconst (0 : Int32) dX11_isSpan_23 ki_0 ?_
      have h := ok_s h
      exact j_iret dX11_isSpan_24 rfl (by decide) h
    · refine j_iload_n 0 dX11_isSpan_14 rfl rfl ?_
      refine j_iload_n 1 dX11_isSpan_15 rfl rfl ?_
      refine j_ic_gt 23 dX11_isSpan_16 (by decide) h (fun h => ?_) (fun h => ?_)
      · refine j_iconst (0 : Int32) dX11_isSpan_23 ki_0 ?_
        have h := ok_s h
        exact j_iret dX11_isSpan_24 rfl (by decide) h
      · refine j_iconst (1 : Int32) dX11_isSpan_19 ki_1 ?_
        refine j_goto 24 dX11_isSpan_20 (by decide) ?_
        have h := ok_s h
        exact j_iret dX11_isSpan_24 rfl (by decide) h
noncomputable def X11_isSpan (a0 : Int32) (a1 : Int32) (w : Wd) : Int32 := (X11_isSpanO  a0 a1 w).getD 0
theorem X11_isSpan_eq (a0 : Int32) (a1 : Int32) (w : Wd) : X11_isSpanO  a0 a1 w = some (X11_isSpan  a0 a1 w) := by
  unfold X11_isSpan X11_isSpanO
  repeat (first | rfl | split)
theorem nz_X11_isSpan (a0 : Int32) (a1 : Int32) (w : Wd) : narrow .boolean (.int (X11_isSpan  a0 a1 w)) = .int (X11_isSpan  a0 a1 w) := by
  unfold X11_isSpan X11_isSpanO
  repeat (first | rfl | split | exact nz_X11_isWeek _ _)
theorem c_X11_isSpan (l : Launch) (γ : Gm) (A : Nat → Prop) (a0 : Int32) (a1 : Int32) (w : Wd) : MetG l γ A yX11_isSpan cX11_isSpan 2 (some .boolean) (rmk 2 42) [.int a0, .int a1] w (some (.int (X11_isSpan  a0 a1 w))) w := by
  refine met_of pn_RX11 (Nat.le_of_ble_eq_true rfl) ?_
  intro κ hl hγ hA hρ
  subst hl; subst hγ; subst hA
  exact t_X11_isSpan   a0 a1 w ⟨_, X11_isSpan_eq  a0 a1 w, pI hρ rfl rfl⟩
theorem dX11_way_0 : decode cX11_way 0 = .ok (.iload 4, 2) := by decide +kernel
theorem dX11_way_2 : decode cX11_way 2 = .ok (.iconst (-1), 1) := by decide +kernel
theorem dX11_way_3 : decode cX11_way 3 = .ok (.if_icmp .ne 13, 3) := by decide +kernel
theorem dX11_way_6 : decode cX11_way 6 = .ok (.iload 5, 2) := by decide +kernel
theorem dX11_way_8 : decode cX11_way 8 = .ok (.iconst (-1), 1) := by decide +kernel
theorem dX11_way_9 : decode cX11_way 9 = .ok (.if_icmp .ne 7, 3) := by decide +kernel
theorem dX11_way_12 : decode cX11_way 12 = .ok (.iconst 1, 1) := by decide +kernel
theorem dX11_way_13 : decode cX11_way 13 = .ok (.goto 4, 3) := by decide +kernel
theorem dX11_way_16 : decode cX11_way 16 = .ok (.iconst 0, 1) := by decide +kernel
theorem dX11_way_17 : decode cX11_way 17 = .ok (.istore 6, 2) := by decide +kernel
theorem dX11_way_19 : decode cX11_way 19 = .ok (.aload_n 0, 1) := by decide +kernel
theorem dX11_way_20 : decode cX11_way 20 = .ok (.getfield 19, 3) := by decide +kernel
theorem dX11_way_23 : decode cX11_way 23 = .ok (.iload_n 1, 1) := by decide +kernel
theorem dX11_way_24 : decode cX11_way 24 = .ok (.invokevirtual 148, 3) := by decide +kernel
theorem dX11_way_27 : decode cX11_way 27 = .ok (.ifCond .eq 44, 3) := by decide +kernel
theorem dX11_way_30 : decode cX11_way 30 = .ok (.aload_n 0, 1) := by decide +kernel
theorem dX11_way_31 : decode cX11_way 31 = .ok (.getfield 19, 3) := by decide +kernel
theorem dX11_way_34 : decode cX11_way 34 = .ok (.iload_n 2, 1) := by decide +kernel
theorem dX11_way_35 : decode cX11_way 35 = .ok (.invokevirtual 148, 3) := by decide +kernel
theorem dX11_way_38 : decode cX11_way 38 = .ok (.ifCond .eq 33, 3) := by decide +kernel
theorem dX11_way_41 : decode cX11_way 41 = .ok (.iload_n 1, 1) := by decide +kernel
theorem dX11_way_42 : decode cX11_way 42 = .ok (.iload_n 2, 1) := by decide +kernel
theorem dX11_way_43 : decode cX11_way 43 = .ok (.if_icmp .eq 28, 3) := by decide +kernel
theorem dX11_way_46 : decode cX11_way 46 = .ok (.iload_n 3, 1) := by decide +kernel
theorem dX11_way_47 : decode cX11_way 47 = .ok (.iconst 1, 1) := by decide +kernel
theorem dX11_way_48 : decode cX11_way 48 = .ok (.bipush 9, 2) := by decide +kernel
theorem dX11_way_50 : decode cX11_way 50 = .ok (.invokestatic 91, 3) := by decide +kernel
theorem dX11_way_53 : decode cX11_way 53 = .ok (.ifCond .eq 18, 3) := by decide +kernel
theorem dX11_way_56 : decode cX11_way 56 = .ok (.iload 6, 2) := by decide +kernel
theorem dX11_way_58 : decode cX11_way 58 = .ok (.ifCond .ne 19, 3) := by decide +kernel
theorem dX11_way_61 : decode cX11_way 61 = .ok (.iload 4, 2) := by decide +kernel
theorem dX11_way_63 : decode cX11_way 63 = .ok (.iload 5, 2) := by decide +kernel
theorem dX11_way_65 : decode cX11_way 65 = .ok (.invokestatic 151, 3) := by decide +kernel
theorem dX11_way_68 : decode cX11_way 68 = .ok (.ifCond .ne 9, 3) := by decide +kernel
theorem dX11_way_71 : decode cX11_way 71 = .ok (.aload_n 0, 1) := by decide +kernel
theorem dX11_way_72 : decode cX11_way 72 = .ok (.iconst 1, 1) := by decide +kernel
theorem dX11_way_73 : decode cX11_way 73 = .ok (.invokevirtual 114, 3) := by decide +kernel
theorem dX11_way_76 : decode cX11_way 76 = .ok (.ireturn, 1) := by decide +kernel
theorem dX11_way_77 : decode cX11_way 77 = .ok (.aload_n 0, 1) := by decide +kernel
theorem dX11_way_78 : decode cX11_way 78 = .ok (.getfield 19, 3) := by decide +kernel
theorem dX11_way_81 : decode cX11_way 81 = .ok (.getfield 154, 3) := by decide +kernel
theorem dX11_way_84 : decode cX11_way 84 = .ok (.bipush 30, 2) := by decide +kernel
theorem dX11_way_86 : decode cX11_way 86 = .ok (.if_icmp .lt 9, 3) := by decide +kernel
theorem dX11_way_89 : decode cX11_way 89 = .ok (.aload_n 0, 1) := by decide +kernel
theorem dX11_way_90 : decode cX11_way 90 = .ok (.iconst 4, 1) := by decide +kernel
theorem dX11_way_91 : decode cX11_way 91 = .ok (.invokevirtual 114, 3) := by decide +kernel
theorem dX11_way_94 : decode cX11_way 94 = .ok (.ireturn, 1) := by decide +kernel
theorem dX11_way_95 : decode cX11_way 95 = .ok (.aload_n 0, 1) := by decide +kernel
theorem dX11_way_96 : decode cX11_way 96 = .ok (.getfield 19, 3) := by decide +kernel
theorem dX11_way_99 : decode cX11_way 99 = .ok (.iload_n 1, 1) := by decide +kernel
theorem dX11_way_100 : decode cX11_way 100 = .ok (.iload_n 2, 1) := by decide +kernel
theorem dX11_way_101 : decode cX11_way 101 = .ok (.invokevirtual 157, 3) := by decide +kernel
theorem dX11_way_104 : decode cX11_way 104 = .ok (.ifCond .eq 10, 3) := by decide +kernel
theorem dX11_way_107 : decode cX11_way 107 = .ok (.aload_n 0, 1) := by decide +kernel
theorem dX11_way_108 : decode cX11_way 108 = .ok (.bipush 7, 2) := by decide +kernel
theorem dX11_way_110 : decode cX11_way 110 = .ok (.invokevirtual 114, 3) := by decide +kernel
theorem dX11_way_113 : decode cX11_way 113 = .ok (.ireturn, 1) := by decide +kernel
theorem dX11_way_114 : decode cX11_way 114 = .ok (.aload_n 0, 1) := by decide +kernel
theorem dX11_way_115 : decode cX11_way 115 = .ok (.getfield 58, 3) := by decide +kernel
theorem dX11_way_118 : decode cX11_way 118 = .ok (.iconst 0, 1) := by decide +kernel
theorem dX11_way_119 : decode cX11_way 119 = .ok (.invokevirtual 160, 3) := by decide +kernel
theorem dX11_way_122 : decode cX11_way 122 = .ok (.aload_n 0, 1) := by decide +kernel
theorem dX11_way_123 : decode cX11_way 123 = .ok (.aload_n 0, 1) := by decide +kernel
theorem dX11_way_124 : decode cX11_way 124 = .ok (.getfield 19, 3) := by decide +kernel
theorem dX11_way_127 : decode cX11_way 127 = .ok (.iload_n 1, 1) := by decide +kernel
theorem dX11_way_128 : decode cX11_way 128 = .ok (.iload_n 2, 1) := by decide +kernel
theorem dX11_way_129 : decode cX11_way 129 = .ok (.iload_n 3, 1) := by decide +kernel
theorem dX11_way_130 : decode cX11_way 130 = .ok (.iload 4, 2) := by decide +kernel
theorem dX11_way_132 : decode cX11_way 132 = .ok (.iload 5, 2) := by decide +kernel
theorem dX11_way_134 : decode cX11_way 134 = .ok (.invokevirtual 164, 3) := by decide +kernel
theorem dX11_way_137 : decode cX11_way 137 = .ok (.invokevirtual 145, 3) := by decide +kernel
theorem dX11_way_140 : decode cX11_way 140 = .ok (.ireturn, 1) := by decide +kernel
noncomputable def X11_way_j71 (w : Wd) : Option (Int32 × Wd) :=
(X11_deny (1 : Int32) w).bind fun q1 =>
some (q1.1, q1.2)
set_option maxRecDepth 20000 in
set_option maxHeartbeats 1000000 in
theorem t_X11_way_j71 {κ : Kx} (w : Wd) (h : ok (X11_way_j71  w) (PIw κ)) : J κ RX11 cX11_way 7 (some .int) (rmk 3 63) 71 [(0, .ref (ad (gm κ) 0))] [] w := by
  unfold X11_way_j71 at h
  refine j_aload_n 0 dX11_way_71 rfl rfl ?_
  refine j_iconst (1 : Int32) dX11_way_72 ki_1 ?_
  obtain ⟨q1, e2, h⟩ := ok_b h
  refine j_callV (As := [.int (1 : Int32)]) (st := []) [.int q1.1] (c_X11_deny (kl κ) (gm κ) (kA κ) (1 : Int32) w q1 e2) ck_RX11_114 im_X11_deny se_X11_deny sh_0 cx_11 ⟨rfl, rfl⟩ ⟨by decide, by decide⟩ rfl rfl (Nat.le_of_ble_eq_true rfl) dX11_way_73 _ rfl ?_
  have h := ok_s h
  exact j_iret dX11_way_76 rfl rfl h
noncomputable def X11_way_j77 (a1 : Int32) (a2 : Int32) (a3 : Int32) (a4 : Int32) (a5 : Int32) (w : Wd) : Option (Int32 × Wd) :=
(if (w.1 5 2) < (30 : Int32) then
(X2_areJoined a1 a2 w).bind fun q3 =>
(if q3 = 0 then
(X10_relive (0 : Int32) w).bind fun q5 =>
(X2_addWay a1 a2 a3 a4 a5 q5).bind fun q7 =>
(X11_answer q7.1 q7.2).bind fun q9 =>
some (q9.1, q9.2)
else
(X11_deny (7 : Int32) w).bind fun q11 =>
some (q11.1, q11.2))
else
(X11_deny (4 : Int32) w).bind fun q13 =>
some (q13.1, q13.2))
set_option maxRecDepth 20000 in
set_option maxHeartbeats 1000000 in
theorem t_X11_way_j77 {κ : Kx} (a1 : Int32) (a2 : Int32) (a3 : Int32) (a4 : Int32) (a5 : Int32) (w : Wd) (h : ok (X11_way_j77  a1 a2 a3 a4 a5 w) (PIw κ)) : J κ RX11 cX11_way 7 (some .int) (rmk 3 63) 77 [(0, .ref (ad (gm κ) 0)), (1, .int a1), (2, .int a2), (3, .int a3), (4, .int a4), (5, .int a5)] [] w := by
  unfold X11_way_j77 at h
  refine j_aload_n 0 dX11_way_77 rfl rfl ?_
  refine j_getA 5 fl_RX11_19 sh_0 fk_0_1 (by decide) dX11_way_78 ?_
  refine j_getI fl_RX11_154 sh_5 fk_5_2 dX11_way_81 ?_
  refine j_bipush (30 : Int32) dX11_way_84 kb_30 ?_
  refine j_ic_lt 95 dX11_way_86 (by decide) h (fun h => ?_) (fun h => ?_)
  · refine j_aload_n 0 dX11_way_95 rfl rfl ?_
    refine j_getA 5 fl_RX11_19 sh_0 fk_0_1 (by decide) dX11_way_96 ?_
    refine j_iload_n 1 dX11_way_99 rfl rfl ?_
    refine j_iload_n 2 dX11_way_100 rfl rfl ?_
    obtain ⟨q3, e4, h⟩ := ok_b h
    refine j_callV (As := [.int a1, .int a2]) (st := []) [.int q3] (c_X2_areJoined (kl κ) (gm κ) (kA κ) a1 a2 w q3 e4) ck_RX11_157 im_X2_areJoined se_X2_areJoined sh_5 cx_2 ⟨rfl, rfl⟩ ⟨by decide, by decide⟩ rfl rfl (Nat.le_of_ble_eq_true rfl) dX11_way_101 _ rfl ?_
    refine j_if_eq 114 dX11_way_104 (by decide) h (fun h => ?_) (fun h => ?_)
    · refine j_aload_n 0 dX11_way_114 rfl rfl ?_
      refine j_getA 73 fl_RX11_58 sh_0 fk_0_6 (by decide) dX11_way_115 ?_
      refine j_iconst (0 : Int32) dX11_way_118 ki_0 ?_
      obtain ⟨q5, e6, h⟩ := ok_b h
      refine j_callV (As := [.int (0 : Int32)]) (st := []) [] (c_X10_relive (kl κ) (gm κ) (kA κ) (0 : Int32) w q5 e6) ck_RX11_160 im_X10_relive se_X10_relive sh_73 cx_10 ⟨rfl, rfl⟩ ⟨by decide, by decide⟩ rfl rfl (Nat.le_of_ble_eq_true rfl) dX11_way_119 _ rfl ?_
      refine j_aload_n 0 dX11_way_122 rfl rfl ?_
      refine j_aload_n 0 dX11_way_123 rfl rfl ?_
      refine j_getA 5 fl_RX11_19 sh_0 fk_0_1 (by decide) dX11_way_124 ?_
      refine j_iload_n 1 dX11_way_127 rfl rfl ?_
      refine j_iload_n 2 dX11_way_128 rfl rfl ?_
      refine j_iload_n 3 dX11_way_129 rfl rfl ?_
      refine j_iload 4 dX11_way_130 rfl ?_
      refine j_iload 5 dX11_way_132 rfl ?_
      obtain ⟨q7, e8, h⟩ := ok_b h
      refine j_callV (As := [.int a1, .int a2, .int a3, .int a4, .int a5]) (st := [.ref (ad (gm κ) 0)]) [.int q7.1, .ref (ad (gm κ) 0)] (c_X2_addWay (kl κ) (gm κ) (kA κ) a1 a2 a3 a4 a5 q5 q7 e8) ck_RX11_164 im_X2_addWay se_X2_addWay sh_5 cx_2 ⟨rfl, rfl⟩ ⟨by decide, by decide⟩ rfl rfl (Nat.le_of_ble_eq_true rfl) dX11_way_134 _ rfl ?_
      obtain ⟨q9, e10, h⟩ := ok_b h
      refine j_callV (As := [.int q7.1]) (st := []) [.int q9.1] (c_X11_answer (kl κ) (gm κ) (kA κ) q7.1 q7.2 q9 e10) ck_RX11_145 im_X11_answer se_X11_answer sh_0 cx_11 ⟨rfl, rfl⟩ ⟨by decide, by decide⟩ rfl rfl (Nat.le_of_ble_eq_true rfl) dX11_way_137 _ rfl ?_
      have h := ok_s h
      exact j_iret dX11_way_140 rfl rfl h
    · refine j_aload_n 0 dX11_way_107 rfl rfl ?_
      refine j_bipush (7 : Int32) dX11_way_108 kb_7 ?_
      obtain ⟨q11, e12, h⟩ := ok_b h
      refine j_callV (As := [.int (7 : Int32)]) (st := []) [.int q11.1] (c_X11_deny (kl κ) (gm κ) (kA κ) (7 : Int32) w q11 e12) ck_RX11_114 im_X11_deny se_X11_deny sh_0 cx_11 ⟨rfl, rfl⟩ ⟨by decide, by decide⟩ rfl rfl (Nat.le_of_ble_eq_true rfl) dX11_way_110 _ rfl ?_
      have h := ok_s h
      exact j_iret dX11_way_113 rfl rfl h
  · refine j_aload_n 0 dX11_way_89 rfl rfl ?_
    refine j_iconst (4 : Int32) dX11_way_90 ki_4 ?_
    obtain ⟨q13, e14, h⟩ := ok_b h
    refine j_callV (As := [.int (4 : Int32)]) (st := []) [.int q13.1] (c_X11_deny (kl κ) (gm κ) (kA κ) (4 : Int32) w q13 e14) ck_RX11_114 im_X11_deny se_X11_deny sh_0 cx_11 ⟨rfl, rfl⟩ ⟨by decide, by decide⟩ rfl rfl (Nat.le_of_ble_eq_true rfl) dX11_way_91 _ rfl ?_
    have h := ok_s h
    exact j_iret dX11_way_94 rfl rfl h
noncomputable def X11_way_j17 (a1 : Int32) (a2 : Int32) (a3 : Int32) (a4 : Int32) (a5 : Int32) (s0 : Int32) (w : Wd) : Option (Int32 × Wd) :=
(if (X2_isPlace a1 w) = 0 then
X11_way_j71 w
else
(if (X2_isPlace a2 w) = 0 then
X11_way_j71 w
else
(if a1 = a2 then
X11_way_j71 w
else
(if (X11_within a3 (1 : Int32) (9 : Int32) w) = 0 then
X11_way_j71 w
else
(if s0 = 0 then
(if (X11_isSpan a4 a5 w) = 0 then
X11_way_j71 w
else
X11_way_j77 a1 a2 a3 a4 a5 w)
else
X11_way_j77 a1 a2 a3 a4 a5 w)))))
set_option maxRecDepth 20000 in
set_option maxHeartbeats 1000000 in
theorem t_X11_way_j17 {κ : Kx} (a1 : Int32) (a2 : Int32) (a3 : Int32) (a4 : Int32) (a5 : Int32) (s0 : Int32) (w : Wd) (h : ok (X11_way_j17  a1 a2 a3 a4 a5 s0 w) (PIw κ)) : J κ RX11 cX11_way 7 (some .int) (rmk 3 63) 17 [(0, .ref (ad (gm κ) 0)), (1, .int a1), (2, .int a2), (3, .int a3), (4, .int a4), (5, .int a5)] [.int s0] w := by
  unfold X11_way_j17 at h
  refine j_istore [(6, .int s0), (0, .ref (ad (gm κ) 0)), (1, .int a1), (2, .int a2), (3, .int a3), (4, .int a4), (5, .int a5)] dX11_way_17 (by decide) rfl ?_
  refine j_aload_n 1 dX11_way_19 rfl rfl ?_
  refine j_getA 5 fl_RX11_19 sh_0 fk_0_1 (by decide) dX11_way_20 ?_
  refine j_iload_n 2 dX11_way_23 rfl rfl ?_
  refine j_callV (As := [.int a1]) (st := []) [.int (X2_isPlace a1 w)] (c_X2_isPlace (kl κ) (gm κ) (kA κ) a1 w) ck_RX11_148 im_X2_isPlace se_X2_isPlace sh_5 cx_2 ⟨rfl, rfl⟩ ⟨by decide, by decide⟩ rfl rfl (Nat.le_of_ble_eq_true rfl) dX11_way_24 _ rfl ?_
  refine j_if_eq 71 dX11_way_27 (by decide) h (fun h => ?_) (fun h => ?_)
  · refine j_loc [(0, .ref (ad (gm κ) 0))] [1] rfl ?_
    exact t_X11_way_j71 w h
  · refine j_aload_n 1 dX11_way_30 rfl rfl ?_
    refine j_getA 5 fl_RX11_19 sh_0 fk_0_1 (by decide) dX11_way_31 ?_
    refine j_iload_n 3 dX11_way_34 rfl rfl ?_
    refine j_callV (As := [.int a2]) (st := []) [.int (X2_isPlace a2 w)] (c_X2_isPlace (kl κ) (gm κ) (kA κ) a2 w) ck_RX11_148 im_X2_isPlace se_X2_isPlace sh_5 cx_2 ⟨rfl, rfl⟩ ⟨by decide, by decide⟩ rfl rfl (Nat.le_of_ble_eq_true rfl) dX11_way_35 _ rfl ?_
    refine j_if_eq 71 dX11_way_38 (by decide) h (fun h => ?_) (fun h => ?_)
    · refine j_loc [(0, .ref (ad (gm κ) 0))] [1] rfl ?_
      exact t_X11_way_j71 w h
    · refine j_iload_n 2 dX11_way_41 rfl rfl ?_
      refine j_iload_n 3 dX11_way_42 rfl rfl ?_
      refine j_ic_eq 71 dX11_way_43 (by decide) h (fun h => ?_) (fun h => ?_)
      · refine j_loc [(0, .ref (ad (gm κ) 0))] [1] rfl ?_
        exact t_X11_way_j71 w h
      · refine j_iload_n 4 dX11_way_46 rfl rfl ?_
        refine j_iconst (1 : Int32) dX11_way_47 ki_1 ?_
        refine j_bipush (9 : Int32) dX11_way_48 kb_9 ?_
        refine j_callS (As := [.int a3, .int (1 : Int32), .int (9 : Int32)]) (st := []) [.int (X11_within a3 (1 : Int32) (9 : Int32) w)] (c_X11_within (kl κ) (gm κ) (kA κ) a3 (1 : Int32) (9 : Int32) w) ck_RX11_91 st_X11_within ⟨rfl, rfl⟩ ⟨by decide, by decide⟩ rfl rfl (Nat.le_of_ble_eq_true rfl) dX11_way_50 _ rfl ?_
        refine j_if_eq 71 dX11_way_53 (by decide) h (fun h => ?_) (fun h => ?_)
        · refine j_loc [(0, .ref (ad (gm κ) 0))] [1] rfl ?_
          exact t_X11_way_j71 w h
        · refine j_iload 0 dX11_way_56 rfl ?_
          refine j_if_ne 77 dX11_way_58 (by decide) h (fun h => ?_) (fun h => ?_)
          · refine j_loc [(0, .ref (ad (gm κ) 0)), (1, .int a1), (2, .int a2), (3, .int a3), (4, .int a4), (5, .int a5)] [1, 2, 3, 4, 5, 6] rfl ?_
            exact t_X11_way_j77 a1 a2 a3 a4 a5 w h
          · refine j_iload 5 dX11_way_61 rfl ?_
            refine j_iload 6 dX11_way_63 rfl ?_
            refine j_callS (As := [.int a4, .int a5]) (st := []) [.int (X11_isSpan a4 a5 w)] (c_X11_isSpan (kl κ) (gm κ) (kA κ) a4 a5 w) ck_RX11_151 st_X11_isSpan ⟨rfl, rfl⟩ ⟨by decide, by decide⟩ rfl rfl (Nat.le_of_ble_eq_true rfl) dX11_way_65 _ rfl ?_
            refine j_if_ne 77 dX11_way_68 (by decide) h (fun h => ?_) (fun h => ?_)
            · refine j_loc [(0, .ref (ad (gm κ) 0)), (1, .int a1), (2, .int a2), (3, .int a3), (4, .int a4), (5, .int a5)] [1, 2, 3, 4, 5, 6] rfl ?_
              exact t_X11_way_j77 a1 a2 a3 a4 a5 w h
            · refine j_loc [(0, .ref (ad (gm κ) 0))] [1] rfl ?_
              exact t_X11_way_j71 w h
noncomputable def X11_way_j16 (a1 : Int32) (a2 : Int32) (a3 : Int32) (a4 : Int32) (a5 : Int32) (w : Wd) : Option (Int32 × Wd) :=
X11_way_j17 a1 a2 a3 a4 a5 (0 : Int32) w
set_option maxRecDepth 20000 in
set_option maxHeartbeats 1000000 in
theorem t_X11_way_j16 {κ : Kx} (a1 : Int32) (a2 : Int32) (a3 : Int32) (a4 : Int32) (a5 : Int32) (w : Wd) (h : ok (X11_way_j16  a1 a2 a3 a4 a5 w) (PIw κ)) : J κ RX11 cX11_way 7 (some .int) (rmk 3 63) 16 [(0, .ref (ad (gm κ) 0)), (1, .int a1), (2, .int a2), (3, .int a3), (4, .int a4), (5, .int a5)] [] w := by
  unfold X11_way_j16 at h
  refine j_iconst (0 : Int32) dX11_way_16 ki_0 ?_
  refine j_loc [(0, .ref (ad (gm κ) 0)), (1, .int a1), (2, .int a2), (3, .int a3), (4, .int a4), (5, .int a5)] [0, 1, 2, 3, 4, 5] rfl ?_
  exact t_X11_way_j17 a1 a2 a3 a4 a5 (0 : Int32) w h
noncomputable def X11_way (a1 : Int32) (a2 : Int32) (a3 : Int32) (a4 : Int32) (a5 : Int32) (w : Wd) : Option (Int32 × Wd) :=
(if a4 = (-1 : Int32) then
(if a5 = (-1 : Int32) then
X11_way_j17 a1 a2 a3 a4 a5 (1 : Int32) w
else
X11_way_j16 a1 a2 a3 a4 a5 w)
else
X11_way_j16 a1 a2 a3 a4 a5 w)
set_option maxRecDepth 20000 in
set_option maxHeartbeats 1000000 in
theorem t_X11_way {κ : Kx} (a1 : Int32) (a2 : Int32) (a3 : Int32) (a4 : Int32) (a5 : Int32) (w : Wd) (h : ok (X11_way  a1 a2 a3 a4 a5 w) (PIw κ)) : J κ RX11 cX11_way 7 (some .int) (rmk 3 63) 0 [(0, .ref (ad (gm κ) 0)), (1, .int a1), (2, .int a2), (3, .int a3), (4, .int a4), (5, .int a5)] [] w := by
  unfold X11_way at h
  refine j_iload 4 dX11_way_0 rfl ?_
  refine j_iconst (-1 : Int32) dX11_way_2 ki_m1 ?_
  refine j_ic_ne 16 dX11_way_3 (by decide) h (fun h => ?_) (fun h => ?_)
  · refine j_loc [(0, .ref (ad (gm κ) 0)), (1, .int a1), (2, .int a2), (3, .int a3), (4, .int a4), (5, .int a5)] [0, 1, 2, 3, 4, 5] rfl ?_
    exact t_X11_way_j16 a1 a2 a3 a4 a5 w h
  · refine j_iload 5 dX11_way_6 rfl ?_
    refine j_iconst (-1 : Int32) dX11_way_8 ki_m1 ?_
    refine j_ic_ne 16 dX11_way_9 (by decide) h (fun h => ?_) (fun h => ?_)
    · refine j_loc [(0, .ref (ad (gm κ) 0)), (1, .int a1), (2, .int a2), (3, .int a3), (4, .int a4), (5, .int a5)] [0, 1, 2, 3, 4, 5] rfl ?_
      exact t_X11_way_j16 a1 a2 a3 a4 a5 w h
    · refine j_iconst (1 : Int32) dX11_way_12 ki_1 ?_
      refine j_goto 17 dX11_way_13 (by decide) ?_
      refine j_loc [(0, .ref (ad (gm κ) 0)), (1, .int a1), (2, .int a2), (3, .int a3), (4, .int a4), (5, .int a5)] [0, 1, 2, 3, 4, 5] rfl ?_
      exact t_X11_way_j17 a1 a2 a3 a4 a5 (1 : Int32) w h
theorem c_X11_way (l : Launch) (γ : Gm) (A : Nat → Prop) (a1 : Int32) (a2 : Int32) (a3 : Int32) (a4 : Int32) (a5 : Int32) (w : Wd) (q : Int32 × Wd) (e : X11_way  a1 a2 a3 a4 a5 w = some q) : MetG l γ A yX11_way cX11_way 7 (some .int) (rmk 3 63) [.ref (ad (γ) 0), .int a1, .int a2, .int a3, .int a4, .int a5] w (some (.int q.1)) q.2 := by
  refine met_of pn_RX11 (Nat.le_of_ble_eq_true rfl) ?_
  intro κ hl hγ hA hρ
  subst hl; subst hγ; subst hA
  exact t_X11_way   a1 a2 a3 a4 a5 w ⟨q, e, pIw hρ rfl rfl⟩
theorem dX11_answerOr_0 : decode cX11_answerOr 0 = .ok (.iload_n 2, 1) := by decide +kernel
theorem dX11_answerOr_1 : decode cX11_answerOr 1 = .ok (.iconst (-1), 1) := by decide +kernel
theorem dX11_answerOr_2 : decode cX11_answerOr 2 = .ok (.if_icmp .ne 11, 3) := by decide +kernel
theorem dX11_answerOr_5 : decode cX11_answerOr 5 = .ok (.aload_n 0, 1) := by decide +kernel
theorem dX11_answerOr_6 : decode cX11_answerOr 6 = .ok (.iload_n 1, 1) := by decide +kernel
theorem dX11_answerOr_7 : decode cX11_answerOr 7 = .ok (.invokevirtual 114, 3) := by decide +kernel
theorem dX11_answerOr_10 : decode cX11_answerOr 10 = .ok (.goto 8, 3) := by decide +kernel
theorem dX11_answerOr_13 : decode cX11_answerOr 13 = .ok (.aload_n 0, 1) := by decide +kernel
theorem dX11_answerOr_14 : decode cX11_answerOr 14 = .ok (.iload_n 2, 1) := by decide +kernel
theorem dX11_answerOr_15 : decode cX11_answerOr 15 = .ok (.invokevirtual 145, 3) := by decide +kernel
theorem dX11_answerOr_18 : decode cX11_answerOr 18 = .ok (.ireturn, 1) := by decide +kernel
noncomputable def X11_answerOr (a1 : Int32) (a2 : Int32) (w : Wd) : Option (Int32 × Wd) :=
(if a2 = (-1 : Int32) then
(X11_deny a1 w).bind fun q3 =>
some (q3.1, q3.2)
else
(X11_answer a2 w).bind fun q1 =>
some (q1.1, q1.2))
set_option maxRecDepth 20000 in
set_option maxHeartbeats 1000000 in
theorem t_X11_answerOr {κ : Kx} (a1 : Int32) (a2 : Int32) (w : Wd) (h : ok (X11_answerOr  a1 a2 w) (PIw κ)) : J κ RX11 cX11_answerOr 3 (some .int) (rmk 1 21) 0 [(0, .ref (ad (gm κ) 0)), (1, .int a1), (2, .int a2)] [] w := by
  unfold X11_answerOr at h
  refine j_iload_n 2 dX11_answerOr_0 rfl rfl ?_
  refine j_iconst (-1 : Int32) dX11_answerOr_1 ki_m1 ?_
  refine j_ic_ne 13 dX11_answerOr_2 (by decide) h (fun h => ?_) (fun h => ?_)
  · refine j_aload_n 0 dX11_answerOr_13 rfl rfl ?_
    refine j_iload_n 2 dX11_answerOr_14 rfl rfl ?_
    obtain ⟨q1, e2, h⟩ := ok_b h
    refine j_callV (As := [.int a2]) (st := []) [.int q1.1] (c_X11_answer (kl κ) (gm κ) (kA κ) a2 w q1 e2) ck_RX11_145 im_X11_answer se_X11_answer sh_0 cx_11 ⟨rfl, rfl⟩ ⟨by decide, by decide⟩ rfl rfl (Nat.le_of_ble_eq_true rfl) dX11_answerOr_15 _ rfl ?_
    have h := ok_s h
    exact j_iret dX11_answerOr_18 rfl rfl h
  · refine j_aload_n 0 dX11_answerOr_5 rfl rfl ?_
    refine j_iload_n 1 dX11_answerOr_6 rfl rfl ?_
    obtain ⟨q3, e4, h⟩ := ok_b h
    refine j_callV (As := [.int a1]) (st := []) [.int q3.1] (c_X11_deny (kl κ) (gm κ) (kA κ) a1 w q3 e4) ck_RX11_114 im_X11_deny se_X11_deny sh_0 cx_11 ⟨rfl, rfl⟩ ⟨by decide, by decide⟩ rfl rfl (Nat.le_of_ble_eq_true rfl) dX11_answerOr_7 _ rfl ?_
    refine j_goto 18 dX11_answerOr_10 (by decide) ?_
    have h := ok_s h
    exact j_iret dX11_answerOr_18 rfl rfl h
theorem c_X11_answerOr (l : Launch) (γ : Gm) (A : Nat → Prop) (a1 : Int32) (a2 : Int32) (w : Wd) (q : Int32 × Wd) (e : X11_answerOr  a1 a2 w = some q) : MetG l γ A yX11_answerOr cX11_answerOr 3 (some .int) (rmk 1 21) [.ref (ad (γ) 0), .int a1, .int a2] w (some (.int q.1)) q.2 := by
  refine met_of pn_RX11 (Nat.le_of_ble_eq_true rfl) ?_
  intro κ hl hγ hA hρ
  subst hl; subst hγ; subst hA
  exact t_X11_answerOr   a1 a2 w ⟨q, e, pIw hρ rfl rfl⟩
theorem dX11_arrival_0 : decode cX11_arrival 0 = .ok (.aload_n 0, 1) := by decide +kernel
theorem dX11_arrival_1 : decode cX11_arrival 1 = .ok (.getfield 19, 3) := by decide +kernel
theorem dX11_arrival_4 : decode cX11_arrival 4 = .ok (.iload_n 1, 1) := by decide +kernel
theorem dX11_arrival_5 : decode cX11_arrival 5 = .ok (.invokevirtual 148, 3) := by decide +kernel
theorem dX11_arrival_8 : decode cX11_arrival 8 = .ok (.ifCond .eq 21, 3) := by decide +kernel
theorem dX11_arrival_11 : decode cX11_arrival 11 = .ok (.aload_n 0, 1) := by decide +kernel
theorem dX11_arrival_12 : decode cX11_arrival 12 = .ok (.getfield 19, 3) := by decide +kernel
theorem dX11_arrival_15 : decode cX11_arrival 15 = .ok (.iload_n 2, 1) := by decide +kernel
theorem dX11_arrival_16 : decode cX11_arrival 16 = .ok (.invokevirtual 148, 3) := by decide +kernel
theorem dX11_arrival_19 : decode cX11_arrival 19 = .ok (.ifCond .eq 10, 3) := by decide +kernel
theorem dX11_arrival_22 : decode cX11_arrival 22 = .ok (.iload_n 3, 1) := by decide +kernel
theorem dX11_arrival_23 : decode cX11_arrival 23 = .ok (.invokestatic 168, 3) := by decide +kernel
theorem dX11_arrival_26 : decode cX11_arrival 26 = .ok (.ifCond .ne 9, 3) := by decide +kernel
theorem dX11_arrival_29 : decode cX11_arrival 29 = .ok (.aload_n 0, 1) := by decide +kernel
theorem dX11_arrival_30 : decode cX11_arrival 30 = .ok (.iconst 1, 1) := by decide +kernel
theorem dX11_arrival_31 : decode cX11_arrival 31 = .ok (.invokevirtual 114, 3) := by decide +kernel
theorem dX11_arrival_34 : decode cX11_arrival 34 = .ok (.ireturn, 1) := by decide +kernel
theorem dX11_arrival_35 : decode cX11_arrival 35 = .ok (.aload_n 0, 1) := by decide +kernel
theorem dX11_arrival_36 : decode cX11_arrival 36 = .ok (.getfield 19, 3) := by decide +kernel
theorem dX11_arrival_39 : decode cX11_arrival 39 = .ok (.iload_n 1, 1) := by decide +kernel
theorem dX11_arrival_40 : decode cX11_arrival 40 = .ok (.iload_n 3, 1) := by decide +kernel
theorem dX11_arrival_41 : decode cX11_arrival 41 = .ok (.invokevirtual 171, 3) := by decide +kernel
theorem dX11_arrival_44 : decode cX11_arrival 44 = .ok (.aload_n 0, 1) := by decide +kernel
theorem dX11_arrival_45 : decode cX11_arrival 45 = .ok (.bipush 6, 2) := by decide +kernel
theorem dX11_arrival_47 : decode cX11_arrival 47 = .ok (.aload_n 0, 1) := by decide +kernel
theorem dX11_arrival_48 : decode cX11_arrival 48 = .ok (.getfield 19, 3) := by decide +kernel
theorem dX11_arrival_51 : decode cX11_arrival 51 = .ok (.iload_n 2, 1) := by decide +kernel
theorem dX11_arrival_52 : decode cX11_arrival 52 = .ok (.invokevirtual 175, 3) := by decide +kernel
theorem dX11_arrival_55 : decode cX11_arrival 55 = .ok (.invokevirtual 178, 3) := by decide +kernel
theorem dX11_arrival_58 : decode cX11_arrival 58 = .ok (.ireturn, 1) := by decide +kernel
noncomputable def X11_arrival_j29 (w : Wd) : Option (Int32 × Wd) :=
(X11_deny (1 : Int32) w).bind fun q1 =>
some (q1.1, q1.2)
set_option maxRecDepth 20000 in
set_option maxHeartbeats 1000000 in
theorem t_X11_arrival_j29 {κ : Kx} (w : Wd) (h : ok (X11_arrival_j29  w) (PIw κ)) : J κ RX11 cX11_arrival 4 (some .int) (rmk 3 72) 29 [(0, .ref (ad (gm κ) 0))] [] w := by
  unfold X11_arrival_j29 at h
  refine j_aload_n 0 dX11_arrival_29 rfl rfl ?_
  refine j_iconst (1 : Int32) dX11_arrival_30 ki_1 ?_
  obtain ⟨q1, e2, h⟩ := ok_b h
  refine j_callV (As := [.int (1 : Int32)]) (st := []) [.int q1.1] (c_X11_deny (kl κ) (gm κ) (kA κ) (1 : Int32) w q1 e2) ck_RX11_114 im_X11_deny se_X11_deny sh_0 cx_11 ⟨rfl, rfl⟩ ⟨by decide, by decide⟩ rfl rfl (Nat.le_of_ble_eq_true rfl) dX11_arrival_31 _ rfl ?_
  have h := ok_s h
  exact j_iret dX11_arrival_34 rfl rfl h
noncomputable def X11_arrival (a1 : Int32) (a2 : Int32) (a3 : Int32) (w : Wd) : Option (Int32 × Wd) :=
(if (X2_isPlace a1 w) = 0 then
X11_arrival_j29 w
else
(if (X2_isPlace a2 w) = 0 then
X11_arrival_j29 w
else
(if (X11_isWeek a3 w) = 0 then
X11_arrival_j29 w
else
(X2_travel a1 a3 w).bind fun q3 =>
(X2_reached a2 q3).bind fun q5 =>
(X11_answerOr (6 : Int32) q5 q3).bind fun q7 =>
some (q7.1, q7.2))))
set_option maxRecDepth 20000 in
set_option maxHeartbeats 1000000 in
theorem t_X11_arrival {κ : Kx} (a1 : Int32) (a2 : Int32) (a3 : Int32) (w : Wd) (h : ok (X11_arrival  a1 a2 a3 w) (PIw κ)) : J κ RX11 cX11_arrival 4 (some .int) (rmk 3 72) 0 [(0, .ref (ad (gm κ) 0)), (1, .int a1), (2, .int a2), (3, .int a3)] [] w := by
  unfold X11_arrival at h
  refine j_aload_n 0 dX11_arrival_0 rfl rfl ?_
  refine j_getA 5 fl_RX11_19 sh_0 fk_0_1 (by decide) dX11_arrival_1 ?_
  refine j_iload_n 1 dX11_arrival_4 rfl rfl ?_
  refine j_callV (As := [.int a1]) (st := []) [.int (X2_isPlace a1 w)] (c_X2_isPlace (kl κ) (gm κ) (kA κ) a1 w) ck_RX11_148 im_X2_isPlace se_X2_isPlace sh_5 cx_2 ⟨rfl, rfl⟩ ⟨by decide, by decide⟩ rfl rfl (Nat.le_of_ble_eq_true rfl) dX11_arrival_5 _ rfl ?_
  refine j_if_eq 29 dX11_arrival_8 (by decide) h (fun h => ?_) (fun h => ?_)
  · refine j_loc [(0, .ref (ad (gm κ) 0))] [0] rfl ?_
    exact t_X11_arrival_j29 w h
  · refine j_aload_n 0 dX11_arrival_11 rfl rfl ?_
    refine j_getA 5 fl_RX11_19 sh_0 fk_0_1 (by decide) dX11_arrival_12 ?_
    refine j_iload_n 2 dX11_arrival_15 rfl rfl ?_
    refine j_callV (As := [.int a2]) (st := []) [.int (X2_isPlace a2 w)] (c_X2_isPlace (kl κ) (gm κ) (kA κ) a2 w) ck_RX11_148 im_X2_isPlace se_X2_isPlace sh_5 cx_2 ⟨rfl, rfl⟩ ⟨by decide, by decide⟩ rfl rfl (Nat.le_of_ble_eq_true rfl) dX11_arrival_16 _ rfl ?_
    refine j_if_eq 29 dX11_arrival_19 (by decide) h (fun h => ?_) (fun h => ?_)
    · refine j_loc [(0, .ref (ad (gm κ) 0))] [0] rfl ?_
      exact t_X11_arrival_j29 w h
    · refine j_iload_n 3 dX11_arrival_22 rfl rfl ?_
      refine j_callS (As := [.int a3]) (st := []) [.int (X11_isWeek a3 w)] (c_X11_isWeek (kl κ) (gm κ) (kA κ) a3 w) ck_RX11_168 st_X11_isWeek ⟨rfl, rfl⟩ ⟨by decide, by decide⟩ rfl rfl (Nat.le_of_ble_eq_true rfl) dX11_arrival_23 _ rfl ?_
      refine j_if_ne 35 dX11_arrival_26 (by decide) h (fun h => ?_) (fun h => ?_)
      · refine j_aload_n 0 dX11_arrival_35 rfl rfl ?_
        refine j_getA 5 fl_RX11_19 sh_0 fk_0_1 (by decide) dX11_arrival_36 ?_
        refine j_iload_n 1 dX11_arrival_39 rfl rfl ?_
        refine j_iload_n 3 dX11_arrival_40 rfl rfl ?_
        obtain ⟨q3, e4, h⟩ := ok_b h
        refine j_callV (As := [.int a1, .int a3]) (st := []) [] (c_X2_travel (kl κ) (gm κ) (kA κ) a1 a3 w q3 e4) ck_RX11_171 im_X2_travel se_X2_travel sh_5 cx_2 ⟨rfl, rfl⟩ ⟨by decide, by decide⟩ rfl rfl (Nat.le_of_ble_eq_true rfl) dX11_arrival_41 _ rfl ?_
        refine j_aload_n 0 dX11_arrival_44 rfl rfl ?_
        refine j_bipush (6 : Int32) dX11_arrival_45 kb_6 ?_
        refine j_aload_n 0 dX11_arrival_47 rfl rfl ?_
        refine j_getA 5 fl_RX11_19 sh_0 fk_0_1 (by decide) dX11_arrival_48 ?_
        refine j_iload_n 2 dX11_arrival_51 rfl rfl ?_
        obtain ⟨q5, e6, h⟩ := ok_b h
        refine j_callV (As := [.int a2]) (st := [.int (6 : Int32), .ref (ad (gm κ) 0)]) [.int q5, .int (6 : Int32), .ref (ad (gm κ) 0)] (c_X2_reached (kl κ) (gm κ) (kA κ) a2 q3 q5 e6) ck_RX11_175 im_X2_reached se_X2_reached sh_5 cx_2 ⟨rfl, rfl⟩ ⟨by decide, by decide⟩ rfl rfl (Nat.le_of_ble_eq_true rfl) dX11_arrival_52 _ rfl ?_
        obtain ⟨q7, e8, h⟩ := ok_b h
        refine j_callV (As := [.int (6 : Int32), .int q5]) (st := []) [.int q7.1] (c_X11_answerOr (kl κ) (gm κ) (kA κ) (6 : Int32) q5 q3 q7 e8) ck_RX11_178 im_X11_answerOr se_X11_answerOr sh_0 cx_11 ⟨rfl, rfl⟩ ⟨by decide, by decide⟩ rfl rfl (Nat.le_of_ble_eq_true rfl) dX11_arrival_55 _ rfl ?_
        have h := ok_s h
        exact j_iret dX11_arrival_58 rfl rfl h
      · refine j_loc [(0, .ref (ad (gm κ) 0))] [0] rfl ?_
        exact t_X11_arrival_j29 w h
theorem c_X11_arrival (l : Launch) (γ : Gm) (A : Nat → Prop) (a1 : Int32) (a2 : Int32) (a3 : Int32) (w : Wd) (q : Int32 × Wd) (e : X11_arrival  a1 a2 a3 w = some q) : MetG l γ A yX11_arrival cX11_arrival 4 (some .int) (rmk 3 72) [.ref (ad (γ) 0), .int a1, .int a2, .int a3] w (some (.int q.1)) q.2 := by
  refine met_of pn_RX11 (Nat.le_of_ble_eq_true rfl) ?_
  intro κ hl hγ hA hρ
  subst hl; subst hγ; subst hA
  exact t_X11_arrival   a1 a2 a3 w ⟨q, e, pIw hρ rfl rfl⟩
theorem dX11_learner_0 : decode cX11_learner 0 = .ok (.aload_n 0, 1) := by decide +kernel
theorem dX11_learner_1 : decode cX11_learner 1 = .ok (.getfield 19, 3) := by decide +kernel
theorem dX11_learner_4 : decode cX11_learner 4 = .ok (.iload_n 1, 1) := by decide +kernel
theorem dX11_learner_5 : decode cX11_learner 5 = .ok (.invokevirtual 148, 3) := by decide +kernel
theorem dX11_learner_8 : decode cX11_learner 8 = .ok (.ifCond .eq 22, 3) := by decide +kernel
theorem dX11_learner_11 : decode cX11_learner 11 = .ok (.iload_n 2, 1) := by decide +kernel
theorem dX11_learner_12 : decode cX11_learner 12 = .ok (.iconst 5, 1) := by decide +kernel
theorem dX11_learner_13 : decode cX11_learner 13 = .ok (.bipush 99, 2) := by decide +kernel
theorem dX11_learner_15 : decode cX11_learner 15 = .ok (.invokestatic 91, 3) := by decide +kernel
theorem dX11_learner_18 : decode cX11_learner 18 = .ok (.ifCond .eq 12, 3) := by decide +kernel
theorem dX11_learner_21 : decode cX11_learner 21 = .ok (.iload_n 3, 1) := by decide +kernel
theorem dX11_learner_22 : decode cX11_learner 22 = .ok (.iconst 0, 1) := by decide +kernel
theorem dX11_learner_23 : decode cX11_learner 23 = .ok (.iconst 4, 1) := by decide +kernel
theorem dX11_learner_24 : decode cX11_learner 24 = .ok (.invokestatic 91, 3) := by decide +kernel
theorem dX11_learner_27 : decode cX11_learner 27 = .ok (.ifCond .ne 9, 3) := by decide +kernel
theorem dX11_learner_30 : decode cX11_learner 30 = .ok (.aload_n 0, 1) := by decide +kernel
theorem dX11_learner_31 : decode cX11_learner 31 = .ok (.iconst 1, 1) := by decide +kernel
theorem dX11_learner_32 : decode cX11_learner 32 = .ok (.invokevirtual 114, 3) := by decide +kernel
theorem dX11_learner_35 : decode cX11_learner 35 = .ok (.ireturn, 1) := by decide +kernel
theorem dX11_learner_36 : decode cX11_learner 36 = .ok (.aload_n 0, 1) := by decide +kernel
theorem dX11_learner_37 : decode cX11_learner 37 = .ok (.getfield 19, 3) := by decide +kernel
theorem dX11_learner_40 : decode cX11_learner 40 = .ok (.getfield 181, 3) := by decide +kernel
theorem dX11_learner_43 : decode cX11_learner 43 = .ok (.bipush 40, 2) := by decide +kernel
theorem dX11_learner_45 : decode cX11_learner 45 = .ok (.if_icmp .lt 9, 3) := by decide +kernel
theorem dX11_learner_48 : decode cX11_learner 48 = .ok (.aload_n 0, 1) := by decide +kernel
theorem dX11_learner_49 : decode cX11_learner 49 = .ok (.iconst 4, 1) := by decide +kernel
theorem dX11_learner_50 : decode cX11_learner 50 = .ok (.invokevirtual 114, 3) := by decide +kernel
theorem dX11_learner_53 : decode cX11_learner 53 = .ok (.ireturn, 1) := by decide +kernel
theorem dX11_learner_54 : decode cX11_learner 54 = .ok (.aload_n 0, 1) := by decide +kernel
theorem dX11_learner_55 : decode cX11_learner 55 = .ok (.getfield 58, 3) := by decide +kernel
theorem dX11_learner_58 : decode cX11_learner 58 = .ok (.iconst 0, 1) := by decide +kernel
theorem dX11_learner_59 : decode cX11_learner 59 = .ok (.invokevirtual 160, 3) := by decide +kernel
theorem dX11_learner_62 : decode cX11_learner 62 = .ok (.aload_n 0, 1) := by decide +kernel
theorem dX11_learner_63 : decode cX11_learner 63 = .ok (.aload_n 0, 1) := by decide +kernel
theorem dX11_learner_64 : decode cX11_learner 64 = .ok (.getfield 19, 3) := by decide +kernel
theorem dX11_learner_67 : decode cX11_learner 67 = .ok (.iload_n 1, 1) := by decide +kernel
theorem dX11_learner_68 : decode cX11_learner 68 = .ok (.iload_n 2, 1) := by decide +kernel
theorem dX11_learner_69 : decode cX11_learner 69 = .ok (.iload_n 3, 1) := by decide +kernel
theorem dX11_learner_70 : decode cX11_learner 70 = .ok (.invokevirtual 184, 3) := by decide +kernel
theorem dX11_learner_73 : decode cX11_learner 73 = .ok (.invokevirtual 145, 3) := by decide +kernel
theorem dX11_learner_76 : decode cX11_learner 76 = .ok (.ireturn, 1) := by decide +kernel
noncomputable def X11_learner_j30 (w : Wd) : Option (Int32 × Wd) :=
(X11_deny (1 : Int32) w).bind fun q1 =>
some (q1.1, q1.2)
set_option maxRecDepth 20000 in
set_option maxHeartbeats 1000000 in
theorem t_X11_learner_j30 {κ : Kx} (w : Wd) (h : ok (X11_learner_j30  w) (PIw κ)) : J κ RX11 cX11_learner 4 (some .int) (rmk 2 44) 30 [(0, .ref (ad (gm κ) 0))] [] w := by
  unfold X11_learner_j30 at h
  refine j_aload_n 0 dX11_learner_30 rfl rfl ?_
  refine j_iconst (1 : Int32) dX11_learner_31 ki_1 ?_
  obtain ⟨q1, e2, h⟩ := ok_b h
  refine j_callV (As := [.int (1 : Int32)]) (st := []) [.int q1.1] (c_X11_deny (kl κ) (gm κ) (kA κ) (1 : Int32) w q1 e2) ck_RX11_114 im_X11_deny se_X11_deny sh_0 cx_11 ⟨rfl, rfl⟩ ⟨by decide, by decide⟩ rfl rfl (Nat.le_of_ble_eq_true rfl) dX11_learner_32 _ rfl ?_
  have h := ok_s h
  exact j_iret dX11_learner_35 rfl rfl h
noncomputable def X11_learner (a1 : Int32) (a2 : Int32) (a3 : Int32) (w : Wd) : Option (Int32 × Wd) :=
(if (X2_isPlace a1 w) = 0 then
X11_learner_j30 w
else
(if (X11_within a2 (5 : Int32) (99 : Int32) w) = 0 then
X11_learner_j30 w
else
(if (X11_within a3 (0 : Int32) (4 : Int32) w) = 0 then
X11_learner_j30 w
else
(if (w.1 5 8) < (40 : Int32) then
(X10_relive (0 : Int32) w).bind fun q3 =>
(X2_addLearner a1 a2 a3 q3).bind fun q5 =>
(X11_answer q5.1 q5.2).bind fun q7 =>
some (q7.1, q7.2)
else
(X11_deny (4 : Int32) w).bind fun q9 =>
some (q9.1, q9.2)))))
set_option maxRecDepth 20000 in
set_option maxHeartbeats 1000000 in
theorem t_X11_learner {κ : Kx} (a1 : Int32) (a2 : Int32) (a3 : Int32) (w : Wd) (h : ok (X11_learner  a1 a2 a3 w) (PIw κ)) : J κ RX11 cX11_learner 4 (some .int) (rmk 2 44) 0 [(0, .ref (ad (gm κ) 0)), (1, .int a1), (2, .int a2), (3, .int a3)] [] w := by
  unfold X11_learner at h
  refine j_aload_n 0 dX11_learner_0 rfl rfl ?_
  refine j_getA 5 fl_RX11_19 sh_0 fk_0_1 (by decide) dX11_learner_1 ?_
  refine j_iload_n 1 dX11_learner_4 rfl rfl ?_
  refine j_callV (As := [.int a1]) (st := []) [.int (X2_isPlace a1 w)] (c_X2_isPlace (kl κ) (gm κ) (kA κ) a1 w) ck_RX11_148 im_X2_isPlace se_X2_isPlace sh_5 cx_2 ⟨rfl, rfl⟩ ⟨by decide, by decide⟩ rfl rfl (Nat.le_of_ble_eq_true rfl) dX11_learner_5 _ rfl ?_
  refine j_if_eq 30 dX11_learner_8 (by decide) h (fun h => ?_) (fun h => ?_)
  · refine j_loc [(0, .ref (ad (gm κ) 0))] [0] rfl ?_
    exact t_X11_learner_j30 w h
  · refine j_iload_n 2 dX11_learner_11 rfl rfl ?_
    refine j_iconst (5 : Int32) dX11_learner_12 ki_5 ?_
    refine j_bipush (99 : Int32) dX11_learner_13 kb_99 ?_
    refine j_callS (As := [.int a2, .int (5 : Int32), .int (99 : Int32)]) (st := []) [.int (X11_within a2 (5 : Int32) (99 : Int32) w)] (c_X11_within (kl κ) (gm κ) (kA κ) a2 (5 : Int32) (99 : Int32) w) ck_RX11_91 st_X11_within ⟨rfl, rfl⟩ ⟨by decide, by decide⟩ rfl rfl (Nat.le_of_ble_eq_true rfl) dX11_learner_15 _ rfl ?_
    refine j_if_eq 30 dX11_learner_18 (by decide) h (fun h => ?_) (fun h => ?_)
    · refine j_loc [(0, .ref (ad (gm κ) 0))] [0] rfl ?_
      exact t_X11_learner_j30 w h
    · refine j_iload_n 3 dX11_learner_21 rfl rfl ?_
      refine j_iconst (0 : Int32) dX11_learner_22 ki_0 ?_
      refine j_iconst (4 : Int32) dX11_learner_23 ki_4 ?_
      refine j_callS (As := [.int a3, .int (0 : Int32), .int (4 : Int32)]) (st := []) [.int (X11_within a3 (0 : Int32) (4 : Int32) w)] (c_X11_within (kl κ) (gm κ) (kA κ) a3 (0 : Int32) (4 : Int32) w) ck_RX11_91 st_X11_within ⟨rfl, rfl⟩ ⟨by decide, by decide⟩ rfl rfl (Nat.le_of_ble_eq_true rfl) dX11_learner_24 _ rfl ?_
      refine j_if_ne 36 dX11_learner_27 (by decide) h (fun h => ?_) (fun h => ?_)
      · refine j_aload_n 0 dX11_learner_36 rfl rfl ?_
        refine j_getA 5 fl_RX11_19 sh_0 fk_0_1 (by decide) dX11_learner_37 ?_
        refine j_getI fl_RX11_181 sh_5 fk_5_8 dX11_learner_40 ?_
        refine j_bipush (40 : Int32) dX11_learner_43 kb_40 ?_
        refine j_ic_lt 54 dX11_learner_45 (by decide) h (fun h => ?_) (fun h => ?_)
        · refine j_aload_n 0 dX11_learner_54 rfl rfl ?_
          refine j_getA 73 fl_RX11_58 sh_0 fk_0_6 (by decide) dX11_learner_55 ?_
          refine j_iconst (0 : Int32) dX11_learner_58 ki_0 ?_
          obtain ⟨q3, e4, h⟩ := ok_b h
          refine j_callV (As := [.int (0 : Int32)]) (st := []) [] (c_X10_relive (kl κ) (gm κ) (kA κ) (0 : Int32) w q3 e4) ck_RX11_160 im_X10_relive se_X10_relive sh_73 cx_10 ⟨rfl, rfl⟩ ⟨by decide, by decide⟩ rfl rfl (Nat.le_of_ble_eq_true rfl) dX11_learner_59 _ rfl ?_
          refine j_aload_n 0 dX11_learner_62 rfl rfl ?_
          refine j_aload_n 0 dX11_learner_63 rfl rfl ?_
          refine j_getA 5 fl_RX11_19 sh_0 fk_0_1 (by decide) dX11_learner_64 ?_
          refine j_iload_n 1 dX11_learner_67 rfl rfl ?_
          refine j_iload_n 2 dX11_learner_68 rfl rfl ?_
          refine j_iload_n 3 dX11_learner_69 rfl rfl ?_
          obtain ⟨q5, e6, h⟩ := ok_b h
          refine j_callV (As := [.int a1, .int a2, .int a3]) (st := [.ref (ad (gm κ) 0)]) [.int q5.1, .ref (ad (gm κ) 0)] (c_X2_addLearner (kl κ) (gm κ) (kA κ) a1 a2 a3 q3 q5 e6) ck_RX11_184 im_X2_addLearner se_X2_addLearner sh_5 cx_2 ⟨rfl, rfl⟩ ⟨by decide, by decide⟩ rfl rfl (Nat.le_of_ble_eq_true rfl) dX11_learner_70 _ rfl ?_
          obtain ⟨q7, e8, h⟩ := ok_b h
          refine j_callV (As := [.int q5.1]) (st := []) [.int q7.1] (c_X11_answer (kl κ) (gm κ) (kA κ) q5.1 q5.2 q7 e8) ck_RX11_145 im_X11_answer se_X11_answer sh_0 cx_11 ⟨rfl, rfl⟩ ⟨by decide, by decide⟩ rfl rfl (Nat.le_of_ble_eq_true rfl) dX11_learner_73 _ rfl ?_
          have h := ok_s h
          exact j_iret dX11_learner_76 rfl rfl h
        · refine j_aload_n 0 dX11_learner_48 rfl rfl ?_
          refine j_iconst (4 : Int32) dX11_learner_49 ki_4 ?_
          obtain ⟨q9, e10, h⟩ := ok_b h
          refine j_callV (As := [.int (4 : Int32)]) (st := []) [.int q9.1] (c_X11_deny (kl κ) (gm κ) (kA κ) (4 : Int32) w q9 e10) ck_RX11_114 im_X11_deny se_X11_deny sh_0 cx_11 ⟨rfl, rfl⟩ ⟨by decide, by decide⟩ rfl rfl (Nat.le_of_ble_eq_true rfl) dX11_learner_50 _ rfl ?_
          have h := ok_s h
          exact j_iret dX11_learner_53 rfl rfl h
      · refine j_loc [(0, .ref (ad (gm κ) 0))] [0] rfl ?_
        exact t_X11_learner_j30 w h
theorem c_X11_learner (l : Launch) (γ : Gm) (A : Nat → Prop) (a1 : Int32) (a2 : Int32) (a3 : Int32) (w : Wd) (q : Int32 × Wd) (e : X11_learner  a1 a2 a3 w = some q) : MetG l γ A yX11_learner cX11_learner 4 (some .int) (rmk 2 44) [.ref (ad (γ) 0), .int a1, .int a2, .int a3] w (some (.int q.1)) q.2 := by
  refine met_of pn_RX11 (Nat.le_of_ble_eq_true rfl) ?_
  intro κ hl hγ hA hρ
  subst hl; subst hγ; subst hA
  exact t_X11_learner   a1 a2 a3 w ⟨q, e, pIw hρ rfl rfl⟩
