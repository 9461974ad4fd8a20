theorem dX6_takeAtom_0 : decode cX6_takeAtom 0 = .ok (.aload_n 0, 1) := by decide +kernel
theorem dX6_takeAtom_1 : decode cX6_takeAtom 1 = .ok (.getfield 67, 3) := by decide +kernel
theorem dX6_takeAtom_4 : decode cX6_takeAtom 4 = .ok (.bipush 40, 2) := by decide +kernel
theorem dX6_takeAtom_6 : decode cX6_takeAtom 6 = .ok (.if_icmp .ne 37, 3) := by decide +kernel
theorem dX6_takeAtom_9 : decode cX6_takeAtom 9 = .ok (.aload_n 0, 1) := by decide +kernel
theorem dX6_takeAtom_10 : decode cX6_takeAtom 10 = .ok (.getfield 127, 3) := by decide +kernel
theorem dX6_takeAtom_13 : decode cX6_takeAtom 13 = .ok (.bipush 6, 2) := by decide +kernel
theorem dX6_takeAtom_15 : decode cX6_takeAtom 15 = .ok (.if_icmp .lt 5, 3) := by decide +kernel
theorem dX6_takeAtom_18 : decode cX6_takeAtom 18 = .ok (.iconst 5, 1) := by decide +kernel
theorem dX6_takeAtom_19 : decode cX6_takeAtom 19 = .ok (.ireturn, 1) := by decide +kernel
theorem dX6_takeAtom_20 : decode cX6_takeAtom 20 = .ok (.aload_n 0, 1) := by decide +kernel
theorem dX6_takeAtom_21 : decode cX6_takeAtom 21 = .ok (.dup, 1) := by decide +kernel
theorem dX6_takeAtom_22 : decode cX6_takeAtom 22 = .ok (.getfield 127, 3) := by decide +kernel
theorem dX6_takeAtom_25 : decode cX6_takeAtom 25 = .ok (.iconst 1, 1) := by decide +kernel
theorem dX6_takeAtom_26 : decode cX6_takeAtom 26 = .ok (.iadd, 1) := by decide +kernel
theorem dX6_takeAtom_27 : decode cX6_takeAtom 27 = .ok (.putfield 127, 3) := by decide +kernel
theorem dX6_takeAtom_30 : decode cX6_takeAtom 30 = .ok (.aload_n 0, 1) := by decide +kernel
theorem dX6_takeAtom_31 : decode cX6_takeAtom 31 = .ok (.bipush 40, 2) := by decide +kernel
theorem dX6_takeAtom_33 : decode cX6_takeAtom 33 = .ok (.invokevirtual 176, 3) := by decide +kernel
theorem dX6_takeAtom_36 : decode cX6_takeAtom 36 = .ok (.aload_n 0, 1) := by decide +kernel
theorem dX6_takeAtom_37 : decode cX6_takeAtom 37 = .ok (.bipush 8, 2) := by decide +kernel
theorem dX6_takeAtom_39 : decode cX6_takeAtom 39 = .ok (.invokevirtual 105, 3) := by decide +kernel
theorem dX6_takeAtom_42 : decode cX6_takeAtom 42 = .ok (.ireturn, 1) := by decide +kernel
theorem dX6_takeAtom_43 : decode cX6_takeAtom 43 = .ok (.aload_n 0, 1) := by decide +kernel
theorem dX6_takeAtom_44 : decode cX6_takeAtom 44 = .ok (.getfield 67, 3) := by decide +kernel
theorem dX6_takeAtom_47 : decode cX6_takeAtom 47 = .ok (.iconst 2, 1) := by decide +kernel
theorem dX6_takeAtom_48 : decode cX6_takeAtom 48 = .ok (.if_icmp .ne 21, 3) := by decide +kernel
theorem dX6_takeAtom_51 : decode cX6_takeAtom 51 = .ok (.aload_n 0, 1) := by decide +kernel
theorem dX6_takeAtom_52 : decode cX6_takeAtom 52 = .ok (.getfield 32, 3) := by decide +kernel
theorem dX6_takeAtom_55 : decode cX6_takeAtom 55 = .ok (.aload_n 0, 1) := by decide +kernel
theorem dX6_takeAtom_56 : decode cX6_takeAtom 56 = .ok (.getfield 99, 3) := by decide +kernel
theorem dX6_takeAtom_59 : decode cX6_takeAtom 59 = .ok (.invokevirtual 179, 3) := by decide +kernel
theorem dX6_takeAtom_62 : decode cX6_takeAtom 62 = .ok (.aload_n 0, 1) := by decide +kernel
theorem dX6_takeAtom_63 : decode cX6_takeAtom 63 = .ok (.bipush 9, 2) := by decide +kernel
theorem dX6_takeAtom_65 : decode cX6_takeAtom 65 = .ok (.invokevirtual 105, 3) := by decide +kernel
theorem dX6_takeAtom_68 : decode cX6_takeAtom 68 = .ok (.ireturn, 1) := by decide +kernel
theorem dX6_takeAtom_69 : decode cX6_takeAtom 69 = .ok (.aload_n 0, 1) := by decide +kernel
theorem dX6_takeAtom_70 : decode cX6_takeAtom 70 = .ok (.getfield 67, 3) := by decide +kernel
theorem dX6_takeAtom_73 : decode cX6_takeAtom 73 = .ok (.bipush 110, 2) := by decide +kernel
theorem dX6_takeAtom_75 : decode cX6_takeAtom 75 = .ok (.if_icmp .lt 28, 3) := by decide +kernel
theorem dX6_takeAtom_78 : decode cX6_takeAtom 78 = .ok (.aload_n 0, 1) := by decide +kernel
theorem dX6_takeAtom_79 : decode cX6_takeAtom 79 = .ok (.getfield 32, 3) := by decide +kernel
theorem dX6_takeAtom_82 : decode cX6_takeAtom 82 = .ok (.sipush 10000, 3) := by decide +kernel
theorem dX6_takeAtom_85 : decode cX6_takeAtom 85 = .ok (.aload_n 0, 1) := by decide +kernel
theorem dX6_takeAtom_86 : decode cX6_takeAtom 86 = .ok (.getfield 67, 3) := by decide +kernel
theorem dX6_takeAtom_89 : decode cX6_takeAtom 89 = .ok (.iadd, 1) := by decide +kernel
theorem dX6_takeAtom_90 : decode cX6_takeAtom 90 = .ok (.bipush 110, 2) := by decide +kernel
theorem dX6_takeAtom_92 : decode cX6_takeAtom 92 = .ok (.isub, 1) := by decide +kernel
theorem dX6_takeAtom_93 : decode cX6_takeAtom 93 = .ok (.invokevirtual 179, 3) := by decide +kernel
theorem dX6_takeAtom_96 : decode cX6_takeAtom 96 = .ok (.aload_n 0, 1) := by decide +kernel
theorem dX6_takeAtom_97 : decode cX6_takeAtom 97 = .ok (.bipush 9, 2) := by decide +kernel
theorem dX6_takeAtom_99 : decode cX6_takeAtom 99 = .ok (.invokevirtual 105, 3) := by decide +kernel
theorem dX6_takeAtom_102 : decode cX6_takeAtom 102 = .ok (.ireturn, 1) := by decide +kernel
theorem dX6_takeAtom_103 : decode cX6_takeAtom 103 = .ok (.iconst 2, 1) := by decide +kernel
theorem dX6_takeAtom_104 : decode cX6_takeAtom 104 = .ok (.ireturn, 1) := by decide +kernel
noncomputable def X6_takeAtom (w : Wd) : Option (Int32 × Wd) :=
(if (w.1 65 7) = (40 : Int32) then
(if (w.1 65 14) < (6 : Int32) then
(some (puI w 65 14 ((w.1 65 14) + (1 : Int32)))).bind fun w9 =>
(X6_await (40 : Int32) w9).bind fun q10 =>
(X6_goOn (8 : Int32) q10).bind fun q12 =>
some (q12.1, q12.2)
else
some ((5 : Int32), w))
else
(if (w.1 65 7) = (2 : Int32) then
(X0_addCode (w.1 65 10) w).bind fun q5 =>
(X6_goOn (9 : Int32) q5).bind fun q7 =>
some (q7.1, q7.2)
else
(if (w.1 65 7) < (110 : Int32) then
some ((2 : Int32), w)
else
(X0_addCode (((10000 : Int32) + (w.1 65 7)) - (110 : Int32)) w).bind fun q1 =>
(X6_goOn (9 : Int32) q1).bind fun q3 =>
some (q3.1, q3.2))))
set_option maxRecDepth 20000 in
set_option maxHeartbeats 1000000 in
theorem t_X6_takeAtom {κ : Kx} (w : Wd) (h : ok (X6_takeAtom   w) (PIw κ)) : J κ RX6 cX6_takeAtom 1 (some .int) (rmk 1 21) 0 [(0, .ref (ad (gm κ) 65))] [] w := by
  unfold X6_takeAtom at h
  refine j_aload_n 0 dX6_takeAtom_0 rfl rfl ?_
  refine j_getI fl_RX6_67 sh_65 fk_65_7 dX6_takeAtom_1 ?_
  refine j_bipush (40 : Int32) dX6_takeAtom_4 kb_40 ?_
  refine j_ic_ne 43 dX6_takeAtom_6 (by decide) h (fun h => ?_) (fun h => ?_)
  · refine j_aload_n 0 dX6_takeAtom_43 rfl rfl ?_
    refine j_getI fl_RX6_67 sh_65 fk_65_7 dX6_takeAtom_44 ?_
    refine j_iconst (2 : Int32) dX6_takeAtom_47 ki_2 ?_
    refine j_ic_ne 69 dX6_takeAtom_48 (by decide) h (fun h => ?_) (fun h => ?_)
    · refine j_aload_n 0 dX6_takeAtom_69 rfl rfl ?_
      refine j_getI fl_RX6_67 sh_65 fk_65_7 dX6_takeAtom_70 ?_
      refine j_bipush (110 : Int32) dX6_takeAtom_73 kb_110 ?_
      refine j_ic_lt 103 dX6_takeAtom_75 (by decide) h (fun h => ?_) (fun h => ?_)
      · refine j_iconst (2 : Int32) dX6_takeAtom_103 ki_2 ?_
        have h := ok_s h
        exact j_iret dX6_takeAtom_104 rfl rfl h
      · refine j_aload_n 0 dX6_takeAtom_78 rfl rfl ?_
        refine j_getA 30 fl_RX6_32 sh_65 fk_65_0 (by decide) dX6_takeAtom_79 ?_
        refine j_sipush (10000 : Int32) dX6_takeAtom_82 ks_10000 ?_
        refine j_aload_n 0 dX6_takeAtom_85 rfl rfl ?_
        refine j_getI fl_RX6_67 sh_65 fk_65_7 dX6_takeAtom_86 ?_
        refine j_iadd dX6_takeAtom_89 ?_
        refine j_bipush (110 : Int32) dX6_takeAtom_90 kb_110 ?_
        refine j_isub dX6_takeAtom_92 ?_
        obtain ⟨q1, e2, h⟩ := ok_b h
        refine j_callV (As := [.int (((10000 : Int32) + (w.1 65 7)) - (110 : Int32))]) (st := []) [] (c_X0_addCode (kl κ) (gm κ) (kA κ) (((10000 : Int32) + (w.1 65 7)) - (110 : Int32)) w q1 e2) ck_RX6_179 im_X0_addCode se_X0_addCode sh_30 cx_0 ⟨rfl, rfl⟩ ⟨by decide, by decide⟩ rfl rfl (Nat.le_of_ble_eq_true rfl) dX6_takeAtom_93 _ rfl ?_
        refine j_aload_n 0 dX6_takeAtom_96 rfl rfl ?_
        refine j_bipush (9 : Int32) dX6_takeAtom_97 kb_9 ?_
        obtain ⟨q3, e4, h⟩ := ok_b h
        refine j_callV (As := [.int (9 : Int32)]) (st := []) [.int q3.1] (c_X6_goOn (kl κ) (gm κ) (kA κ) (9 : Int32) q1 q3 e4) ck_RX6_105 im_X6_goOn se_X6_goOn sh_65 cx_6 ⟨rfl, rfl⟩ ⟨by decide, by decide⟩ rfl rfl (Nat.le_of_ble_eq_true rfl) dX6_takeAtom_99 _ rfl ?_
        have h := ok_s h
        exact j_iret dX6_takeAtom_102 rfl rfl h
    · refine j_aload_n 0 dX6_takeAtom_51 rfl rfl ?_
      refine j_getA 30 fl_RX6_32 sh_65 fk_65_0 (by decide) dX6_takeAtom_52 ?_
      refine j_aload_n 0 dX6_takeAtom_55 rfl rfl ?_
      refine j_getI fl_RX6_99 sh_65 fk_65_10 dX6_takeAtom_56 ?_
      obtain ⟨q5, e6, h⟩ := ok_b h
      refine j_callV (As := [.int (w.1 65 10)]) (st := []) [] (c_X0_addCode (kl κ) (gm κ) (kA κ) (w.1 65 10) w q5 e6) ck_RX6_179 im_X0_addCode se_X0_addCode sh_30 cx_0 ⟨rfl, rfl⟩ ⟨by decide, by decide⟩ rfl rfl (Nat.le_of_ble_eq_true rfl) dX6_takeAtom_59 _ rfl ?_
      refine j_aload_n 0 dX6_takeAtom_62 rfl rfl ?_
      refine j_bipush (9 : Int32) dX6_takeAtom_63 kb_9 ?_
      obtain ⟨q7, e8, h⟩ := ok_b h
      refine j_callV (As := [.int (9 : Int32)]) (st := []) [.int q7.1] (c_X6_goOn (kl κ) (gm κ) (kA κ) (9 : Int32) q5 q7 e8) ck_RX6_105 im_X6_goOn se_X6_goOn sh_65 cx_6 ⟨rfl, rfl⟩ ⟨by decide, by decide⟩ rfl rfl (Nat.le_of_ble_eq_true rfl) dX6_takeAtom_65 _ rfl ?_
      have h := ok_s h
      exact j_iret dX6_takeAtom_68 rfl rfl h
  · refine j_aload_n 0 dX6_takeAtom_9 rfl rfl ?_
    refine j_getI fl_RX6_127 sh_65 fk_65_14 dX6_takeAtom_10 ?_
    refine j_bipush (6 : Int32) dX6_takeAtom_13 kb_6 ?_
    refine j_ic_lt 20 dX6_takeAtom_15 (by decide) h (fun h => ?_) (fun h => ?_)
    · refine j_aload_n 0 dX6_takeAtom_20 rfl rfl ?_
      refine j_dup dX6_takeAtom_21 rfl ?_
      refine j_getI fl_RX6_127 sh_65 fk_65_14 dX6_takeAtom_22 ?_
      refine j_iconst (1 : Int32) dX6_takeAtom_25 ki_1 ?_
      refine j_iadd dX6_takeAtom_26 ?_
      refine j_putI fp_RX6_127 sh_65 fk_65_14 dX6_takeAtom_27 ?_
      refine j_lW h (fun w9 h => ?_)
      refine j_aload_n 0 dX6_takeAtom_30 rfl rfl ?_
      refine j_bipush (40 : Int32) dX6_takeAtom_31 kb_40 ?_
      obtain ⟨q10, e11, h⟩ := ok_b h
      refine j_callV (As := [.int (40 : Int32)]) (st := []) [] (c_X6_await (kl κ) (gm κ) (kA κ) (40 : Int32) w9 q10 e11) ck_RX6_176 im_X6_await se_X6_await sh_65 cx_6 ⟨rfl, rfl⟩ ⟨by decide, by decide⟩ rfl rfl (Nat.le_of_ble_eq_true rfl) dX6_takeAtom_33 _ rfl ?_
      refine j_aload_n 0 dX6_takeAtom_36 rfl rfl ?_
      refine j_bipush (8 : Int32) dX6_takeAtom_37 kb_8 ?_
      obtain ⟨q12, e13, h⟩ := ok_b h
      refine j_callV (As := [.int (8 : Int32)]) (st := []) [.int q12.1] (c_X6_goOn (kl κ) (gm κ) (kA κ) (8 : Int32) q10 q12 e13) ck_RX6_105 im_X6_goOn se_X6_goOn sh_65 cx_6 ⟨rfl, rfl⟩ ⟨by decide, by decide⟩ rfl rfl (Nat.le_of_ble_eq_true rfl) dX6_takeAtom_39 _ rfl ?_
      have h := ok_s h
      exact j_iret dX6_takeAtom_42 rfl rfl h
    · refine j_iconst (5 : Int32) dX6_takeAtom_18 ki_5 ?_
      have h := ok_s h
      exact j_iret dX6_takeAtom_19 rfl rfl h
theorem c_X6_takeAtom (l : Launch) (γ : Gm) (A : Nat → Prop) (w : Wd) (q : Int32 × Wd) (e : X6_takeAtom   w = some q) : MetG l γ A yX6_takeAtom cX6_takeAtom 1 (some .int) (rmk 1 21) [.ref (ad (γ) 65)] w (some (.int q.1)) q.2 := by
  refine met_of pn_RX6 (Nat.le_of_ble_eq_true rfl) ?_
  intro κ hl hγ hA hρ
  subst hl; subst hγ; subst hA
  exact t_X6_takeAtom    w ⟨q, e, pIw hρ rfl rfl⟩
theorem dX6_takeOne_0 : decode cX6_takeOne 0 = .ok (.aload_n 0, 1) := by decide +kernel
theorem dX6_takeOne_1 : decode cX6_takeOne 1 = .ok (.getfield 67, 3) := by decide +kernel
theorem dX6_takeOne_4 : decode cX6_takeOne 4 = .ok (.bipush 109, 2) := by decide +kernel
theorem dX6_takeOne_6 : decode cX6_takeOne 6 = .ok (.if_icmp .ne 16, 3) := by decide +kernel
theorem dX6_takeOne_9 : decode cX6_takeOne 9 = .ok (.aload_n 0, 1) := by decide +kernel
theorem dX6_takeOne_10 : decode cX6_takeOne 10 = .ok (.bipush 109, 2) := by decide +kernel
theorem dX6_takeOne_12 : decode cX6_takeOne 12 = .ok (.invokevirtual 176, 3) := by decide +kernel
theorem dX6_takeOne_15 : decode cX6_takeOne 15 = .ok (.aload_n 0, 1) := by decide +kernel
theorem dX6_takeOne_16 : decode cX6_takeOne 16 = .ok (.bipush 8, 2) := by decide +kernel
theorem dX6_takeOne_18 : decode cX6_takeOne 18 = .ok (.invokevirtual 105, 3) := by decide +kernel
theorem dX6_takeOne_21 : decode cX6_takeOne 21 = .ok (.ireturn, 1) := by decide +kernel
theorem dX6_takeOne_22 : decode cX6_takeOne 22 = .ok (.aload_n 0, 1) := by decide +kernel
theorem dX6_takeOne_23 : decode cX6_takeOne 23 = .ok (.invokevirtual 124, 3) := by decide +kernel
theorem dX6_takeOne_26 : decode cX6_takeOne 26 = .ok (.ireturn, 1) := by decide +kernel
noncomputable def X6_takeOne (w : Wd) : Option (Int32 × Wd) :=
(if (w.1 65 7) = (109 : Int32) then
(X6_await (109 : Int32) w).bind fun q3 =>
(X6_goOn (8 : Int32) q3).bind fun q5 =>
some (q5.1, q5.2)
else
(X6_takeAtom w).bind fun q1 =>
some (q1.1, q1.2))
set_option maxRecDepth 20000 in
set_option maxHeartbeats 1000000 in
theorem t_X6_takeOne {κ : Kx} (w : Wd) (h : ok (X6_takeOne   w) (PIw κ)) : J κ RX6 cX6_takeOne 1 (some .int) (rmk 2 41) 0 [(0, .ref (ad (gm κ) 65))] [] w := by
  unfold X6_takeOne at h
  refine j_aload_n 0 dX6_takeOne_0 rfl rfl ?_
  refine j_getI fl_RX6_67 sh_65 fk_65_7 dX6_takeOne_1 ?_
  refine j_bipush (109 : Int32) dX6_takeOne_4 kb_109 ?_
  refine j_ic_ne 22 dX6_takeOne_6 (by decide) h (fun h => ?_) (fun h => ?_)
  · refine j_aload_n 0 dX6_takeOne_22 rfl rfl ?_
    obtain ⟨q1, e2, h⟩ := ok_b h
    refine j_callV (As := []) (st := []) [.int q1.1] (c_X6_takeAtom (kl κ) (gm κ) (kA κ) w q1 e2) ck_RX6_124 im_X6_takeAtom se_X6_takeAtom sh_65 cx_6 ⟨rfl, rfl⟩ ⟨by decide, by decide⟩ rfl rfl (Nat.le_of_ble_eq_true rfl) dX6_takeOne_23 _ rfl ?_
    have h := ok_s h
    exact j_iret dX6_takeOne_26 rfl rfl h
  · refine j_aload_n 0 dX6_takeOne_9 rfl rfl ?_
    refine j_bipush (109 : Int32) dX6_takeOne_10 kb_109 ?_
    obtain ⟨q3, e4, h⟩ := ok_b h
    refine j_callV (As := [.int (109 : Int32)]) (st := []) [] (c_X6_await (kl κ) (gm κ) (kA κ) (109 : Int32) w q3 e4) ck_RX6_176 im_X6_await se_X6_await sh_65 cx_6 ⟨rfl, rfl⟩ ⟨by decide, by decide⟩ rfl rfl (Nat.le_of_ble_eq_true rfl) dX6_takeOne_12 _ rfl ?_
    refine j_aload_n 0 dX6_takeOne_15 rfl rfl ?_
    refine j_bipush (8 : Int32) dX6_takeOne_16 kb_8 ?_
    obtain ⟨q5, e6, h⟩ := ok_b h
    refine j_callV (As := [.int (8 : Int32)]) (st := []) [.int q5.1] (c_X6_goOn (kl κ) (gm κ) (kA κ) (8 : Int32) q3 q5 e6) ck_RX6_105 im_X6_goOn se_X6_goOn sh_65 cx_6 ⟨rfl, rfl⟩ ⟨by decide, by decide⟩ rfl rfl (Nat.le_of_ble_eq_true rfl) dX6_takeOne_18 _ rfl ?_
    have h := ok_s h
    exact j_iret dX6_takeOne_21 rfl rfl h
theorem c_X6_takeOne (l : Launch) (γ : Gm) (A : Nat → Prop) (w : Wd) (q : Int32 × Wd) (e : X6_takeOne   w = some q) : MetG l γ A yX6_takeOne cX6_takeOne 1 (some .int) (rmk 2 41) [.ref (ad (γ) 65)] w (some (.int q.1)) q.2 := by
  refine met_of pn_RX6 (Nat.le_of_ble_eq_true rfl) ?_
  intro κ hl hγ hA hρ
  subst hl; subst hγ; subst hA
  exact t_X6_takeOne    w ⟨q, e, pIw hρ rfl rfl⟩
theorem dX6_isReckoner_0 : decode cX6_isReckoner 0 = .ok (.iload_n 0, 1) := by decide +kernel
theorem dX6_isReckoner_1 : decode cX6_isReckoner 1 = .ok (.bipush 43, 2) := by decide +kernel
theorem dX6_isReckoner_3 : decode cX6_isReckoner 3 = .ok (.if_icmp .eq 21, 3) := by decide +kernel
theorem dX6_isReckoner_6 : decode cX6_isReckoner 6 = .ok (.iload_n 0, 1) := by decide +kernel
theorem dX6_isReckoner_7 : decode cX6_isReckoner 7 = .ok (.bipush 45, 2) := by decide +kernel
theorem dX6_isReckoner_9 : decode cX6_isReckoner 9 = .ok (.if_icmp .eq 15, 3) := by decide +kernel
theorem dX6_isReckoner_12 : decode cX6_isReckoner 12 = .ok (.iload_n 0, 1) := by decide +kernel
theorem dX6_isReckoner_13 : decode cX6_isReckoner 13 = .ok (.bipush 42, 2) := by decide +kernel
theorem dX6_isReckoner_15 : decode cX6_isReckoner 15 = .ok (.if_icmp .eq 9, 3) := by decide +kernel
theorem dX6_isReckoner_18 : decode cX6_isReckoner 18 = .ok (.iload_n 0, 1) := by decide +kernel
theorem dX6_isReckoner_19 : decode cX6_isReckoner 19 = .ok (.bipush 47, 2) := by decide +kernel
theorem dX6_isReckoner_21 : decode cX6_isReckoner 21 = .ok (.if_icmp .ne 7, 3) := by decide +kernel
theorem dX6_isReckoner_24 : decode cX6_isReckoner 24 = .ok (.iconst 1, 1) := by decide +kernel
theorem dX6_isReckoner_25 : decode cX6_isReckoner 25 = .ok (.goto 4, 3) := by decide +kernel
theorem dX6_isReckoner_28 : decode cX6_isReckoner 28 = .ok (.iconst 0, 1) := by decide +kernel
theorem dX6_isReckoner_29 : decode cX6_isReckoner 29 = .ok (.ireturn, 1) := by decide +kernel
noncomputable def X6_isReckonerO (a0 : Int32) (w : Wd) : Option (Int32) :=
(if a0 = (43 : Int32) then
some (1 : Int32)
else
(if a0 = (45 : Int32) then
some (1 : Int32)
else
(if a0 = (42 : Int32) then
some (1 : Int32)
else
(if a0 = (47 : Int32) then
some (1 : Int32)
else
some (0 : Int32)))))
set_option maxRecDepth 20000 in
set_option maxHeartbeats 1000000 in
theorem t_X6_isReckoner {κ : Kx} (a0 : Int32) (w : Wd) (h : ok (X6_isReckonerO  a0 w) (PI κ w)) : J κ RX6 cX6_isReckoner 1 (some .boolean) (rmk 0 0) 0 [(0, .int a0)] [] w := by
  unfold X6_isReckonerO at h
  refine j_iload_n 0 dX6_isReckoner_0 rfl rfl ?_
  refine j_bipush (43 : Int32) dX6_isReckoner_1 kb_43 ?_
  refine j_ic_eq 24 dX6_isReckoner_3 (by decide) h (fun h => ?_) (fun h => ?_)
  · refine j_iconst (1 : Int32) dX6_isReckoner_24 ki_1 ?_
    refine j_goto 29 dX6_isReckoner_25 (by decide) ?_
    have h := ok_s h
    exact j_iret dX6_isReckoner_29 rfl (by decide) h
  · refine j_iload_n 0 dX6_isReckoner_6 rfl rfl ?_
    refine j_bipush (45 : Int32) dX6_isReckoner_7 kb_45 ?_
    refine j_ic_eq 24 dX6_isReckoner_9 (by decide) h (fun h => ?_) (fun h => ?_)
    · refine j_iconst (1 : Int32) dX6_isReckoner_24 ki_1 ?_
      refine j_goto 29 dX6_isReckoner_25 (by decide) ?_
      have h := ok_s h
      exact j_iret dX6_isReckoner_29 rfl (by decide) h
    · refine j_iload_n 0 dX6_isReckoner_12 rfl rfl ?_
      refine j_bipush (42 : Int32) dX6_isReckoner_13 kb_42 ?_
      refine j_ic_eq 24 dX6_isReckoner_15 (by decide) h (fun h => ?_) (fun h => ?_)
      · refine j_iconst (1 : Int32) dX6_isReckoner_24 ki_1 ?_
        refine j_goto 29 dX6_isReckoner_25 (by decide) ?_
        have h := ok_s h
        exact j_iret dX6_isReckoner_29 rfl (by decide) h
      · refine j_iload_n 0 dX6_isReckoner_18 rfl rfl ?_
        refine j_bipush (47 : Int32) dX6_isReckoner_19 kb_47 ?_
        refine j_ic_ne 28 dX6_isReckoner_21 (by decide) h (fun h => ?_) (fun h => ?_)
        · refine j_iconst (0 : Int32) dX6_isReckoner_28 ki_0 ?_
          have h := ok_s h
          exact j_iret dX6_isReckoner_29 rfl (by decide) h
        · refine j_iconst (1 : Int32) dX6_isReckoner_24 ki_1 ?_
          refine j_goto 29 dX6_isReckoner_25 (by decide) ?_
          have h := ok_s h
          exact j_iret dX6_isReckoner_29 rfl (by decide) h
noncomputable def X6_isReckoner (a0 : Int32) (w : Wd) : Int32 := (X6_isReckonerO  a0 w).getD 0
theorem X6_isReckoner_eq (a0 : Int32) (w : Wd) : X6_isReckonerO  a0 w = some (X6_isReckoner  a0 w) := by
  unfold X6_isReckoner X6_isReckonerO
  repeat (first | rfl | split)
theorem nz_X6_isReckoner (a0 : Int32) (w : Wd) : narrow .boolean (.int (X6_isReckoner  a0 w)) = .int (X6_isReckoner  a0 w) := by
  unfold X6_isReckoner X6_isReckonerO
  repeat (first | rfl | split)
theorem c_X6_isReckoner (l : Launch) (γ : Gm) (A : Nat → Prop) (a0 : Int32) (w : Wd) : MetG l γ A yX6_isReckoner cX6_isReckoner 1 (some .boolean) (rmk 0 0) [.int a0] w (some (.int (X6_isReckoner  a0 w))) w := by
  refine met_of pn_RX6 (Nat.le_of_ble_eq_true rfl) ?_
  intro κ hl hγ hA hρ
  subst hl; subst hγ; subst hA
  exact t_X6_isReckoner   a0 w ⟨_, X6_isReckoner_eq  a0 w, pI hρ rfl rfl⟩
theorem dX6_bindingOf_0 : decode cX6_bindingOf 0 = .ok (.iload_n 0, 1) := by decide +kernel
theorem dX6_bindingOf_1 : decode cX6_bindingOf 1 = .ok (.lookupswitch 95 #[(40, 83), (43, 93), (45, 93), (60, 91), (61, 91), (62, 91), (107, 85), (108, 87), (109, 89)], 83) := by decide +kernel
theorem dX6_bindingOf_84 : decode cX6_bindingOf 84 = .ok (.iconst 0, 1) := by decide +kernel
theorem dX6_bindingOf_85 : decode cX6_bindingOf 85 = .ok (.ireturn, 1) := by decide +kernel
theorem dX6_bindingOf_86 : decode cX6_bindingOf 86 = .ok (.iconst 1, 1) := by decide +kernel
theorem dX6_bindingOf_87 : decode cX6_bindingOf 87 = .ok (.ireturn, 1) := by decide +kernel
theorem dX6_bindingOf_88 : decode cX6_bindingOf 88 = .ok (.iconst 2, 1) := by decide +kernel
theorem dX6_bindingOf_89 : decode cX6_bindingOf 89 = .ok (.ireturn, 1) := by decide +kernel
theorem dX6_bindingOf_90 : decode cX6_bindingOf 90 = .ok (.iconst 3, 1) := by decide +kernel
theorem dX6_bindingOf_91 : decode cX6_bindingOf 91 = .ok (.ireturn, 1) := by decide +kernel
theorem dX6_bindingOf_92 : decode cX6_bindingOf 92 = .ok (.iconst 4, 1) := by decide +kernel
theorem dX6_bindingOf_93 : decode cX6_bindingOf 93 = .ok (.ireturn, 1) := by decide +kernel
theorem dX6_bindingOf_94 : decode cX6_bindingOf 94 = .ok (.iconst 5, 1) := by decide +kernel
theorem dX6_bindingOf_95 : decode cX6_bindingOf 95 = .ok (.ireturn, 1) := by decide +kernel
theorem dX6_bindingOf_96 : decode cX6_bindingOf 96 = .ok (.bipush 6, 2) := by decide +kernel
theorem dX6_bindingOf_98 : decode cX6_bindingOf 98 = .ok (.ireturn, 1) := by decide +kernel
noncomputable def X6_bindingOfO (a0 : Int32) (w : Wd) : Option (Int32) :=
(if a0 = (40 : Int32) then
some (0 : Int32)
else
(if a0 = (43 : Int32) then
some (5 : Int32)
else
(if a0 = (45 : Int32) then
some (5 : Int32)
else
(if a0 = (60 : Int32) then
some (4 : Int32)
else
(if a0 = (61 : Int32) then
some (4 : Int32)
else
(if a0 = (62 : Int32) then
some (4 : Int32)
else
(if a0 = (107 : Int32) then
some (1 : Int32)
else
(if a0 = (108 : Int32) then
some (2 : Int32)
else
(if a0 = (109 : Int32) then
some (3 : Int32)
else
some (6 : Int32))))))))))
set_option maxRecDepth 20000 in
set_option maxHeartbeats 1000000 in
theorem t_X6_bindingOf {κ : Kx} (a0 : Int32) (w : Wd) (h : ok (X6_bindingOfO  a0 w) (PI κ w)) : J κ RX6 cX6_bindingOf 1 (some .int) (rmk 0 0) 0 [(0, .int a0)] [] w := by
  unfold X6_bindingOfO at h
  refine j_iload_n 0 dX6_bindingOf_0 rfl rfl ?_
  refine j_cs (40 : Int32) h (fun h => ?_) (fun n0 h => ?_)
  · refine j_lk (off := 83) 84 dX6_bindingOf_1 (by decide +kernel) (by decide +kernel) (by decide) ?_
    refine j_iconst (0 : Int32) dX6_bindingOf_84 ki_0 ?_
    have h := ok_s h
    exact j_iret dX6_bindingOf_85 rfl rfl h
  refine j_cs (43 : Int32) h (fun h => ?_) (fun n1 h => ?_)
  · refine j_lk (off := 93) 94 dX6_bindingOf_1 (by decide +kernel) (by decide +kernel) (by decide) ?_
    refine j_iconst (5 : Int32) dX6_bindingOf_94 ki_5 ?_
    have h := ok_s h
    exact j_iret dX6_bindingOf_95 rfl rfl h
  refine j_cs (45 : Int32) h (fun h => ?_) (fun n2 h => ?_)
  · refine j_lk (off := 93) 94 dX6_bindingOf_1 (by decide +kernel) (by decide +kernel) (by decide) ?_
    refine j_iconst (5 : Int32) dX6_bindingOf_94 ki_5 ?_
    have h := ok_s h
    exact j_iret dX6_bindingOf_95 rfl rfl h
  refine j_cs (60 : Int32) h (fun h => ?_) (fun n3 h => ?_)
  · refine j_lk (off := 91) 92 dX6_bindingOf_1 (by decide +kernel) (by decide +kernel) (by decide) ?_
    refine j_iconst (4 : Int32) dX6_bindingOf_92 ki_4 ?_
    have h := ok_s h
    exact j_iret dX6_bindingOf_93 rfl rfl h
  refine j_cs (61 : Int32) h (fun h => ?_) (fun n4 h => ?_)
  · refine j_lk (off := 91) 92 dX6_bindingOf_1 (by decide +kernel) (by decide +kernel) (by decide) ?_
    refine j_iconst (4 : Int32) dX6_bindingOf_92 ki_4 ?_
    have h := ok_s h
    exact j_iret dX6_bindingOf_93 rfl rfl h
  refine j_cs (62 : Int32) h (fun h => ?_) (fun n5 h => ?_)
  · refine j_lk (off := 91) 92 dX6_bindingOf_1 (by decide +kernel) (by decide +kernel) (by decide) ?_
    refine j_iconst (4 : Int32) dX6_bindingOf_92 ki_4 ?_
    have h := ok_s h
    exact j_iret dX6_bindingOf_93 rfl rfl h
  refine j_cs (107 : Int32) h (fun h => ?_) (fun n6 h => ?_)
  · refine j_lk (off := 85) 86 dX6_bindingOf_1 (by decide +kernel) (by decide +kernel) (by decide) ?_
    refine j_iconst (1 : Int32) dX6_bindingOf_86 ki_1 ?_
    have h := ok_s h
    exact j_iret dX6_bindingOf_87 rfl rfl h
  refine j_cs (108 : Int32) h (fun h => ?_) (fun n7 h => ?_)
  · refine j_lk (off := 87) 88 dX6_bindingOf_1 (by decide +kernel) (by decide +kernel) (by decide) ?_
    refine j_iconst (2 : Int32) dX6_bindingOf_88 ki_2 ?_
    have h := ok_s h
    exact j_iret dX6_bindingOf_89 rfl rfl h
  refine j_cs (109 : Int32) h (fun h => ?_) (fun n8 h => ?_)
  · refine j_lk (off := 89) 90 dX6_bindingOf_1 (by decide +kernel) (by decide +kernel) (by decide) ?_
    refine j_iconst (3 : Int32) dX6_bindingOf_90 ki_3 ?_
    have h := ok_s h
    exact j_iret dX6_bindingOf_91 rfl rfl h
  refine j_lk (off := 95) 96 dX6_bindingOf_1 (by decide +kernel) ?_ (by decide) ?_
  · rw [lv_osw n0 (show ((40 : Int32)).toInt = 40 by decide), lv_osw n1 (show ((43 : Int32)).toInt = 43 by decide), lv_osw n2 (show ((45 : Int32)).toInt = 45 by decide), lv_osw n3 (show ((60 : Int32)).toInt = 60 by decide), lv_osw n4 (show ((61 : Int32)).toInt = 61 by decide), lv_osw n5 (show ((62 : Int32)).toInt = 62 by decide), lv_osw n6 (show ((107 : Int32)).toInt = 107 by decide), lv_osw n7 (show ((108 : Int32)).toInt = 108 by decide), lv_osw n8 (show ((109 : Int32)).toInt = 109 by decide)]
    rfl
  refine j_bipush (6 : Int32) dX6_bindingOf_96 kb_6 ?_
  have h := ok_s h
  exact j_iret dX6_bindingOf_98 rfl rfl h
noncomputable def X6_bindingOf (a0 : Int32) (w : Wd) : Int32 := (X6_bindingOfO  a0 w).getD 0
theorem X6_bindingOf_eq (a0 : Int32) (w : Wd) : X6_bindingOfO  a0 w = some (X6_bindingOf  a0 w) := by
  unfold X6_bindingOf X6_bindingOfO
  repeat (first | rfl | split)
theorem c_X6_bindingOf (l : Launch) (γ : Gm) (A : Nat → Prop) (a0 : Int32) (w : Wd) : MetG l γ A yX6_bindingOf cX6_bindingOf 1 (some .int) (rmk 0 0) [.int a0] w (some (.int (X6_bindingOf  a0 w))) w := by
  refine met_of pn_RX6 (Nat.le_of_ble_eq_true rfl) ?_
  intro κ hl hγ hA hρ
  subst hl; subst hγ; subst hA
  exact t_X6_bindingOf   a0 w ⟨_, X6_bindingOf_eq  a0 w, pI hρ rfl rfl⟩
theorem dX6_release_0 : decode cX6_release 0 = .ok (.aload_n 0, 1) := by decide +kernel
theorem dX6_release_1 : decode cX6_release 1 = .ok (.getfield 166, 3) := by decide +kernel
theorem dX6_release_4 : decode cX6_release 4 = .ok (.ifCond .le 54, 3) := by decide +kernel
theorem dX6_release_7 : decode cX6_release 7 = .ok (.aload_n 0, 1) := by decide +kernel
theorem dX6_release_8 : decode cX6_release 8 = .ok (.getfield 28, 3) := by decide +kernel
theorem dX6_release_11 : decode cX6_release 11 = .ok (.aload_n 0, 1) := by decide +kernel
theorem dX6_release_12 : decode cX6_release 12 = .ok (.getfield 166, 3) := by decide +kernel
theorem dX6_release_15 : decode cX6_release 15 = .ok (.iconst 1, 1) := by decide +kernel
theorem dX6_release_16 : decode cX6_release 16 = .ok (.isub, 1) := by decide +kernel
theorem dX6_release_17 : decode cX6_release 17 = .ok (.iaload, 1) := by decide +kernel
theorem dX6_release_18 : decode cX6_release 18 = .ok (.invokestatic 202, 3) := by decide +kernel
theorem dX6_release_21 : decode cX6_release 21 = .ok (.iload_n 1, 1) := by decide +kernel
theorem dX6_release_22 : decode cX6_release 22 = .ok (.if_icmp .lt 36, 3) := by decide +kernel
theorem dX6_release_25 : decode cX6_release 25 = .ok (.aload_n 0, 1) := by decide +kernel
theorem dX6_release_26 : decode cX6_release 26 = .ok (.dup, 1) := by decide +kernel
theorem dX6_release_27 : decode cX6_release 27 = .ok (.getfield 166, 3) := by decide +kernel
theorem dX6_release_30 : decode cX6_release 30 = .ok (.iconst 1, 1) := by decide +kernel
theorem dX6_release_31 : decode cX6_release 31 = .ok (.isub, 1) := by decide +kernel
theorem dX6_release_32 : decode cX6_release 32 = .ok (.putfield 166, 3) := by decide +kernel
theorem dX6_release_35 : decode cX6_release 35 = .ok (.aload_n 0, 1) := by decide +kernel
theorem dX6_release_36 : decode cX6_release 36 = .ok (.getfield 32, 3) := by decide +kernel
theorem dX6_release_39 : decode cX6_release 39 = .ok (.sipush 10007, 3) := by decide +kernel
theorem dX6_release_42 : decode cX6_release 42 = .ok (.aload_n 0, 1) := by decide +kernel
theorem dX6_release_43 : decode cX6_release 43 = .ok (.getfield 28, 3) := by decide +kernel
theorem dX6_release_46 : decode cX6_release 46 = .ok (.aload_n 0, 1) := by decide +kernel
theorem dX6_release_47 : decode cX6_release 47 = .ok (.getfield 166, 3) := by decide +kernel
theorem dX6_release_50 : decode cX6_release 50 = .ok (.iaload, 1) := by decide +kernel
theorem dX6_release_51 : decode cX6_release 51 = .ok (.iadd, 1) := by decide +kernel
theorem dX6_release_52 : decode cX6_release 52 = .ok (.invokevirtual 179, 3) := by decide +kernel
theorem dX6_release_55 : decode cX6_release 55 = .ok (.goto (-55), 3) := by decide +kernel
theorem dX6_release_58 : decode cX6_release 58 = .ok (.return_, 1) := by decide +kernel
noncomputable def X6_release_b0 (a1 : Int32) (s : Wd) : Option (Wd ⊕ Wd) :=
(if (s.1 65 16) ≤ 0 then
some (.inr s)
else
gd (vp_in ((s.1 65 16) - (1 : Int32)) 64) <|
(if (X6_bindingOf (s.1 68 (ix ((s.1 65 16) - (1 : Int32)))) s) < a1 then
some (.inr s)
else
(some (puI s 65 16 ((s.1 65 16) - (1 : Int32)))).bind fun w4 =>
gd (vp_in (w4.1 65 16) 64) <|
(X0_addCode ((10007 : Int32) + (w4.1 68 (ix (w4.1 65 16)))) w4).bind fun q5 =>
some (.inl q5)))
set_option maxRecDepth 20000 in
set_option maxHeartbeats 1000000 in
theorem t_X6_release_b0 {κ : Kx} (a1 : Int32) {P : Wd → Prop} (K0 : ∀ e, P e → J κ RX6 cX6_release 2 none (rmk 1 21) 58 [] [] e) (s : Wd) (h : ok (lp (X6_release_b0  a1) s) P) : J κ RX6 cX6_release 2 none (rmk 1 21) 0 [(0, .ref (ad (gm κ) 65)), (1, .int a1)] [] s := by
  refine lp_ind (fun s => J κ RX6 cX6_release 2 none (rmk 1 21) 0 [(0, .ref (ad (gm κ) 65)), (1, .int a1)] [] s) (fun s h => ?_) s h
  unfold X6_release_b0 at h
  refine j_aload_n 0 dX6_release_0 rfl rfl ?_
  refine j_getI fl_RX6_166 sh_65 fk_65_16 dX6_release_1 ?_
  refine j_if_le 58 dX6_release_4 (by decide) h (fun h => ?_) (fun h => ?_)
  · refine j_loc [] [] rfl ?_
    have h := sel_r h
    have h := K0 _ h
    exact h
  · refine j_aload_n 0 dX6_release_7 rfl rfl ?_
    refine j_getA 68 fl_RX6_28 sh_65 fk_65_15 (by decide) dX6_release_8 ?_
    refine j_aload_n 0 dX6_release_11 rfl rfl ?_
    refine j_getI fl_RX6_166 sh_65 fk_65_16 dX6_release_12 ?_
    refine j_iconst (1 : Int32) dX6_release_15 ki_1 ?_
    refine j_isub dX6_release_16 ?_
    refine j_iald sh_68 dX6_release_17 h (fun h => ?_)
    refine j_callS (As := [.int (s.1 68 (ix ((s.1 65 16) - (1 : Int32))))]) (st := []) [.int (X6_bindingOf (s.1 68 (ix ((s.1 65 16) - (1 : Int32)))) s)] (c_X6_bindingOf (kl κ) (gm κ) (kA κ) (s.1 68 (ix ((s.1 65 16) - (1 : Int32)))) s) ck_RX6_202 st_X6_bindingOf ⟨rfl, rfl⟩ ⟨by decide, by decide⟩ rfl rfl (Nat.le_of_ble_eq_true rfl) dX6_release_18 _ rfl ?_
    refine j_iload_n 1 dX6_release_21 rfl rfl ?_
    refine j_ic_lt 58 dX6_release_22 (by decide) h (fun h => ?_) (fun h => ?_)
    · refine j_loc [] [] rfl ?_
      have h := sel_r h
      have h := K0 _ h
      exact h
    · refine j_aload_n 0 dX6_release_25 rfl rfl ?_
      refine j_dup dX6_release_26 rfl ?_
      refine j_getI fl_RX6_166 sh_65 fk_65_16 dX6_release_27 ?_
      refine j_iconst (1 : Int32) dX6_release_30 ki_1 ?_
      refine j_isub dX6_release_31 ?_
      refine j_putI fp_RX6_166 sh_65 fk_65_16 dX6_release_32 ?_
      refine j_lW h (fun w4 h => ?_)
      refine j_aload_n 0 dX6_release_35 rfl rfl ?_
      refine j_getA 30 fl_RX6_32 sh_65 fk_65_0 (by decide) dX6_release_36 ?_
      refine j_sipush (10007 : Int32) dX6_release_39 ks_10007 ?_
      refine j_aload_n 0 dX6_release_42 rfl rfl ?_
      refine j_getA 68 fl_RX6_28 sh_65 fk_65_15 (by decide) dX6_release_43 ?_
      refine j_aload_n 0 dX6_release_46 rfl rfl ?_
      refine j_getI fl_RX6_166 sh_65 fk_65_16 dX6_release_47 ?_
      refine j_iald sh_68 dX6_release_50 h (fun h => ?_)
      refine j_iadd dX6_release_51 ?_
      obtain ⟨q5, e6, h⟩ := ok_b h
      refine j_callV (As := [.int ((10007 : Int32) + (w4.1 68 (ix (w4.1 65 16))))]) (st := []) [] (c_X0_addCode (kl κ) (gm κ) (kA κ) ((10007 : Int32) + (w4.1 68 (ix (w4.1 65 16)))) w4 q5 e6) ck_RX6_179 im_X0_addCode se_X0_addCode sh_30 cx_0 ⟨rfl, rfl⟩ ⟨by decide, by decide⟩ rfl rfl (Nat.le_of_ble_eq_true rfl) dX6_release_52 _ rfl ?_
      refine j_goto 0 dX6_release_55 (by decide) ?_
      refine j_loc [(0, .ref (ad (gm κ) 65)), (1, .int a1)] [0, 1] rfl ?_
      have h := sel_l h
      exact h
noncomputable def X6_release (a1 : Int32) (w : Wd) : Option (Wd) :=
(if (w.1 65 16) ≤ 0 then
some w
else
gd (vp_in ((w.1 65 16) - (1 : Int32)) 64) <|
(if (X6_bindingOf (w.1 68 (ix ((w.1 65 16) - (1 : Int32)))) w) < a1 then
some w
else
(some (puI w 65 16 ((w.1 65 16) - (1 : Int32)))).bind fun w1 =>
gd (vp_in (w1.1 65 16) 64) <|
(X0_addCode ((10007 : Int32) + (w1.1 68 (ix (w1.1 65 16)))) w1).bind fun q2 =>
(lp (X6_release_b0 a1) q2).bind fun e7 =>
some e7))
set_option maxRecDepth 20000 in
set_option maxHeartbeats 1000000 in
theorem t_X6_release {κ : Kx} (a1 : Int32) (w : Wd) (h : ok (X6_release  a1 w) (PVw κ)) : J κ RX6 cX6_release 2 none (rmk 1 21) 0 [(0, .ref (ad (gm κ) 65)), (1, .int a1)] [] w := by
  unfold X6_release at h
  refine j_aload_n 0 dX6_release_0 rfl rfl ?_
  refine j_getI fl_RX6_166 sh_65 fk_65_16 dX6_release_1 ?_
  refine j_if_le 58 dX6_release_4 (by decide) h (fun h => ?_) (fun h => ?_)
  · have h := ok_s h
    exact j_vret dX6_release_58 rfl h
  · refine j_aload_n 0 dX6_release_7 rfl rfl ?_
    refine j_getA 68 fl_RX6_28 sh_65 fk_65_15 (by decide) dX6_release_8 ?_
    refine j_aload_n 0 dX6_release_11 rfl rfl ?_
    refine j_getI fl_RX6_166 sh_65 fk_65_16 dX6_release_12 ?_
    refine j_iconst (1 : Int32) dX6_release_15 ki_1 ?_
    refine j_isub dX6_release_16 ?_
    refine j_iald sh_68 dX6_release_17 h (fun h => ?_)
    refine j_callS (As := [.int (w.1 68 (ix ((w.1 65 16) - (1 : Int32))))]) (st := []) [.int (X6_bindingOf (w.1 68 (ix ((w.1 65 16) - (1 : Int32)))) w)] (c_X6_bindingOf (kl κ) (gm κ) (kA κ) (w.1 68 (ix ((w.1 65 16) - (1 : Int32)))) w) ck_RX6_202 st_X6_bindingOf ⟨rfl, rfl⟩ ⟨by decide, by decide⟩ rfl rfl (Nat.le_of_ble_eq_true rfl) dX6_release_18 _ rfl ?_
    refine j_iload_n 1 dX6_release_21 rfl rfl ?_
    refine j_ic_lt 58 dX6_release_22 (by decide) h (fun h => ?_) (fun h => ?_)
    · have h := ok_s h
      exact j_vret dX6_release_58 rfl h
    · refine j_aload_n 0 dX6_release_25 rfl rfl ?_
      refine j_dup dX6_release_26 rfl ?_
      refine j_getI fl_RX6_166 sh_65 fk_65_16 dX6_release_27 ?_
      refine j_iconst (1 : Int32) dX6_release_30 ki_1 ?_
      refine j_isub dX6_release_31 ?_
      refine j_putI fp_RX6_166 sh_65 fk_65_16 dX6_release_32 ?_
      refine j_lW h (fun w1 h => ?_)
      refine j_aload_n 0 dX6_release_35 rfl rfl ?_
      refine j_getA 30 fl_RX6_32 sh_65 fk_65_0 (by decide) dX6_release_36 ?_
      refine j_sipush (10007 : Int32) dX6_release_39 ks_10007 ?_
      refine j_aload_n 0 dX6_release_42 rfl rfl ?_
      refine j_getA 68 fl_RX6_28 sh_65 fk_65_15 (by decide) dX6_release_43 ?_
      refine j_aload_n 0 dX6_release_46 rfl rfl ?_
      refine j_getI fl_RX6_166 sh_65 fk_65_16 dX6_release_47 ?_
      refine j_iald sh_68 dX6_release_50 h (fun h => ?_)
      refine j_iadd dX6_release_51 ?_
      obtain ⟨q2, e3, h⟩ := ok_b h
      refine j_callV (As := [.int ((10007 : Int32) + (w1.1 68 (ix (w1.1 65 16))))]) (st := []) [] (c_X0_addCode (kl κ) (gm κ) (kA κ) ((10007 : Int32) + (w1.1 68 (ix (w1.1 65 16)))) w1 q2 e3) ck_RX6_179 im_X0_addCode se_X0_addCode sh_30 cx_0 ⟨rfl, rfl⟩ ⟨by decide, by decide⟩ rfl rfl (Nat.le_of_ble_eq_true rfl) dX6_release_52 _ rfl ?_
      refine j_goto 0 dX6_release_55 (by decide) ?_
      refine j_loc [(0, .ref (ad (gm κ) 65)), (1, .int a1)] [0, 1] rfl ?_
      refine t_X6_release_b0 a1 (fun e7 h => ?_) q2 (ok_bb h)
      · have h := ok_s h
        exact j_vret dX6_release_58 rfl h
theorem c_X6_release (l : Launch) (γ : Gm) (A : Nat → Prop) (a1 : Int32) (w : Wd) (q : Wd) (e : X6_release  a1 w = some q) : MetG l γ A yX6_release cX6_release 2 none (rmk 1 21) [.ref (ad (γ) 65), .int a1] w none q := by
  refine met_of pn_RX6 (Nat.le_of_ble_eq_true rfl) ?_
  intro κ hl hγ hA hρ
  subst hl; subst hγ; subst hA
  exact t_X6_release   a1 w ⟨q, e, pVw hρ rfl rfl⟩
theorem dX6_takeOperator_0 : decode cX6_takeOperator 0 = .ok (.aload_n 0, 1) := by decide +kernel
theorem dX6_takeOperator_1 : decode cX6_takeOperator 1 = .ok (.aload_n 0, 1) := by decide +kernel
theorem dX6_takeOperator_2 : decode cX6_takeOperator 2 = .ok (.getfield 67, 3) := by decide +kernel
theorem dX6_takeOperator_5 : decode cX6_takeOperator 5 = .ok (.invokestatic 202, 3) := by decide +kernel
theorem dX6_takeOperator_8 : decode cX6_takeOperator 8 = .ok (.invokevirtual 185, 3) := by decide +kernel
theorem dX6_takeOperator_11 : decode cX6_takeOperator 11 = .ok (.aload_n 0, 1) := by decide +kernel
theorem dX6_takeOperator_12 : decode cX6_takeOperator 12 = .ok (.aload_n 0, 1) := by decide +kernel
theorem dX6_takeOperator_13 : decode cX6_takeOperator 13 = .ok (.getfield 67, 3) := by decide +kernel
theorem dX6_takeOperator_16 : decode cX6_takeOperator 16 = .ok (.invokevirtual 176, 3) := by decide +kernel
theorem dX6_takeOperator_19 : decode cX6_takeOperator 19 = .ok (.aload_n 0, 1) := by decide +kernel
theorem dX6_takeOperator_20 : decode cX6_takeOperator 20 = .ok (.iload_n 1, 1) := by decide +kernel
theorem dX6_takeOperator_21 : decode cX6_takeOperator 21 = .ok (.putfield 163, 3) := by decide +kernel
theorem dX6_takeOperator_24 : decode cX6_takeOperator 24 = .ok (.aload_n 0, 1) := by decide +kernel
theorem dX6_takeOperator_25 : decode cX6_takeOperator 25 = .ok (.iload_n 2, 1) := by decide +kernel
theorem dX6_takeOperator_26 : decode cX6_takeOperator 26 = .ok (.invokevirtual 105, 3) := by decide +kernel
theorem dX6_takeOperator_29 : decode cX6_takeOperator 29 = .ok (.ireturn, 1) := by decide +kernel
noncomputable def X6_takeOperator (a1 : Int32) (a2 : Int32) (w : Wd) : Option (Int32 × Wd) :=
(X6_release (X6_bindingOf (w.1 65 7) w) w).bind fun q1 =>
(X6_await (q1.1 65 7) q1).bind fun q3 =>
(some (puI q3 65 12 a1)).bind fun w5 =>
(X6_goOn a2 w5).bind fun q6 =>
some (q6.1, q6.2)
set_option maxRecDepth 20000 in
set_option maxHeartbeats 1000000 in
theorem t_X6_takeOperator {κ : Kx} (a1 : Int32) (a2 : Int32) (w : Wd) (h : ok (X6_takeOperator  a1 a2 w) (PIw κ)) : J κ RX6 cX6_takeOperator 3 (some .int) (rmk 2 42) 0 [(0, .ref (ad (gm κ) 65)), (1, .int a1), (2, .int a2)] [] w := by
  unfold X6_takeOperator at h
  refine j_aload_n 0 dX6_takeOperator_0 rfl rfl ?_
  refine j_aload_n 0 dX6_takeOperator_1 rfl rfl ?_
  refine j_getI fl_RX6_67 sh_65 fk_65_7 dX6_takeOperator_2 ?_
  refine j_callS (As := [.int (w.1 65 7)]) (st := [.ref (ad (gm κ) 65)]) [.int (X6_bindingOf (w.1 65 7) w), .ref (ad (gm κ) 65)] (c_X6_bindingOf (kl κ) (gm κ) (kA κ) (w.1 65 7) w) ck_RX6_202 st_X6_bindingOf ⟨rfl, rfl⟩ ⟨by decide, by decide⟩ rfl rfl (Nat.le_of_ble_eq_true rfl) dX6_takeOperator_5 _ rfl ?_
  obtain ⟨q1, e2, h⟩ := ok_b h
  refine j_callV (As := [.int (X6_bindingOf (w.1 65 7) w)]) (st := []) [] (c_X6_release (kl κ) (gm κ) (kA κ) (X6_bindingOf (w.1 65 7) w) w q1 e2) ck_RX6_185 im_X6_release se_X6_release sh_65 cx_6 ⟨rfl, rfl⟩ ⟨by decide, by decide⟩ rfl rfl (Nat.le_of_ble_eq_true rfl) dX6_takeOperator_8 _ rfl ?_
  refine j_aload_n 0 dX6_takeOperator_11 rfl rfl ?_
  refine j_aload_n 0 dX6_takeOperator_12 rfl rfl ?_
  refine j_getI fl_RX6_67 sh_65 fk_65_7 dX6_takeOperator_13 ?_
  obtain ⟨q3, e4, h⟩ := ok_b h
  refine j_callV (As := [.int (q1.1 65 7)]) (st := []) [] (c_X6_await (kl κ) (gm κ) (kA κ) (q1.1 65 7) q1 q3 e4) ck_RX6_176 im_X6_await se_X6_await sh_65 cx_6 ⟨rfl, rfl⟩ ⟨by decide, by decide⟩ rfl rfl (Nat.le_of_ble_eq_true rfl) dX6_takeOperator_16 _ rfl ?_
  refine j_aload_n 0 dX6_takeOperator_19 rfl rfl ?_
  refine j_iload_n 1 dX6_takeOperator_20 rfl rfl ?_
  refine j_putI fp_RX6_163 sh_65 fk_65_12 dX6_takeOperator_21 ?_
  refine j_lW h (fun w5 h => ?_)
  refine j_aload_n 0 dX6_takeOperator_24 rfl rfl ?_
  refine j_iload_n 2 dX6_takeOperator_25 rfl rfl ?_
  obtain ⟨q6, e7, h⟩ := ok_b h
  refine j_callV (As := [.int a2]) (st := []) [.int q6.1] (c_X6_goOn (kl κ) (gm κ) (kA κ) a2 w5 q6 e7) ck_RX6_105 im_X6_goOn se_X6_goOn sh_65 cx_6 ⟨rfl, rfl⟩ ⟨by decide, by decide⟩ rfl rfl (Nat.le_of_ble_eq_true rfl) dX6_takeOperator_26 _ rfl ?_
  have h := ok_s h
  exact j_iret dX6_takeOperator_29 rfl rfl h
theorem c_X6_takeOperator (l : Launch) (γ : Gm) (A : Nat → Prop) (a1 : Int32) (a2 : Int32) (w : Wd) (q : Int32 × Wd) (e : X6_takeOperator  a1 a2 w = some q) : MetG l γ A yX6_takeOperator cX6_takeOperator 3 (some .int) (rmk 2 42) [.ref (ad (γ) 65), .int a1, .int a2] w (some (.int q.1)) q.2 := by
  refine met_of pn_RX6 (Nat.le_of_ble_eq_true rfl) ?_
  intro κ hl hγ hA hρ
  subst hl; subst hγ; subst hA
  exact t_X6_takeOperator   a1 a2 w ⟨q, e, pIw hρ rfl rfl⟩
theorem dX6_takeInSum_0 : decode cX6_takeInSum 0 = .ok (.aload_n 0, 1) := by decide +kernel
theorem dX6_takeInSum_1 : decode cX6_takeInSum 1 = .ok (.getfield 67, 3) := by decide +kernel
theorem dX6_takeInSum_4 : decode cX6_takeInSum 4 = .ok (.invokestatic 130, 3) := by decide +kernel
theorem dX6_takeInSum_7 : decode cX6_takeInSum 7 = .ok (.ifCond .eq 14, 3) := by decide +kernel
theorem dX6_takeInSum_10 : decode cX6_takeInSum 10 = .ok (.aload_n 0, 1) := by decide +kernel
theorem dX6_takeInSum_11 : decode cX6_takeInSum 11 = .ok (.aload_n 0, 1) := by decide +kernel
theorem dX6_takeInSum_12 : decode cX6_takeInSum 12 = .ok (.getfield 163, 3) := by decide +kernel
theorem dX6_takeInSum_15 : decode cX6_takeInSum 15 = .ok (.bipush 8, 2) := by decide +kernel
theorem dX6_takeInSum_17 : decode cX6_takeInSum 17 = .ok (.invokevirtual 182, 3) := by decide +kernel
theorem dX6_takeInSum_20 : decode cX6_takeInSum 20 = .ok (.ireturn, 1) := by decide +kernel
theorem dX6_takeInSum_21 : decode cX6_takeInSum 21 = .ok (.aload_n 0, 1) := by decide +kernel
theorem dX6_takeInSum_22 : decode cX6_takeInSum 22 = .ok (.getfield 67, 3) := by decide +kernel
theorem dX6_takeInSum_25 : decode cX6_takeInSum 25 = .ok (.bipush 41, 2) := by decide +kernel
theorem dX6_takeInSum_27 : decode cX6_takeInSum 27 = .ok (.if_icmp .eq 5, 3) := by decide +kernel
theorem dX6_takeInSum_30 : decode cX6_takeInSum 30 = .ok (.iconst 2, 1) := by decide +kernel
theorem dX6_takeInSum_31 : decode cX6_takeInSum 31 = .ok (.ireturn, 1) := by decide +kernel
theorem dX6_takeInSum_32 : decode cX6_takeInSum 32 = .ok (.aload_n 0, 1) := by decide +kernel
theorem dX6_takeInSum_33 : decode cX6_takeInSum 33 = .ok (.iconst 1, 1) := by decide +kernel
theorem dX6_takeInSum_34 : decode cX6_takeInSum 34 = .ok (.invokevirtual 185, 3) := by decide +kernel
theorem dX6_takeInSum_37 : decode cX6_takeInSum 37 = .ok (.aload_n 0, 1) := by decide +kernel
theorem dX6_takeInSum_38 : decode cX6_takeInSum 38 = .ok (.getfield 166, 3) := by decide +kernel
theorem dX6_takeInSum_41 : decode cX6_takeInSum 41 = .ok (.ifCond .le 13, 3) := by decide +kernel
theorem dX6_takeInSum_44 : decode cX6_takeInSum 44 = .ok (.aload_n 0, 1) := by decide +kernel
theorem dX6_takeInSum_45 : decode cX6_takeInSum 45 = .ok (.dup, 1) := by decide +kernel
theorem dX6_takeInSum_46 : decode cX6_takeInSum 46 = .ok (.getfield 166, 3) := by decide +kernel
theorem dX6_takeInSum_49 : decode cX6_takeInSum 49 = .ok (.iconst 1, 1) := by decide +kernel
theorem dX6_takeInSum_50 : decode cX6_takeInSum 50 = .ok (.isub, 1) := by decide +kernel
theorem dX6_takeInSum_51 : decode cX6_takeInSum 51 = .ok (.putfield 166, 3) := by decide +kernel
theorem dX6_takeInSum_54 : decode cX6_takeInSum 54 = .ok (.aload_n 0, 1) := by decide +kernel
theorem dX6_takeInSum_55 : decode cX6_takeInSum 55 = .ok (.dup, 1) := by decide +kernel
theorem dX6_takeInSum_56 : decode cX6_takeInSum 56 = .ok (.getfield 127, 3) := by decide +kernel
theorem dX6_takeInSum_59 : decode cX6_takeInSum 59 = .ok (.iconst 1, 1) := by decide +kernel
theorem dX6_takeInSum_60 : decode cX6_takeInSum 60 = .ok (.isub, 1) := by decide +kernel
theorem dX6_takeInSum_61 : decode cX6_takeInSum 61 = .ok (.putfield 127, 3) := by decide +kernel
theorem dX6_takeInSum_64 : decode cX6_takeInSum 64 = .ok (.iconst 0, 1) := by decide +kernel
theorem dX6_takeInSum_65 : decode cX6_takeInSum 65 = .ok (.ireturn, 1) := by decide +kernel
noncomputable def X6_takeInSum_j54 (w : Wd) : Option (Int32 × Wd) :=
(some (puI w 65 14 ((w.1 65 14) - (1 : Int32)))).bind fun w3 =>
some ((0 : Int32), w3)
set_option maxRecDepth 20000 in
set_option maxHeartbeats 1000000 in
theorem t_X6_takeInSum_j54 {κ : Kx} (w : Wd) (h : ok (X6_takeInSum_j54  w) (PIw κ)) : J κ RX6 cX6_takeInSum 1 (some .int) (rmk 3 64) 54 [(0, .ref (ad (gm κ) 65))] [] w := by
  unfold X6_takeInSum_j54 at h
  refine j_aload_n 0 dX6_takeInSum_54 rfl rfl ?_
  refine j_dup dX6_takeInSum_55 rfl ?_
  refine j_getI fl_RX6_127 sh_65 fk_65_14 dX6_takeInSum_56 ?_
  refine j_iconst (1 : Int32) dX6_takeInSum_59 ki_1 ?_
  refine j_isub dX6_takeInSum_60 ?_
  refine j_putI fp_RX6_127 sh_65 fk_65_14 dX6_takeInSum_61 ?_
  refine j_lW h (fun w3 h => ?_)
  refine j_iconst (0 : Int32) dX6_takeInSum_64 ki_0 ?_
  have h := ok_s h
  exact j_iret dX6_takeInSum_65 rfl rfl h
noncomputable def X6_takeInSum (w : Wd) : Option (Int32 × Wd) :=
(if (X6_isReckoner (w.1 65 7) w) = 0 then
(if (w.1 65 7) = (41 : Int32) then
(X6_release (1 : Int32) w).bind fun q1 =>
(if (q1.1 65 16) ≤ 0 then
X6_takeInSum_j54 q1
else
(some (puI q1 65 16 ((q1.1 65 16) - (1 : Int32)))).bind fun w4 =>
X6_takeInSum_j54 w4)
else
some ((2 : Int32), w))
else
(X6_takeOperator (w.1 65 12) (8 : Int32) w).bind fun q5 =>
some (q5.1, q5.2))
set_option maxRecDepth 20000 in
set_option maxHeartbeats 1000000 in
theorem t_X6_takeInSum {κ : Kx} (w : Wd) (h : ok (X6_takeInSum   w) (PIw κ)) : J κ RX6 cX6_takeInSum 1 (some .int) (rmk 3 64) 0 [(0, .ref (ad (gm κ) 65))] [] w := by
  unfold X6_takeInSum at h
  refine j_aload_n 0 dX6_takeInSum_0 rfl rfl ?_
  refine j_getI fl_RX6_67 sh_65 fk_65_7 dX6_takeInSum_1 ?_
  refine j_callS (As := [.int (w.1 65 7)]) (st := []) [.int (X6_isReckoner (w.1 65 7) w)] (c_X6_isReckoner (kl κ) (gm κ) (kA κ) (w.1 65 7) w) ck_RX6_130 st_X6_isReckoner ⟨rfl, rfl⟩ ⟨by decide, by decide⟩ rfl rfl (Nat.le_of_ble_eq_true rfl) dX6_takeInSum_4 _ rfl ?_
  refine j_if_eq 21 dX6_takeInSum_7 (by decide) h (fun h => ?_) (fun h => ?_)
  · refine j_aload_n 0 dX6_takeInSum_21 rfl rfl ?_
    refine j_getI fl_RX6_67 sh_65 fk_65_7 dX6_takeInSum_22 ?_
    refine j_bipush (41 : Int32) dX6_takeInSum_25 kb_41 ?_
    refine j_ic_eq 32 dX6_takeInSum_27 (by decide) h (fun h => ?_) (fun h => ?_)
    · refine j_aload_n 0 dX6_takeInSum_32 rfl rfl ?_
      refine j_iconst (1 : Int32) dX6_takeInSum_33 ki_1 ?_
      obtain ⟨q1, e2, h⟩ := ok_b h
      refine j_callV (As := [.int (1 : Int32)]) (st := []) [] (c_X6_release (kl κ) (gm κ) (kA κ) (1 : Int32) w q1 e2) ck_RX6_185 im_X6_release se_X6_release sh_65 cx_6 ⟨rfl, rfl⟩ ⟨by decide, by decide⟩ rfl rfl (Nat.le_of_ble_eq_true rfl) dX6_takeInSum_34 _ rfl ?_
      refine j_aload_n 0 dX6_takeInSum_37 rfl rfl ?_
      refine j_getI fl_RX6_166 sh_65 fk_65_16 dX6_takeInSum_38 ?_
      refine j_if_le 54 dX6_takeInSum_41 (by decide) h (fun h => ?_) (fun h => ?_)
      · refine j_loc [(0, .ref (ad (gm κ) 65))] [0] rfl ?_
        exact t_X6_takeInSum_j54 q1 h
      · refine j_aload_n 0 dX6_takeInSum_44 rfl rfl ?_
        refine j_dup dX6_takeInSum_45 rfl ?_
        refine j_getI fl_RX6_166 sh_65 fk_65_16 dX6_takeInSum_46 ?_
        refine j_iconst (1 : Int32) dX6_takeInSum_49 ki_1 ?_
        refine j_isub dX6_takeInSum_50 ?_
        refine j_putI fp_RX6_166 sh_65 fk_65_16 dX6_takeInSum_51 ?_
        refine j_lW h (fun w4 h => ?_)
        refine j_loc [(0, .ref (ad (gm κ) 65))] [0] rfl ?_
        exact t_X6_takeInSum_j54 w4 h
    · refine j_iconst (2 : Int32) dX6_takeInSum_30 ki_2 ?_
      have h := ok_s h
      exact j_iret dX6_takeInSum_31 rfl rfl h
  · refine j_aload_n 0 dX6_takeInSum_10 rfl rfl ?_
    refine j_aload_n 0 dX6_takeInSum_11 rfl rfl ?_
    refine j_getI fl_RX6_163 sh_65 fk_65_12 dX6_takeInSum_12 ?_
    refine j_bipush (8 : Int32) dX6_takeInSum_15 kb_8 ?_
    obtain ⟨q5, e6, h⟩ := ok_b h
    refine j_callV (As := [.int (w.1 65 12), .int (8 : Int32)]) (st := []) [.int q5.1] (c_X6_takeOperator (kl κ) (gm κ) (kA κ) (w.1 65 12) (8 : Int32) w q5 e6) ck_RX6_182 im_X6_takeOperator se_X6_takeOperator sh_65 cx_6 ⟨rfl, rfl⟩ ⟨by decide, by decide⟩ rfl rfl (Nat.le_of_ble_eq_true rfl) dX6_takeInSum_17 _ rfl ?_
    have h := ok_s h
    exact j_iret dX6_takeInSum_20 rfl rfl h
theorem c_X6_takeInSum (l : Launch) (γ : Gm) (A : Nat → Prop) (w : Wd) (q : Int32 × Wd) (e : X6_takeInSum   w = some q) : MetG l γ A yX6_takeInSum cX6_takeInSum 1 (some .int) (rmk 3 64) [.ref (ad (γ) 65)] w (some (.int q.1)) q.2 := by
  refine met_of pn_RX6 (Nat.le_of_ble_eq_true rfl) ?_
  intro κ hl hγ hA hρ
  subst hl; subst hγ; subst hA
  exact t_X6_takeInSum    w ⟨q, e, pIw hρ rfl rfl⟩
theorem dX6_openUnless_0 : decode cX6_openUnless 0 = .ok (.aload_n 0, 1) := by decide +kernel
theorem dX6_openUnless_1 : decode cX6_openUnless 1 = .ok (.iconst 1, 1) := by decide +kernel
theorem dX6_openUnless_2 : decode cX6_openUnless 2 = .ok (.invokevirtual 185, 3) := by decide +kernel
theorem dX6_openUnless_5 : decode cX6_openUnless 5 = .ok (.aload_n 0, 1) := by decide +kernel
theorem dX6_openUnless_6 : decode cX6_openUnless 6 = .ok (.getfield 32, 3) := by decide +kernel
theorem dX6_openUnless_9 : decode cX6_openUnless 9 = .ok (.invokevirtual 197, 3) := by decide +kernel
theorem dX6_openUnless_12 : decode cX6_openUnless 12 = .ok (.aload_n 0, 1) := by decide +kernel
theorem dX6_openUnless_13 : decode cX6_openUnless 13 = .ok (.iconst 1, 1) := by decide +kernel
theorem dX6_openUnless_14 : decode cX6_openUnless 14 = .ok (.bipush 7, 2) := by decide +kernel
theorem dX6_openUnless_16 : decode cX6_openUnless 16 = .ok (.invokevirtual 160, 3) := by decide +kernel
theorem dX6_openUnless_19 : decode cX6_openUnless 19 = .ok (.ireturn, 1) := by decide +kernel
noncomputable def X6_openUnless (w : Wd) : Option (Int32 × Wd) :=
(X6_release (1 : Int32) w).bind fun q1 =>
(X0_draftUnless q1).bind fun q3 =>
(X6_openSum (1 : Int32) (7 : Int32) q3).bind fun q5 =>
some (q5.1, q5.2)
set_option maxRecDepth 20000 in
set_option maxHeartbeats 1000000 in
theorem t_X6_openUnless {κ : Kx} (w : Wd) (h : ok (X6_openUnless   w) (PIw κ)) : J κ RX6 cX6_openUnless 1 (some .int) (rmk 3 63) 0 [(0, .ref (ad (gm κ) 65))] [] w := by
  unfold X6_openUnless at h
  refine j_aload_n 0 dX6_openUnless_0 rfl rfl ?_
  refine j_iconst (1 : Int32) dX6_openUnless_1 ki_1 ?_
  obtain ⟨q1, e2, h⟩ := ok_b h
  refine j_callV (As := [.int (1 : Int32)]) (st := []) [] (c_X6_release (kl κ) (gm κ) (kA κ) (1 : Int32) w q1 e2) ck_RX6_185 im_X6_release se_X6_release sh_65 cx_6 ⟨rfl, rfl⟩ ⟨by decide, by decide⟩ rfl rfl (Nat.le_of_ble_eq_true rfl) dX6_openUnless_2 _ rfl ?_
  refine j_aload_n 0 dX6_openUnless_5 rfl rfl ?_
  refine j_getA 30 fl_RX6_32 sh_65 fk_65_0 (by decide) dX6_openUnless_6 ?_
  obtain ⟨q3, e4, h⟩ := ok_b h
  refine j_callV (As := []) (st := []) [] (c_X0_draftUnless (kl κ) (gm κ) (kA κ) q1 q3 e4) ck_RX6_197 im_X0_draftUnless se_X0_draftUnless sh_30 cx_0 ⟨rfl, rfl⟩ ⟨by decide, by decide⟩ rfl rfl (Nat.le_of_ble_eq_true rfl) dX6_openUnless_9 _ rfl ?_
  refine j_aload_n 0 dX6_openUnless_12 rfl rfl ?_
  refine j_iconst (1 : Int32) dX6_openUnless_13 ki_1 ?_
  refine j_bipush (7 : Int32) dX6_openUnless_14 kb_7 ?_
  obtain ⟨q5, e6, h⟩ := ok_b h
  refine j_callV (As := [.int (1 : Int32), .int (7 : Int32)]) (st := []) [.int q5.1] (c_X6_openSum (kl κ) (gm κ) (kA κ) (1 : Int32) (7 : Int32) q3 q5 e6) ck_RX6_160 im_X6_openSum se_X6_openSum sh_65 cx_6 ⟨rfl, rfl⟩ ⟨by decide, by decide⟩ rfl rfl (Nat.le_of_ble_eq_true rfl) dX6_openUnless_16 _ rfl ?_
  have h := ok_s h
  exact j_iret dX6_openUnless_19 rfl rfl h
theorem c_X6_openUnless (l : Launch) (γ : Gm) (A : Nat → Prop) (w : Wd) (q : Int32 × Wd) (e : X6_openUnless   w = some q) : MetG l γ A yX6_openUnless cX6_openUnless 1 (some .int) (rmk 3 63) [.ref (ad (γ) 65)] w (some (.int q.1)) q.2 := by
  refine met_of pn_RX6 (Nat.le_of_ble_eq_true rfl) ?_
  intro κ hl hγ hA hρ
  subst hl; subst hγ; subst hA
  exact t_X6_openUnless    w ⟨q, e, pIw hρ rfl rfl⟩
theorem dX6_closeRule_0 : decode cX6_closeRule 0 = .ok (.aload_n 0, 1) := by decide +kernel
theorem dX6_closeRule_1 : decode cX6_closeRule 1 = .ok (.iconst 1, 1) := by decide +kernel
theorem dX6_closeRule_2 : decode cX6_closeRule 2 = .ok (.invokevirtual 185, 3) := by decide +kernel
theorem dX6_closeRule_5 : decode cX6_closeRule 5 = .ok (.aload_n 0, 1) := by decide +kernel
theorem dX6_closeRule_6 : decode cX6_closeRule 6 = .ok (.getfield 32, 3) := by decide +kernel
theorem dX6_closeRule_9 : decode cX6_closeRule 9 = .ok (.invokevirtual 200, 3) := by decide +kernel
theorem dX6_closeRule_12 : decode cX6_closeRule 12 = .ok (.aload_n 0, 1) := by decide +kernel
theorem dX6_closeRule_13 : decode cX6_closeRule 13 = .ok (.iconst 0, 1) := by decide +kernel
theorem dX6_closeRule_14 : decode cX6_closeRule 14 = .ok (.invokevirtual 105, 3) := by decide +kernel
theorem dX6_closeRule_17 : decode cX6_closeRule 17 = .ok (.ireturn, 1) := by decide +kernel
noncomputable def X6_closeRule (w : Wd) : Option (Int32 × Wd) :=
(X6_release (1 : Int32) w).bind fun q1 =>
(X0_closeRule q1).bind fun q3 =>
(X6_goOn (0 : Int32) q3).bind fun q5 =>
some (q5.1, q5.2)
set_option maxRecDepth 20000 in
set_option maxHeartbeats 1000000 in
theorem t_X6_closeRule {κ : Kx} (w : Wd) (h : ok (X6_closeRule   w) (PIw κ)) : J κ RX6 cX6_closeRule 1 (some .int) (rmk 3 64) 0 [(0, .ref (ad (gm κ) 65))] [] w := by
  unfold X6_closeRule at h
  refine j_aload_n 0 dX6_closeRule_0 rfl rfl ?_
  refine j_iconst (1 : Int32) dX6_closeRule_1 ki_1 ?_
  obtain ⟨q1, e2, h⟩ := ok_b h
  refine j_callV (As := [.int (1 : Int32)]) (st := []) [] (c_X6_release (kl κ) (gm κ) (kA κ) (1 : Int32) w q1 e2) ck_RX6_185 im_X6_release se_X6_release sh_65 cx_6 ⟨rfl, rfl⟩ ⟨by decide, by decide⟩ rfl rfl (Nat.le_of_ble_eq_true rfl) dX6_closeRule_2 _ rfl ?_
  refine j_aload_n 0 dX6_closeRule_5 rfl rfl ?_
  refine j_getA 30 fl_RX6_32 sh_65 fk_65_0 (by decide) dX6_closeRule_6 ?_
  obtain ⟨q3, e4, h⟩ := ok_b h
  refine j_callV (As := []) (st := []) [] (c_X0_closeRule (kl κ) (gm κ) (kA κ) q1 q3 e4) ck_RX6_200 im_X0_closeRule se_X0_closeRule sh_30 cx_0 ⟨rfl, rfl⟩ ⟨by decide, by decide⟩ rfl rfl (Nat.le_of_ble_eq_true rfl) dX6_closeRule_9 _ rfl ?_
  refine j_aload_n 0 dX6_closeRule_12 rfl rfl ?_
  refine j_iconst (0 : Int32) dX6_closeRule_13 ki_0 ?_
  obtain ⟨q5, e6, h⟩ := ok_b h
  refine j_callV (As := [.int (0 : Int32)]) (st := []) [.int q5.1] (c_X6_goOn (kl κ) (gm κ) (kA κ) (0 : Int32) q3 q5 e6) ck_RX6_105 im_X6_goOn se_X6_goOn sh_65 cx_6 ⟨rfl, rfl⟩ ⟨by decide, by decide⟩ rfl rfl (Nat.le_of_ble_eq_true rfl) dX6_closeRule_14 _ rfl ?_
  have h := ok_s h
  exact j_iret dX6_closeRule_17 rfl rfl h
theorem c_X6_closeRule (l : Launch) (γ : Gm) (A : Nat → Prop) (w : Wd) (q : Int32 × Wd) (e : X6_closeRule   w = some q) : MetG l γ A yX6_closeRule cX6_closeRule 1 (some .int) (rmk 3 64) [.ref (ad (γ) 65)] w (some (.int q.1)) q.2 := by
  refine met_of pn_RX6 (Nat.le_of_ble_eq_true rfl) ?_
  intro κ hl hγ hA hρ
  subst hl; subst hγ; subst hA
  exact t_X6_closeRule    w ⟨q, e, pIw hρ rfl rfl⟩
theorem dX6_takeBehindSum_0 : decode cX6_takeBehindSum 0 = .ok (.aload_n 0, 1) := by decide +kernel
theorem dX6_takeBehindSum_1 : decode cX6_takeBehindSum 1 = .ok (.getfield 67, 3) := by decide +kernel
theorem dX6_takeBehindSum_4 : decode cX6_takeBehindSum 4 = .ok (.lookupswitch 152 #[(59, 135), (60, 68), (61, 68), (62, 68), (102, 108), (107, 88), (108, 88)], 68) := by decide +kernel
theorem dX6_takeBehindSum_72 : decode cX6_takeBehindSum 72 = .ok (.aload_n 0, 1) := by decide +kernel
theorem dX6_takeBehindSum_73 : decode cX6_takeBehindSum 73 = .ok (.getfield 163, 3) := by decide +kernel
theorem dX6_takeBehindSum_76 : decode cX6_takeBehindSum 76 = .ok (.iconst 1, 1) := by decide +kernel
theorem dX6_takeBehindSum_77 : decode cX6_takeBehindSum 77 = .ok (.if_icmp .ne 13, 3) := by decide +kernel
theorem dX6_takeBehindSum_80 : decode cX6_takeBehindSum 80 = .ok (.aload_n 0, 1) := by decide +kernel
theorem dX6_takeBehindSum_81 : decode cX6_takeBehindSum 81 = .ok (.iconst 2, 1) := by decide +kernel
theorem dX6_takeBehindSum_82 : decode cX6_takeBehindSum 82 = .ok (.bipush 8, 2) := by decide +kernel
theorem dX6_takeBehindSum_84 : decode cX6_takeBehindSum 84 = .ok (.invokevirtual 182, 3) := by decide +kernel
theorem dX6_takeBehindSum_87 : decode cX6_takeBehindSum 87 = .ok (.goto 4, 3) := by decide +kernel
theorem dX6_takeBehindSum_90 : decode cX6_takeBehindSum 90 = .ok (.iconst 2, 1) := by decide +kernel
theorem dX6_takeBehindSum_91 : decode cX6_takeBehindSum 91 = .ok (.ireturn, 1) := by decide +kernel
theorem dX6_takeBehindSum_92 : decode cX6_takeBehindSum 92 = .ok (.aload_n 0, 1) := by decide +kernel
theorem dX6_takeBehindSum_93 : decode cX6_takeBehindSum 93 = .ok (.getfield 163, 3) := by decide +kernel
theorem dX6_takeBehindSum_96 : decode cX6_takeBehindSum 96 = .ok (.iconst 2, 1) := by decide +kernel
theorem dX6_takeBehindSum_97 : decode cX6_takeBehindSum 97 = .ok (.if_icmp .ne 13, 3) := by decide +kernel
theorem dX6_takeBehindSum_100 : decode cX6_takeBehindSum 100 = .ok (.aload_n 0, 1) := by decide +kernel
theorem dX6_takeBehindSum_101 : decode cX6_takeBehindSum 101 = .ok (.iconst 1, 1) := by decide +kernel
theorem dX6_takeBehindSum_102 : decode cX6_takeBehindSum 102 = .ok (.bipush 7, 2) := by decide +kernel
theorem dX6_takeBehindSum_104 : decode cX6_takeBehindSum 104 = .ok (.invokevirtual 182, 3) := by decide +kernel
theorem dX6_takeBehindSum_107 : decode cX6_takeBehindSum 107 = .ok (.goto 4, 3) := by decide +kernel
theorem dX6_takeBehindSum_110 : decode cX6_takeBehindSum 110 = .ok (.iconst 2, 1) := by decide +kernel
theorem dX6_takeBehindSum_111 : decode cX6_takeBehindSum 111 = .ok (.ireturn, 1) := by decide +kernel
theorem dX6_takeBehindSum_112 : decode cX6_takeBehindSum 112 = .ok (.aload_n 0, 1) := by decide +kernel
theorem dX6_takeBehindSum_113 : decode cX6_takeBehindSum 113 = .ok (.getfield 163, 3) := by decide +kernel
theorem dX6_takeBehindSum_116 : decode cX6_takeBehindSum 116 = .ok (.iconst 1, 1) := by decide +kernel
theorem dX6_takeBehindSum_117 : decode cX6_takeBehindSum 117 = .ok (.if_icmp .eq 13, 3) := by decide +kernel
theorem dX6_takeBehindSum_120 : decode cX6_takeBehindSum 120 = .ok (.aload_n 0, 1) := by decide +kernel
theorem dX6_takeBehindSum_121 : decode cX6_takeBehindSum 121 = .ok (.getfield 32, 3) := by decide +kernel
theorem dX6_takeBehindSum_124 : decode cX6_takeBehindSum 124 = .ok (.invokevirtual 188, 3) := by decide +kernel
theorem dX6_takeBehindSum_127 : decode cX6_takeBehindSum 127 = .ok (.ifCond .eq 7, 3) := by decide +kernel
theorem dX6_takeBehindSum_130 : decode cX6_takeBehindSum 130 = .ok (.iconst 2, 1) := by decide +kernel
theorem dX6_takeBehindSum_131 : decode cX6_takeBehindSum 131 = .ok (.goto 7, 3) := by decide +kernel
theorem dX6_takeBehindSum_134 : decode cX6_takeBehindSum 134 = .ok (.aload_n 0, 1) := by decide +kernel
theorem dX6_takeBehindSum_135 : decode cX6_takeBehindSum 135 = .ok (.invokevirtual 191, 3) := by decide +kernel
theorem dX6_takeBehindSum_138 : decode cX6_takeBehindSum 138 = .ok (.ireturn, 1) := by decide +kernel
theorem dX6_takeBehindSum_139 : decode cX6_takeBehindSum 139 = .ok (.aload_n 0, 1) := by decide +kernel
theorem dX6_takeBehindSum_140 : decode cX6_takeBehindSum 140 = .ok (.getfield 163, 3) := by decide +kernel
theorem dX6_takeBehindSum_143 : decode cX6_takeBehindSum 143 = .ok (.iconst 1, 1) := by decide +kernel
theorem dX6_takeBehindSum_144 : decode cX6_takeBehindSum 144 = .ok (.if_icmp .ne 7, 3) := by decide +kernel
theorem dX6_takeBehindSum_147 : decode cX6_takeBehindSum 147 = .ok (.iconst 2, 1) := by decide +kernel
theorem dX6_takeBehindSum_148 : decode cX6_takeBehindSum 148 = .ok (.goto 7, 3) := by decide +kernel
theorem dX6_takeBehindSum_151 : decode cX6_takeBehindSum 151 = .ok (.aload_n 0, 1) := by decide +kernel
theorem dX6_takeBehindSum_152 : decode cX6_takeBehindSum 152 = .ok (.invokevirtual 194, 3) := by decide +kernel
theorem dX6_takeBehindSum_155 : decode cX6_takeBehindSum 155 = .ok (.ireturn, 1) := by decide +kernel
theorem dX6_takeBehindSum_156 : decode cX6_takeBehindSum 156 = .ok (.iconst 2, 1) := by decide +kernel
theorem dX6_takeBehindSum_157 : decode cX6_takeBehindSum 157 = .ok (.ireturn, 1) := by decide +kernel
noncomputable def X6_takeBehindSum_j72 (w : Wd) : Option (Int32 × Wd) :=
(if (w.1 65 12) = (1 : Int32) then
(X6_takeOperator (2 : Int32) (8 : Int32) w).bind fun q3 =>
some (q3.1, q3.2)
else
some ((2 : Int32), w))
set_option maxRecDepth 20000 in
set_option maxHeartbeats 1000000 in
theorem t_X6_takeBehindSum_j72 {κ : Kx} (w : Wd) (h : ok (X6_takeBehindSum_j72  w) (PIw κ)) : J κ RX6 cX6_takeBehindSum 1 (some .int) (rmk 4 84) 72 [(0, .ref (ad (gm κ) 65))] [] w := by
  unfold X6_takeBehindSum_j72 at h
  refine j_aload_n 0 dX6_takeBehindSum_72 rfl rfl ?_
  refine j_getI fl_RX6_163 sh_65 fk_65_12 dX6_takeBehindSum_73 ?_
  refine j_iconst (1 : Int32) dX6_takeBehindSum_76 ki_1 ?_
  refine j_ic_ne 90 dX6_takeBehindSum_77 (by decide) h (fun h => ?_) (fun h => ?_)
  · refine j_iconst (2 : Int32) dX6_takeBehindSum_90 ki_2 ?_
    have h := ok_s h
    exact j_iret dX6_takeBehindSum_91 rfl rfl h
  · refine j_aload_n 0 dX6_takeBehindSum_80 rfl rfl ?_
    refine j_iconst (2 : Int32) dX6_takeBehindSum_81 ki_2 ?_
    refine j_bipush (8 : Int32) dX6_takeBehindSum_82 kb_8 ?_
    obtain ⟨q3, e4, h⟩ := ok_b h
    refine j_callV (As := [.int (2 : Int32), .int (8 : Int32)]) (st := []) [.int q3.1] (c_X6_takeOperator (kl κ) (gm κ) (kA κ) (2 : Int32) (8 : Int32) w q3 e4) ck_RX6_182 im_X6_takeOperator se_X6_takeOperator sh_65 cx_6 ⟨rfl, rfl⟩ ⟨by decide, by decide⟩ rfl rfl (Nat.le_of_ble_eq_true rfl) dX6_takeBehindSum_84 _ rfl ?_
    refine j_goto 91 dX6_takeBehindSum_87 (by decide) ?_
    have h := ok_s h
    exact j_iret dX6_takeBehindSum_91 rfl rfl h
noncomputable def X6_takeBehindSum_j92 (w : Wd) : Option (Int32 × Wd) :=
(if (w.1 65 12) = (2 : Int32) then
(X6_takeOperator (1 : Int32) (7 : Int32) w).bind fun q9 =>
some (q9.1, q9.2)
else
some ((2 : Int32), w))
set_option maxRecDepth 20000 in
set_option maxHeartbeats 1000000 in
theorem t_X6_takeBehindSum_j92 {κ : Kx} (w : Wd) (h : ok (X6_takeBehindSum_j92  w) (PIw κ)) : J κ RX6 cX6_takeBehindSum 1 (some .int) (rmk 4 84) 92 [(0, .ref (ad (gm κ) 65))] [] w := by
  unfold X6_takeBehindSum_j92 at h
  refine j_aload_n 0 dX6_takeBehindSum_92 rfl rfl ?_
  refine j_getI fl_RX6_163 sh_65 fk_65_12 dX6_takeBehindSum_93 ?_
  refine j_iconst (2 : Int32) dX6_takeBehindSum_96 ki_2 ?_
  refine j_ic_ne 110 dX6_takeBehindSum_97 (by decide) h (fun h => ?_) (fun h => ?_)
  · refine j_iconst (2 : Int32) dX6_takeBehindSum_110 ki_2 ?_
    have h := ok_s h
    exact j_iret dX6_takeBehindSum_111 rfl rfl h
  · refine j_aload_n 0 dX6_takeBehindSum_100 rfl rfl ?_
    refine j_iconst (1 : Int32) dX6_takeBehindSum_101 ki_1 ?_
    refine j_bipush (7 : Int32) dX6_takeBehindSum_102 kb_7 ?_
    obtain ⟨q9, e10, h⟩ := ok_b h
    refine j_callV (As := [.int (1 : Int32), .int (7 : Int32)]) (st := []) [.int q9.1] (c_X6_takeOperator (kl κ) (gm κ) (kA κ) (1 : Int32) (7 : Int32) w q9 e10) ck_RX6_182 im_X6_takeOperator se_X6_takeOperator sh_65 cx_6 ⟨rfl, rfl⟩ ⟨by decide, by decide⟩ rfl rfl (Nat.le_of_ble_eq_true rfl) dX6_takeBehindSum_104 _ rfl ?_
    refine j_goto 111 dX6_takeBehindSum_107 (by decide) ?_
    have h := ok_s h
    exact j_iret dX6_takeBehindSum_111 rfl rfl h
noncomputable def X6_takeBehindSum (w : Wd) : Option (Int32 × Wd) :=
(if (w.1 65 7) = (59 : Int32) then
(if (w.1 65 12) = (1 : Int32) then
some ((2 : Int32), w)
else
(X6_closeRule w).bind fun q1 =>
some (q1.1, q1.2))
else
(if (w.1 65 7) = (60 : Int32) then
X6_takeBehindSum_j72 w
else
(if (w.1 65 7) = (61 : Int32) then
X6_takeBehindSum_j72 w
else
(if (w.1 65 7) = (62 : Int32) then
X6_takeBehindSum_j72 w
else
(if (w.1 65 7) = (102 : Int32) then
(if (w.1 65 12) = (1 : Int32) then
some ((2 : Int32), w)
else
(X0_hasUnless w).bind fun q5 =>
(if q5 = 0 then
(X6_openUnless w).bind fun q7 =>
some (q7.1, q7.2)
else
some ((2 : Int32), w)))
else
(if (w.1 65 7) = (107 : Int32) then
X6_takeBehindSum_j92 w
else
(if (w.1 65 7) = (108 : Int32) then
X6_takeBehindSum_j92 w
else
some ((2 : Int32), w))))))))
set_option maxRecDepth 20000 in
set_option maxHeartbeats 1000000 in
theorem t_X6_takeBehindSum {κ : Kx} (w : Wd) (h : ok (X6_takeBehindSum   w) (PIw κ)) : J κ RX6 cX6_takeBehindSum 1 (some .int) (rmk 4 84) 0 [(0, .ref (ad (gm κ) 65))] [] w := by
  unfold X6_takeBehindSum at h
  refine j_aload_n 0 dX6_takeBehindSum_0 rfl rfl ?_
  refine j_getI fl_RX6_67 sh_65 fk_65_7 dX6_takeBehindSum_1 ?_
  refine j_cs (59 : Int32) h (fun h => ?_) (fun n0 h => ?_)
  · refine j_lk (off := 135) 139 dX6_takeBehindSum_4 (by decide +kernel) (by decide +kernel) (by decide) ?_
    refine j_aload_n 0 dX6_takeBehindSum_139 rfl rfl ?_
    refine j_getI fl_RX6_163 sh_65 fk_65_12 dX6_takeBehindSum_140 ?_
    refine j_iconst (1 : Int32) dX6_takeBehindSum_143 ki_1 ?_
    refine j_ic_ne 151 dX6_takeBehindSum_144 (by decide) h (fun h => ?_) (fun h => ?_)
    · refine j_aload_n 0 dX6_takeBehindSum_151 rfl rfl ?_
      obtain ⟨q1, e2, h⟩ := ok_b h
      refine j_callV (As := []) (st := []) [.int q1.1] (c_X6_closeRule (kl κ) (gm κ) (kA κ) w q1 e2) ck_RX6_194 im_X6_closeRule se_X6_closeRule sh_65 cx_6 ⟨rfl, rfl⟩ ⟨by decide, by decide⟩ rfl rfl (Nat.le_of_ble_eq_true rfl) dX6_takeBehindSum_152 _ rfl ?_
      have h := ok_s h
      exact j_iret dX6_takeBehindSum_155 rfl rfl h
    · refine j_iconst (2 : Int32) dX6_takeBehindSum_147 ki_2 ?_
      refine j_goto 155 dX6_takeBehindSum_148 (by decide) ?_
      have h := ok_s h
      exact j_iret dX6_takeBehindSum_155 rfl rfl h
  refine j_cs (60 : Int32) h (fun h => ?_) (fun n1 h => ?_)
  · refine j_lk (off := 68) 72 dX6_takeBehindSum_4 (by decide +kernel) (by decide +kernel) (by decide) ?_
    refine j_loc [(0, .ref (ad (gm κ) 65))] [0] rfl ?_
    exact t_X6_takeBehindSum_j72 w h
  refine j_cs (61 : Int32) h (fun h => ?_) (fun n2 h => ?_)
  · refine j_lk (off := 68) 72 dX6_takeBehindSum_4 (by decide +kernel) (by decide +kernel) (by decide) ?_
    refine j_loc [(0, .ref (ad (gm κ) 65))] [0] rfl ?_
    exact t_X6_takeBehindSum_j72 w h
  refine j_cs (62 : Int32) h (fun h => ?_) (fun n3 h => ?_)
  · refine j_lk (off := 68) 72 dX6_takeBehindSum_4 (by decide +kernel) (by decide +kernel) (by decide) ?_
    refine j_loc [(0, .ref (ad (gm κ) 65))] [0] rfl ?_
    exact t_X6_takeBehindSum_j72 w h
  refine j_cs (102 : Int32) h (fun h => ?_) (fun n4 h => ?_)
  · refine j_lk (off := 108) 112 dX6_takeBehindSum_4 (by decide +kernel) (by decide +kernel) (by decide) ?_
    refine j_aload_n 0 dX6_takeBehindSum_112 rfl rfl ?_
    refine j_getI fl_RX6_163 sh_65 fk_65_12 dX6_takeBehindSum_113 ?_
    refine j_iconst (1 : Int32) dX6_takeBehindSum_116 ki_1 ?_
    refine j_ic_eq 130 dX6_takeBehindSum_117 (by decide) h (fun h => ?_) (fun h => ?_)
    · refine j_iconst (2 : Int32) dX6_takeBehindSum_130 ki_2 ?_
      refine j_goto 138 dX6_takeBehindSum_131 (by decide) ?_
      have h := ok_s h
      exact j_iret dX6_takeBehindSum_138 rfl rfl h
    · refine j_aload_n 0 dX6_takeBehindSum_120 rfl rfl ?_
      refine j_getA 30 fl_RX6_32 sh_65 fk_65_0 (by decide) dX6_takeBehindSum_121 ?_
      obtain ⟨q5, e6, h⟩ := ok_b h
      refine j_callV (As := []) (st := []) [.int q5] (c_X0_hasUnless (kl κ) (gm κ) (kA κ) w q5 e6) ck_RX6_188 im_X0_hasUnless se_X0_hasUnless sh_30 cx_0 ⟨rfl, rfl⟩ ⟨by decide, by decide⟩ rfl rfl (Nat.le_of_ble_eq_true rfl) dX6_takeBehindSum_124 _ rfl ?_
      refine j_if_eq 134 dX6_takeBehindSum_127 (by decide) h (fun h => ?_) (fun h => ?_)
      · refine j_aload_n 0 dX6_takeBehindSum_134 rfl rfl ?_
        obtain ⟨q7, e8, h⟩ := ok_b h
        refine j_callV (As := []) (st := []) [.int q7.1] (c_X6_openUnless (kl κ) (gm κ) (kA κ) w q7 e8) ck_RX6_191 im_X6_openUnless se_X6_openUnless sh_65 cx_6 ⟨rfl, rfl⟩ ⟨by decide, by decide⟩ rfl rfl (Nat.le_of_ble_eq_true rfl) dX6_takeBehindSum_135 _ rfl ?_
        have h := ok_s h
        exact j_iret dX6_takeBehindSum_138 rfl rfl h
      · refine j_iconst (2 : Int32) dX6_takeBehindSum_130 ki_2 ?_
        refine j_goto 138 dX6_takeBehindSum_131 (by decide) ?_
        have h := ok_s h
        exact j_iret dX6_takeBehindSum_138 rfl rfl h
  refine j_cs (107 : Int32) h (fun h => ?_) (fun n5 h => ?_)
  · refine j_lk (off := 88) 92 dX6_takeBehindSum_4 (by decide +kernel) (by decide +kernel) (by decide) ?_
    refine j_loc [(0, .ref (ad (gm κ) 65))] [0] rfl ?_
    exact t_X6_takeBehindSum_j92 w h
  refine j_cs (108 : Int32) h (fun h => ?_) (fun n6 h => ?_)
  · refine j_lk (off := 88) 92 dX6_takeBehindSum_4 (by decide +kernel) (by decide +kernel) (by decide) ?_
    refine j_loc [(0, .ref (ad (gm κ) 65))] [0] rfl ?_
    exact t_X6_takeBehindSum_j92 w h
  refine j_lk (off := 152) 156 dX6_takeBehindSum_4 (by decide +kernel) ?_ (by decide) ?_
  · rw [lv_osw n0 (show ((59 : Int32)).toInt = 59 by decide), lv_osw n1 (show ((60 : Int32)).toInt = 60 by decide), lv_osw n2 (show ((61 : Int32)).toInt = 61 by decide), lv_osw n3 (show ((62 : Int32)).toInt = 62 by decide), lv_osw n4 (show ((102 : Int32)).toInt = 102 by decide), lv_osw n5 (show ((107 : Int32)).toInt = 107 by decide), lv_osw n6 (show ((108 : Int32)).toInt = 108 by decide)]
    rfl
  refine j_iconst (2 : Int32) dX6_takeBehindSum_156 ki_2 ?_
  have h := ok_s h
  exact j_iret dX6_takeBehindSum_157 rfl rfl h
theorem c_X6_takeBehindSum (l : Launch) (γ : Gm) (A : Nat → Prop) (w : Wd) (q : Int32 × Wd) (e : X6_takeBehindSum   w = some q) : MetG l γ A yX6_takeBehindSum cX6_takeBehindSum 1 (some .int) (rmk 4 84) [.ref (ad (γ) 65)] w (some (.int q.1)) q.2 := by
  refine met_of pn_RX6 (Nat.le_of_ble_eq_true rfl) ?_
  intro κ hl hγ hA hρ
  subst hl; subst hγ; subst hA
  exact t_X6_takeBehindSum    w ⟨q, e, pIw hρ rfl rfl⟩
theorem dX6_take_0 : decode cX6_take 0 = .ok (.aload_n 0, 1) := by decide +kernel
theorem dX6_take_1 : decode cX6_take 1 = .ok (.getfield 60, 3) := by decide +kernel
theorem dX6_take_4 : decode cX6_take 4 = .ok (.tableswitch 123 0 8 #[52, 57, 82, 87, 95, 100, 105, 113, 118], 52) := by decide +kernel
theorem dX6_take_56 : decode cX6_take 56 = .ok (.aload_n 0, 1) := by decide +kernel
theorem dX6_take_57 : decode cX6_take 57 = .ok (.invokevirtual 102, 3) := by decide +kernel
theorem dX6_take_60 : decode cX6_take 60 = .ok (.ireturn, 1) := by decide +kernel
theorem dX6_take_61 : decode cX6_take 61 = .ok (.aload_n 0, 1) := by decide +kernel
theorem dX6_take_62 : decode cX6_take 62 = .ok (.getfield 67, 3) := by decide +kernel
theorem dX6_take_65 : decode cX6_take 65 = .ok (.bipush 100, 2) := by decide +kernel
theorem dX6_take_67 : decode cX6_take 67 = .ok (.if_icmp .ne 11, 3) := by decide +kernel
theorem dX6_take_70 : decode cX6_take 70 = .ok (.aload_n 0, 1) := by decide +kernel
theorem dX6_take_71 : decode cX6_take 71 = .ok (.iconst 2, 1) := by decide +kernel
theorem dX6_take_72 : decode cX6_take 72 = .ok (.invokevirtual 105, 3) := by decide +kernel
theorem dX6_take_75 : decode cX6_take 75 = .ok (.goto 10, 3) := by decide +kernel
theorem dX6_take_78 : decode cX6_take 78 = .ok (.aload_n 0, 1) := by decide +kernel
theorem dX6_take_79 : decode cX6_take 79 = .ok (.bipush 58, 2) := by decide +kernel
theorem dX6_take_81 : decode cX6_take 81 = .ok (.iconst 4, 1) := by decide +kernel
theorem dX6_take_82 : decode cX6_take 82 = .ok (.invokevirtual 108, 3) := by decide +kernel
theorem dX6_take_85 : decode cX6_take 85 = .ok (.ireturn, 1) := by decide +kernel
theorem dX6_take_86 : decode cX6_take 86 = .ok (.aload_n 0, 1) := by decide +kernel
theorem dX6_take_87 : decode cX6_take 87 = .ok (.invokevirtual 112, 3) := by decide +kernel
theorem dX6_take_90 : decode cX6_take 90 = .ok (.ireturn, 1) := by decide +kernel
theorem dX6_take_91 : decode cX6_take 91 = .ok (.aload_n 0, 1) := by decide +kernel
theorem dX6_take_92 : decode cX6_take 92 = .ok (.bipush 58, 2) := by decide +kernel
theorem dX6_take_94 : decode cX6_take 94 = .ok (.iconst 4, 1) := by decide +kernel
theorem dX6_take_95 : decode cX6_take 95 = .ok (.invokevirtual 108, 3) := by decide +kernel
theorem dX6_take_98 : decode cX6_take 98 = .ok (.ireturn, 1) := by decide +kernel
theorem dX6_take_99 : decode cX6_take 99 = .ok (.aload_n 0, 1) := by decide +kernel
theorem dX6_take_100 : decode cX6_take 100 = .ok (.invokevirtual 115, 3) := by decide +kernel
theorem dX6_take_103 : decode cX6_take 103 = .ok (.ireturn, 1) := by decide +kernel
theorem dX6_take_104 : decode cX6_take 104 = .ok (.aload_n 0, 1) := by decide +kernel
theorem dX6_take_105 : decode cX6_take 105 = .ok (.invokevirtual 118, 3) := by decide +kernel
theorem dX6_take_108 : decode cX6_take 108 = .ok (.ireturn, 1) := by decide +kernel
theorem dX6_take_109 : decode cX6_take 109 = .ok (.aload_n 0, 1) := by decide +kernel
theorem dX6_take_110 : decode cX6_take 110 = .ok (.bipush 59, 2) := by decide +kernel
theorem dX6_take_112 : decode cX6_take 112 = .ok (.iconst 0, 1) := by decide +kernel
theorem dX6_take_113 : decode cX6_take 113 = .ok (.invokevirtual 108, 3) := by decide +kernel
theorem dX6_take_116 : decode cX6_take 116 = .ok (.ireturn, 1) := by decide +kernel
theorem dX6_take_117 : decode cX6_take 117 = .ok (.aload_n 0, 1) := by decide +kernel
theorem dX6_take_118 : decode cX6_take 118 = .ok (.invokevirtual 121, 3) := by decide +kernel
theorem dX6_take_121 : decode cX6_take 121 = .ok (.ireturn, 1) := by decide +kernel
theorem dX6_take_122 : decode cX6_take 122 = .ok (.aload_n 0, 1) := by decide +kernel
theorem dX6_take_123 : decode cX6_take 123 = .ok (.invokevirtual 124, 3) := by decide +kernel
theorem dX6_take_126 : decode cX6_take 126 = .ok (.ireturn, 1) := by decide +kernel
theorem dX6_take_127 : decode cX6_take 127 = .ok (.aload_n 0, 1) := by decide +kernel
theorem dX6_take_128 : decode cX6_take 128 = .ok (.getfield 127, 3) := by decide +kernel
theorem dX6_take_131 : decode cX6_take 131 = .ok (.ifCond .gt 13, 3) := by decide +kernel
theorem dX6_take_134 : decode cX6_take 134 = .ok (.aload_n 0, 1) := by decide +kernel
theorem dX6_take_135 : decode cX6_take 135 = .ok (.getfield 67, 3) := by decide +kernel
theorem dX6_take_138 : decode cX6_take 138 = .ok (.invokestatic 130, 3) := by decide +kernel
theorem dX6_take_141 : decode cX6_take 141 = .ok (.ifCond .eq 10, 3) := by decide +kernel
theorem dX6_take_144 : decode cX6_take 144 = .ok (.aload_n 0, 1) := by decide +kernel
theorem dX6_take_145 : decode cX6_take 145 = .ok (.invokevirtual 133, 3) := by decide +kernel
theorem dX6_take_148 : decode cX6_take 148 = .ok (.goto 7, 3) := by decide +kernel
theorem dX6_take_151 : decode cX6_take 151 = .ok (.aload_n 0, 1) := by decide +kernel
theorem dX6_take_152 : decode cX6_take 152 = .ok (.invokevirtual 136, 3) := by decide +kernel
theorem dX6_take_155 : decode cX6_take 155 = .ok (.ireturn, 1) := by decide +kernel
noncomputable def X6_take_j144 (w : Wd) : Option (Int32 × Wd) :=
(X6_takeInSum w).bind fun q21 =>
some (q21.1, q21.2)
set_option maxRecDepth 20000 in
set_option maxHeartbeats 1000000 in
theorem t_X6_take_j144 {κ : Kx} (w : Wd) (h : ok (X6_take_j144  w) (PIw κ)) : J κ RX6 cX6_take 1 (some .int) (rmk 5 104) 144 [(0, .ref (ad (gm κ) 65))] [] w := by
  unfold X6_take_j144 at h
  refine j_aload_n 0 dX6_take_144 rfl rfl ?_
  obtain ⟨q21, e22, h⟩ := ok_b h
  refine j_callV (As := []) (st := []) [.int q21.1] (c_X6_takeInSum (kl κ) (gm κ) (kA κ) w q21 e22) ck_RX6_133 im_X6_takeInSum se_X6_takeInSum sh_65 cx_6 ⟨rfl, rfl⟩ ⟨by decide, by decide⟩ rfl rfl (Nat.le_of_ble_eq_true rfl) dX6_take_145 _ rfl ?_
  refine j_goto 155 dX6_take_148 (by decide) ?_
  have h := ok_s h
  exact j_iret dX6_take_155 rfl rfl h
noncomputable def X6_take (w : Wd) : Option (Int32 × Wd) :=
(if (w.1 65 11) = (0 : Int32) then
(X6_takeRule w).bind fun q1 =>
some (q1.1, q1.2)
else
(if (w.1 65 11) = (1 : Int32) then
(if (w.1 65 7) = (100 : Int32) then
(X6_goOn (2 : Int32) w).bind fun q5 =>
some (q5.1, q5.2)
else
(X6_takeOnly (58 : Int32) (4 : Int32) w).bind fun q3 =>
some (q3.1, q3.2))
else
(if (w.1 65 11) = (2 : Int32) then
(X6_takeStruckLabel w).bind fun q7 =>
some (q7.1, q7.2)
else
(if (w.1 65 11) = (3 : Int32) then
(X6_takeOnly (58 : Int32) (4 : Int32) w).bind fun q9 =>
some (q9.1, q9.2)
else
(if (w.1 65 11) = (4 : Int32) then
(X6_takeDoes w).bind fun q11 =>
some (q11.1, q11.2)
else
(if (w.1 65 11) = (5 : Int32) then
(X6_takeLimit w).bind fun q13 =>
some (q13.1, q13.2)
else
(if (w.1 65 11) = (6 : Int32) then
(X6_takeOnly (59 : Int32) (0 : Int32) w).bind fun q15 =>
some (q15.1, q15.2)
else
(if (w.1 65 11) = (7 : Int32) then
(X6_takeOne w).bind fun q17 =>
some (q17.1, q17.2)
else
(if (w.1 65 11) = (8 : Int32) then
(X6_takeAtom w).bind fun q19 =>
some (q19.1, q19.2)
else
(if 0 < (w.1 65 14) then
X6_take_j144 w
else
(if (X6_isReckoner (w.1 65 7) w) = 0 then
(X6_takeBehindSum w).bind fun q23 =>
some (q23.1, q23.2)
else
X6_take_j144 w)))))))))))
set_option maxRecDepth 20000 in
set_option maxHeartbeats 1000000 in
theorem t_X6_take {κ : Kx} (w : Wd) (h : ok (X6_take   w) (PIw κ)) : J κ RX6 cX6_take 1 (some .int) (rmk 5 104) 0 [(0, .ref (ad (gm κ) 65))] [] w := by
  unfold X6_take at h
  refine j_aload_n 0 dX6_take_0 rfl rfl ?_
  refine j_getI fl_RX6_60 sh_65 fk_65_11 dX6_take_1 ?_
  refine j_cs (0 : Int32) h (fun h => ?_) (fun n0 h => ?_)
  · refine j_tab 56 dX6_take_4 (by decide) (by decide) rfl (by decide) ?_
    refine j_aload_n 0 dX6_take_56 rfl rfl ?_
    obtain ⟨q1, e2, h⟩ := ok_b h
    refine j_callV (As := []) (st := []) [.int q1.1] (c_X6_takeRule (kl κ) (gm κ) (kA κ) w q1 e2) ck_RX6_102 im_X6_takeRule se_X6_takeRule sh_65 cx_6 ⟨rfl, rfl⟩ ⟨by decide, by decide⟩ rfl rfl (Nat.le_of_ble_eq_true rfl) dX6_take_57 _ rfl ?_
    have h := ok_s h
    exact j_iret dX6_take_60 rfl rfl h
  refine j_cs (1 : Int32) h (fun h => ?_) (fun n1 h => ?_)
  · refine j_tab 61 dX6_take_4 (by decide) (by decide) rfl (by decide) ?_
    refine j_aload_n 0 dX6_take_61 rfl rfl ?_
    refine j_getI fl_RX6_67 sh_65 fk_65_7 dX6_take_62 ?_
    refine j_bipush (100 : Int32) dX6_take_65 kb_100 ?_
    refine j_ic_ne 78 dX6_take_67 (by decide) h (fun h => ?_) (fun h => ?_)
    · refine j_aload_n 0 dX6_take_78 rfl rfl ?_
      refine j_bipush (58 : Int32) dX6_take_79 kb_58 ?_
      refine j_iconst (4 : Int32) dX6_take_81 ki_4 ?_
      obtain ⟨q3, e4, h⟩ := ok_b h
      refine j_callV (As := [.int (58 : Int32), .int (4 : Int32)]) (st := []) [.int q3.1] (c_X6_takeOnly (kl κ) (gm κ) (kA κ) (58 : Int32) (4 : Int32) w q3 e4) ck_RX6_108 im_X6_takeOnly se_X6_takeOnly sh_65 cx_6 ⟨rfl, rfl⟩ ⟨by decide, by decide⟩ rfl rfl (Nat.le_of_ble_eq_true rfl) dX6_take_82 _ rfl ?_
      have h := ok_s h
      exact j_iret dX6_take_85 rfl rfl h
    · refine j_aload_n 0 dX6_take_70 rfl rfl ?_
      refine j_iconst (2 : Int32) dX6_take_71 ki_2 ?_
      obtain ⟨q5, e6, h⟩ := ok_b h
      refine j_callV (As := [.int (2 : Int32)]) (st := []) [.int q5.1] (c_X6_goOn (kl κ) (gm κ) (kA κ) (2 : Int32) w q5 e6) ck_RX6_105 im_X6_goOn se_X6_goOn sh_65 cx_6 ⟨rfl, rfl⟩ ⟨by decide, by decide⟩ rfl rfl (Nat.le_of_ble_eq_true rfl) dX6_take_72 _ rfl ?_
      refine j_goto 85 dX6_take_75 (by decide) ?_
      have h := ok_s h
      exact j_iret dX6_take_85 rfl rfl h
  refine j_cs (2 : Int32) h (fun h => ?_) (fun n2 h => ?_)
  · refine j_tab 86 dX6_take_4 (by decide) (by decide) rfl (by decide) ?_
    refine j_aload_n 0 dX6_take_86 rfl rfl ?_
    obtain ⟨q7, e8, h⟩ := ok_b h
    refine j_callV (As := []) (st := []) [.int q7.1] (c_X6_takeStruckLabel (kl κ) (gm κ) (kA κ) w q7 e8) ck_RX6_112 im_X6_takeStruckLabel se_X6_takeStruckLabel sh_65 cx_6 ⟨rfl, rfl⟩ ⟨by decide, by decide⟩ rfl rfl (Nat.le_of_ble_eq_true rfl) dX6_take_87 _ rfl ?_
    have h := ok_s h
    exact j_iret dX6_take_90 rfl rfl h
  refine j_cs (3 : Int32) h (fun h => ?_) (fun n3 h => ?_)
  · refine j_tab 91 dX6_take_4 (by decide) (by decide) rfl (by decide) ?_
    refine j_aload_n 0 dX6_take_91 rfl rfl ?_
    refine j_bipush (58 : Int32) dX6_take_92 kb_58 ?_
    refine j_iconst (4 : Int32) dX6_take_94 ki_4 ?_
    obtain ⟨q9, e10, h⟩ := ok_b h
    refine j_callV (As := [.int (58 : Int32), .int (4 : Int32)]) (st := []) [.int q9.1] (c_X6_takeOnly (kl κ) (gm κ) (kA κ) (58 : Int32) (4 : Int32) w q9 e10) ck_RX6_108 im_X6_takeOnly se_X6_takeOnly sh_65 cx_6 ⟨rfl, rfl⟩ ⟨by decide, by decide⟩ rfl rfl (Nat.le_of_ble_eq_true rfl) dX6_take_95 _ rfl ?_
    have h := ok_s h
    exact j_iret dX6_take_98 rfl rfl h
  refine j_cs (4 : Int32) h (fun h => ?_) (fun n4 h => ?_)
  · refine j_tab 99 dX6_take_4 (by decide) (by decide) rfl (by decide) ?_
    refine j_aload_n 0 dX6_take_99 rfl rfl ?_
    obtain ⟨q11, e12, h⟩ := ok_b h
    refine j_callV (As := []) (st := []) [.int q11.1] (c_X6_takeDoes (kl κ) (gm κ) (kA κ) w q11 e12) ck_RX6_115 im_X6_takeDoes se_X6_takeDoes sh_65 cx_6 ⟨rfl, rfl⟩ ⟨by decide, by decide⟩ rfl rfl (Nat.le_of_ble_eq_true rfl) dX6_take_100 _ rfl ?_
    have h := ok_s h
    exact j_iret dX6_take_103 rfl rfl h
  refine j_cs (5 : Int32) h (fun h => ?_) (fun n5 h => ?_)
  · refine j_tab 104 dX6_take_4 (by decide) (by decide) rfl (by decide) ?_
    refine j_aload_n 0 dX6_take_104 rfl rfl ?_
    obtain ⟨q13, e14, h⟩ := ok_b h
    refine j_callV (As := []) (st := []) [.int q13.1] (c_X6_takeLimit (kl κ) (gm κ) (kA κ) w q13 e14) ck_RX6_118 im_X6_takeLimit se_X6_takeLimit sh_65 cx_6 ⟨rfl, rfl⟩ ⟨by decide, by decide⟩ rfl rfl (Nat.le_of_ble_eq_true rfl) dX6_take_105 _ rfl ?_
    have h := ok_s h
    exact j_iret dX6_take_108 rfl rfl h
  refine j_cs (6 : Int32) h (fun h => ?_) (fun n6 h => ?_)
  · refine j_tab 109 dX6_take_4 (by decide) (by decide) rfl (by decide) ?_
    refine j_aload_n 0 dX6_take_109 rfl rfl ?_
    refine j_bipush (59 : Int32) dX6_take_110 kb_59 ?_
    refine j_iconst (0 : Int32) dX6_take_112 ki_0 ?_
    obtain ⟨q15, e16, h⟩ := ok_b h
    refine j_callV (As := [.int (59 : Int32), .int (0 : Int32)]) (st := []) [.int q15.1] (c_X6_takeOnly (kl κ) (gm κ) (kA κ) (59 : Int32) (0 : Int32) w q15 e16) ck_RX6_108 im_X6_takeOnly se_X6_takeOnly sh_65 cx_6 ⟨rfl, rfl⟩ ⟨by decide, by decide⟩ rfl rfl (Nat.le_of_ble_eq_true rfl) dX6_take_113 _ rfl ?_
    have h := ok_s h
    exact j_iret dX6_take_116 rfl rfl h
  refine j_cs (7 : Int32) h (fun h => ?_) (fun n7 h => ?_)
  · refine j_tab 117 dX6_take_4 (by decide) (by decide) rfl (by decide) ?_
    refine j_aload_n 0 dX6_take_117 rfl rfl ?_
    obtain ⟨q17, e18, h⟩ := ok_b h
    refine j_callV (As := []) (st := []) [.int q17.1] (c_X6_takeOne (kl κ) (gm κ) (kA κ) w q17 e18) ck_RX6_121 im_X6_takeOne se_X6_takeOne sh_65 cx_6 ⟨rfl, rfl⟩ ⟨by decide, by decide⟩ rfl rfl (Nat.le_of_ble_eq_true rfl) dX6_take_118 _ rfl ?_
    have h := ok_s h
    exact j_iret dX6_take_121 rfl rfl h
  refine j_cs (8 : Int32) h (fun h => ?_) (fun n8 h => ?_)
  · refine j_tab 122 dX6_take_4 (by decide) (by decide) rfl (by decide) ?_
    refine j_aload_n 0 dX6_take_122 rfl rfl ?_
    obtain ⟨q19, e20, h⟩ := ok_b h
    refine j_callV (As := []) (st := []) [.int q19.1] (c_X6_takeAtom (kl κ) (gm κ) (kA κ) w q19 e20) ck_RX6_124 im_X6_takeAtom se_X6_takeAtom sh_65 cx_6 ⟨rfl, rfl⟩ ⟨by decide, by decide⟩ rfl rfl (Nat.le_of_ble_eq_true rfl) dX6_take_123 _ rfl ?_
    have h := ok_s h
    exact j_iret dX6_take_126 rfl rfl h
  replace n0 := lv_neT n0 (show ((0 : Int32)).toInt = 0 by decide)
  replace n1 := lv_neT n1 (show ((1 : Int32)).toInt = 1 by decide)
  replace n2 := lv_neT n2 (show ((2 : Int32)).toInt = 2 by decide)
  replace n3 := lv_neT n3 (show ((3 : Int32)).toInt = 3 by decide)
  replace n4 := lv_neT n4 (show ((4 : Int32)).toInt = 4 by decide)
  replace n5 := lv_neT n5 (show ((5 : Int32)).toInt = 5 by decide)
  replace n6 := lv_neT n6 (show ((6 : Int32)).toInt = 6 by decide)
  replace n7 := lv_neT n7 (show ((7 : Int32)).toInt = 7 by decide)
  replace n8 := lv_neT n8 (show ((8 : Int32)).toInt = 8 by decide)
  refine j_tabD 127 dX6_take_4 (by omega) (by decide) ?_
  refine j_aload_n 0 dX6_take_127 rfl rfl ?_
  refine j_getI fl_RX6_127 sh_65 fk_65_14 dX6_take_128 ?_
  refine j_if_gt 144 dX6_take_131 (by decide) h (fun h => ?_) (fun h => ?_)
  · refine j_loc [(0, .ref (ad (gm κ) 65))] [0] rfl ?_
    exact t_X6_take_j144 w h
  · refine j_aload_n 0 dX6_take_134 rfl rfl ?_
    refine j_getI fl_RX6_67 sh_65 fk_65_7 dX6_take_135 ?_
    refine j_callS (As := [.int (w.1 65 7)]) (st := []) [.int (X6_isReckoner (w.1 65 7) w)] (c_X6_isReckoner (kl κ) (gm κ) (kA κ) (w.1 65 7) w) ck_RX6_130 st_X6_isReckoner ⟨rfl, rfl⟩ ⟨by decide, by decide⟩ rfl rfl (Nat.le_of_ble_eq_true rfl) dX6_take_138 _ rfl ?_
    refine j_if_eq 151 dX6_take_141 (by decide) h (fun h => ?_) (fun h => ?_)
    · refine j_aload_n 0 dX6_take_151 rfl rfl ?_
      obtain ⟨q23, e24, h⟩ := ok_b h
      refine j_callV (As := []) (st := []) [.int q23.1] (c_X6_takeBehindSum (kl κ) (gm κ) (kA κ) w q23 e24) ck_RX6_136 im_X6_takeBehindSum se_X6_takeBehindSum sh_65 cx_6 ⟨rfl, rfl⟩ ⟨by decide, by decide⟩ rfl rfl (Nat.le_of_ble_eq_true rfl) dX6_take_152 _ rfl ?_
      have h := ok_s h
      exact j_iret dX6_take_155 rfl rfl h
    · refine j_loc [(0, .ref (ad (gm κ) 65))] [0] rfl ?_
      exact t_X6_take_j144 w h
theorem c_X6_take (l : Launch) (γ : Gm) (A : Nat → Prop) (w : Wd) (q : Int32 × Wd) (e : X6_take   w = some q) : MetG l γ A yX6_take cX6_take 1 (some .int) (rmk 5 104) [.ref (ad (γ) 65)] w (some (.int q.1)) q.2 := by
  refine met_of pn_RX6 (Nat.le_of_ble_eq_true rfl) ?_
  intro κ hl hγ hA hρ
  subst hl; subst hγ; subst hA
  exact t_X6_take    w ⟨q, e, pIw hρ rfl rfl⟩
