theorem dX11_rules_0 : decode cX11_rules 0 = .ok (.iload_n 1, 1) := by decide +kernel
theorem dX11_rules_1 : decode cX11_rules 1 = .ok (.invokestatic 136, 3) := by decide +kernel
theorem dX11_rules_4 : decode cX11_rules 4 = .ok (.ifCond .eq 19, 3) := by decide +kernel
theorem dX11_rules_7 : decode cX11_rules 7 = .ok (.iload_n 2, 1) := by decide +kernel
theorem dX11_rules_8 : decode cX11_rules 8 = .ok (.invokestatic 168, 3) := by decide +kernel
theorem dX11_rules_11 : decode cX11_rules 11 = .ok (.ifCond .eq 12, 3) := by decide +kernel
theorem dX11_rules_14 : decode cX11_rules 14 = .ok (.iload_n 3, 1) := by decide +kernel
theorem dX11_rules_15 : decode cX11_rules 15 = .ok (.iconst 0, 1) := by decide +kernel
theorem dX11_rules_16 : decode cX11_rules 16 = .ok (.iconst 3, 1) := by decide +kernel
theorem dX11_rules_17 : decode cX11_rules 17 = .ok (.invokestatic 91, 3) := by decide +kernel
theorem dX11_rules_20 : decode cX11_rules 20 = .ok (.ifCond .ne 9, 3) := by decide +kernel
theorem dX11_rules_23 : decode cX11_rules 23 = .ok (.aload_n 0, 1) := by decide +kernel
theorem dX11_rules_24 : decode cX11_rules 24 = .ok (.iconst 1, 1) := by decide +kernel
theorem dX11_rules_25 : decode cX11_rules 25 = .ok (.invokevirtual 114, 3) := by decide +kernel
theorem dX11_rules_28 : decode cX11_rules 28 = .ok (.ireturn, 1) := by decide +kernel
theorem dX11_rules_29 : decode cX11_rules 29 = .ok (.aload_n 0, 1) := by decide +kernel
theorem dX11_rules_30 : decode cX11_rules 30 = .ok (.getfield 33, 3) := by decide +kernel
theorem dX11_rules_33 : decode cX11_rules 33 = .ok (.iload_n 1, 1) := by decide +kernel
theorem dX11_rules_34 : decode cX11_rules 34 = .ok (.iload_n 2, 1) := by decide +kernel
theorem dX11_rules_35 : decode cX11_rules 35 = .ok (.invokevirtual 266, 3) := by decide +kernel
theorem dX11_rules_38 : decode cX11_rules 38 = .ok (.astore 4, 2) := by decide +kernel
theorem dX11_rules_40 : decode cX11_rules 40 = .ok (.iload_n 3, 1) := by decide +kernel
theorem dX11_rules_41 : decode cX11_rules 41 = .ok (.tableswitch 57 0 2 #[27, 37, 47], 27) := by decide +kernel
theorem dX11_rules_68 : decode cX11_rules 68 = .ok (.aload_n 0, 1) := by decide +kernel
theorem dX11_rules_69 : decode cX11_rules 69 = .ok (.aload 4, 2) := by decide +kernel
theorem dX11_rules_71 : decode cX11_rules 71 = .ok (.getfield 270, 3) := by decide +kernel
theorem dX11_rules_74 : decode cX11_rules 74 = .ok (.invokevirtual 145, 3) := by decide +kernel
theorem dX11_rules_77 : decode cX11_rules 77 = .ok (.ireturn, 1) := by decide +kernel
theorem dX11_rules_78 : decode cX11_rules 78 = .ok (.aload_n 0, 1) := by decide +kernel
theorem dX11_rules_79 : decode cX11_rules 79 = .ok (.aload 4, 2) := by decide +kernel
theorem dX11_rules_81 : decode cX11_rules 81 = .ok (.getfield 273, 3) := by decide +kernel
theorem dX11_rules_84 : decode cX11_rules 84 = .ok (.invokevirtual 145, 3) := by decide +kernel
theorem dX11_rules_87 : decode cX11_rules 87 = .ok (.ireturn, 1) := by decide +kernel
theorem dX11_rules_88 : decode cX11_rules 88 = .ok (.aload_n 0, 1) := by decide +kernel
theorem dX11_rules_89 : decode cX11_rules 89 = .ok (.aload 4, 2) := by decide +kernel
theorem dX11_rules_91 : decode cX11_rules 91 = .ok (.getfield 276, 3) := by decide +kernel
theorem dX11_rules_94 : decode cX11_rules 94 = .ok (.invokevirtual 145, 3) := by decide +kernel
theorem dX11_rules_97 : decode cX11_rules 97 = .ok (.ireturn, 1) := by decide +kernel
theorem dX11_rules_98 : decode cX11_rules 98 = .ok (.aload_n 0, 1) := by decide +kernel
theorem dX11_rules_99 : decode cX11_rules 99 = .ok (.aload 4, 2) := by decide +kernel
theorem dX11_rules_101 : decode cX11_rules 101 = .ok (.getfield 279, 3) := by decide +kernel
theorem dX11_rules_104 : decode cX11_rules 104 = .ok (.invokevirtual 145, 3) := by decide +kernel
theorem dX11_rules_107 : decode cX11_rules 107 = .ok (.ireturn, 1) := by decide +kernel
noncomputable def X11_rules_j23 (w : Wd) : Option (Int32 × Wd) :=
(X11_deny (1 : Int32) w).bind fun q1 =>
some (q1.1, q1.2)
set_option maxRecDepth 20000 in
set_option maxHeartbeats 1000000 in
theorem t_X11_rules_j23 {κ : Kx} (w : Wd) (h : ok (X11_rules_j23  w) (PIw κ)) : J κ RX11 cX11_rules 5 (some .int) (rmk 3 75) 23 [(0, .ref (ad (gm κ) 0))] [] w := by
  unfold X11_rules_j23 at h
  refine j_aload_n 0 dX11_rules_23 rfl rfl ?_
  refine j_iconst (1 : Int32) dX11_rules_24 ki_1 ?_
  obtain ⟨q1, e2, h⟩ := ok_b h
  refine j_callV (As := [.int (1 : Int32)]) (st := []) [.int q1.1] (c_X11_deny (kl κ) (gm κ) (kA κ) (1 : Int32) w q1 e2) ck_RX11_114 im_X11_deny se_X11_deny sh_0 cx_11 ⟨rfl, rfl⟩ ⟨by decide, by decide⟩ rfl rfl (Nat.le_of_ble_eq_true rfl) dX11_rules_25 _ rfl ?_
  have h := ok_s h
  exact j_iret dX11_rules_28 rfl rfl h
noncomputable def X11_rules (a1 : Int32) (a2 : Int32) (a3 : Int32) (w : Wd) : Option (Int32 × Wd) :=
(if (X11_isShire a1 w) = 0 then
X11_rules_j23 w
else
(if (X11_isWeek a2 w) = 0 then
X11_rules_j23 w
else
(if (X11_within a3 (0 : Int32) (3 : Int32) w) = 0 then
X11_rules_j23 w
else
(X0_standingIn a1 a2 w).bind fun q3 =>
gd (q3.1 < 4) <|
(if a3 = (0 : Int32) then
(X11_answer (q3.2.1 (stc q3.1) 1) q3.2).bind fun q6 =>
some (q6.1, q6.2)
else
(if a3 = (1 : Int32) then
(X11_answer (q3.2.1 (stc q3.1) 8) q3.2).bind fun q8 =>
some (q8.1, q8.2)
else
(if a3 = (2 : Int32) then
(X11_answer (q3.2.1 (stc q3.1) 9) q3.2).bind fun q10 =>
some (q10.1, q10.2)
else
(X11_answer (q3.2.1 (stc q3.1) 10) q3.2).bind fun q12 =>
some (q12.1, q12.2)))))))
set_option maxRecDepth 20000 in
set_option maxHeartbeats 1000000 in
theorem t_X11_rules {κ : Kx} (a1 : Int32) (a2 : Int32) (a3 : Int32) (w : Wd) (h : ok (X11_rules  a1 a2 a3 w) (PIw κ)) : J κ RX11 cX11_rules 5 (some .int) (rmk 3 75) 0 [(0, .ref (ad (gm κ) 0)), (1, .int a1), (2, .int a2), (3, .int a3)] [] w := by
  unfold X11_rules at h
  refine j_iload_n 1 dX11_rules_0 rfl rfl ?_
  refine j_callS (As := [.int a1]) (st := []) [.int (X11_isShire a1 w)] (c_X11_isShire (kl κ) (gm κ) (kA κ) a1 w) ck_RX11_136 st_X11_isShire ⟨rfl, rfl⟩ ⟨by decide, by decide⟩ rfl rfl (Nat.le_of_ble_eq_true rfl) dX11_rules_1 _ rfl ?_
  refine j_if_eq 23 dX11_rules_4 (by decide) h (fun h => ?_) (fun h => ?_)
  · refine j_loc [(0, .ref (ad (gm κ) 0))] [0] rfl ?_
    exact t_X11_rules_j23 w h
  · refine j_iload_n 2 dX11_rules_7 rfl rfl ?_
    refine j_callS (As := [.int a2]) (st := []) [.int (X11_isWeek a2 w)] (c_X11_isWeek (kl κ) (gm κ) (kA κ) a2 w) ck_RX11_168 st_X11_isWeek ⟨rfl, rfl⟩ ⟨by decide, by decide⟩ rfl rfl (Nat.le_of_ble_eq_true rfl) dX11_rules_8 _ rfl ?_
    refine j_if_eq 23 dX11_rules_11 (by decide) h (fun h => ?_) (fun h => ?_)
    · refine j_loc [(0, .ref (ad (gm κ) 0))] [0] rfl ?_
      exact t_X11_rules_j23 w h
    · refine j_iload_n 3 dX11_rules_14 rfl rfl ?_
      refine j_iconst (0 : Int32) dX11_rules_15 ki_0 ?_
      refine j_iconst (3 : Int32) dX11_rules_16 ki_3 ?_
      refine j_callS (As := [.int a3, .int (0 : Int32), .int (3 : Int32)]) (st := []) [.int (X11_within a3 (0 : Int32) (3 : Int32) w)] (c_X11_within (kl κ) (gm κ) (kA κ) a3 (0 : Int32) (3 : Int32) w) ck_RX11_91 st_X11_within ⟨rfl, rfl⟩ ⟨by decide, by decide⟩ rfl rfl (Nat.le_of_ble_eq_true rfl) dX11_rules_17 _ rfl ?_
      refine j_if_ne 29 dX11_rules_20 (by decide) h (fun h => ?_) (fun h => ?_)
      · refine j_aload_n 0 dX11_rules_29 rfl rfl ?_
        refine j_getA 30 fl_RX11_33 sh_0 fk_0_3 (by decide) dX11_rules_30 ?_
        refine j_iload_n 1 dX11_rules_33 rfl rfl ?_
        refine j_iload_n 2 dX11_rules_34 rfl rfl ?_
        obtain ⟨q3, e4, h⟩ := ok_b h
        refine j_callV (As := [.int a1, .int a2]) (st := []) [.ref (ad (gm κ) (stc q3.1))] (c_X0_standingIn (kl κ) (gm κ) (kA κ) a1 a2 w q3 e4) ck_RX11_266 im_X0_standingIn se_X0_standingIn sh_30 cx_0 ⟨rfl, rfl⟩ ⟨by decide, by decide⟩ rfl rfl (Nat.le_of_ble_eq_true rfl) dX11_rules_35 _ rfl ?_
        obtain ⟨h5, h⟩ := ok_g h
        refine j_astore [(4, .ref (ad (gm κ) (stc q3.1))), (0, .ref (ad (gm κ) 0)), (1, .int a1), (2, .int a2), (3, .int a3)] dX11_rules_38 (by decide) rfl ?_
        refine j_iload_n 4 dX11_rules_40 rfl rfl ?_
        refine j_cs (0 : Int32) h (fun h => ?_) (fun n0 h => ?_)
        · refine j_tab 68 dX11_rules_41 (by decide) (by decide) rfl (by decide) ?_
          refine j_aload_n 1 dX11_rules_68 rfl rfl ?_
          refine j_aload 0 dX11_rules_69 rfl ?_
          refine j_getI fl_RX11_270 (st_sh h5).1 (st_fk h5).2.1 dX11_rules_71 ?_
          obtain ⟨q6, e7, h⟩ := ok_b h
          refine j_callV (As := [.int (q3.2.1 (stc q3.1) 1)]) (st := []) [.int q6.1] (c_X11_answer (kl κ) (gm κ) (kA κ) (q3.2.1 (stc q3.1) 1) q3.2 q6 e7) ck_RX11_145 im_X11_answer se_X11_answer sh_0 cx_11 ⟨rfl, rfl⟩ ⟨by decide, by decide⟩ rfl rfl (Nat.le_of_ble_eq_true rfl) dX11_rules_74 _ rfl ?_
          have h := ok_s h
          exact j_iret dX11_rules_77 rfl rfl h
        refine j_cs (1 : Int32) h (fun h => ?_) (fun n1 h => ?_)
        · refine j_tab 78 dX11_rules_41 (by decide) (by decide) rfl (by decide) ?_
          refine j_aload_n 1 dX11_rules_78 rfl rfl ?_
          refine j_aload 0 dX11_rules_79 rfl ?_
          refine j_getI fl_RX11_273 (st_sh h5).1 (st_fk h5).2.2.2.2.2.2.2.2.1 dX11_rules_81 ?_
          obtain ⟨q8, e9, h⟩ := ok_b h
          refine j_callV (As := [.int (q3.2.1 (stc q3.1) 8)]) (st := []) [.int q8.1] (c_X11_answer (kl κ) (gm κ) (kA κ) (q3.2.1 (stc q3.1) 8) q3.2 q8 e9) ck_RX11_145 im_X11_answer se_X11_answer sh_0 cx_11 ⟨rfl, rfl⟩ ⟨by decide, by decide⟩ rfl rfl (Nat.le_of_ble_eq_true rfl) dX11_rules_84 _ rfl ?_
          have h := ok_s h
          exact j_iret dX11_rules_87 rfl rfl h
        refine j_cs (2 : Int32) h (fun h => ?_) (fun n2 h => ?_)
        · refine j_tab 88 dX11_rules_41 (by decide) (by decide) rfl (by decide) ?_
          refine j_aload_n 1 dX11_rules_88 rfl rfl ?_
          refine j_aload 0 dX11_rules_89 rfl ?_
          refine j_getI fl_RX11_276 (st_sh h5).1 (st_fk h5).2.2.2.2.2.2.2.2.2.1 dX11_rules_91 ?_
          obtain ⟨q10, e11, h⟩ := ok_b h
          refine j_callV (As := [.int (q3.2.1 (stc q3.1) 9)]) (st := []) [.int q10.1] (c_X11_answer (kl κ) (gm κ) (kA κ) (q3.2.1 (stc q3.1) 9) q3.2 q10 e11) ck_RX11_145 im_X11_answer se_X11_answer sh_0 cx_11 ⟨rfl, rfl⟩ ⟨by decide, by decide⟩ rfl rfl (Nat.le_of_ble_eq_true rfl) dX11_rules_94 _ rfl ?_
          have h := ok_s h
          exact j_iret dX11_rules_97 rfl rfl h
        replace n0 := lv_neT n0 (show ((0 : Int32)).toInt = 0 by decide)
        replace n1 := lv_neT n1 (show ((1 : Int32)).toInt = 1 by decide)
        replace n2 := lv_neT n2 (show ((2 : Int32)).toInt = 2 by decide)
        refine j_tabD 98 dX11_rules_41 (by omega) (by decide) ?_
        refine j_aload_n 1 dX11_rules_98 rfl rfl ?_
        refine j_aload 0 dX11_rules_99 rfl ?_
        refine j_getI fl_RX11_279 (st_sh h5).1 (st_fk h5).2.2.2.2.2.2.2.2.2.2 dX11_rules_101 ?_
        obtain ⟨q12, e13, h⟩ := ok_b h
        refine j_callV (As := [.int (q3.2.1 (stc q3.1) 10)]) (st := []) [.int q12.1] (c_X11_answer (kl κ) (gm κ) (kA κ) (q3.2.1 (stc q3.1) 10) q3.2 q12 e13) ck_RX11_145 im_X11_answer se_X11_answer sh_0 cx_11 ⟨rfl, rfl⟩ ⟨by decide, by decide⟩ rfl rfl (Nat.le_of_ble_eq_true rfl) dX11_rules_104 _ rfl ?_
        have h := ok_s h
        exact j_iret dX11_rules_107 rfl rfl h
      · refine j_loc [(0, .ref (ad (gm κ) 0))] [0] rfl ?_
        exact t_X11_rules_j23 w h
theorem c_X11_rules (l : Launch) (γ : Gm) (A : Nat → Prop) (a1 : Int32) (a2 : Int32) (a3 : Int32) (w : Wd) (q : Int32 × Wd) (e : X11_rules  a1 a2 a3 w = some q) : MetG l γ A yX11_rules cX11_rules 5 (some .int) (rmk 3 75) [.ref (ad (γ) 0), .int a1, .int a2, .int a3] w (some (.int q.1)) q.2 := by
  refine met_of pn_RX11 (Nat.le_of_ble_eq_true rfl) ?_
  intro κ hl hγ hA hρ
  subst hl; subst hγ; subst hA
  exact t_X11_rules   a1 a2 a3 w ⟨q, e, pIw hρ rfl rfl⟩
theorem dX11_answerWhether_0 : decode cX11_answerWhether 0 = .ok (.aload_n 0, 1) := by decide +kernel
theorem dX11_answerWhether_1 : decode cX11_answerWhether 1 = .ok (.iload_n 1, 1) := by decide +kernel
theorem dX11_answerWhether_2 : decode cX11_answerWhether 2 = .ok (.ifCond .eq 7, 3) := by decide +kernel
theorem dX11_answerWhether_5 : decode cX11_answerWhether 5 = .ok (.iconst 1, 1) := by decide +kernel
theorem dX11_answerWhether_6 : decode cX11_answerWhether 6 = .ok (.goto 4, 3) := by decide +kernel
theorem dX11_answerWhether_9 : decode cX11_answerWhether 9 = .ok (.iconst 0, 1) := by decide +kernel
theorem dX11_answerWhether_10 : decode cX11_answerWhether 10 = .ok (.invokevirtual 145, 3) := by decide +kernel
theorem dX11_answerWhether_13 : decode cX11_answerWhether 13 = .ok (.ireturn, 1) := by decide +kernel
noncomputable def X11_answerWhether_j10 (s0 : Int32) (w : Wd) : Option (Int32 × Wd) :=
(X11_answer s0 w).bind fun q1 =>
some (q1.1, q1.2)
set_option maxRecDepth 20000 in
set_option maxHeartbeats 1000000 in
theorem t_X11_answerWhether_j10 {κ : Kx} (s0 : Int32) (w : Wd) (h : ok (X11_answerWhether_j10  s0 w) (PIw κ)) : J κ RX11 cX11_answerWhether 2 (some .int) (rmk 1 21) 10 [] [.int s0, .ref (ad (gm κ) 0)] w := by
  unfold X11_answerWhether_j10 at h
  obtain ⟨q1, e2, h⟩ := ok_b h
  refine j_callV (As := [.int s0]) (st := []) [.int q1.1] (c_X11_answer (kl κ) (gm κ) (kA κ) s0 w q1 e2) ck_RX11_145 im_X11_answer se_X11_answer sh_0 cx_11 ⟨rfl, rfl⟩ ⟨by decide, by decide⟩ rfl rfl (Nat.le_of_ble_eq_true rfl) dX11_answerWhether_10 _ rfl ?_
  have h := ok_s h
  exact j_iret dX11_answerWhether_13 rfl rfl h
noncomputable def X11_answerWhether (a1 : Int32) (w : Wd) : Option (Int32 × Wd) :=
(if a1 = 0 then
X11_answerWhether_j10 (0 : Int32) w
else
X11_answerWhether_j10 (1 : Int32) w)
set_option maxRecDepth 20000 in
set_option maxHeartbeats 1000000 in
theorem t_X11_answerWhether {κ : Kx} (a1 : Int32) (w : Wd) (h : ok (X11_answerWhether  a1 w) (PIw κ)) : J κ RX11 cX11_answerWhether 2 (some .int) (rmk 1 21) 0 [(0, .ref (ad (gm κ) 0)), (1, .int a1)] [] w := by
  unfold X11_answerWhether at h
  refine j_aload_n 0 dX11_answerWhether_0 rfl rfl ?_
  refine j_iload_n 1 dX11_answerWhether_1 rfl rfl ?_
  refine j_if_eq 9 dX11_answerWhether_2 (by decide) h (fun h => ?_) (fun h => ?_)
  · refine j_iconst (0 : Int32) dX11_answerWhether_9 ki_0 ?_
    refine j_loc [] [] rfl ?_
    exact t_X11_answerWhether_j10 (0 : Int32) w h
  · refine j_iconst (1 : Int32) dX11_answerWhether_5 ki_1 ?_
    refine j_goto 10 dX11_answerWhether_6 (by decide) ?_
    refine j_loc [] [] rfl ?_
    exact t_X11_answerWhether_j10 (1 : Int32) w h
theorem c_X11_answerWhether (l : Launch) (γ : Gm) (A : Nat → Prop) (a1 : Int32) (w : Wd) (q : Int32 × Wd) (e : X11_answerWhether  a1 w = some q) : MetG l γ A yX11_answerWhether cX11_answerWhether 2 (some .int) (rmk 1 21) [.ref (ad (γ) 0), .int a1] w (some (.int q.1)) q.2 := by
  refine met_of pn_RX11 (Nat.le_of_ble_eq_true rfl) ?_
  intro κ hl hγ hA hρ
  subst hl; subst hγ; subst hA
  exact t_X11_answerWhether   a1 w ⟨q, e, pIw hρ rfl rfl⟩
theorem dX11_struck_0 : decode cX11_struck 0 = .ok (.iload_n 1, 1) := by decide +kernel
theorem dX11_struck_1 : decode cX11_struck 1 = .ok (.invokestatic 136, 3) := by decide +kernel
theorem dX11_struck_4 : decode cX11_struck 4 = .ok (.ifCond .eq 10, 3) := by decide +kernel
theorem dX11_struck_7 : decode cX11_struck 7 = .ok (.iload_n 2, 1) := by decide +kernel
theorem dX11_struck_8 : decode cX11_struck 8 = .ok (.invokestatic 168, 3) := by decide +kernel
theorem dX11_struck_11 : decode cX11_struck 11 = .ok (.ifCond .ne 9, 3) := by decide +kernel
theorem dX11_struck_14 : decode cX11_struck 14 = .ok (.aload_n 0, 1) := by decide +kernel
theorem dX11_struck_15 : decode cX11_struck 15 = .ok (.iconst 1, 1) := by decide +kernel
theorem dX11_struck_16 : decode cX11_struck 16 = .ok (.invokevirtual 114, 3) := by decide +kernel
theorem dX11_struck_19 : decode cX11_struck 19 = .ok (.ireturn, 1) := by decide +kernel
theorem dX11_struck_20 : decode cX11_struck 20 = .ok (.aload_n 0, 1) := by decide +kernel
theorem dX11_struck_21 : decode cX11_struck 21 = .ok (.getfield 33, 3) := by decide +kernel
theorem dX11_struck_24 : decode cX11_struck 24 = .ok (.iload_n 1, 1) := by decide +kernel
theorem dX11_struck_25 : decode cX11_struck 25 = .ok (.iload_n 2, 1) := by decide +kernel
theorem dX11_struck_26 : decode cX11_struck 26 = .ok (.invokevirtual 266, 3) := by decide +kernel
theorem dX11_struck_29 : decode cX11_struck 29 = .ok (.astore 4, 2) := by decide +kernel
theorem dX11_struck_31 : decode cX11_struck 31 = .ok (.iload_n 3, 1) := by decide +kernel
theorem dX11_struck_32 : decode cX11_struck 32 = .ok (.iconst 0, 1) := by decide +kernel
theorem dX11_struck_33 : decode cX11_struck 33 = .ok (.aload 4, 2) := by decide +kernel
theorem dX11_struck_35 : decode cX11_struck 35 = .ok (.getfield 270, 3) := by decide +kernel
theorem dX11_struck_38 : decode cX11_struck 38 = .ok (.iconst 1, 1) := by decide +kernel
theorem dX11_struck_39 : decode cX11_struck 39 = .ok (.isub, 1) := by decide +kernel
theorem dX11_struck_40 : decode cX11_struck 40 = .ok (.invokestatic 91, 3) := by decide +kernel
theorem dX11_struck_43 : decode cX11_struck 43 = .ok (.ifCond .ne 9, 3) := by decide +kernel
theorem dX11_struck_46 : decode cX11_struck 46 = .ok (.aload_n 0, 1) := by decide +kernel
theorem dX11_struck_47 : decode cX11_struck 47 = .ok (.iconst 1, 1) := by decide +kernel
theorem dX11_struck_48 : decode cX11_struck 48 = .ok (.invokevirtual 114, 3) := by decide +kernel
theorem dX11_struck_51 : decode cX11_struck 51 = .ok (.ireturn, 1) := by decide +kernel
theorem dX11_struck_52 : decode cX11_struck 52 = .ok (.aload_n 0, 1) := by decide +kernel
theorem dX11_struck_53 : decode cX11_struck 53 = .ok (.aload 4, 2) := by decide +kernel
theorem dX11_struck_55 : decode cX11_struck 55 = .ok (.getfield 282, 3) := by decide +kernel
theorem dX11_struck_58 : decode cX11_struck 58 = .ok (.iload_n 3, 1) := by decide +kernel
theorem dX11_struck_59 : decode cX11_struck 59 = .ok (.baload, 1) := by decide +kernel
theorem dX11_struck_60 : decode cX11_struck 60 = .ok (.invokevirtual 286, 3) := by decide +kernel
theorem dX11_struck_63 : decode cX11_struck 63 = .ok (.ireturn, 1) := by decide +kernel
noncomputable def X11_struck_j14 (w : Wd) : Option (Int32 × Wd) :=
(X11_deny (1 : Int32) w).bind fun q1 =>
some (q1.1, q1.2)
set_option maxRecDepth 20000 in
set_option maxHeartbeats 1000000 in
theorem t_X11_struck_j14 {κ : Kx} (w : Wd) (h : ok (X11_struck_j14  w) (PIw κ)) : J κ RX11 cX11_struck 5 (some .int) (rmk 3 75) 14 [(0, .ref (ad (gm κ) 0))] [] w := by
  unfold X11_struck_j14 at h
  refine j_aload_n 0 dX11_struck_14 rfl rfl ?_
  refine j_iconst (1 : Int32) dX11_struck_15 ki_1 ?_
  obtain ⟨q1, e2, h⟩ := ok_b h
  refine j_callV (As := [.int (1 : Int32)]) (st := []) [.int q1.1] (c_X11_deny (kl κ) (gm κ) (kA κ) (1 : Int32) w q1 e2) ck_RX11_114 im_X11_deny se_X11_deny sh_0 cx_11 ⟨rfl, rfl⟩ ⟨by decide, by decide⟩ rfl rfl (Nat.le_of_ble_eq_true rfl) dX11_struck_16 _ rfl ?_
  have h := ok_s h
  exact j_iret dX11_struck_19 rfl rfl h
noncomputable def X11_struck (a1 : Int32) (a2 : Int32) (a3 : Int32) (w : Wd) : Option (Int32 × Wd) :=
(if (X11_isShire a1 w) = 0 then
X11_struck_j14 w
else
(if (X11_isWeek a2 w) = 0 then
X11_struck_j14 w
else
(X0_standingIn a1 a2 w).bind fun q3 =>
gd (q3.1 < 4) <|
(if (X11_within a3 (0 : Int32) ((q3.2.1 (stc q3.1) 1) - (1 : Int32)) q3.2) = 0 then
(X11_deny (1 : Int32) q3.2).bind fun q8 =>
some (q8.1, q8.2)
else
gd (vp_in a3 100) <|
(X11_answerWhether (q3.2.1 (stc q3.1 + 2) (ix a3)) q3.2).bind fun q6 =>
some (q6.1, q6.2))))
set_option maxRecDepth 20000 in
set_option maxHeartbeats 1000000 in
theorem t_X11_struck {κ : Kx} (a1 : Int32) (a2 : Int32) (a3 : Int32) (w : Wd) (h : ok (X11_struck  a1 a2 a3 w) (PIw κ)) : J κ RX11 cX11_struck 5 (some .int) (rmk 3 75) 0 [(0, .ref (ad (gm κ) 0)), (1, .int a1), (2, .int a2), (3, .int a3)] [] w := by
  unfold X11_struck at h
  refine j_iload_n 1 dX11_struck_0 rfl rfl ?_
  refine j_callS (As := [.int a1]) (st := []) [.int (X11_isShire a1 w)] (c_X11_isShire (kl κ) (gm κ) (kA κ) a1 w) ck_RX11_136 st_X11_isShire ⟨rfl, rfl⟩ ⟨by decide, by decide⟩ rfl rfl (Nat.le_of_ble_eq_true rfl) dX11_struck_1 _ rfl ?_
  refine j_if_eq 14 dX11_struck_4 (by decide) h (fun h => ?_) (fun h => ?_)
  · refine j_loc [(0, .ref (ad (gm κ) 0))] [0] rfl ?_
    exact t_X11_struck_j14 w h
  · refine j_iload_n 2 dX11_struck_7 rfl rfl ?_
    refine j_callS (As := [.int a2]) (st := []) [.int (X11_isWeek a2 w)] (c_X11_isWeek (kl κ) (gm κ) (kA κ) a2 w) ck_RX11_168 st_X11_isWeek ⟨rfl, rfl⟩ ⟨by decide, by decide⟩ rfl rfl (Nat.le_of_ble_eq_true rfl) dX11_struck_8 _ rfl ?_
    refine j_if_ne 20 dX11_struck_11 (by decide) h (fun h => ?_) (fun h => ?_)
    · refine j_aload_n 0 dX11_struck_20 rfl rfl ?_
      refine j_getA 30 fl_RX11_33 sh_0 fk_0_3 (by decide) dX11_struck_21 ?_
      refine j_iload_n 1 dX11_struck_24 rfl rfl ?_
      refine j_iload_n 2 dX11_struck_25 rfl rfl ?_
      obtain ⟨q3, e4, h⟩ := ok_b h
      refine j_callV (As := [.int a1, .int a2]) (st := []) [.ref (ad (gm κ) (stc q3.1))] (c_X0_standingIn (kl κ) (gm κ) (kA κ) a1 a2 w q3 e4) ck_RX11_266 im_X0_standingIn se_X0_standingIn sh_30 cx_0 ⟨rfl, rfl⟩ ⟨by decide, by decide⟩ rfl rfl (Nat.le_of_ble_eq_true rfl) dX11_struck_26 _ rfl ?_
      obtain ⟨h5, h⟩ := ok_g h
      refine j_astore [(4, .ref (ad (gm κ) (stc q3.1))), (0, .ref (ad (gm κ) 0)), (1, .int a1), (2, .int a2), (3, .int a3)] dX11_struck_29 (by decide) rfl ?_
      refine j_iload_n 4 dX11_struck_31 rfl rfl ?_
      refine j_iconst (0 : Int32) dX11_struck_32 ki_0 ?_
      refine j_aload 0 dX11_struck_33 rfl ?_
      refine j_getI fl_RX11_270 (st_sh h5).1 (st_fk h5).2.1 dX11_struck_35 ?_
      refine j_iconst (1 : Int32) dX11_struck_38 ki_1 ?_
      refine j_isub dX11_struck_39 ?_
      refine j_callS (As := [.int a3, .int (0 : Int32), .int ((q3.2.1 (stc q3.1) 1) - (1 : Int32))]) (st := []) [.int (X11_within a3 (0 : Int32) ((q3.2.1 (stc q3.1) 1) - (1 : Int32)) q3.2)] (c_X11_within (kl κ) (gm κ) (kA κ) a3 (0 : Int32) ((q3.2.1 (stc q3.1) 1) - (1 : Int32)) q3.2) ck_RX11_91 st_X11_within ⟨rfl, rfl⟩ ⟨by decide, by decide⟩ rfl rfl (Nat.le_of_ble_eq_true rfl) dX11_struck_40 _ rfl ?_
      refine j_if_ne 52 dX11_struck_43 (by decide) h (fun h => ?_) (fun h => ?_)
      · refine j_aload_n 1 dX11_struck_52 rfl rfl ?_
        refine j_aload 0 dX11_struck_53 rfl ?_
        refine j_getA (stc q3.1 + 2) fl_RX11_282 (st_sh h5).1 (st_fk h5).2.2.2.1 (st_lt h5 (by decide)) dX11_struck_55 ?_
        refine j_iload_n 4 dX11_struck_58 rfl rfl ?_
        refine j_zald (st_sh h5).2.2.1 dX11_struck_59 h (fun h => ?_)
        obtain ⟨q6, e7, h⟩ := ok_b h
        refine j_callV (As := [.int (q3.2.1 (stc q3.1 + 2) (ix a3))]) (st := []) [.int q6.1] (c_X11_answerWhether (kl κ) (gm κ) (kA κ) (q3.2.1 (stc q3.1 + 2) (ix a3)) q3.2 q6 e7) ck_RX11_286 im_X11_answerWhether se_X11_answerWhether sh_0 cx_11 ⟨rfl, rfl⟩ ⟨by decide, by decide⟩ rfl rfl (Nat.le_of_ble_eq_true rfl) dX11_struck_60 _ rfl ?_
        have h := ok_s h
        exact j_iret dX11_struck_63 rfl rfl h
      · refine j_aload_n 1 dX11_struck_46 rfl rfl ?_
        refine j_iconst (1 : Int32) dX11_struck_47 ki_1 ?_
        obtain ⟨q8, e9, h⟩ := ok_b h
        refine j_callV (As := [.int (1 : Int32)]) (st := []) [.int q8.1] (c_X11_deny (kl κ) (gm κ) (kA κ) (1 : Int32) q3.2 q8 e9) ck_RX11_114 im_X11_deny se_X11_deny sh_0 cx_11 ⟨rfl, rfl⟩ ⟨by decide, by decide⟩ rfl rfl (Nat.le_of_ble_eq_true rfl) dX11_struck_48 _ rfl ?_
        have h := ok_s h
        exact j_iret dX11_struck_51 rfl rfl h
    · refine j_loc [(0, .ref (ad (gm κ) 0))] [0] rfl ?_
      exact t_X11_struck_j14 w h
theorem c_X11_struck (l : Launch) (γ : Gm) (A : Nat → Prop) (a1 : Int32) (a2 : Int32) (a3 : Int32) (w : Wd) (q : Int32 × Wd) (e : X11_struck  a1 a2 a3 w = some q) : MetG l γ A yX11_struck cX11_struck 5 (some .int) (rmk 3 75) [.ref (ad (γ) 0), .int a1, .int a2, .int a3] w (some (.int q.1)) q.2 := by
  refine met_of pn_RX11 (Nat.le_of_ble_eq_true rfl) ?_
  intro κ hl hγ hA hρ
  subst hl; subst hγ; subst hA
  exact t_X11_struck   a1 a2 a3 w ⟨q, e, pIw hρ rfl rfl⟩
theorem dX11_taught_0 : decode cX11_taught 0 = .ok (.aload_n 0, 1) := by decide +kernel
theorem dX11_taught_1 : decode cX11_taught 1 = .ok (.getfield 19, 3) := by decide +kernel
theorem dX11_taught_4 : decode cX11_taught 4 = .ok (.iload_n 1, 1) := by decide +kernel
theorem dX11_taught_5 : decode cX11_taught 5 = .ok (.invokevirtual 220, 3) := by decide +kernel
theorem dX11_taught_8 : decode cX11_taught 8 = .ok (.ifCond .eq 19, 3) := by decide +kernel
theorem dX11_taught_11 : decode cX11_taught 11 = .ok (.iload_n 2, 1) := by decide +kernel
theorem dX11_taught_12 : decode cX11_taught 12 = .ok (.invokestatic 168, 3) := by decide +kernel
theorem dX11_taught_15 : decode cX11_taught 15 = .ok (.ifCond .eq 12, 3) := by decide +kernel
theorem dX11_taught_18 : decode cX11_taught 18 = .ok (.iload_n 3, 1) := by decide +kernel
theorem dX11_taught_19 : decode cX11_taught 19 = .ok (.iconst 0, 1) := by decide +kernel
theorem dX11_taught_20 : decode cX11_taught 20 = .ok (.iconst 2, 1) := by decide +kernel
theorem dX11_taught_21 : decode cX11_taught 21 = .ok (.invokestatic 91, 3) := by decide +kernel
theorem dX11_taught_24 : decode cX11_taught 24 = .ok (.ifCond .ne 9, 3) := by decide +kernel
theorem dX11_taught_27 : decode cX11_taught 27 = .ok (.aload_n 0, 1) := by decide +kernel
theorem dX11_taught_28 : decode cX11_taught 28 = .ok (.iconst 1, 1) := by decide +kernel
theorem dX11_taught_29 : decode cX11_taught 29 = .ok (.invokevirtual 114, 3) := by decide +kernel
theorem dX11_taught_32 : decode cX11_taught 32 = .ok (.ireturn, 1) := by decide +kernel
theorem dX11_taught_33 : decode cX11_taught 33 = .ok (.aload_n 0, 1) := by decide +kernel
theorem dX11_taught_34 : decode cX11_taught 34 = .ok (.getfield 58, 3) := by decide +kernel
theorem dX11_taught_37 : decode cX11_taught 37 = .ok (.iload_n 2, 1) := by decide +kernel
theorem dX11_taught_38 : decode cX11_taught 38 = .ok (.invokevirtual 290, 3) := by decide +kernel
theorem dX11_taught_41 : decode cX11_taught 41 = .ok (.aload_n 0, 1) := by decide +kernel
theorem dX11_taught_42 : decode cX11_taught 42 = .ok (.getfield 58, 3) := by decide +kernel
theorem dX11_taught_45 : decode cX11_taught 45 = .ok (.iload_n 1, 1) := by decide +kernel
theorem dX11_taught_46 : decode cX11_taught 46 = .ok (.iload_n 2, 1) := by decide +kernel
theorem dX11_taught_47 : decode cX11_taught 47 = .ok (.invokevirtual 293, 3) := by decide +kernel
theorem dX11_taught_50 : decode cX11_taught 50 = .ok (.istore 4, 2) := by decide +kernel
theorem dX11_taught_52 : decode cX11_taught 52 = .ok (.iload 4, 2) := by decide +kernel
theorem dX11_taught_54 : decode cX11_taught 54 = .ok (.ifCond .ne 10, 3) := by decide +kernel
theorem dX11_taught_57 : decode cX11_taught 57 = .ok (.aload_n 0, 1) := by decide +kernel
theorem dX11_taught_58 : decode cX11_taught 58 = .ok (.bipush 6, 2) := by decide +kernel
theorem dX11_taught_60 : decode cX11_taught 60 = .ok (.invokevirtual 114, 3) := by decide +kernel
theorem dX11_taught_63 : decode cX11_taught 63 = .ok (.ireturn, 1) := by decide +kernel
theorem dX11_taught_64 : decode cX11_taught 64 = .ok (.iload 4, 2) := by decide +kernel
theorem dX11_taught_66 : decode cX11_taught 66 = .ok (.iconst 3, 1) := by decide +kernel
theorem dX11_taught_67 : decode cX11_taught 67 = .ok (.if_icmp .lt 7, 3) := by decide +kernel
theorem dX11_taught_70 : decode cX11_taught 70 = .ok (.iconst 1, 1) := by decide +kernel
theorem dX11_taught_71 : decode cX11_taught 71 = .ok (.goto 4, 3) := by decide +kernel
theorem dX11_taught_74 : decode cX11_taught 74 = .ok (.iconst 0, 1) := by decide +kernel
theorem dX11_taught_75 : decode cX11_taught 75 = .ok (.istore 5, 2) := by decide +kernel
theorem dX11_taught_77 : decode cX11_taught 77 = .ok (.iload_n 3, 1) := by decide +kernel
theorem dX11_taught_78 : decode cX11_taught 78 = .ok (.ifCond .ne 19, 3) := by decide +kernel
theorem dX11_taught_81 : decode cX11_taught 81 = .ok (.aload_n 0, 1) := by decide +kernel
theorem dX11_taught_82 : decode cX11_taught 82 = .ok (.iload 4, 2) := by decide +kernel
theorem dX11_taught_84 : decode cX11_taught 84 = .ok (.iconst 1, 1) := by decide +kernel
theorem dX11_taught_85 : decode cX11_taught 85 = .ok (.if_icmp .eq 7, 3) := by decide +kernel
theorem dX11_taught_88 : decode cX11_taught 88 = .ok (.iconst 1, 1) := by decide +kernel
theorem dX11_taught_89 : decode cX11_taught 89 = .ok (.goto 4, 3) := by decide +kernel
theorem dX11_taught_92 : decode cX11_taught 92 = .ok (.iconst 0, 1) := by decide +kernel
theorem dX11_taught_93 : decode cX11_taught 93 = .ok (.invokevirtual 286, 3) := by decide +kernel
theorem dX11_taught_96 : decode cX11_taught 96 = .ok (.ireturn, 1) := by decide +kernel
theorem dX11_taught_97 : decode cX11_taught 97 = .ok (.iload_n 3, 1) := by decide +kernel
theorem dX11_taught_98 : decode cX11_taught 98 = .ok (.iconst 1, 1) := by decide +kernel
theorem dX11_taught_99 : decode cX11_taught 99 = .ok (.if_icmp .ne 10, 3) := by decide +kernel
theorem dX11_taught_102 : decode cX11_taught 102 = .ok (.aload_n 0, 1) := by decide +kernel
theorem dX11_taught_103 : decode cX11_taught 103 = .ok (.iload 5, 2) := by decide +kernel
theorem dX11_taught_105 : decode cX11_taught 105 = .ok (.invokevirtual 286, 3) := by decide +kernel
theorem dX11_taught_108 : decode cX11_taught 108 = .ok (.ireturn, 1) := by decide +kernel
theorem dX11_taught_109 : decode cX11_taught 109 = .ok (.iload 5, 2) := by decide +kernel
theorem dX11_taught_111 : decode cX11_taught 111 = .ok (.ifCond .eq 14, 3) := by decide +kernel
theorem dX11_taught_114 : decode cX11_taught 114 = .ok (.aload_n 0, 1) := by decide +kernel
theorem dX11_taught_115 : decode cX11_taught 115 = .ok (.iload 4, 2) := by decide +kernel
theorem dX11_taught_117 : decode cX11_taught 117 = .ok (.iconst 3, 1) := by decide +kernel
theorem dX11_taught_118 : decode cX11_taught 118 = .ok (.isub, 1) := by decide +kernel
theorem dX11_taught_119 : decode cX11_taught 119 = .ok (.invokevirtual 145, 3) := by decide +kernel
theorem dX11_taught_122 : decode cX11_taught 122 = .ok (.goto 9, 3) := by decide +kernel
theorem dX11_taught_125 : decode cX11_taught 125 = .ok (.aload_n 0, 1) := by decide +kernel
theorem dX11_taught_126 : decode cX11_taught 126 = .ok (.bipush 6, 2) := by decide +kernel
theorem dX11_taught_128 : decode cX11_taught 128 = .ok (.invokevirtual 114, 3) := by decide +kernel
theorem dX11_taught_131 : decode cX11_taught 131 = .ok (.ireturn, 1) := by decide +kernel
noncomputable def X11_taught_j27 (w : Wd) : Option (Int32 × Wd) :=
(X11_deny (1 : Int32) w).bind fun q1 =>
some (q1.1, q1.2)
set_option maxRecDepth 20000 in
set_option maxHeartbeats 1000000 in
theorem t_X11_taught_j27 {κ : Kx} (w : Wd) (h : ok (X11_taught_j27  w) (PIw κ)) : J κ RX11 cX11_taught 6 (some .int) (rmk 6 153) 27 [(0, .ref (ad (gm κ) 0))] [] w := by
  unfold X11_taught_j27 at h
  refine j_aload_n 0 dX11_taught_27 rfl rfl ?_
  refine j_iconst (1 : Int32) dX11_taught_28 ki_1 ?_
  obtain ⟨q1, e2, h⟩ := ok_b h
  refine j_callV (As := [.int (1 : Int32)]) (st := []) [.int q1.1] (c_X11_deny (kl κ) (gm κ) (kA κ) (1 : Int32) w q1 e2) ck_RX11_114 im_X11_deny se_X11_deny sh_0 cx_11 ⟨rfl, rfl⟩ ⟨by decide, by decide⟩ rfl rfl (Nat.le_of_ble_eq_true rfl) dX11_taught_29 _ rfl ?_
  have h := ok_s h
  exact j_iret dX11_taught_32 rfl rfl h
noncomputable def X11_taught_j93 (s0 : Int32) (w : Wd) : Option (Int32 × Wd) :=
(X11_answerWhether s0 w).bind fun q13 =>
some (q13.1, q13.2)
set_option maxRecDepth 20000 in
set_option maxHeartbeats 1000000 in
theorem t_X11_taught_j93 {κ : Kx} (s0 : Int32) (w : Wd) (h : ok (X11_taught_j93  s0 w) (PIw κ)) : J κ RX11 cX11_taught 6 (some .int) (rmk 6 153) 93 [] [.int s0, .ref (ad (gm κ) 0)] w := by
  unfold X11_taught_j93 at h
  obtain ⟨q13, e14, h⟩ := ok_b h
  refine j_callV (As := [.int s0]) (st := []) [.int q13.1] (c_X11_answerWhether (kl κ) (gm κ) (kA κ) s0 w q13 e14) ck_RX11_286 im_X11_answerWhether se_X11_answerWhether sh_0 cx_11 ⟨rfl, rfl⟩ ⟨by decide, by decide⟩ rfl rfl (Nat.le_of_ble_eq_true rfl) dX11_taught_93 _ rfl ?_
  have h := ok_s h
  exact j_iret dX11_taught_96 rfl rfl h
noncomputable def X11_taught_j75 (a3 : Int32) (a4 : Int32) (s0 : Int32) (w : Wd) : Option (Int32 × Wd) :=
(if a3 = 0 then
(if a4 = (1 : Int32) then
X11_taught_j93 (0 : Int32) w
else
X11_taught_j93 (1 : Int32) w)
else
(if a3 = (1 : Int32) then
(X11_answerWhether s0 w).bind fun q11 =>
some (q11.1, q11.2)
else
(if s0 = 0 then
(X11_deny (6 : Int32) w).bind fun q7 =>
some (q7.1, q7.2)
else
(X11_answer (a4 - (3 : Int32)) w).bind fun q9 =>
some (q9.1, q9.2))))
set_option maxRecDepth 20000 in
set_option maxHeartbeats 1000000 in
theorem t_X11_taught_j75 {κ : Kx} (a3 : Int32) (a4 : Int32) (s0 : Int32) (w : Wd) (h : ok (X11_taught_j75  a3 a4 s0 w) (PIw κ)) : J κ RX11 cX11_taught 6 (some .int) (rmk 6 153) 75 [(0, .ref (ad (gm κ) 0)), (3, .int a3), (4, .int a4)] [.int s0] w := by
  unfold X11_taught_j75 at h
  refine j_istore [(5, .int s0), (0, .ref (ad (gm κ) 0)), (3, .int a3), (4, .int a4)] dX11_taught_75 (by decide) rfl ?_
  refine j_iload_n 2 dX11_taught_77 rfl rfl ?_
  refine j_if_ne 97 dX11_taught_78 (by decide) h (fun h => ?_) (fun h => ?_)
  · refine j_iload_n 2 dX11_taught_97 rfl rfl ?_
    refine j_iconst (1 : Int32) dX11_taught_98 ki_1 ?_
    refine j_ic_ne 109 dX11_taught_99 (by decide) h (fun h => ?_) (fun h => ?_)
    · refine j_iload 0 dX11_taught_109 rfl ?_
      refine j_if_eq 125 dX11_taught_111 (by decide) h (fun h => ?_) (fun h => ?_)
      · refine j_aload_n 1 dX11_taught_125 rfl rfl ?_
        refine j_bipush (6 : Int32) dX11_taught_126 kb_6 ?_
        obtain ⟨q7, e8, h⟩ := ok_b h
        refine j_callV (As := [.int (6 : Int32)]) (st := []) [.int q7.1] (c_X11_deny (kl κ) (gm κ) (kA κ) (6 : Int32) w q7 e8) ck_RX11_114 im_X11_deny se_X11_deny sh_0 cx_11 ⟨rfl, rfl⟩ ⟨by decide, by decide⟩ rfl rfl (Nat.le_of_ble_eq_true rfl) dX11_taught_128 _ rfl ?_
        have h := ok_s h
        exact j_iret dX11_taught_131 rfl rfl h
      · refine j_aload_n 1 dX11_taught_114 rfl rfl ?_
        refine j_iload 3 dX11_taught_115 rfl ?_
        refine j_iconst (3 : Int32) dX11_taught_117 ki_3 ?_
        refine j_isub dX11_taught_118 ?_
        obtain ⟨q9, e10, h⟩ := ok_b h
        refine j_callV (As := [.int (a4 - (3 : Int32))]) (st := []) [.int q9.1] (c_X11_answer (kl κ) (gm κ) (kA κ) (a4 - (3 : Int32)) w q9 e10) ck_RX11_145 im_X11_answer se_X11_answer sh_0 cx_11 ⟨rfl, rfl⟩ ⟨by decide, by decide⟩ rfl rfl (Nat.le_of_ble_eq_true rfl) dX11_taught_119 _ rfl ?_
        refine j_goto 131 dX11_taught_122 (by decide) ?_
        have h := ok_s h
        exact j_iret dX11_taught_131 rfl rfl h
    · refine j_aload_n 1 dX11_taught_102 rfl rfl ?_
      refine j_iload 0 dX11_taught_103 rfl ?_
      obtain ⟨q11, e12, h⟩ := ok_b h
      refine j_callV (As := [.int s0]) (st := []) [.int q11.1] (c_X11_answerWhether (kl κ) (gm κ) (kA κ) s0 w q11 e12) ck_RX11_286 im_X11_answerWhether se_X11_answerWhether sh_0 cx_11 ⟨rfl, rfl⟩ ⟨by decide, by decide⟩ rfl rfl (Nat.le_of_ble_eq_true rfl) dX11_taught_105 _ rfl ?_
      have h := ok_s h
      exact j_iret dX11_taught_108 rfl rfl h
  · refine j_aload_n 1 dX11_taught_81 rfl rfl ?_
    refine j_iload 3 dX11_taught_82 rfl ?_
    refine j_iconst (1 : Int32) dX11_taught_84 ki_1 ?_
    refine j_ic_eq 92 dX11_taught_85 (by decide) h (fun h => ?_) (fun h => ?_)
    · refine j_iconst (0 : Int32) dX11_taught_92 ki_0 ?_
      refine j_loc [] [] rfl ?_
      exact t_X11_taught_j93 (0 : Int32) w h
    · refine j_iconst (1 : Int32) dX11_taught_88 ki_1 ?_
      refine j_goto 93 dX11_taught_89 (by decide) ?_
      refine j_loc [] [] rfl ?_
      exact t_X11_taught_j93 (1 : Int32) w h
noncomputable def X11_taught (a1 : Int32) (a2 : Int32) (a3 : Int32) (w : Wd) : Option (Int32 × Wd) :=
(if (X2_isLearner a1 w) = 0 then
X11_taught_j27 w
else
(if (X11_isWeek a2 w) = 0 then
X11_taught_j27 w
else
(if (X11_within a3 (0 : Int32) (2 : Int32) w) = 0 then
X11_taught_j27 w
else
(X10_reach a2 w).bind fun q3 =>
(X10_outcomeOf a1 a2 q3).bind fun q5 =>
(if q5 = 0 then
(X11_deny (6 : Int32) q3).bind fun q15 =>
some (q15.1, q15.2)
else
(if q5 < (3 : Int32) then
X11_taught_j75 a3 q5 (0 : Int32) q3
else
X11_taught_j75 a3 q5 (1 : Int32) q3)))))
set_option maxRecDepth 20000 in
set_option maxHeartbeats 1000000 in
theorem t_X11_taught {κ : Kx} (a1 : Int32) (a2 : Int32) (a3 : Int32) (w : Wd) (h : ok (X11_taught  a1 a2 a3 w) (PIw κ)) : J κ RX11 cX11_taught 6 (some .int) (rmk 6 153) 0 [(0, .ref (ad (gm κ) 0)), (1, .int a1), (2, .int a2), (3, .int a3)] [] w := by
  unfold X11_taught at h
  refine j_aload_n 0 dX11_taught_0 rfl rfl ?_
  refine j_getA 5 fl_RX11_19 sh_0 fk_0_1 (by decide) dX11_taught_1 ?_
  refine j_iload_n 1 dX11_taught_4 rfl rfl ?_
  refine j_callV (As := [.int a1]) (st := []) [.int (X2_isLearner a1 w)] (c_X2_isLearner (kl κ) (gm κ) (kA κ) a1 w) ck_RX11_220 im_X2_isLearner se_X2_isLearner sh_5 cx_2 ⟨rfl, rfl⟩ ⟨by decide, by decide⟩ rfl rfl (Nat.le_of_ble_eq_true rfl) dX11_taught_5 _ rfl ?_
  refine j_if_eq 27 dX11_taught_8 (by decide) h (fun h => ?_) (fun h => ?_)
  · refine j_loc [(0, .ref (ad (gm κ) 0))] [0] rfl ?_
    exact t_X11_taught_j27 w h
  · refine j_iload_n 2 dX11_taught_11 rfl rfl ?_
    refine j_callS (As := [.int a2]) (st := []) [.int (X11_isWeek a2 w)] (c_X11_isWeek (kl κ) (gm κ) (kA κ) a2 w) ck_RX11_168 st_X11_isWeek ⟨rfl, rfl⟩ ⟨by decide, by decide⟩ rfl rfl (Nat.le_of_ble_eq_true rfl) dX11_taught_12 _ rfl ?_
    refine j_if_eq 27 dX11_taught_15 (by decide) h (fun h => ?_) (fun h => ?_)
    · refine j_loc [(0, .ref (ad (gm κ) 0))] [0] rfl ?_
      exact t_X11_taught_j27 w h
    · refine j_iload_n 3 dX11_taught_18 rfl rfl ?_
      refine j_iconst (0 : Int32) dX11_taught_19 ki_0 ?_
      refine j_iconst (2 : Int32) dX11_taught_20 ki_2 ?_
      refine j_callS (As := [.int a3, .int (0 : Int32), .int (2 : Int32)]) (st := []) [.int (X11_within a3 (0 : Int32) (2 : Int32) w)] (c_X11_within (kl κ) (gm κ) (kA κ) a3 (0 : Int32) (2 : Int32) w) ck_RX11_91 st_X11_within ⟨rfl, rfl⟩ ⟨by decide, by decide⟩ rfl rfl (Nat.le_of_ble_eq_true rfl) dX11_taught_21 _ rfl ?_
      refine j_if_ne 33 dX11_taught_24 (by decide) h (fun h => ?_) (fun h => ?_)
      · refine j_aload_n 0 dX11_taught_33 rfl rfl ?_
        refine j_getA 73 fl_RX11_58 sh_0 fk_0_6 (by decide) dX11_taught_34 ?_
        refine j_iload_n 2 dX11_taught_37 rfl rfl ?_
        obtain ⟨q3, e4, h⟩ := ok_b h
        refine j_callV (As := [.int a2]) (st := []) [] (c_X10_reach (kl κ) (gm κ) (kA κ) a2 w q3 e4) ck_RX11_290 im_X10_reach se_X10_reach sh_73 cx_10 ⟨rfl, rfl⟩ ⟨by decide, by decide⟩ rfl rfl (Nat.le_of_ble_eq_true rfl) dX11_taught_38 _ rfl ?_
        refine j_aload_n 0 dX11_taught_41 rfl rfl ?_
        refine j_getA 73 fl_RX11_58 sh_0 fk_0_6 (by decide) dX11_taught_42 ?_
        refine j_iload_n 1 dX11_taught_45 rfl rfl ?_
        refine j_iload_n 2 dX11_taught_46 rfl rfl ?_
        obtain ⟨q5, e6, h⟩ := ok_b h
        refine j_callV (As := [.int a1, .int a2]) (st := []) [.int q5] (c_X10_outcomeOf (kl κ) (gm κ) (kA κ) a1 a2 q3 q5 e6) ck_RX11_293 im_X10_outcomeOf se_X10_outcomeOf sh_73 cx_10 ⟨rfl, rfl⟩ ⟨by decide, by decide⟩ rfl rfl (Nat.le_of_ble_eq_true rfl) dX11_taught_47 _ rfl ?_
        refine j_istore [(4, .int q5), (0, .ref (ad (gm κ) 0)), (1, .int a1), (2, .int a2), (3, .int a3)] dX11_taught_50 (by decide) rfl ?_
        refine j_iload 0 dX11_taught_52 rfl ?_
        refine j_if_ne 64 dX11_taught_54 (by decide) h (fun h => ?_) (fun h => ?_)
        · refine j_iload 0 dX11_taught_64 rfl ?_
          refine j_iconst (3 : Int32) dX11_taught_66 ki_3 ?_
          refine j_ic_lt 74 dX11_taught_67 (by decide) h (fun h => ?_) (fun h => ?_)
          · refine j_iconst (0 : Int32) dX11_taught_74 ki_0 ?_
            refine j_loc [(0, .ref (ad (gm κ) 0)), (3, .int a3), (4, .int q5)] [1, 4, 0] rfl ?_
            exact t_X11_taught_j75 a3 q5 (0 : Int32) q3 h
          · refine j_iconst (1 : Int32) dX11_taught_70 ki_1 ?_
            refine j_goto 75 dX11_taught_71 (by decide) ?_
            refine j_loc [(0, .ref (ad (gm κ) 0)), (3, .int a3), (4, .int q5)] [1, 4, 0] rfl ?_
            exact t_X11_taught_j75 a3 q5 (1 : Int32) q3 h
        · refine j_aload_n 1 dX11_taught_57 rfl rfl ?_
          refine j_bipush (6 : Int32) dX11_taught_58 kb_6 ?_
          obtain ⟨q15, e16, h⟩ := ok_b h
          refine j_callV (As := [.int (6 : Int32)]) (st := []) [.int q15.1] (c_X11_deny (kl κ) (gm κ) (kA κ) (6 : Int32) q3 q15 e16) ck_RX11_114 im_X11_deny se_X11_deny sh_0 cx_11 ⟨rfl, rfl⟩ ⟨by decide, by decide⟩ rfl rfl (Nat.le_of_ble_eq_true rfl) dX11_taught_60 _ rfl ?_
          have h := ok_s h
          exact j_iret dX11_taught_63 rfl rfl h
      · refine j_loc [(0, .ref (ad (gm κ) 0))] [0] rfl ?_
        exact t_X11_taught_j27 w h
theorem c_X11_taught (l : Launch) (γ : Gm) (A : Nat → Prop) (a1 : Int32) (a2 : Int32) (a3 : Int32) (w : Wd) (q : Int32 × Wd) (e : X11_taught  a1 a2 a3 w = some q) : MetG l γ A yX11_taught cX11_taught 6 (some .int) (rmk 6 153) [.ref (ad (γ) 0), .int a1, .int a2, .int a3] w (some (.int q.1)) q.2 := by
  refine met_of pn_RX11 (Nat.le_of_ble_eq_true rfl) ?_
  intro κ hl hγ hA hρ
  subst hl; subst hγ; subst hA
  exact t_X11_taught   a1 a2 a3 w ⟨q, e, pIw hρ rfl rfl⟩
theorem dX11_isLesson_0 : decode cX11_isLesson 0 = .ok (.iload_n 0, 1) := by decide +kernel
theorem dX11_isLesson_1 : decode cX11_isLesson 1 = .ok (.iconst 0, 1) := by decide +kernel
theorem dX11_isLesson_2 : decode cX11_isLesson 2 = .ok (.bipush 14, 2) := by decide +kernel
theorem dX11_isLesson_4 : decode cX11_isLesson 4 = .ok (.invokestatic 91, 3) := by decide +kernel
theorem dX11_isLesson_7 : decode cX11_isLesson 7 = .ok (.ireturn, 1) := by decide +kernel
noncomputable def X11_isLessonO (a0 : Int32) (w : Wd) : Option (Int32) :=
some (X11_within a0 (0 : Int32) (14 : Int32) w)
set_option maxRecDepth 20000 in
set_option maxHeartbeats 1000000 in
theorem t_X11_isLesson {κ : Kx} (a0 : Int32) (w : Wd) (h : ok (X11_isLessonO  a0 w) (PI κ w)) : J κ RX11 cX11_isLesson 1 (some .boolean) (rmk 1 22) 0 [(0, .int a0)] [] w := by
  unfold X11_isLessonO at h
  refine j_iload_n 0 dX11_isLesson_0 rfl rfl ?_
  refine j_iconst (0 : Int32) dX11_isLesson_1 ki_0 ?_
  refine j_bipush (14 : Int32) dX11_isLesson_2 kb_14 ?_
  refine j_callS (As := [.int a0, .int (0 : Int32), .int (14 : Int32)]) (st := []) [.int (X11_within a0 (0 : Int32) (14 : Int32) w)] (c_X11_within (kl κ) (gm κ) (kA κ) a0 (0 : Int32) (14 : Int32) w) ck_RX11_91 st_X11_within ⟨rfl, rfl⟩ ⟨by decide, by decide⟩ rfl rfl (Nat.le_of_ble_eq_true rfl) dX11_isLesson_4 _ rfl ?_
  have h := ok_s h
  exact j_iret dX11_isLesson_7 rfl (nz_X11_within _ _ _ _) h
noncomputable def X11_isLesson (a0 : Int32) (w : Wd) : Int32 := (X11_isLessonO  a0 w).getD 0
theorem X11_isLesson_eq (a0 : Int32) (w : Wd) : X11_isLessonO  a0 w = some (X11_isLesson  a0 w) := by
  unfold X11_isLesson X11_isLessonO
  repeat (first | rfl | split)
theorem nz_X11_isLesson (a0 : Int32) (w : Wd) : narrow .boolean (.int (X11_isLesson  a0 w)) = .int (X11_isLesson  a0 w) := by
  unfold X11_isLesson X11_isLessonO
  repeat (first | rfl | split | exact nz_X11_within _ _ _ _)
theorem c_X11_isLesson (l : Launch) (γ : Gm) (A : Nat → Prop) (a0 : Int32) (w : Wd) : MetG l γ A yX11_isLesson cX11_isLesson 1 (some .boolean) (rmk 1 22) [.int a0] w (some (.int (X11_isLesson  a0 w))) w := by
  refine met_of pn_RX11 (Nat.le_of_ble_eq_true rfl) ?_
  intro κ hl hγ hA hρ
  subst hl; subst hγ; subst hA
  exact t_X11_isLesson   a0 w ⟨_, X11_isLesson_eq  a0 w, pI hρ rfl rfl⟩
theorem dX11_lesson_0 : decode cX11_lesson 0 = .ok (.iload_n 1, 1) := by decide +kernel
theorem dX11_lesson_1 : decode cX11_lesson 1 = .ok (.invokestatic 296, 3) := by decide +kernel
theorem dX11_lesson_4 : decode cX11_lesson 4 = .ok (.ifCond .eq 38, 3) := by decide +kernel
theorem dX11_lesson_7 : decode cX11_lesson 7 = .ok (.iload_n 2, 1) := by decide +kernel
theorem dX11_lesson_8 : decode cX11_lesson 8 = .ok (.iconst 1, 1) := by decide +kernel
theorem dX11_lesson_9 : decode cX11_lesson 9 = .ok (.bipush 60, 2) := by decide +kernel
theorem dX11_lesson_11 : decode cX11_lesson 11 = .ok (.invokestatic 91, 3) := by decide +kernel
theorem dX11_lesson_14 : decode cX11_lesson 14 = .ok (.ifCond .eq 28, 3) := by decide +kernel
theorem dX11_lesson_17 : decode cX11_lesson 17 = .ok (.iload_n 3, 1) := by decide +kernel
theorem dX11_lesson_18 : decode cX11_lesson 18 = .ok (.iconst 0, 1) := by decide +kernel
theorem dX11_lesson_19 : decode cX11_lesson 19 = .ok (.iconst 1, 1) := by decide +kernel
theorem dX11_lesson_20 : decode cX11_lesson 20 = .ok (.iload_n 1, 1) := by decide +kernel
theorem dX11_lesson_21 : decode cX11_lesson 21 = .ok (.ishl, 1) := by decide +kernel
theorem dX11_lesson_22 : decode cX11_lesson 22 = .ok (.iconst 1, 1) := by decide +kernel
theorem dX11_lesson_23 : decode cX11_lesson 23 = .ok (.isub, 1) := by decide +kernel
theorem dX11_lesson_24 : decode cX11_lesson 24 = .ok (.invokestatic 91, 3) := by decide +kernel
theorem dX11_lesson_27 : decode cX11_lesson 27 = .ok (.ifCond .eq 15, 3) := by decide +kernel
theorem dX11_lesson_30 : decode cX11_lesson 30 = .ok (.iload 4, 2) := by decide +kernel
theorem dX11_lesson_32 : decode cX11_lesson 32 = .ok (.iconst 0, 1) := by decide +kernel
theorem dX11_lesson_33 : decode cX11_lesson 33 = .ok (.ldc_w 299, 3) := by decide +kernel
theorem dX11_lesson_36 : decode cX11_lesson 36 = .ok (.invokestatic 91, 3) := by decide +kernel
theorem dX11_lesson_39 : decode cX11_lesson 39 = .ok (.ifCond .ne 9, 3) := by decide +kernel
theorem dX11_lesson_42 : decode cX11_lesson 42 = .ok (.aload_n 0, 1) := by decide +kernel
theorem dX11_lesson_43 : decode cX11_lesson 43 = .ok (.iconst 1, 1) := by decide +kernel
theorem dX11_lesson_44 : decode cX11_lesson 44 = .ok (.invokevirtual 95, 3) := by decide +kernel
theorem dX11_lesson_47 : decode cX11_lesson 47 = .ok (.ireturn, 1) := by decide +kernel
theorem dX11_lesson_48 : decode cX11_lesson 48 = .ok (.aload_n 0, 1) := by decide +kernel
theorem dX11_lesson_49 : decode cX11_lesson 49 = .ok (.getfield 49, 3) := by decide +kernel
theorem dX11_lesson_52 : decode cX11_lesson 52 = .ok (.iload_n 1, 1) := by decide +kernel
theorem dX11_lesson_53 : decode cX11_lesson 53 = .ok (.iload_n 2, 1) := by decide +kernel
theorem dX11_lesson_54 : decode cX11_lesson 54 = .ok (.iload_n 3, 1) := by decide +kernel
theorem dX11_lesson_55 : decode cX11_lesson 55 = .ok (.iload 4, 2) := by decide +kernel
theorem dX11_lesson_57 : decode cX11_lesson 57 = .ok (.invokevirtual 300, 3) := by decide +kernel
theorem dX11_lesson_60 : decode cX11_lesson 60 = .ok (.aload_n 0, 1) := by decide +kernel
theorem dX11_lesson_61 : decode cX11_lesson 61 = .ok (.getfield 58, 3) := by decide +kernel
theorem dX11_lesson_64 : decode cX11_lesson 64 = .ok (.iconst 0, 1) := by decide +kernel
theorem dX11_lesson_65 : decode cX11_lesson 65 = .ok (.invokevirtual 160, 3) := by decide +kernel
theorem dX11_lesson_68 : decode cX11_lesson 68 = .ok (.aload_n 0, 1) := by decide +kernel
theorem dX11_lesson_69 : decode cX11_lesson 69 = .ok (.invokevirtual 102, 3) := by decide +kernel
theorem dX11_lesson_72 : decode cX11_lesson 72 = .ok (.ireturn, 1) := by decide +kernel
noncomputable def X11_lesson_j42 (w : Wd) : Option (Int32 × Wd) :=
(X11_refuse (1 : Int32) w).bind fun q1 =>
gd (narrow .boolean (.int q1.1) = .int q1.1) <|
some (q1.1, q1.2)
set_option maxRecDepth 20000 in
set_option maxHeartbeats 1000000 in
theorem t_X11_lesson_j42 {κ : Kx} (w : Wd) (h : ok (X11_lesson_j42  w) (PIw κ)) : J κ RX11 cX11_lesson 5 (some .boolean) (rmk 2 44) 42 [(0, .ref (ad (gm κ) 0))] [] w := by
  unfold X11_lesson_j42 at h
  refine j_aload_n 0 dX11_lesson_42 rfl rfl ?_
  refine j_iconst (1 : Int32) dX11_lesson_43 ki_1 ?_
  obtain ⟨q1, e2, h⟩ := ok_b h
  refine j_callV (As := [.int (1 : Int32)]) (st := []) [.int q1.1] (c_X11_refuse (kl κ) (gm κ) (kA κ) (1 : Int32) w q1 e2) ck_RX11_95 im_X11_refuse se_X11_refuse sh_0 cx_11 ⟨rfl, rfl⟩ ⟨by decide, by decide⟩ rfl rfl (Nat.le_of_ble_eq_true rfl) dX11_lesson_44 _ rfl ?_
  obtain ⟨hz, h⟩ := ok_g h
  have h := ok_s h
  exact j_iret dX11_lesson_47 rfl hz h
noncomputable def X11_lesson (a1 : Int32) (a2 : Int32) (a3 : Int32) (a4 : Int32) (w : Wd) : Option (Int32 × Wd) :=
(if (X11_isLesson a1 w) = 0 then
X11_lesson_j42 w
else
(if (X11_within a2 (1 : Int32) (60 : Int32) w) = 0 then
X11_lesson_j42 w
else
(if (X11_within a3 (0 : Int32) (((1 : Int32) <<< (a1 &&& 31)) - (1 : Int32)) w) = 0 then
X11_lesson_j42 w
else
(if (X11_within a4 (0 : Int32) (67108863 : Int32) w) = 0 then
X11_lesson_j42 w
else
(X3_set a1 a2 a3 a4 w).bind fun q3 =>
(X10_relive (0 : Int32) q3).bind fun q5 =>
(X11_agree q5).bind fun q7 =>
gd (narrow .boolean (.int q7.1) = .int q7.1) <|
some (q7.1, q7.2)))))
set_option maxRecDepth 20000 in
set_option maxHeartbeats 1000000 in
theorem t_X11_lesson {κ : Kx} (a1 : Int32) (a2 : Int32) (a3 : Int32) (a4 : Int32) (w : Wd) (h : ok (X11_lesson  a1 a2 a3 a4 w) (PIw κ)) : J κ RX11 cX11_lesson 5 (some .boolean) (rmk 2 44) 0 [(0, .ref (ad (gm κ) 0)), (1, .int a1), (2, .int a2), (3, .int a3), (4, .int a4)] [] w := by
  unfold X11_lesson at h
  refine j_iload_n 1 dX11_lesson_0 rfl rfl ?_
  refine j_callS (As := [.int a1]) (st := []) [.int (X11_isLesson a1 w)] (c_X11_isLesson (kl κ) (gm κ) (kA κ) a1 w) ck_RX11_296 st_X11_isLesson ⟨rfl, rfl⟩ ⟨by decide, by decide⟩ rfl rfl (Nat.le_of_ble_eq_true rfl) dX11_lesson_1 _ rfl ?_
  refine j_if_eq 42 dX11_lesson_4 (by decide) h (fun h => ?_) (fun h => ?_)
  · refine j_loc [(0, .ref (ad (gm κ) 0))] [0] rfl ?_
    exact t_X11_lesson_j42 w h
  · refine j_iload_n 2 dX11_lesson_7 rfl rfl ?_
    refine j_iconst (1 : Int32) dX11_lesson_8 ki_1 ?_
    refine j_bipush (60 : Int32) dX11_lesson_9 kb_60 ?_
    refine j_callS (As := [.int a2, .int (1 : Int32), .int (60 : Int32)]) (st := []) [.int (X11_within a2 (1 : Int32) (60 : Int32) w)] (c_X11_within (kl κ) (gm κ) (kA κ) a2 (1 : Int32) (60 : Int32) w) ck_RX11_91 st_X11_within ⟨rfl, rfl⟩ ⟨by decide, by decide⟩ rfl rfl (Nat.le_of_ble_eq_true rfl) dX11_lesson_11 _ rfl ?_
    refine j_if_eq 42 dX11_lesson_14 (by decide) h (fun h => ?_) (fun h => ?_)
    · refine j_loc [(0, .ref (ad (gm κ) 0))] [0] rfl ?_
      exact t_X11_lesson_j42 w h
    · refine j_iload_n 3 dX11_lesson_17 rfl rfl ?_
      refine j_iconst (0 : Int32) dX11_lesson_18 ki_0 ?_
      refine j_iconst (1 : Int32) dX11_lesson_19 ki_1 ?_
      refine j_iload_n 1 dX11_lesson_20 rfl rfl ?_
      refine j_ishl dX11_lesson_21 ?_
      refine j_iconst (1 : Int32) dX11_lesson_22 ki_1 ?_
      refine j_isub dX11_lesson_23 ?_
      refine j_callS (As := [.int a3, .int (0 : Int32), .int (((1 : Int32) <<< (a1 &&& 31)) - (1 : Int32))]) (st := []) [.int (X11_within a3 (0 : Int32) (((1 : Int32) <<< (a1 &&& 31)) - (1 : Int32)) w)] (c_X11_within (kl κ) (gm κ) (kA κ) a3 (0 : Int32) (((1 : Int32) <<< (a1 &&& 31)) - (1 : Int32)) w) ck_RX11_91 st_X11_within ⟨rfl, rfl⟩ ⟨by decide, by decide⟩ rfl rfl (Nat.le_of_ble_eq_true rfl) dX11_lesson_24 _ rfl ?_
      refine j_if_eq 42 dX11_lesson_27 (by decide) h (fun h => ?_) (fun h => ?_)
      · refine j_loc [(0, .ref (ad (gm κ) 0))] [0] rfl ?_
        exact t_X11_lesson_j42 w h
      · refine j_iload 4 dX11_lesson_30 rfl ?_
        refine j_iconst (0 : Int32) dX11_lesson_32 ki_0 ?_
        refine j_ldcw cw_RX11_299 dX11_lesson_33 ?_
        refine j_callS (As := [.int a4, .int (0 : Int32), .int (67108863 : Int32)]) (st := []) [.int (X11_within a4 (0 : Int32) (67108863 : Int32) w)] (c_X11_within (kl κ) (gm κ) (kA κ) a4 (0 : Int32) (67108863 : Int32) w) ck_RX11_91 st_X11_within ⟨rfl, rfl⟩ ⟨by decide, by decide⟩ rfl rfl (Nat.le_of_ble_eq_true rfl) dX11_lesson_36 _ rfl ?_
        refine j_if_ne 48 dX11_lesson_39 (by decide) h (fun h => ?_) (fun h => ?_)
        · refine j_aload_n 0 dX11_lesson_48 rfl rfl ?_
          refine j_getA 69 fl_RX11_49 sh_0 fk_0_5 (by decide) dX11_lesson_49 ?_
          refine j_iload_n 1 dX11_lesson_52 rfl rfl ?_
          refine j_iload_n 2 dX11_lesson_53 rfl rfl ?_
          refine j_iload_n 3 dX11_lesson_54 rfl rfl ?_
          refine j_iload 4 dX11_lesson_55 rfl ?_
          obtain ⟨q3, e4, h⟩ := ok_b h
          refine j_callV (As := [.int a1, .int a2, .int a3, .int a4]) (st := []) [] (c_X3_set (kl κ) (gm κ) (kA κ) a1 a2 a3 a4 w q3 e4) ck_RX11_300 im_X3_set se_X3_set sh_69 cx_3 ⟨rfl, rfl⟩ ⟨by decide, by decide⟩ rfl rfl (Nat.le_of_ble_eq_true rfl) dX11_lesson_57 _ rfl ?_
          refine j_aload_n 0 dX11_lesson_60 rfl rfl ?_
          refine j_getA 73 fl_RX11_58 sh_0 fk_0_6 (by decide) dX11_lesson_61 ?_
          refine j_iconst (0 : Int32) dX11_lesson_64 ki_0 ?_
          obtain ⟨q5, e6, h⟩ := ok_b h
          refine j_callV (As := [.int (0 : Int32)]) (st := []) [] (c_X10_relive (kl κ) (gm κ) (kA κ) (0 : Int32) q3 q5 e6) ck_RX11_160 im_X10_relive se_X10_relive sh_73 cx_10 ⟨rfl, rfl⟩ ⟨by decide, by decide⟩ rfl rfl (Nat.le_of_ble_eq_true rfl) dX11_lesson_65 _ rfl ?_
          refine j_aload_n 0 dX11_lesson_68 rfl rfl ?_
          obtain ⟨q7, e8, h⟩ := ok_b h
          refine j_callV (As := []) (st := []) [.int q7.1] (c_X11_agree (kl κ) (gm κ) (kA κ) q5 q7 e8) ck_RX11_102 im_X11_agree se_X11_agree sh_0 cx_11 ⟨rfl, rfl⟩ ⟨by decide, by decide⟩ rfl rfl (Nat.le_of_ble_eq_true rfl) dX11_lesson_69 _ rfl ?_
          obtain ⟨hz, h⟩ := ok_g h
          have h := ok_s h
          exact j_iret dX11_lesson_72 rfl hz h
        · refine j_loc [(0, .ref (ad (gm κ) 0))] [0] rfl ?_
          exact t_X11_lesson_j42 w h
theorem c_X11_lesson (l : Launch) (γ : Gm) (A : Nat → Prop) (a1 : Int32) (a2 : Int32) (a3 : Int32) (a4 : Int32) (w : Wd) (q : Int32 × Wd) (e : X11_lesson  a1 a2 a3 a4 w = some q) : MetG l γ A yX11_lesson cX11_lesson 5 (some .boolean) (rmk 2 44) [.ref (ad (γ) 0), .int a1, .int a2, .int a3, .int a4] w (some (.int q.1)) q.2 := by
  refine met_of pn_RX11 (Nat.le_of_ble_eq_true rfl) ?_
  intro κ hl hγ hA hρ
  subst hl; subst hγ; subst hA
  exact t_X11_lesson   a1 a2 a3 a4 w ⟨q, e, pIw hρ rfl rfl⟩
theorem dX11_fade_0 : decode cX11_fade 0 = .ok (.iload_n 1, 1) := by decide +kernel
theorem dX11_fade_1 : decode cX11_fade 1 = .ok (.iconst 1, 1) := by decide +kernel
theorem dX11_fade_2 : decode cX11_fade 2 = .ok (.bipush 20, 2) := by decide +kernel
theorem dX11_fade_4 : decode cX11_fade 4 = .ok (.invokestatic 91, 3) := by decide +kernel
theorem dX11_fade_7 : decode cX11_fade 7 = .ok (.ifCond .ne 9, 3) := by decide +kernel
theorem dX11_fade_10 : decode cX11_fade 10 = .ok (.aload_n 0, 1) := by decide +kernel
theorem dX11_fade_11 : decode cX11_fade 11 = .ok (.iconst 1, 1) := by decide +kernel
theorem dX11_fade_12 : decode cX11_fade 12 = .ok (.invokevirtual 95, 3) := by decide +kernel
theorem dX11_fade_15 : decode cX11_fade 15 = .ok (.ireturn, 1) := by decide +kernel
theorem dX11_fade_16 : decode cX11_fade 16 = .ok (.aload_n 0, 1) := by decide +kernel
theorem dX11_fade_17 : decode cX11_fade 17 = .ok (.getfield 49, 3) := by decide +kernel
theorem dX11_fade_20 : decode cX11_fade 20 = .ok (.iload_n 1, 1) := by decide +kernel
theorem dX11_fade_21 : decode cX11_fade 21 = .ok (.putfield 304, 3) := by decide +kernel
theorem dX11_fade_24 : decode cX11_fade 24 = .ok (.aload_n 0, 1) := by decide +kernel
theorem dX11_fade_25 : decode cX11_fade 25 = .ok (.getfield 58, 3) := by decide +kernel
theorem dX11_fade_28 : decode cX11_fade 28 = .ok (.iconst 0, 1) := by decide +kernel
theorem dX11_fade_29 : decode cX11_fade 29 = .ok (.invokevirtual 160, 3) := by decide +kernel
theorem dX11_fade_32 : decode cX11_fade 32 = .ok (.aload_n 0, 1) := by decide +kernel
theorem dX11_fade_33 : decode cX11_fade 33 = .ok (.invokevirtual 102, 3) := by decide +kernel
theorem dX11_fade_36 : decode cX11_fade 36 = .ok (.ireturn, 1) := by decide +kernel
noncomputable def X11_fade (a1 : Int32) (w : Wd) : Option (Int32 × Wd) :=
(if (X11_within a1 (1 : Int32) (20 : Int32) w) = 0 then
(X11_refuse (1 : Int32) w).bind fun q6 =>
gd (narrow .boolean (.int q6.1) = .int q6.1) <|
some (q6.1, q6.2)
else
(some (puI w 69 3 a1)).bind fun w1 =>
(X10_relive (0 : Int32) w1).bind fun q2 =>
(X11_agree q2).bind fun q4 =>
gd (narrow .boolean (.int q4.1) = .int q4.1) <|
some (q4.1, q4.2))
set_option maxRecDepth 20000 in
set_option maxHeartbeats 1000000 in
theorem t_X11_fade {κ : Kx} (a1 : Int32) (w : Wd) (h : ok (X11_fade  a1 w) (PIw κ)) : J κ RX11 cX11_fade 2 (some .boolean) (rmk 2 44) 0 [(0, .ref (ad (gm κ) 0)), (1, .int a1)] [] w := by
  unfold X11_fade at h
  refine j_iload_n 1 dX11_fade_0 rfl rfl ?_
  refine j_iconst (1 : Int32) dX11_fade_1 ki_1 ?_
  refine j_bipush (20 : Int32) dX11_fade_2 kb_20 ?_
  refine j_callS (As := [.int a1, .int (1 : Int32), .int (20 : Int32)]) (st := []) [.int (X11_within a1 (1 : Int32) (20 : Int32) w)] (c_X11_within (kl κ) (gm κ) (kA κ) a1 (1 : Int32) (20 : Int32) w) ck_RX11_91 st_X11_within ⟨rfl, rfl⟩ ⟨by decide, by decide⟩ rfl rfl (Nat.le_of_ble_eq_true rfl) dX11_fade_4 _ rfl ?_
  refine j_if_ne 16 dX11_fade_7 (by decide) h (fun h => ?_) (fun h => ?_)
  · refine j_aload_n 0 dX11_fade_16 rfl rfl ?_
    refine j_getA 69 fl_RX11_49 sh_0 fk_0_5 (by decide) dX11_fade_17 ?_
    refine j_iload_n 1 dX11_fade_20 rfl rfl ?_
    refine j_putI fp_RX11_304 sh_69 fk_69_3 dX11_fade_21 ?_
    refine j_lW h (fun w1 h => ?_)
    refine j_aload_n 0 dX11_fade_24 rfl rfl ?_
    refine j_getA 73 fl_RX11_58 sh_0 fk_0_6 (by decide) dX11_fade_25 ?_
    refine j_iconst (0 : Int32) dX11_fade_28 ki_0 ?_
    obtain ⟨q2, e3, h⟩ := ok_b h
    refine j_callV (As := [.int (0 : Int32)]) (st := []) [] (c_X10_relive (kl κ) (gm κ) (kA κ) (0 : Int32) w1 q2 e3) ck_RX11_160 im_X10_relive se_X10_relive sh_73 cx_10 ⟨rfl, rfl⟩ ⟨by decide, by decide⟩ rfl rfl (Nat.le_of_ble_eq_true rfl) dX11_fade_29 _ rfl ?_
    refine j_aload_n 0 dX11_fade_32 rfl rfl ?_
    obtain ⟨q4, e5, h⟩ := ok_b h
    refine j_callV (As := []) (st := []) [.int q4.1] (c_X11_agree (kl κ) (gm κ) (kA κ) q2 q4 e5) ck_RX11_102 im_X11_agree se_X11_agree sh_0 cx_11 ⟨rfl, rfl⟩ ⟨by decide, by decide⟩ rfl rfl (Nat.le_of_ble_eq_true rfl) dX11_fade_33 _ rfl ?_
    obtain ⟨hz, h⟩ := ok_g h
    have h := ok_s h
    exact j_iret dX11_fade_36 rfl hz h
  · refine j_aload_n 0 dX11_fade_10 rfl rfl ?_
    refine j_iconst (1 : Int32) dX11_fade_11 ki_1 ?_
    obtain ⟨q6, e7, h⟩ := ok_b h
    refine j_callV (As := [.int (1 : Int32)]) (st := []) [.int q6.1] (c_X11_refuse (kl κ) (gm κ) (kA κ) (1 : Int32) w q6 e7) ck_RX11_95 im_X11_refuse se_X11_refuse sh_0 cx_11 ⟨rfl, rfl⟩ ⟨by decide, by decide⟩ rfl rfl (Nat.le_of_ble_eq_true rfl) dX11_fade_12 _ rfl ?_
    obtain ⟨hz, h⟩ := ok_g h
    have h := ok_s h
    exact j_iret dX11_fade_15 rfl hz h
theorem c_X11_fade (l : Launch) (γ : Gm) (A : Nat → Prop) (a1 : Int32) (w : Wd) (q : Int32 × Wd) (e : X11_fade  a1 w = some q) : MetG l γ A yX11_fade cX11_fade 2 (some .boolean) (rmk 2 44) [.ref (ad (γ) 0), .int a1] w (some (.int q.1)) q.2 := by
  refine met_of pn_RX11 (Nat.le_of_ble_eq_true rfl) ?_
  intro κ hl hγ hA hρ
  subst hl; subst hγ; subst hA
  exact t_X11_fade   a1 w ⟨q, e, pIw hρ rfl rfl⟩
theorem dX11_knows_0 : decode cX11_knows 0 = .ok (.aload_n 0, 1) := by decide +kernel
theorem dX11_knows_1 : decode cX11_knows 1 = .ok (.getfield 19, 3) := by decide +kernel
theorem dX11_knows_4 : decode cX11_knows 4 = .ok (.iload_n 1, 1) := by decide +kernel
theorem dX11_knows_5 : decode cX11_knows 5 = .ok (.invokevirtual 220, 3) := by decide +kernel
theorem dX11_knows_8 : decode cX11_knows 8 = .ok (.ifCond .eq 10, 3) := by decide +kernel
theorem dX11_knows_11 : decode cX11_knows 11 = .ok (.iload_n 2, 1) := by decide +kernel
theorem dX11_knows_12 : decode cX11_knows 12 = .ok (.invokestatic 168, 3) := by decide +kernel
theorem dX11_knows_15 : decode cX11_knows 15 = .ok (.ifCond .ne 9, 3) := by decide +kernel
theorem dX11_knows_18 : decode cX11_knows 18 = .ok (.aload_n 0, 1) := by decide +kernel
theorem dX11_knows_19 : decode cX11_knows 19 = .ok (.iconst 1, 1) := by decide +kernel
theorem dX11_knows_20 : decode cX11_knows 20 = .ok (.invokevirtual 114, 3) := by decide +kernel
theorem dX11_knows_23 : decode cX11_knows 23 = .ok (.ireturn, 1) := by decide +kernel
theorem dX11_knows_24 : decode cX11_knows 24 = .ok (.aload_n 0, 1) := by decide +kernel
theorem dX11_knows_25 : decode cX11_knows 25 = .ok (.getfield 58, 3) := by decide +kernel
theorem dX11_knows_28 : decode cX11_knows 28 = .ok (.iload_n 2, 1) := by decide +kernel
theorem dX11_knows_29 : decode cX11_knows 29 = .ok (.invokevirtual 290, 3) := by decide +kernel
theorem dX11_knows_32 : decode cX11_knows 32 = .ok (.aload_n 0, 1) := by decide +kernel
theorem dX11_knows_33 : decode cX11_knows 33 = .ok (.aload_n 0, 1) := by decide +kernel
theorem dX11_knows_34 : decode cX11_knows 34 = .ok (.getfield 58, 3) := by decide +kernel
theorem dX11_knows_37 : decode cX11_knows 37 = .ok (.iload_n 1, 1) := by decide +kernel
theorem dX11_knows_38 : decode cX11_knows 38 = .ok (.iload_n 2, 1) := by decide +kernel
theorem dX11_knows_39 : decode cX11_knows 39 = .ok (.invokevirtual 307, 3) := by decide +kernel
theorem dX11_knows_42 : decode cX11_knows 42 = .ok (.invokevirtual 145, 3) := by decide +kernel
theorem dX11_knows_45 : decode cX11_knows 45 = .ok (.ireturn, 1) := by decide +kernel
noncomputable def X11_knows_j18 (w : Wd) : Option (Int32 × Wd) :=
(X11_deny (1 : Int32) w).bind fun q1 =>
some (q1.1, q1.2)
set_option maxRecDepth 20000 in
set_option maxHeartbeats 1000000 in
theorem t_X11_knows_j18 {κ : Kx} (w : Wd) (h : ok (X11_knows_j18  w) (PIw κ)) : J κ RX11 cX11_knows 3 (some .int) (rmk 6 153) 18 [(0, .ref (ad (gm κ) 0))] [] w := by
  unfold X11_knows_j18 at h
  refine j_aload_n 0 dX11_knows_18 rfl rfl ?_
  refine j_iconst (1 : Int32) dX11_knows_19 ki_1 ?_
  obtain ⟨q1, e2, h⟩ := ok_b h
  refine j_callV (As := [.int (1 : Int32)]) (st := []) [.int q1.1] (c_X11_deny (kl κ) (gm κ) (kA κ) (1 : Int32) w q1 e2) ck_RX11_114 im_X11_deny se_X11_deny sh_0 cx_11 ⟨rfl, rfl⟩ ⟨by decide, by decide⟩ rfl rfl (Nat.le_of_ble_eq_true rfl) dX11_knows_20 _ rfl ?_
  have h := ok_s h
  exact j_iret dX11_knows_23 rfl rfl h
noncomputable def X11_knows (a1 : Int32) (a2 : Int32) (w : Wd) : Option (Int32 × Wd) :=
(if (X2_isLearner a1 w) = 0 then
X11_knows_j18 w
else
(if (X11_isWeek a2 w) = 0 then
X11_knows_j18 w
else
(X10_reach a2 w).bind fun q3 =>
(X10_doneBehind a1 a2 q3).bind fun q5 =>
(X11_answer q5 q3).bind fun q7 =>
some (q7.1, q7.2)))
set_option maxRecDepth 20000 in
set_option maxHeartbeats 1000000 in
theorem t_X11_knows {κ : Kx} (a1 : Int32) (a2 : Int32) (w : Wd) (h : ok (X11_knows  a1 a2 w) (PIw κ)) : J κ RX11 cX11_knows 3 (some .int) (rmk 6 153) 0 [(0, .ref (ad (gm κ) 0)), (1, .int a1), (2, .int a2)] [] w := by
  unfold X11_knows at h
  refine j_aload_n 0 dX11_knows_0 rfl rfl ?_
  refine j_getA 5 fl_RX11_19 sh_0 fk_0_1 (by decide) dX11_knows_1 ?_
  refine j_iload_n 1 dX11_knows_4 rfl rfl ?_
  refine j_callV (As := [.int a1]) (st := []) [.int (X2_isLearner a1 w)] (c_X2_isLearner (kl κ) (gm κ) (kA κ) a1 w) ck_RX11_220 im_X2_isLearner se_X2_isLearner sh_5 cx_2 ⟨rfl, rfl⟩ ⟨by decide, by decide⟩ rfl rfl (Nat.le_of_ble_eq_true rfl) dX11_knows_5 _ rfl ?_
  refine j_if_eq 18 dX11_knows_8 (by decide) h (fun h => ?_) (fun h => ?_)
  · refine j_loc [(0, .ref (ad (gm κ) 0))] [0] rfl ?_
    exact t_X11_knows_j18 w h
  · refine j_iload_n 2 dX11_knows_11 rfl rfl ?_
    refine j_callS (As := [.int a2]) (st := []) [.int (X11_isWeek a2 w)] (c_X11_isWeek (kl κ) (gm κ) (kA κ) a2 w) ck_RX11_168 st_X11_isWeek ⟨rfl, rfl⟩ ⟨by decide, by decide⟩ rfl rfl (Nat.le_of_ble_eq_true rfl) dX11_knows_12 _ rfl ?_
    refine j_if_ne 24 dX11_knows_15 (by decide) h (fun h => ?_) (fun h => ?_)
    · refine j_aload_n 0 dX11_knows_24 rfl rfl ?_
      refine j_getA 73 fl_RX11_58 sh_0 fk_0_6 (by decide) dX11_knows_25 ?_
      refine j_iload_n 2 dX11_knows_28 rfl rfl ?_
      obtain ⟨q3, e4, h⟩ := ok_b h
      refine j_callV (As := [.int a2]) (st := []) [] (c_X10_reach (kl κ) (gm κ) (kA κ) a2 w q3 e4) ck_RX11_290 im_X10_reach se_X10_reach sh_73 cx_10 ⟨rfl, rfl⟩ ⟨by decide, by decide⟩ rfl rfl (Nat.le_of_ble_eq_true rfl) dX11_knows_29 _ rfl ?_
      refine j_aload_n 0 dX11_knows_32 rfl rfl ?_
      refine j_aload_n 0 dX11_knows_33 rfl rfl ?_
      refine j_getA 73 fl_RX11_58 sh_0 fk_0_6 (by decide) dX11_knows_34 ?_
      refine j_iload_n 1 dX11_knows_37 rfl rfl ?_
      refine j_iload_n 2 dX11_knows_38 rfl rfl ?_
      obtain ⟨q5, e6, h⟩ := ok_b h
      refine j_callV (As := [.int a1, .int a2]) (st := [.ref (ad (gm κ) 0)]) [.int q5, .ref (ad (gm κ) 0)] (c_X10_doneBehind (kl κ) (gm κ) (kA κ) a1 a2 q3 q5 e6) ck_RX11_307 im_X10_doneBehind se_X10_doneBehind sh_73 cx_10 ⟨rfl, rfl⟩ ⟨by decide, by decide⟩ rfl rfl (Nat.le_of_ble_eq_true rfl) dX11_knows_39 _ rfl ?_
      obtain ⟨q7, e8, h⟩ := ok_b h
      refine j_callV (As := [.int q5]) (st := []) [.int q7.1] (c_X11_answer (kl κ) (gm κ) (kA κ) q5 q3 q7 e8) ck_RX11_145 im_X11_answer se_X11_answer sh_0 cx_11 ⟨rfl, rfl⟩ ⟨by decide, by decide⟩ rfl rfl (Nat.le_of_ble_eq_true rfl) dX11_knows_42 _ rfl ?_
      have h := ok_s h
      exact j_iret dX11_knows_45 rfl rfl h
    · refine j_loc [(0, .ref (ad (gm κ) 0))] [0] rfl ?_
      exact t_X11_knows_j18 w h
theorem c_X11_knows (l : Launch) (γ : Gm) (A : Nat → Prop) (a1 : Int32) (a2 : Int32) (w : Wd) (q : Int32 × Wd) (e : X11_knows  a1 a2 w = some q) : MetG l γ A yX11_knows cX11_knows 3 (some .int) (rmk 6 153) [.ref (ad (γ) 0), .int a1, .int a2] w (some (.int q.1)) q.2 := by
  refine met_of pn_RX11 (Nat.le_of_ble_eq_true rfl) ?_
  intro κ hl hγ hA hρ
  subst hl; subst hγ; subst hA
  exact t_X11_knows   a1 a2 w ⟨q, e, pIw hρ rfl rfl⟩
theorem dX11_hours_0 : decode cX11_hours 0 = .ok (.aload_n 0, 1) := by decide +kernel
theorem dX11_hours_1 : decode cX11_hours 1 = .ok (.getfield 19, 3) := by decide +kernel
theorem dX11_hours_4 : decode cX11_hours 4 = .ok (.iload_n 1, 1) := by decide +kernel
theorem dX11_hours_5 : decode cX11_hours 5 = .ok (.invokevirtual 220, 3) := by decide +kernel
theorem dX11_hours_8 : decode cX11_hours 8 = .ok (.ifCond .eq 17, 3) := by decide +kernel
theorem dX11_hours_11 : decode cX11_hours 11 = .ok (.iload_n 2, 1) := by decide +kernel
theorem dX11_hours_12 : decode cX11_hours 12 = .ok (.invokestatic 296, 3) := by decide +kernel
theorem dX11_hours_15 : decode cX11_hours 15 = .ok (.ifCond .eq 10, 3) := by decide +kernel
theorem dX11_hours_18 : decode cX11_hours 18 = .ok (.iload_n 3, 1) := by decide +kernel
theorem dX11_hours_19 : decode cX11_hours 19 = .ok (.invokestatic 168, 3) := by decide +kernel
theorem dX11_hours_22 : decode cX11_hours 22 = .ok (.ifCond .ne 9, 3) := by decide +kernel
theorem dX11_hours_25 : decode cX11_hours 25 = .ok (.aload_n 0, 1) := by decide +kernel
theorem dX11_hours_26 : decode cX11_hours 26 = .ok (.iconst 1, 1) := by decide +kernel
theorem dX11_hours_27 : decode cX11_hours 27 = .ok (.invokevirtual 114, 3) := by decide +kernel
theorem dX11_hours_30 : decode cX11_hours 30 = .ok (.ireturn, 1) := by decide +kernel
theorem dX11_hours_31 : decode cX11_hours 31 = .ok (.aload_n 0, 1) := by decide +kernel
theorem dX11_hours_32 : decode cX11_hours 32 = .ok (.getfield 58, 3) := by decide +kernel
theorem dX11_hours_35 : decode cX11_hours 35 = .ok (.iload_n 3, 1) := by decide +kernel
theorem dX11_hours_36 : decode cX11_hours 36 = .ok (.invokevirtual 290, 3) := by decide +kernel
theorem dX11_hours_39 : decode cX11_hours 39 = .ok (.aload_n 0, 1) := by decide +kernel
theorem dX11_hours_40 : decode cX11_hours 40 = .ok (.aload_n 0, 1) := by decide +kernel
theorem dX11_hours_41 : decode cX11_hours 41 = .ok (.getfield 58, 3) := by decide +kernel
theorem dX11_hours_44 : decode cX11_hours 44 = .ok (.iload_n 1, 1) := by decide +kernel
theorem dX11_hours_45 : decode cX11_hours 45 = .ok (.iload_n 2, 1) := by decide +kernel
theorem dX11_hours_46 : decode cX11_hours 46 = .ok (.iload_n 3, 1) := by decide +kernel
theorem dX11_hours_47 : decode cX11_hours 47 = .ok (.invokevirtual 310, 3) := by decide +kernel
theorem dX11_hours_50 : decode cX11_hours 50 = .ok (.invokevirtual 145, 3) := by decide +kernel
theorem dX11_hours_53 : decode cX11_hours 53 = .ok (.ireturn, 1) := by decide +kernel
noncomputable def X11_hours_j25 (w : Wd) : Option (Int32 × Wd) :=
(X11_deny (1 : Int32) w).bind fun q1 =>
some (q1.1, q1.2)
set_option maxRecDepth 20000 in
set_option maxHeartbeats 1000000 in
theorem t_X11_hours_j25 {κ : Kx} (w : Wd) (h : ok (X11_hours_j25  w) (PIw κ)) : J κ RX11 cX11_hours 4 (some .int) (rmk 6 153) 25 [(0, .ref (ad (gm κ) 0))] [] w := by
  unfold X11_hours_j25 at h
  refine j_aload_n 0 dX11_hours_25 rfl rfl ?_
  refine j_iconst (1 : Int32) dX11_hours_26 ki_1 ?_
  obtain ⟨q1, e2, h⟩ := ok_b h
  refine j_callV (As := [.int (1 : Int32)]) (st := []) [.int q1.1] (c_X11_deny (kl κ) (gm κ) (kA κ) (1 : Int32) w q1 e2) ck_RX11_114 im_X11_deny se_X11_deny sh_0 cx_11 ⟨rfl, rfl⟩ ⟨by decide, by decide⟩ rfl rfl (Nat.le_of_ble_eq_true rfl) dX11_hours_27 _ rfl ?_
  have h := ok_s h
  exact j_iret dX11_hours_30 rfl rfl h
noncomputable def X11_hours (a1 : Int32) (a2 : Int32) (a3 : Int32) (w : Wd) : Option (Int32 × Wd) :=
(if (X2_isLearner a1 w) = 0 then
X11_hours_j25 w
else
(if (X11_isLesson a2 w) = 0 then
X11_hours_j25 w
else
(if (X11_isWeek a3 w) = 0 then
X11_hours_j25 w
else
(X10_reach a3 w).bind fun q3 =>
(X10_hoursBehind a1 a2 a3 q3).bind fun q5 =>
(X11_answer q5 q3).bind fun q7 =>
some (q7.1, q7.2))))
set_option maxRecDepth 20000 in
set_option maxHeartbeats 1000000 in
theorem t_X11_hours {κ : Kx} (a1 : Int32) (a2 : Int32) (a3 : Int32) (w : Wd) (h : ok (X11_hours  a1 a2 a3 w) (PIw κ)) : J κ RX11 cX11_hours 4 (some .int) (rmk 6 153) 0 [(0, .ref (ad (gm κ) 0)), (1, .int a1), (2, .int a2), (3, .int a3)] [] w := by
  unfold X11_hours at h
  refine j_aload_n 0 dX11_hours_0 rfl rfl ?_
  refine j_getA 5 fl_RX11_19 sh_0 fk_0_1 (by decide) dX11_hours_1 ?_
  refine j_iload_n 1 dX11_hours_4 rfl rfl ?_
  refine j_callV (As := [.int a1]) (st := []) [.int (X2_isLearner a1 w)] (c_X2_isLearner (kl κ) (gm κ) (kA κ) a1 w) ck_RX11_220 im_X2_isLearner se_X2_isLearner sh_5 cx_2 ⟨rfl, rfl⟩ ⟨by decide, by decide⟩ rfl rfl (Nat.le_of_ble_eq_true rfl) dX11_hours_5 _ rfl ?_
  refine j_if_eq 25 dX11_hours_8 (by decide) h (fun h => ?_) (fun h => ?_)
  · refine j_loc [(0, .ref (ad (gm κ) 0))] [0] rfl ?_
    exact t_X11_hours_j25 w h
  · refine j_iload_n 2 dX11_hours_11 rfl rfl ?_
    refine j_callS (As := [.int a2]) (st := []) [.int (X11_isLesson a2 w)] (c_X11_isLesson (kl κ) (gm κ) (kA κ) a2 w) ck_RX11_296 st_X11_isLesson ⟨rfl, rfl⟩ ⟨by decide, by decide⟩ rfl rfl (Nat.le_of_ble_eq_true rfl) dX11_hours_12 _ rfl ?_
    refine j_if_eq 25 dX11_hours_15 (by decide) h (fun h => ?_) (fun h => ?_)
    · refine j_loc [(0, .ref (ad (gm κ) 0))] [0] rfl ?_
      exact t_X11_hours_j25 w h
    · refine j_iload_n 3 dX11_hours_18 rfl rfl ?_
      refine j_callS (As := [.int a3]) (st := []) [.int (X11_isWeek a3 w)] (c_X11_isWeek (kl κ) (gm κ) (kA κ) a3 w) ck_RX11_168 st_X11_isWeek ⟨rfl, rfl⟩ ⟨by decide, by decide⟩ rfl rfl (Nat.le_of_ble_eq_true rfl) dX11_hours_19 _ rfl ?_
      refine j_if_ne 31 dX11_hours_22 (by decide) h (fun h => ?_) (fun h => ?_)
      · refine j_aload_n 0 dX11_hours_31 rfl rfl ?_
        refine j_getA 73 fl_RX11_58 sh_0 fk_0_6 (by decide) dX11_hours_32 ?_
        refine j_iload_n 3 dX11_hours_35 rfl rfl ?_
        obtain ⟨q3, e4, h⟩ := ok_b h
        refine j_callV (As := [.int a3]) (st := []) [] (c_X10_reach (kl κ) (gm κ) (kA κ) a3 w q3 e4) ck_RX11_290 im_X10_reach se_X10_reach sh_73 cx_10 ⟨rfl, rfl⟩ ⟨by decide, by decide⟩ rfl rfl (Nat.le_of_ble_eq_true rfl) dX11_hours_36 _ rfl ?_
        refine j_aload_n 0 dX11_hours_39 rfl rfl ?_
        refine j_aload_n 0 dX11_hours_40 rfl rfl ?_
        refine j_getA 73 fl_RX11_58 sh_0 fk_0_6 (by decide) dX11_hours_41 ?_
        refine j_iload_n 1 dX11_hours_44 rfl rfl ?_
        refine j_iload_n 2 dX11_hours_45 rfl rfl ?_
        refine j_iload_n 3 dX11_hours_46 rfl rfl ?_
        obtain ⟨q5, e6, h⟩ := ok_b h
        refine j_callV (As := [.int a1, .int a2, .int a3]) (st := [.ref (ad (gm κ) 0)]) [.int q5, .ref (ad (gm κ) 0)] (c_X10_hoursBehind (kl κ) (gm κ) (kA κ) a1 a2 a3 q3 q5 e6) ck_RX11_310 im_X10_hoursBehind se_X10_hoursBehind sh_73 cx_10 ⟨rfl, rfl⟩ ⟨by decide, by decide⟩ rfl rfl (Nat.le_of_ble_eq_true rfl) dX11_hours_47 _ rfl ?_
        obtain ⟨q7, e8, h⟩ := ok_b h
        refine j_callV (As := [.int q5]) (st := []) [.int q7.1] (c_X11_answer (kl κ) (gm κ) (kA κ) q5 q3 q7 e8) ck_RX11_145 im_X11_answer se_X11_answer sh_0 cx_11 ⟨rfl, rfl⟩ ⟨by decide, by decide⟩ rfl rfl (Nat.le_of_ble_eq_true rfl) dX11_hours_50 _ rfl ?_
        have h := ok_s h
        exact j_iret dX11_hours_53 rfl rfl h
      · refine j_loc [(0, .ref (ad (gm κ) 0))] [0] rfl ?_
        exact t_X11_hours_j25 w h
theorem c_X11_hours (l : Launch) (γ : Gm) (A : Nat → Prop) (a1 : Int32) (a2 : Int32) (a3 : Int32) (w : Wd) (q : Int32 × Wd) (e : X11_hours  a1 a2 a3 w = some q) : MetG l γ A yX11_hours cX11_hours 4 (some .int) (rmk 6 153) [.ref (ad (γ) 0), .int a1, .int a2, .int a3] w (some (.int q.1)) q.2 := by
  refine met_of pn_RX11 (Nat.le_of_ble_eq_true rfl) ?_
  intro κ hl hγ hA hρ
  subst hl; subst hγ; subst hA
  exact t_X11_hours   a1 a2 a3 w ⟨q, e, pIw hρ rfl rfl⟩
theorem dX11_gap_0 : decode cX11_gap 0 = .ok (.aload_n 0, 1) := by decide +kernel
theorem dX11_gap_1 : decode cX11_gap 1 = .ok (.getfield 19, 3) := by decide +kernel
theorem dX11_gap_4 : decode cX11_gap 4 = .ok (.iload_n 1, 1) := by decide +kernel
theorem dX11_gap_5 : decode cX11_gap 5 = .ok (.invokevirtual 220, 3) := by decide +kernel
theorem dX11_gap_8 : decode cX11_gap 8 = .ok (.ifCond .eq 10, 3) := by decide +kernel
theorem dX11_gap_11 : decode cX11_gap 11 = .ok (.iload_n 2, 1) := by decide +kernel
theorem dX11_gap_12 : decode cX11_gap 12 = .ok (.invokestatic 168, 3) := by decide +kernel
theorem dX11_gap_15 : decode cX11_gap 15 = .ok (.ifCond .ne 9, 3) := by decide +kernel
theorem dX11_gap_18 : decode cX11_gap 18 = .ok (.aload_n 0, 1) := by decide +kernel
theorem dX11_gap_19 : decode cX11_gap 19 = .ok (.iconst 1, 1) := by decide +kernel
theorem dX11_gap_20 : decode cX11_gap 20 = .ok (.invokevirtual 114, 3) := by decide +kernel
theorem dX11_gap_23 : decode cX11_gap 23 = .ok (.ireturn, 1) := by decide +kernel
theorem dX11_gap_24 : decode cX11_gap 24 = .ok (.aload_n 0, 1) := by decide +kernel
theorem dX11_gap_25 : decode cX11_gap 25 = .ok (.getfield 58, 3) := by decide +kernel
theorem dX11_gap_28 : decode cX11_gap 28 = .ok (.iload_n 2, 1) := by decide +kernel
theorem dX11_gap_29 : decode cX11_gap 29 = .ok (.invokevirtual 290, 3) := by decide +kernel
theorem dX11_gap_32 : decode cX11_gap 32 = .ok (.aload_n 0, 1) := by decide +kernel
theorem dX11_gap_33 : decode cX11_gap 33 = .ok (.aload_n 0, 1) := by decide +kernel
theorem dX11_gap_34 : decode cX11_gap 34 = .ok (.getfield 58, 3) := by decide +kernel
theorem dX11_gap_37 : decode cX11_gap 37 = .ok (.iload_n 1, 1) := by decide +kernel
theorem dX11_gap_38 : decode cX11_gap 38 = .ok (.iload_n 2, 1) := by decide +kernel
theorem dX11_gap_39 : decode cX11_gap 39 = .ok (.invokevirtual 313, 3) := by decide +kernel
theorem dX11_gap_42 : decode cX11_gap 42 = .ok (.invokevirtual 145, 3) := by decide +kernel
theorem dX11_gap_45 : decode cX11_gap 45 = .ok (.ireturn, 1) := by decide +kernel
noncomputable def X11_gap_j18 (w : Wd) : Option (Int32 × Wd) :=
(X11_deny (1 : Int32) w).bind fun q1 =>
some (q1.1, q1.2)
set_option maxRecDepth 20000 in
set_option maxHeartbeats 1000000 in
theorem t_X11_gap_j18 {κ : Kx} (w : Wd) (h : ok (X11_gap_j18  w) (PIw κ)) : J κ RX11 cX11_gap 3 (some .int) (rmk 6 153) 18 [(0, .ref (ad (gm κ) 0))] [] w := by
  unfold X11_gap_j18 at h
  refine j_aload_n 0 dX11_gap_18 rfl rfl ?_
  refine j_iconst (1 : Int32) dX11_gap_19 ki_1 ?_
  obtain ⟨q1, e2, h⟩ := ok_b h
  refine j_callV (As := [.int (1 : Int32)]) (st := []) [.int q1.1] (c_X11_deny (kl κ) (gm κ) (kA κ) (1 : Int32) w q1 e2) ck_RX11_114 im_X11_deny se_X11_deny sh_0 cx_11 ⟨rfl, rfl⟩ ⟨by decide, by decide⟩ rfl rfl (Nat.le_of_ble_eq_true rfl) dX11_gap_20 _ rfl ?_
  have h := ok_s h
  exact j_iret dX11_gap_23 rfl rfl h
noncomputable def X11_gap (a1 : Int32) (a2 : Int32) (w : Wd) : Option (Int32 × Wd) :=
(if (X2_isLearner a1 w) = 0 then
X11_gap_j18 w
else
(if (X11_isWeek a2 w) = 0 then
X11_gap_j18 w
else
(X10_reach a2 w).bind fun q3 =>
(X10_gapsBehind a1 a2 q3).bind fun q5 =>
(X11_answer q5 q3).bind fun q7 =>
some (q7.1, q7.2)))
set_option maxRecDepth 20000 in
set_option maxHeartbeats 1000000 in
theorem t_X11_gap {κ : Kx} (a1 : Int32) (a2 : Int32) (w : Wd) (h : ok (X11_gap  a1 a2 w) (PIw κ)) : J κ RX11 cX11_gap 3 (some .int) (rmk 6 153) 0 [(0, .ref (ad (gm κ) 0)), (1, .int a1), (2, .int a2)] [] w := by
  unfold X11_gap at h
  refine j_aload_n 0 dX11_gap_0 rfl rfl ?_
  refine j_getA 5 fl_RX11_19 sh_0 fk_0_1 (by decide) dX11_gap_1 ?_
  refine j_iload_n 1 dX11_gap_4 rfl rfl ?_
  refine j_callV (As := [.int a1]) (st := []) [.int (X2_isLearner a1 w)] (c_X2_isLearner (kl κ) (gm κ) (kA κ) a1 w) ck_RX11_220 im_X2_isLearner se_X2_isLearner sh_5 cx_2 ⟨rfl, rfl⟩ ⟨by decide, by decide⟩ rfl rfl (Nat.le_of_ble_eq_true rfl) dX11_gap_5 _ rfl ?_
  refine j_if_eq 18 dX11_gap_8 (by decide) h (fun h => ?_) (fun h => ?_)
  · refine j_loc [(0, .ref (ad (gm κ) 0))] [0] rfl ?_
    exact t_X11_gap_j18 w h
  · refine j_iload_n 2 dX11_gap_11 rfl rfl ?_
    refine j_callS (As := [.int a2]) (st := []) [.int (X11_isWeek a2 w)] (c_X11_isWeek (kl κ) (gm κ) (kA κ) a2 w) ck_RX11_168 st_X11_isWeek ⟨rfl, rfl⟩ ⟨by decide, by decide⟩ rfl rfl (Nat.le_of_ble_eq_true rfl) dX11_gap_12 _ rfl ?_
    refine j_if_ne 24 dX11_gap_15 (by decide) h (fun h => ?_) (fun h => ?_)
    · refine j_aload_n 0 dX11_gap_24 rfl rfl ?_
      refine j_getA 73 fl_RX11_58 sh_0 fk_0_6 (by decide) dX11_gap_25 ?_
      refine j_iload_n 2 dX11_gap_28 rfl rfl ?_
      obtain ⟨q3, e4, h⟩ := ok_b h
      refine j_callV (As := [.int a2]) (st := []) [] (c_X10_reach (kl κ) (gm κ) (kA κ) a2 w q3 e4) ck_RX11_290 im_X10_reach se_X10_reach sh_73 cx_10 ⟨rfl, rfl⟩ ⟨by decide, by decide⟩ rfl rfl (Nat.le_of_ble_eq_true rfl) dX11_gap_29 _ rfl ?_
      refine j_aload_n 0 dX11_gap_32 rfl rfl ?_
      refine j_aload_n 0 dX11_gap_33 rfl rfl ?_
      refine j_getA 73 fl_RX11_58 sh_0 fk_0_6 (by decide) dX11_gap_34 ?_
      refine j_iload_n 1 dX11_gap_37 rfl rfl ?_
      refine j_iload_n 2 dX11_gap_38 rfl rfl ?_
      obtain ⟨q5, e6, h⟩ := ok_b h
      refine j_callV (As := [.int a1, .int a2]) (st := [.ref (ad (gm κ) 0)]) [.int q5, .ref (ad (gm κ) 0)] (c_X10_gapsBehind (kl κ) (gm κ) (kA κ) a1 a2 q3 q5 e6) ck_RX11_313 im_X10_gapsBehind se_X10_gapsBehind sh_73 cx_10 ⟨rfl, rfl⟩ ⟨by decide, by decide⟩ rfl rfl (Nat.le_of_ble_eq_true rfl) dX11_gap_39 _ rfl ?_
      obtain ⟨q7, e8, h⟩ := ok_b h
      refine j_callV (As := [.int q5]) (st := []) [.int q7.1] (c_X11_answer (kl κ) (gm κ) (kA κ) q5 q3 q7 e8) ck_RX11_145 im_X11_answer se_X11_answer sh_0 cx_11 ⟨rfl, rfl⟩ ⟨by decide, by decide⟩ rfl rfl (Nat.le_of_ble_eq_true rfl) dX11_gap_42 _ rfl ?_
      have h := ok_s h
      exact j_iret dX11_gap_45 rfl rfl h
    · refine j_loc [(0, .ref (ad (gm κ) 0))] [0] rfl ?_
      exact t_X11_gap_j18 w h
theorem c_X11_gap (l : Launch) (γ : Gm) (A : Nat → Prop) (a1 : Int32) (a2 : Int32) (w : Wd) (q : Int32 × Wd) (e : X11_gap  a1 a2 w = some q) : MetG l γ A yX11_gap cX11_gap 3 (some .int) (rmk 6 153) [.ref (ad (γ) 0), .int a1, .int a2] w (some (.int q.1)) q.2 := by
  refine met_of pn_RX11 (Nat.le_of_ble_eq_true rfl) ?_
  intro κ hl hγ hA hρ
  subst hl; subst hγ; subst hA
  exact t_X11_gap   a1 a2 w ⟨q, e, pIw hρ rfl rfl⟩
theorem dX11_foretold_0 : decode cX11_foretold 0 = .ok (.aload_n 0, 1) := by decide +kernel
theorem dX11_foretold_1 : decode cX11_foretold 1 = .ok (.getfield 19, 3) := by decide +kernel
theorem dX11_foretold_4 : decode cX11_foretold 4 = .ok (.iload_n 1, 1) := by decide +kernel
theorem dX11_foretold_5 : decode cX11_foretold 5 = .ok (.invokevirtual 220, 3) := by decide +kernel
theorem dX11_foretold_8 : decode cX11_foretold 8 = .ok (.ifCond .eq 31, 3) := by decide +kernel
theorem dX11_foretold_11 : decode cX11_foretold 11 = .ok (.iload_n 2, 1) := by decide +kernel
theorem dX11_foretold_12 : decode cX11_foretold 12 = .ok (.invokestatic 168, 3) := by decide +kernel
theorem dX11_foretold_15 : decode cX11_foretold 15 = .ok (.ifCond .eq 24, 3) := by decide +kernel
theorem dX11_foretold_18 : decode cX11_foretold 18 = .ok (.iload_n 3, 1) := by decide +kernel
theorem dX11_foretold_19 : decode cX11_foretold 19 = .ok (.iconst 0, 1) := by decide +kernel
theorem dX11_foretold_20 : decode cX11_foretold 20 = .ok (.bipush 60, 2) := by decide +kernel
theorem dX11_foretold_22 : decode cX11_foretold 22 = .ok (.invokestatic 91, 3) := by decide +kernel
theorem dX11_foretold_25 : decode cX11_foretold 25 = .ok (.ifCond .eq 14, 3) := by decide +kernel
theorem dX11_foretold_28 : decode cX11_foretold 28 = .ok (.iload 4, 2) := by decide +kernel
theorem dX11_foretold_30 : decode cX11_foretold 30 = .ok (.iconst 0, 1) := by decide +kernel
theorem dX11_foretold_31 : decode cX11_foretold 31 = .ok (.bipush 60, 2) := by decide +kernel
theorem dX11_foretold_33 : decode cX11_foretold 33 = .ok (.invokestatic 91, 3) := by decide +kernel
theorem dX11_foretold_36 : decode cX11_foretold 36 = .ok (.ifCond .ne 9, 3) := by decide +kernel
theorem dX11_foretold_39 : decode cX11_foretold 39 = .ok (.aload_n 0, 1) := by decide +kernel
theorem dX11_foretold_40 : decode cX11_foretold 40 = .ok (.iconst 1, 1) := by decide +kernel
theorem dX11_foretold_41 : decode cX11_foretold 41 = .ok (.invokevirtual 114, 3) := by decide +kernel
theorem dX11_foretold_44 : decode cX11_foretold 44 = .ok (.ireturn, 1) := by decide +kernel
theorem dX11_foretold_45 : decode cX11_foretold 45 = .ok (.aload_n 0, 1) := by decide +kernel
theorem dX11_foretold_46 : decode cX11_foretold 46 = .ok (.getfield 58, 3) := by decide +kernel
theorem dX11_foretold_49 : decode cX11_foretold 49 = .ok (.iload_n 2, 1) := by decide +kernel
theorem dX11_foretold_50 : decode cX11_foretold 50 = .ok (.invokevirtual 290, 3) := by decide +kernel
theorem dX11_foretold_53 : decode cX11_foretold 53 = .ok (.aload_n 0, 1) := by decide +kernel
theorem dX11_foretold_54 : decode cX11_foretold 54 = .ok (.aload_n 0, 1) := by decide +kernel
theorem dX11_foretold_55 : decode cX11_foretold 55 = .ok (.getfield 58, 3) := by decide +kernel
theorem dX11_foretold_58 : decode cX11_foretold 58 = .ok (.iload_n 1, 1) := by decide +kernel
theorem dX11_foretold_59 : decode cX11_foretold 59 = .ok (.iload_n 2, 1) := by decide +kernel
theorem dX11_foretold_60 : decode cX11_foretold 60 = .ok (.iload_n 3, 1) := by decide +kernel
theorem dX11_foretold_61 : decode cX11_foretold 61 = .ok (.iload 4, 2) := by decide +kernel
theorem dX11_foretold_63 : decode cX11_foretold 63 = .ok (.invokevirtual 316, 3) := by decide +kernel
theorem dX11_foretold_66 : decode cX11_foretold 66 = .ok (.invokevirtual 145, 3) := by decide +kernel
theorem dX11_foretold_69 : decode cX11_foretold 69 = .ok (.ireturn, 1) := by decide +kernel
noncomputable def X11_foretold_j39 (w : Wd) : Option (Int32 × Wd) :=
(X11_deny (1 : Int32) w).bind fun q1 =>
some (q1.1, q1.2)
set_option maxRecDepth 20000 in
set_option maxHeartbeats 1000000 in
theorem t_X11_foretold_j39 {κ : Kx} (w : Wd) (h : ok (X11_foretold_j39  w) (PIw κ)) : J κ RX11 cX11_foretold 5 (some .int) (rmk 6 153) 39 [(0, .ref (ad (gm κ) 0))] [] w := by
  unfold X11_foretold_j39 at h
  refine j_aload_n 0 dX11_foretold_39 rfl rfl ?_
  refine j_iconst (1 : Int32) dX11_foretold_40 ki_1 ?_
  obtain ⟨q1, e2, h⟩ := ok_b h
  refine j_callV (As := [.int (1 : Int32)]) (st := []) [.int q1.1] (c_X11_deny (kl κ) (gm κ) (kA κ) (1 : Int32) w q1 e2) ck_RX11_114 im_X11_deny se_X11_deny sh_0 cx_11 ⟨rfl, rfl⟩ ⟨by decide, by decide⟩ rfl rfl (Nat.le_of_ble_eq_true rfl) dX11_foretold_41 _ rfl ?_
  have h := ok_s h
  exact j_iret dX11_foretold_44 rfl rfl h
noncomputable def X11_foretold (a1 : Int32) (a2 : Int32) (a3 : Int32) (a4 : Int32) (w : Wd) : Option (Int32 × Wd) :=
(if (X2_isLearner a1 w) = 0 then
X11_foretold_j39 w
else
(if (X11_isWeek a2 w) = 0 then
X11_foretold_j39 w
else
(if (X11_within a3 (0 : Int32) (60 : Int32) w) = 0 then
X11_foretold_j39 w
else
(if (X11_within a4 (0 : Int32) (60 : Int32) w) = 0 then
X11_foretold_j39 w
else
(X10_reach a2 w).bind fun q3 =>
(X10_foretell a1 a2 a3 a4 q3).bind fun q5 =>
(X11_answer q5.1 q5.2).bind fun q7 =>
some (q7.1, q7.2)))))
set_option maxRecDepth 20000 in
set_option maxHeartbeats 1000000 in
theorem t_X11_foretold {κ : Kx} (a1 : Int32) (a2 : Int32) (a3 : Int32) (a4 : Int32) (w : Wd) (h : ok (X11_foretold  a1 a2 a3 a4 w) (PIw κ)) : J κ RX11 cX11_foretold 5 (some .int) (rmk 6 153) 0 [(0, .ref (ad (gm κ) 0)), (1, .int a1), (2, .int a2), (3, .int a3), (4, .int a4)] [] w := by
  unfold X11_foretold at h
  refine j_aload_n 0 dX11_foretold_0 rfl rfl ?_
  refine j_getA 5 fl_RX11_19 sh_0 fk_0_1 (by decide) dX11_foretold_1 ?_
  refine j_iload_n 1 dX11_foretold_4 rfl rfl ?_
  refine j_callV (As := [.int a1]) (st := []) [.int (X2_isLearner a1 w)] (c_X2_isLearner (kl κ) (gm κ) (kA κ) a1 w) ck_RX11_220 im_X2_isLearner se_X2_isLearner sh_5 cx_2 ⟨rfl, rfl⟩ ⟨by decide, by decide⟩ rfl rfl (Nat.le_of_ble_eq_true rfl) dX11_foretold_5 _ rfl ?_
  refine j_if_eq 39 dX11_foretold_8 (by decide) h (fun h => ?_) (fun h => ?_)
  · refine j_loc [(0, .ref (ad (gm κ) 0))] [0] rfl ?_
    exact t_X11_foretold_j39 w h
  · refine j_iload_n 2 dX11_foretold_11 rfl rfl ?_
    refine j_callS (As := [.int a2]) (st := []) [.int (X11_isWeek a2 w)] (c_X11_isWeek (kl κ) (gm κ) (kA κ) a2 w) ck_RX11_168 st_X11_isWeek ⟨rfl, rfl⟩ ⟨by decide, by decide⟩ rfl rfl (Nat.le_of_ble_eq_true rfl) dX11_foretold_12 _ rfl ?_
    refine j_if_eq 39 dX11_foretold_15 (by decide) h (fun h => ?_) (fun h => ?_)
    · refine j_loc [(0, .ref (ad (gm κ) 0))] [0] rfl ?_
      exact t_X11_foretold_j39 w h
    · refine j_iload_n 3 dX11_foretold_18 rfl rfl ?_
      refine j_iconst (0 : Int32) dX11_foretold_19 ki_0 ?_
      refine j_bipush (60 : Int32) dX11_foretold_20 kb_60 ?_
      refine j_callS (As := [.int a3, .int (0 : Int32), .int (60 : Int32)]) (st := []) [.int (X11_within a3 (0 : Int32) (60 : Int32) w)] (c_X11_within (kl κ) (gm κ) (kA κ) a3 (0 : Int32) (60 : Int32) w) ck_RX11_91 st_X11_within ⟨rfl, rfl⟩ ⟨by decide, by decide⟩ rfl rfl (Nat.le_of_ble_eq_true rfl) dX11_foretold_22 _ rfl ?_
      refine j_if_eq 39 dX11_foretold_25 (by decide) h (fun h => ?_) (fun h => ?_)
      · refine j_loc [(0, .ref (ad (gm κ) 0))] [0] rfl ?_
        exact t_X11_foretold_j39 w h
      · refine j_iload 4 dX11_foretold_28 rfl ?_
        refine j_iconst (0 : Int32) dX11_foretold_30 ki_0 ?_
        refine j_bipush (60 : Int32) dX11_foretold_31 kb_60 ?_
        refine j_callS (As := [.int a4, .int (0 : Int32), .int (60 : Int32)]) (st := []) [.int (X11_within a4 (0 : Int32) (60 : Int32) w)] (c_X11_within (kl κ) (gm κ) (kA κ) a4 (0 : Int32) (60 : Int32) w) ck_RX11_91 st_X11_within ⟨rfl, rfl⟩ ⟨by decide, by decide⟩ rfl rfl (Nat.le_of_ble_eq_true rfl) dX11_foretold_33 _ rfl ?_
        refine j_if_ne 45 dX11_foretold_36 (by decide) h (fun h => ?_) (fun h => ?_)
        · refine j_aload_n 0 dX11_foretold_45 rfl rfl ?_
          refine j_getA 73 fl_RX11_58 sh_0 fk_0_6 (by decide) dX11_foretold_46 ?_
          refine j_iload_n 2 dX11_foretold_49 rfl rfl ?_
          obtain ⟨q3, e4, h⟩ := ok_b h
          refine j_callV (As := [.int a2]) (st := []) [] (c_X10_reach (kl κ) (gm κ) (kA κ) a2 w q3 e4) ck_RX11_290 im_X10_reach se_X10_reach sh_73 cx_10 ⟨rfl, rfl⟩ ⟨by decide, by decide⟩ rfl rfl (Nat.le_of_ble_eq_true rfl) dX11_foretold_50 _ rfl ?_
          refine j_aload_n 0 dX11_foretold_53 rfl rfl ?_
          refine j_aload_n 0 dX11_foretold_54 rfl rfl ?_
          refine j_getA 73 fl_RX11_58 sh_0 fk_0_6 (by decide) dX11_foretold_55 ?_
          refine j_iload_n 1 dX11_foretold_58 rfl rfl ?_
          refine j_iload_n 2 dX11_foretold_59 rfl rfl ?_
          refine j_iload_n 3 dX11_foretold_60 rfl rfl ?_
          refine j_iload 4 dX11_foretold_61 rfl ?_
          obtain ⟨q5, e6, h⟩ := ok_b h
          refine j_callV (As := [.int a1, .int a2, .int a3, .int a4]) (st := [.ref (ad (gm κ) 0)]) [.int q5.1, .ref (ad (gm κ) 0)] (c_X10_foretell (kl κ) (gm κ) (kA κ) a1 a2 a3 a4 q3 q5 e6) ck_RX11_316 im_X10_foretell se_X10_foretell sh_73 cx_10 ⟨rfl, rfl⟩ ⟨by decide, by decide⟩ rfl rfl (Nat.le_of_ble_eq_true rfl) dX11_foretold_63 _ rfl ?_
          obtain ⟨q7, e8, h⟩ := ok_b h
          refine j_callV (As := [.int q5.1]) (st := []) [.int q7.1] (c_X11_answer (kl κ) (gm κ) (kA κ) q5.1 q5.2 q7 e8) ck_RX11_145 im_X11_answer se_X11_answer sh_0 cx_11 ⟨rfl, rfl⟩ ⟨by decide, by decide⟩ rfl rfl (Nat.le_of_ble_eq_true rfl) dX11_foretold_66 _ rfl ?_
          have h := ok_s h
          exact j_iret dX11_foretold_69 rfl rfl h
        · refine j_loc [(0, .ref (ad (gm κ) 0))] [0] rfl ?_
          exact t_X11_foretold_j39 w h
theorem c_X11_foretold (l : Launch) (γ : Gm) (A : Nat → Prop) (a1 : Int32) (a2 : Int32) (a3 : Int32) (a4 : Int32) (w : Wd) (q : Int32 × Wd) (e : X11_foretold  a1 a2 a3 a4 w = some q) : MetG l γ A yX11_foretold cX11_foretold 5 (some .int) (rmk 6 153) [.ref (ad (γ) 0), .int a1, .int a2, .int a3, .int a4] w (some (.int q.1)) q.2 := by
  refine met_of pn_RX11 (Nat.le_of_ble_eq_true rfl) ?_
  intro κ hl hγ hA hρ
  subst hl; subst hγ; subst hA
  exact t_X11_foretold   a1 a2 a3 a4 w ⟨q, e, pIw hρ rfl rfl⟩
