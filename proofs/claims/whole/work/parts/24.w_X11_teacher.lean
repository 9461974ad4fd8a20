theorem dX11_teacher_0 : decode cX11_teacher 0 = .ok (.iload_n 1, 1) := by decide +kernel
theorem dX11_teacher_1 : decode cX11_teacher 1 = .ok (.iconst 1, 1) := by decide +kernel
theorem dX11_teacher_2 : decode cX11_teacher 2 = .ok (.bipush 31, 2) := by decide +kernel
theorem dX11_teacher_4 : decode cX11_teacher 4 = .ok (.invokestatic 91, 3) := by decide +kernel
theorem dX11_teacher_7 : decode cX11_teacher 7 = .ok (.ifCond .eq 14, 3) := by decide +kernel
theorem dX11_teacher_10 : decode cX11_teacher 10 = .ok (.aload_n 0, 1) := by decide +kernel
theorem dX11_teacher_11 : decode cX11_teacher 11 = .ok (.getfield 19, 3) := by decide +kernel
theorem dX11_teacher_14 : decode cX11_teacher 14 = .ok (.iload_n 2, 1) := by decide +kernel
theorem dX11_teacher_15 : decode cX11_teacher 15 = .ok (.invokevirtual 148, 3) := by decide +kernel
theorem dX11_teacher_18 : decode cX11_teacher 18 = .ok (.ifCond .ne 9, 3) := by decide +kernel
theorem dX11_teacher_21 : decode cX11_teacher 21 = .ok (.aload_n 0, 1) := by decide +kernel
theorem dX11_teacher_22 : decode cX11_teacher 22 = .ok (.iconst 1, 1) := by decide +kernel
theorem dX11_teacher_23 : decode cX11_teacher 23 = .ok (.invokevirtual 114, 3) := by decide +kernel
theorem dX11_teacher_26 : decode cX11_teacher 26 = .ok (.ireturn, 1) := by decide +kernel
theorem dX11_teacher_27 : decode cX11_teacher 27 = .ok (.aload_n 0, 1) := by decide +kernel
theorem dX11_teacher_28 : decode cX11_teacher 28 = .ok (.getfield 19, 3) := by decide +kernel
theorem dX11_teacher_31 : decode cX11_teacher 31 = .ok (.getfield 188, 3) := by decide +kernel
theorem dX11_teacher_34 : decode cX11_teacher 34 = .ok (.bipush 20, 2) := by decide +kernel
theorem dX11_teacher_36 : decode cX11_teacher 36 = .ok (.if_icmp .lt 11, 3) := by decide +kernel
theorem dX11_teacher_39 : decode cX11_teacher 39 = .ok (.aload_n 0, 1) := by decide +kernel
theorem dX11_teacher_40 : decode cX11_teacher 40 = .ok (.iconst 4, 1) := by decide +kernel
theorem dX11_teacher_41 : decode cX11_teacher 41 = .ok (.invokevirtual 114, 3) := by decide +kernel
theorem dX11_teacher_44 : decode cX11_teacher 44 = .ok (.goto 16, 3) := by decide +kernel
theorem dX11_teacher_47 : decode cX11_teacher 47 = .ok (.aload_n 0, 1) := by decide +kernel
theorem dX11_teacher_48 : decode cX11_teacher 48 = .ok (.aload_n 0, 1) := by decide +kernel
theorem dX11_teacher_49 : decode cX11_teacher 49 = .ok (.getfield 19, 3) := by decide +kernel
theorem dX11_teacher_52 : decode cX11_teacher 52 = .ok (.iload_n 1, 1) := by decide +kernel
theorem dX11_teacher_53 : decode cX11_teacher 53 = .ok (.iload_n 2, 1) := by decide +kernel
theorem dX11_teacher_54 : decode cX11_teacher 54 = .ok (.invokevirtual 191, 3) := by decide +kernel
theorem dX11_teacher_57 : decode cX11_teacher 57 = .ok (.invokevirtual 145, 3) := by decide +kernel
theorem dX11_teacher_60 : decode cX11_teacher 60 = .ok (.ireturn, 1) := by decide +kernel
noncomputable def X11_teacher_j21 (w : Wd) : Option (Int32 × Wd) :=
(X11_deny (1 : Int32) w).bind fun q1 =>
some (q1.1, q1.2)
set_option maxRecDepth 20000 in
set_option maxHeartbeats 1000000 in
theorem t_X11_teacher_j21 {κ : Kx} (w : Wd) (h : ok (X11_teacher_j21  w) (PIw κ)) : J κ RX11 cX11_teacher 3 (some .int) (rmk 2 43) 21 [(0, .ref (ad (gm κ) 0))] [] w := by
  unfold X11_teacher_j21 at h
  refine j_aload_n 0 dX11_teacher_21 rfl rfl ?_
  refine j_iconst (1 : Int32) dX11_teacher_22 ki_1 ?_
  obtain ⟨q1, e2, h⟩ := ok_b h
  refine j_callV (As := [.int (1 : Int32)]) (st := []) [.int q1.1] (c_X11_deny (kl κ) (gm κ) (kA κ) (1 : Int32) w q1 e2) ck_RX11_114 im_X11_deny se_X11_deny sh_0 cx_11 ⟨rfl, rfl⟩ ⟨by decide, by decide⟩ rfl rfl (Nat.le_of_ble_eq_true rfl) dX11_teacher_23 _ rfl ?_
  have h := ok_s h
  exact j_iret dX11_teacher_26 rfl rfl h
noncomputable def X11_teacher (a1 : Int32) (a2 : Int32) (w : Wd) : Option (Int32 × Wd) :=
(if (X11_within a1 (1 : Int32) (31 : Int32) w) = 0 then
X11_teacher_j21 w
else
(if (X2_isPlace a2 w) = 0 then
X11_teacher_j21 w
else
(if (w.1 5 12) < (20 : Int32) then
(X2_addTeacher a1 a2 w).bind fun q3 =>
(X11_answer q3.1 q3.2).bind fun q5 =>
some (q5.1, q5.2)
else
(X11_deny (4 : Int32) w).bind fun q7 =>
some (q7.1, q7.2))))
set_option maxRecDepth 20000 in
set_option maxHeartbeats 1000000 in
theorem t_X11_teacher {κ : Kx} (a1 : Int32) (a2 : Int32) (w : Wd) (h : ok (X11_teacher  a1 a2 w) (PIw κ)) : J κ RX11 cX11_teacher 3 (some .int) (rmk 2 43) 0 [(0, .ref (ad (gm κ) 0)), (1, .int a1), (2, .int a2)] [] w := by
  unfold X11_teacher at h
  refine j_iload_n 1 dX11_teacher_0 rfl rfl ?_
  refine j_iconst (1 : Int32) dX11_teacher_1 ki_1 ?_
  refine j_bipush (31 : Int32) dX11_teacher_2 kb_31 ?_
  refine j_callS (As := [.int a1, .int (1 : Int32), .int (31 : Int32)]) (st := []) [.int (X11_within a1 (1 : Int32) (31 : Int32) w)] (c_X11_within (kl κ) (gm κ) (kA κ) a1 (1 : Int32) (31 : Int32) w) ck_RX11_91 st_X11_within ⟨rfl, rfl⟩ ⟨by decide, by decide⟩ rfl rfl (Nat.le_of_ble_eq_true rfl) dX11_teacher_4 _ rfl ?_
  refine j_if_eq 21 dX11_teacher_7 (by decide) h (fun h => ?_) (fun h => ?_)
  · refine j_loc [(0, .ref (ad (gm κ) 0))] [0] rfl ?_
    exact t_X11_teacher_j21 w h
  · refine j_aload_n 0 dX11_teacher_10 rfl rfl ?_
    refine j_getA 5 fl_RX11_19 sh_0 fk_0_1 (by decide) dX11_teacher_11 ?_
    refine j_iload_n 2 dX11_teacher_14 rfl rfl ?_
    refine j_callV (As := [.int a2]) (st := []) [.int (X2_isPlace a2 w)] (c_X2_isPlace (kl κ) (gm κ) (kA κ) a2 w) ck_RX11_148 im_X2_isPlace se_X2_isPlace sh_5 cx_2 ⟨rfl, rfl⟩ ⟨by decide, by decide⟩ rfl rfl (Nat.le_of_ble_eq_true rfl) dX11_teacher_15 _ rfl ?_
    refine j_if_ne 27 dX11_teacher_18 (by decide) h (fun h => ?_) (fun h => ?_)
    · refine j_aload_n 0 dX11_teacher_27 rfl rfl ?_
      refine j_getA 5 fl_RX11_19 sh_0 fk_0_1 (by decide) dX11_teacher_28 ?_
      refine j_getI fl_RX11_188 sh_5 fk_5_12 dX11_teacher_31 ?_
      refine j_bipush (20 : Int32) dX11_teacher_34 kb_20 ?_
      refine j_ic_lt 47 dX11_teacher_36 (by decide) h (fun h => ?_) (fun h => ?_)
      · refine j_aload_n 0 dX11_teacher_47 rfl rfl ?_
        refine j_aload_n 0 dX11_teacher_48 rfl rfl ?_
        refine j_getA 5 fl_RX11_19 sh_0 fk_0_1 (by decide) dX11_teacher_49 ?_
        refine j_iload_n 1 dX11_teacher_52 rfl rfl ?_
        refine j_iload_n 2 dX11_teacher_53 rfl rfl ?_
        obtain ⟨q3, e4, h⟩ := ok_b h
        refine j_callV (As := [.int a1, .int a2]) (st := [.ref (ad (gm κ) 0)]) [.int q3.1, .ref (ad (gm κ) 0)] (c_X2_addTeacher (kl κ) (gm κ) (kA κ) a1 a2 w q3 e4) ck_RX11_191 im_X2_addTeacher se_X2_addTeacher sh_5 cx_2 ⟨rfl, rfl⟩ ⟨by decide, by decide⟩ rfl rfl (Nat.le_of_ble_eq_true rfl) dX11_teacher_54 _ rfl ?_
        obtain ⟨q5, e6, h⟩ := ok_b h
        refine j_callV (As := [.int q3.1]) (st := []) [.int q5.1] (c_X11_answer (kl κ) (gm κ) (kA κ) q3.1 q3.2 q5 e6) ck_RX11_145 im_X11_answer se_X11_answer sh_0 cx_11 ⟨rfl, rfl⟩ ⟨by decide, by decide⟩ rfl rfl (Nat.le_of_ble_eq_true rfl) dX11_teacher_57 _ rfl ?_
        have h := ok_s h
        exact j_iret dX11_teacher_60 rfl rfl h
      · refine j_aload_n 0 dX11_teacher_39 rfl rfl ?_
        refine j_iconst (4 : Int32) dX11_teacher_40 ki_4 ?_
        obtain ⟨q7, e8, h⟩ := ok_b h
        refine j_callV (As := [.int (4 : Int32)]) (st := []) [.int q7.1] (c_X11_deny (kl κ) (gm κ) (kA κ) (4 : Int32) w q7 e8) ck_RX11_114 im_X11_deny se_X11_deny sh_0 cx_11 ⟨rfl, rfl⟩ ⟨by decide, by decide⟩ rfl rfl (Nat.le_of_ble_eq_true rfl) dX11_teacher_41 _ rfl ?_
        refine j_goto 60 dX11_teacher_44 (by decide) ?_
        have h := ok_s h
        exact j_iret dX11_teacher_60 rfl rfl h
    · refine j_loc [(0, .ref (ad (gm κ) 0))] [0] rfl ?_
      exact t_X11_teacher_j21 w h
theorem c_X11_teacher (l : Launch) (γ : Gm) (A : Nat → Prop) (a1 : Int32) (a2 : Int32) (w : Wd) (q : Int32 × Wd) (e : X11_teacher  a1 a2 w = some q) : MetG l γ A yX11_teacher cX11_teacher 3 (some .int) (rmk 2 43) [.ref (ad (γ) 0), .int a1, .int a2] w (some (.int q.1)) q.2 := by
  refine met_of pn_RX11 (Nat.le_of_ble_eq_true rfl) ?_
  intro κ hl hγ hA hρ
  subst hl; subst hγ; subst hA
  exact t_X11_teacher   a1 a2 w ⟨q, e, pIw hρ rfl rfl⟩
theorem dX11_lamp_0 : decode cX11_lamp 0 = .ok (.aload_n 0, 1) := by decide +kernel
theorem dX11_lamp_1 : decode cX11_lamp 1 = .ok (.getfield 19, 3) := by decide +kernel
theorem dX11_lamp_4 : decode cX11_lamp 4 = .ok (.iload_n 1, 1) := by decide +kernel
theorem dX11_lamp_5 : decode cX11_lamp 5 = .ok (.invokevirtual 148, 3) := by decide +kernel
theorem dX11_lamp_8 : decode cX11_lamp 8 = .ok (.ifCond .ne 9, 3) := by decide +kernel
theorem dX11_lamp_11 : decode cX11_lamp 11 = .ok (.aload_n 0, 1) := by decide +kernel
theorem dX11_lamp_12 : decode cX11_lamp 12 = .ok (.iconst 1, 1) := by decide +kernel
theorem dX11_lamp_13 : decode cX11_lamp 13 = .ok (.invokevirtual 114, 3) := by decide +kernel
theorem dX11_lamp_16 : decode cX11_lamp 16 = .ok (.ireturn, 1) := by decide +kernel
theorem dX11_lamp_17 : decode cX11_lamp 17 = .ok (.aload_n 0, 1) := by decide +kernel
theorem dX11_lamp_18 : decode cX11_lamp 18 = .ok (.getfield 19, 3) := by decide +kernel
theorem dX11_lamp_21 : decode cX11_lamp 21 = .ok (.getfield 194, 3) := by decide +kernel
theorem dX11_lamp_24 : decode cX11_lamp 24 = .ok (.bipush 12, 2) := by decide +kernel
theorem dX11_lamp_26 : decode cX11_lamp 26 = .ok (.if_icmp .lt 11, 3) := by decide +kernel
theorem dX11_lamp_29 : decode cX11_lamp 29 = .ok (.aload_n 0, 1) := by decide +kernel
theorem dX11_lamp_30 : decode cX11_lamp 30 = .ok (.iconst 4, 1) := by decide +kernel
theorem dX11_lamp_31 : decode cX11_lamp 31 = .ok (.invokevirtual 114, 3) := by decide +kernel
theorem dX11_lamp_34 : decode cX11_lamp 34 = .ok (.goto 15, 3) := by decide +kernel
theorem dX11_lamp_37 : decode cX11_lamp 37 = .ok (.aload_n 0, 1) := by decide +kernel
theorem dX11_lamp_38 : decode cX11_lamp 38 = .ok (.aload_n 0, 1) := by decide +kernel
theorem dX11_lamp_39 : decode cX11_lamp 39 = .ok (.getfield 19, 3) := by decide +kernel
theorem dX11_lamp_42 : decode cX11_lamp 42 = .ok (.iload_n 1, 1) := by decide +kernel
theorem dX11_lamp_43 : decode cX11_lamp 43 = .ok (.invokevirtual 197, 3) := by decide +kernel
theorem dX11_lamp_46 : decode cX11_lamp 46 = .ok (.invokevirtual 145, 3) := by decide +kernel
theorem dX11_lamp_49 : decode cX11_lamp 49 = .ok (.ireturn, 1) := by decide +kernel
noncomputable def X11_lamp (a1 : Int32) (w : Wd) : Option (Int32 × Wd) :=
(if (X2_isPlace a1 w) = 0 then
(X11_deny (1 : Int32) w).bind fun q7 =>
some (q7.1, q7.2)
else
(if (w.1 5 15) < (12 : Int32) then
(X2_addLamp a1 w).bind fun q1 =>
(X11_answer q1.1 q1.2).bind fun q3 =>
some (q3.1, q3.2)
else
(X11_deny (4 : Int32) w).bind fun q5 =>
some (q5.1, q5.2)))
set_option maxRecDepth 20000 in
set_option maxHeartbeats 1000000 in
theorem t_X11_lamp {κ : Kx} (a1 : Int32) (w : Wd) (h : ok (X11_lamp  a1 w) (PIw κ)) : J κ RX11 cX11_lamp 2 (some .int) (rmk 2 43) 0 [(0, .ref (ad (gm κ) 0)), (1, .int a1)] [] w := by
  unfold X11_lamp at h
  refine j_aload_n 0 dX11_lamp_0 rfl rfl ?_
  refine j_getA 5 fl_RX11_19 sh_0 fk_0_1 (by decide) dX11_lamp_1 ?_
  refine j_iload_n 1 dX11_lamp_4 rfl rfl ?_
  refine j_callV (As := [.int a1]) (st := []) [.int (X2_isPlace a1 w)] (c_X2_isPlace (kl κ) (gm κ) (kA κ) a1 w) ck_RX11_148 im_X2_isPlace se_X2_isPlace sh_5 cx_2 ⟨rfl, rfl⟩ ⟨by decide, by decide⟩ rfl rfl (Nat.le_of_ble_eq_true rfl) dX11_lamp_5 _ rfl ?_
  refine j_if_ne 17 dX11_lamp_8 (by decide) h (fun h => ?_) (fun h => ?_)
  · refine j_aload_n 0 dX11_lamp_17 rfl rfl ?_
    refine j_getA 5 fl_RX11_19 sh_0 fk_0_1 (by decide) dX11_lamp_18 ?_
    refine j_getI fl_RX11_194 sh_5 fk_5_15 dX11_lamp_21 ?_
    refine j_bipush (12 : Int32) dX11_lamp_24 kb_12 ?_
    refine j_ic_lt 37 dX11_lamp_26 (by decide) h (fun h => ?_) (fun h => ?_)
    · refine j_aload_n 0 dX11_lamp_37 rfl rfl ?_
      refine j_aload_n 0 dX11_lamp_38 rfl rfl ?_
      refine j_getA 5 fl_RX11_19 sh_0 fk_0_1 (by decide) dX11_lamp_39 ?_
      refine j_iload_n 1 dX11_lamp_42 rfl rfl ?_
      obtain ⟨q1, e2, h⟩ := ok_b h
      refine j_callV (As := [.int a1]) (st := [.ref (ad (gm κ) 0)]) [.int q1.1, .ref (ad (gm κ) 0)] (c_X2_addLamp (kl κ) (gm κ) (kA κ) a1 w q1 e2) ck_RX11_197 im_X2_addLamp se_X2_addLamp sh_5 cx_2 ⟨rfl, rfl⟩ ⟨by decide, by decide⟩ rfl rfl (Nat.le_of_ble_eq_true rfl) dX11_lamp_43 _ rfl ?_
      obtain ⟨q3, e4, h⟩ := ok_b h
      refine j_callV (As := [.int q1.1]) (st := []) [.int q3.1] (c_X11_answer (kl κ) (gm κ) (kA κ) q1.1 q1.2 q3 e4) ck_RX11_145 im_X11_answer se_X11_answer sh_0 cx_11 ⟨rfl, rfl⟩ ⟨by decide, by decide⟩ rfl rfl (Nat.le_of_ble_eq_true rfl) dX11_lamp_46 _ rfl ?_
      have h := ok_s h
      exact j_iret dX11_lamp_49 rfl rfl h
    · refine j_aload_n 0 dX11_lamp_29 rfl rfl ?_
      refine j_iconst (4 : Int32) dX11_lamp_30 ki_4 ?_
      obtain ⟨q5, e6, h⟩ := ok_b h
      refine j_callV (As := [.int (4 : Int32)]) (st := []) [.int q5.1] (c_X11_deny (kl κ) (gm κ) (kA κ) (4 : Int32) w q5 e6) ck_RX11_114 im_X11_deny se_X11_deny sh_0 cx_11 ⟨rfl, rfl⟩ ⟨by decide, by decide⟩ rfl rfl (Nat.le_of_ble_eq_true rfl) dX11_lamp_31 _ rfl ?_
      refine j_goto 49 dX11_lamp_34 (by decide) ?_
      have h := ok_s h
      exact j_iret dX11_lamp_49 rfl rfl h
  · refine j_aload_n 0 dX11_lamp_11 rfl rfl ?_
    refine j_iconst (1 : Int32) dX11_lamp_12 ki_1 ?_
    obtain ⟨q7, e8, h⟩ := ok_b h
    refine j_callV (As := [.int (1 : Int32)]) (st := []) [.int q7.1] (c_X11_deny (kl κ) (gm κ) (kA κ) (1 : Int32) w q7 e8) ck_RX11_114 im_X11_deny se_X11_deny sh_0 cx_11 ⟨rfl, rfl⟩ ⟨by decide, by decide⟩ rfl rfl (Nat.le_of_ble_eq_true rfl) dX11_lamp_13 _ rfl ?_
    have h := ok_s h
    exact j_iret dX11_lamp_16 rfl rfl h
theorem c_X11_lamp (l : Launch) (γ : Gm) (A : Nat → Prop) (a1 : Int32) (w : Wd) (q : Int32 × Wd) (e : X11_lamp  a1 w = some q) : MetG l γ A yX11_lamp cX11_lamp 2 (some .int) (rmk 2 43) [.ref (ad (γ) 0), .int a1] w (some (.int q.1)) q.2 := by
  refine met_of pn_RX11 (Nat.le_of_ble_eq_true rfl) ?_
  intro κ hl hγ hA hρ
  subst hl; subst hγ; subst hA
  exact t_X11_lamp   a1 w ⟨q, e, pIw hρ rfl rfl⟩
theorem dX11_canBeNoted_0 : decode cX11_canBeNoted 0 = .ok (.iload_n 1, 1) := by decide +kernel
theorem dX11_canBeNoted_1 : decode cX11_canBeNoted 1 = .ok (.iconst 0, 1) := by decide +kernel
theorem dX11_canBeNoted_2 : decode cX11_canBeNoted 2 = .ok (.iconst 3, 1) := by decide +kernel
theorem dX11_canBeNoted_3 : decode cX11_canBeNoted 3 = .ok (.invokestatic 91, 3) := by decide +kernel
theorem dX11_canBeNoted_6 : decode cX11_canBeNoted 6 = .ok (.ifCond .ne 5, 3) := by decide +kernel
theorem dX11_canBeNoted_9 : decode cX11_canBeNoted 9 = .ok (.iconst 0, 1) := by decide +kernel
theorem dX11_canBeNoted_10 : decode cX11_canBeNoted 10 = .ok (.ireturn, 1) := by decide +kernel
theorem dX11_canBeNoted_11 : decode cX11_canBeNoted 11 = .ok (.iload_n 1, 1) := by decide +kernel
theorem dX11_canBeNoted_12 : decode cX11_canBeNoted 12 = .ok (.ifCond .eq 8, 3) := by decide +kernel
theorem dX11_canBeNoted_15 : decode cX11_canBeNoted 15 = .ok (.iload_n 1, 1) := by decide +kernel
theorem dX11_canBeNoted_16 : decode cX11_canBeNoted 16 = .ok (.iconst 3, 1) := by decide +kernel
theorem dX11_canBeNoted_17 : decode cX11_canBeNoted 17 = .ok (.if_icmp .ne 14, 3) := by decide +kernel
theorem dX11_canBeNoted_20 : decode cX11_canBeNoted 20 = .ok (.aload_n 0, 1) := by decide +kernel
theorem dX11_canBeNoted_21 : decode cX11_canBeNoted 21 = .ok (.getfield 19, 3) := by decide +kernel
theorem dX11_canBeNoted_24 : decode cX11_canBeNoted 24 = .ok (.iload_n 2, 1) := by decide +kernel
theorem dX11_canBeNoted_25 : decode cX11_canBeNoted 25 = .ok (.invokevirtual 217, 3) := by decide +kernel
theorem dX11_canBeNoted_28 : decode cX11_canBeNoted 28 = .ok (.goto 11, 3) := by decide +kernel
theorem dX11_canBeNoted_31 : decode cX11_canBeNoted 31 = .ok (.aload_n 0, 1) := by decide +kernel
theorem dX11_canBeNoted_32 : decode cX11_canBeNoted 32 = .ok (.getfield 19, 3) := by decide +kernel
theorem dX11_canBeNoted_35 : decode cX11_canBeNoted 35 = .ok (.iload_n 2, 1) := by decide +kernel
theorem dX11_canBeNoted_36 : decode cX11_canBeNoted 36 = .ok (.invokevirtual 220, 3) := by decide +kernel
theorem dX11_canBeNoted_39 : decode cX11_canBeNoted 39 = .ok (.istore 4, 2) := by decide +kernel
theorem dX11_canBeNoted_41 : decode cX11_canBeNoted 41 = .ok (.iload_n 1, 1) := by decide +kernel
theorem dX11_canBeNoted_42 : decode cX11_canBeNoted 42 = .ok (.ifCond .eq 8, 3) := by decide +kernel
theorem dX11_canBeNoted_45 : decode cX11_canBeNoted 45 = .ok (.iload_n 1, 1) := by decide +kernel
theorem dX11_canBeNoted_46 : decode cX11_canBeNoted 46 = .ok (.iconst 1, 1) := by decide +kernel
theorem dX11_canBeNoted_47 : decode cX11_canBeNoted 47 = .ok (.if_icmp .ne 14, 3) := by decide +kernel
theorem dX11_canBeNoted_50 : decode cX11_canBeNoted 50 = .ok (.aload_n 0, 1) := by decide +kernel
theorem dX11_canBeNoted_51 : decode cX11_canBeNoted 51 = .ok (.getfield 19, 3) := by decide +kernel
theorem dX11_canBeNoted_54 : decode cX11_canBeNoted 54 = .ok (.iload_n 3, 1) := by decide +kernel
theorem dX11_canBeNoted_55 : decode cX11_canBeNoted 55 = .ok (.invokevirtual 223, 3) := by decide +kernel
theorem dX11_canBeNoted_58 : decode cX11_canBeNoted 58 = .ok (.goto 13, 3) := by decide +kernel
theorem dX11_canBeNoted_61 : decode cX11_canBeNoted 61 = .ok (.iload_n 3, 1) := by decide +kernel
theorem dX11_canBeNoted_62 : decode cX11_canBeNoted 62 = .ok (.iconst (-1), 1) := by decide +kernel
theorem dX11_canBeNoted_63 : decode cX11_canBeNoted 63 = .ok (.if_icmp .ne 7, 3) := by decide +kernel
theorem dX11_canBeNoted_66 : decode cX11_canBeNoted 66 = .ok (.iconst 1, 1) := by decide +kernel
theorem dX11_canBeNoted_67 : decode cX11_canBeNoted 67 = .ok (.goto 4, 3) := by decide +kernel
theorem dX11_canBeNoted_70 : decode cX11_canBeNoted 70 = .ok (.iconst 0, 1) := by decide +kernel
theorem dX11_canBeNoted_71 : decode cX11_canBeNoted 71 = .ok (.istore 5, 2) := by decide +kernel
theorem dX11_canBeNoted_73 : decode cX11_canBeNoted 73 = .ok (.iload 4, 2) := by decide +kernel
theorem dX11_canBeNoted_75 : decode cX11_canBeNoted 75 = .ok (.ifCond .eq 12, 3) := by decide +kernel
theorem dX11_canBeNoted_78 : decode cX11_canBeNoted 78 = .ok (.iload 5, 2) := by decide +kernel
theorem dX11_canBeNoted_80 : decode cX11_canBeNoted 80 = .ok (.ifCond .eq 7, 3) := by decide +kernel
theorem dX11_canBeNoted_83 : decode cX11_canBeNoted 83 = .ok (.iconst 1, 1) := by decide +kernel
theorem dX11_canBeNoted_84 : decode cX11_canBeNoted 84 = .ok (.goto 4, 3) := by decide +kernel
theorem dX11_canBeNoted_87 : decode cX11_canBeNoted 87 = .ok (.iconst 0, 1) := by decide +kernel
theorem dX11_canBeNoted_88 : decode cX11_canBeNoted 88 = .ok (.ireturn, 1) := by decide +kernel
noncomputable def X11_canBeNoted_j71 (a4 : Int32) (s0 : Int32) (w : Wd) : Option (Int32) :=
(if a4 = 0 then
some (0 : Int32)
else
(if s0 = 0 then
some (0 : Int32)
else
some (1 : Int32)))
set_option maxRecDepth 20000 in
set_option maxHeartbeats 1000000 in
theorem t_X11_canBeNoted_j71 {κ : Kx} (a4 : Int32) (s0 : Int32) (w : Wd) (h : ok (X11_canBeNoted_j71  a4 s0 w) (PI κ w)) : J κ RX11 cX11_canBeNoted 6 (some .boolean) (rmk 2 43) 71 [(4, .int a4)] [.int s0] w := by
  unfold X11_canBeNoted_j71 at h
  refine j_istore [(5, .int s0), (4, .int a4)] dX11_canBeNoted_71 (by decide) rfl ?_
  refine j_iload 1 dX11_canBeNoted_73 rfl ?_
  refine j_if_eq 87 dX11_canBeNoted_75 (by decide) h (fun h => ?_) (fun h => ?_)
  · refine j_iconst (0 : Int32) dX11_canBeNoted_87 ki_0 ?_
    have h := ok_s h
    exact j_iret dX11_canBeNoted_88 rfl (by decide) h
  · refine j_iload 0 dX11_canBeNoted_78 rfl ?_
    refine j_if_eq 87 dX11_canBeNoted_80 (by decide) h (fun h => ?_) (fun h => ?_)
    · refine j_iconst (0 : Int32) dX11_canBeNoted_87 ki_0 ?_
      have h := ok_s h
      exact j_iret dX11_canBeNoted_88 rfl (by decide) h
    · refine j_iconst (1 : Int32) dX11_canBeNoted_83 ki_1 ?_
      refine j_goto 88 dX11_canBeNoted_84 (by decide) ?_
      have h := ok_s h
      exact j_iret dX11_canBeNoted_88 rfl (by decide) h
noncomputable def X11_canBeNoted_j50 (a3 : Int32) (a4 : Int32) (w : Wd) : Option (Int32) :=
X11_canBeNoted_j71 a4 (X2_isLamp a3 w) w
set_option maxRecDepth 20000 in
set_option maxHeartbeats 1000000 in
theorem t_X11_canBeNoted_j50 {κ : Kx} (a3 : Int32) (a4 : Int32) (w : Wd) (h : ok (X11_canBeNoted_j50  a3 a4 w) (PI κ w)) : J κ RX11 cX11_canBeNoted 6 (some .boolean) (rmk 2 43) 50 [(0, .ref (ad (gm κ) 0)), (3, .int a3), (4, .int a4)] [] w := by
  unfold X11_canBeNoted_j50 at h
  refine j_aload_n 0 dX11_canBeNoted_50 rfl rfl ?_
  refine j_getA 5 fl_RX11_19 sh_0 fk_0_1 (by decide) dX11_canBeNoted_51 ?_
  refine j_iload_n 1 dX11_canBeNoted_54 rfl rfl ?_
  refine j_callV (As := [.int a3]) (st := []) [.int (X2_isLamp a3 w)] (c_X2_isLamp (kl κ) (gm κ) (kA κ) a3 w) ck_RX11_223 im_X2_isLamp se_X2_isLamp sh_5 cx_2 ⟨rfl, rfl⟩ ⟨by decide, by decide⟩ rfl rfl (Nat.le_of_ble_eq_true rfl) dX11_canBeNoted_55 _ rfl ?_
  refine j_goto 71 dX11_canBeNoted_58 (by decide) ?_
  refine j_loc [(4, .int a4)] [2] rfl ?_
  exact t_X11_canBeNoted_j71 a4 (X2_isLamp a3 w) w h
noncomputable def X11_canBeNoted_j39 (a1 : Int32) (a3 : Int32) (s0 : Int32) (w : Wd) : Option (Int32) :=
(if a1 = 0 then
X11_canBeNoted_j50 a3 s0 w
else
(if a1 = (1 : Int32) then
X11_canBeNoted_j50 a3 s0 w
else
(if a3 = (-1 : Int32) then
X11_canBeNoted_j71 s0 (1 : Int32) w
else
X11_canBeNoted_j71 s0 (0 : Int32) w)))
set_option maxRecDepth 20000 in
set_option maxHeartbeats 1000000 in
theorem t_X11_canBeNoted_j39 {κ : Kx} (a1 : Int32) (a3 : Int32) (s0 : Int32) (w : Wd) (h : ok (X11_canBeNoted_j39  a1 a3 s0 w) (PI κ w)) : J κ RX11 cX11_canBeNoted 6 (some .boolean) (rmk 2 43) 39 [(0, .ref (ad (gm κ) 0)), (1, .int a1), (3, .int a3)] [.int s0] w := by
  unfold X11_canBeNoted_j39 at h
  refine j_istore [(4, .int s0), (0, .ref (ad (gm κ) 0)), (1, .int a1), (3, .int a3)] dX11_canBeNoted_39 (by decide) rfl ?_
  refine j_iload_n 2 dX11_canBeNoted_41 rfl rfl ?_
  refine j_if_eq 50 dX11_canBeNoted_42 (by decide) h (fun h => ?_) (fun h => ?_)
  · refine j_loc [(0, .ref (ad (gm κ) 0)), (3, .int a3), (4, .int s0)] [1, 3, 0] rfl ?_
    exact t_X11_canBeNoted_j50 a3 s0 w h
  · refine j_iload_n 2 dX11_canBeNoted_45 rfl rfl ?_
    refine j_iconst (1 : Int32) dX11_canBeNoted_46 ki_1 ?_
    refine j_ic_ne 61 dX11_canBeNoted_47 (by decide) h (fun h => ?_) (fun h => ?_)
    · refine j_iload_n 3 dX11_canBeNoted_61 rfl rfl ?_
      refine j_iconst (-1 : Int32) dX11_canBeNoted_62 ki_m1 ?_
      refine j_ic_ne 70 dX11_canBeNoted_63 (by decide) h (fun h => ?_) (fun h => ?_)
      · refine j_iconst (0 : Int32) dX11_canBeNoted_70 ki_0 ?_
        refine j_loc [(4, .int s0)] [0] rfl ?_
        exact t_X11_canBeNoted_j71 s0 (0 : Int32) w h
      · refine j_iconst (1 : Int32) dX11_canBeNoted_66 ki_1 ?_
        refine j_goto 71 dX11_canBeNoted_67 (by decide) ?_
        refine j_loc [(4, .int s0)] [0] rfl ?_
        exact t_X11_canBeNoted_j71 s0 (1 : Int32) w h
    · refine j_loc [(0, .ref (ad (gm κ) 0)), (3, .int a3), (4, .int s0)] [1, 3, 0] rfl ?_
      exact t_X11_canBeNoted_j50 a3 s0 w h
noncomputable def X11_canBeNoted_j20 (a1 : Int32) (a2 : Int32) (a3 : Int32) (w : Wd) : Option (Int32) :=
X11_canBeNoted_j39 a1 a3 (X2_isTeacher a2 w) w
set_option maxRecDepth 20000 in
set_option maxHeartbeats 1000000 in
theorem t_X11_canBeNoted_j20 {κ : Kx} (a1 : Int32) (a2 : Int32) (a3 : Int32) (w : Wd) (h : ok (X11_canBeNoted_j20  a1 a2 a3 w) (PI κ w)) : J κ RX11 cX11_canBeNoted 6 (some .boolean) (rmk 2 43) 20 [(0, .ref (ad (gm κ) 0)), (1, .int a1), (2, .int a2), (3, .int a3)] [] w := by
  unfold X11_canBeNoted_j20 at h
  refine j_aload_n 0 dX11_canBeNoted_20 rfl rfl ?_
  refine j_getA 5 fl_RX11_19 sh_0 fk_0_1 (by decide) dX11_canBeNoted_21 ?_
  refine j_iload_n 2 dX11_canBeNoted_24 rfl rfl ?_
  refine j_callV (As := [.int a2]) (st := []) [.int (X2_isTeacher a2 w)] (c_X2_isTeacher (kl κ) (gm κ) (kA κ) a2 w) ck_RX11_217 im_X2_isTeacher se_X2_isTeacher sh_5 cx_2 ⟨rfl, rfl⟩ ⟨by decide, by decide⟩ rfl rfl (Nat.le_of_ble_eq_true rfl) dX11_canBeNoted_25 _ rfl ?_
  refine j_goto 39 dX11_canBeNoted_28 (by decide) ?_
  refine j_loc [(0, .ref (ad (gm κ) 0)), (1, .int a1), (3, .int a3)] [0, 1, 3] rfl ?_
  exact t_X11_canBeNoted_j39 a1 a3 (X2_isTeacher a2 w) w h
noncomputable def X11_canBeNoted (a1 : Int32) (a2 : Int32) (a3 : Int32) (w : Wd) : Option (Int32) :=
(if (X11_within a1 (0 : Int32) (3 : Int32) w) = 0 then
some (0 : Int32)
else
(if a1 = 0 then
X11_canBeNoted_j20 a1 a2 a3 w
else
(if a1 = (3 : Int32) then
X11_canBeNoted_j20 a1 a2 a3 w
else
X11_canBeNoted_j39 a1 a3 (X2_isLearner a2 w) w)))
set_option maxRecDepth 20000 in
set_option maxHeartbeats 1000000 in
theorem t_X11_canBeNoted {κ : Kx} (a1 : Int32) (a2 : Int32) (a3 : Int32) (w : Wd) (h : ok (X11_canBeNoted  a1 a2 a3 w) (PI κ w)) : J κ RX11 cX11_canBeNoted 6 (some .boolean) (rmk 2 43) 0 [(0, .ref (ad (gm κ) 0)), (1, .int a1), (2, .int a2), (3, .int a3)] [] w := by
  unfold X11_canBeNoted at h
  refine j_iload_n 1 dX11_canBeNoted_0 rfl rfl ?_
  refine j_iconst (0 : Int32) dX11_canBeNoted_1 ki_0 ?_
  refine j_iconst (3 : Int32) dX11_canBeNoted_2 ki_3 ?_
  refine j_callS (As := [.int a1, .int (0 : Int32), .int (3 : Int32)]) (st := []) [.int (X11_within a1 (0 : Int32) (3 : Int32) w)] (c_X11_within (kl κ) (gm κ) (kA κ) a1 (0 : Int32) (3 : Int32) w) ck_RX11_91 st_X11_within ⟨rfl, rfl⟩ ⟨by decide, by decide⟩ rfl rfl (Nat.le_of_ble_eq_true rfl) dX11_canBeNoted_3 _ rfl ?_
  refine j_if_ne 11 dX11_canBeNoted_6 (by decide) h (fun h => ?_) (fun h => ?_)
  · refine j_iload_n 1 dX11_canBeNoted_11 rfl rfl ?_
    refine j_if_eq 20 dX11_canBeNoted_12 (by decide) h (fun h => ?_) (fun h => ?_)
    · refine j_loc [(0, .ref (ad (gm κ) 0)), (1, .int a1), (2, .int a2), (3, .int a3)] [0, 1, 2, 3] rfl ?_
      exact t_X11_canBeNoted_j20 a1 a2 a3 w h
    · refine j_iload_n 1 dX11_canBeNoted_15 rfl rfl ?_
      refine j_iconst (3 : Int32) dX11_canBeNoted_16 ki_3 ?_
      refine j_ic_ne 31 dX11_canBeNoted_17 (by decide) h (fun h => ?_) (fun h => ?_)
      · refine j_aload_n 0 dX11_canBeNoted_31 rfl rfl ?_
        refine j_getA 5 fl_RX11_19 sh_0 fk_0_1 (by decide) dX11_canBeNoted_32 ?_
        refine j_iload_n 2 dX11_canBeNoted_35 rfl rfl ?_
        refine j_callV (As := [.int a2]) (st := []) [.int (X2_isLearner a2 w)] (c_X2_isLearner (kl κ) (gm κ) (kA κ) a2 w) ck_RX11_220 im_X2_isLearner se_X2_isLearner sh_5 cx_2 ⟨rfl, rfl⟩ ⟨by decide, by decide⟩ rfl rfl (Nat.le_of_ble_eq_true rfl) dX11_canBeNoted_36 _ rfl ?_
        refine j_loc [(0, .ref (ad (gm κ) 0)), (1, .int a1), (3, .int a3)] [0, 1, 3] rfl ?_
        exact t_X11_canBeNoted_j39 a1 a3 (X2_isLearner a2 w) w h
      · refine j_loc [(0, .ref (ad (gm κ) 0)), (1, .int a1), (2, .int a2), (3, .int a3)] [0, 1, 2, 3] rfl ?_
        exact t_X11_canBeNoted_j20 a1 a2 a3 w h
  · refine j_iconst (0 : Int32) dX11_canBeNoted_9 ki_0 ?_
    have h := ok_s h
    exact j_iret dX11_canBeNoted_10 rfl (by decide) h
theorem c_X11_canBeNoted (l : Launch) (γ : Gm) (A : Nat → Prop) (a1 : Int32) (a2 : Int32) (a3 : Int32) (w : Wd) (q : Int32) (e : X11_canBeNoted  a1 a2 a3 w = some q) : MetG l γ A yX11_canBeNoted cX11_canBeNoted 6 (some .boolean) (rmk 2 43) [.ref (ad (γ) 0), .int a1, .int a2, .int a3] w (some (.int q)) w := by
  refine met_of pn_RX11 (Nat.le_of_ble_eq_true rfl) ?_
  intro κ hl hγ hA hρ
  subst hl; subst hγ; subst hA
  exact t_X11_canBeNoted   a1 a2 a3 w ⟨q, e, pI hρ rfl rfl⟩
theorem dX11_note_0 : decode cX11_note 0 = .ok (.aload_n 0, 1) := by decide +kernel
theorem dX11_note_1 : decode cX11_note 1 = .ok (.iload_n 1, 1) := by decide +kernel
theorem dX11_note_2 : decode cX11_note 2 = .ok (.iload_n 2, 1) := by decide +kernel
theorem dX11_note_3 : decode cX11_note 3 = .ok (.iload_n 3, 1) := by decide +kernel
theorem dX11_note_4 : decode cX11_note 4 = .ok (.invokevirtual 200, 3) := by decide +kernel
theorem dX11_note_7 : decode cX11_note 7 = .ok (.ifCond .eq 21, 3) := by decide +kernel
theorem dX11_note_10 : decode cX11_note 10 = .ok (.iload 4, 2) := by decide +kernel
theorem dX11_note_12 : decode cX11_note 12 = .ok (.iload 5, 2) := by decide +kernel
theorem dX11_note_14 : decode cX11_note 14 = .ok (.invokestatic 151, 3) := by decide +kernel
theorem dX11_note_17 : decode cX11_note 17 = .ok (.ifCond .eq 11, 3) := by decide +kernel
theorem dX11_note_20 : decode cX11_note 20 = .ok (.iload 6, 2) := by decide +kernel
theorem dX11_note_22 : decode cX11_note 22 = .ok (.invokestatic 168, 3) := by decide +kernel
theorem dX11_note_25 : decode cX11_note 25 = .ok (.ifCond .ne 9, 3) := by decide +kernel
theorem dX11_note_28 : decode cX11_note 28 = .ok (.aload_n 0, 1) := by decide +kernel
theorem dX11_note_29 : decode cX11_note 29 = .ok (.iconst 1, 1) := by decide +kernel
theorem dX11_note_30 : decode cX11_note 30 = .ok (.invokevirtual 95, 3) := by decide +kernel
theorem dX11_note_33 : decode cX11_note 33 = .ok (.ireturn, 1) := by decide +kernel
theorem dX11_note_34 : decode cX11_note 34 = .ok (.aload_n 0, 1) := by decide +kernel
theorem dX11_note_35 : decode cX11_note 35 = .ok (.getfield 26, 3) := by decide +kernel
theorem dX11_note_38 : decode cX11_note 38 = .ok (.getfield 203, 3) := by decide +kernel
theorem dX11_note_41 : decode cX11_note 41 = .ok (.sipush 160, 3) := by decide +kernel
theorem dX11_note_44 : decode cX11_note 44 = .ok (.if_icmp .lt 9, 3) := by decide +kernel
theorem dX11_note_47 : decode cX11_note 47 = .ok (.aload_n 0, 1) := by decide +kernel
theorem dX11_note_48 : decode cX11_note 48 = .ok (.iconst 4, 1) := by decide +kernel
theorem dX11_note_49 : decode cX11_note 49 = .ok (.invokevirtual 95, 3) := by decide +kernel
theorem dX11_note_52 : decode cX11_note 52 = .ok (.ireturn, 1) := by decide +kernel
theorem dX11_note_53 : decode cX11_note 53 = .ok (.iload 6, 2) := by decide +kernel
theorem dX11_note_55 : decode cX11_note 55 = .ok (.aload_n 0, 1) := by decide +kernel
theorem dX11_note_56 : decode cX11_note 56 = .ok (.getfield 26, 3) := by decide +kernel
theorem dX11_note_59 : decode cX11_note 59 = .ok (.invokevirtual 206, 3) := by decide +kernel
theorem dX11_note_62 : decode cX11_note 62 = .ok (.if_icmp .ge 9, 3) := by decide +kernel
theorem dX11_note_65 : decode cX11_note 65 = .ok (.aload_n 0, 1) := by decide +kernel
theorem dX11_note_66 : decode cX11_note 66 = .ok (.iconst 5, 1) := by decide +kernel
theorem dX11_note_67 : decode cX11_note 67 = .ok (.invokevirtual 95, 3) := by decide +kernel
theorem dX11_note_70 : decode cX11_note 70 = .ok (.ireturn, 1) := by decide +kernel
theorem dX11_note_71 : decode cX11_note 71 = .ok (.aload_n 0, 1) := by decide +kernel
theorem dX11_note_72 : decode cX11_note 72 = .ok (.getfield 26, 3) := by decide +kernel
theorem dX11_note_75 : decode cX11_note 75 = .ok (.iload_n 1, 1) := by decide +kernel
theorem dX11_note_76 : decode cX11_note 76 = .ok (.iload_n 2, 1) := by decide +kernel
theorem dX11_note_77 : decode cX11_note 77 = .ok (.iload_n 3, 1) := by decide +kernel
theorem dX11_note_78 : decode cX11_note 78 = .ok (.iload 4, 2) := by decide +kernel
theorem dX11_note_80 : decode cX11_note 80 = .ok (.iload 5, 2) := by decide +kernel
theorem dX11_note_82 : decode cX11_note 82 = .ok (.iload 6, 2) := by decide +kernel
theorem dX11_note_84 : decode cX11_note 84 = .ok (.invokevirtual 210, 3) := by decide +kernel
theorem dX11_note_87 : decode cX11_note 87 = .ok (.iload 6, 2) := by decide +kernel
theorem dX11_note_89 : decode cX11_note 89 = .ok (.aload_n 0, 1) := by decide +kernel
theorem dX11_note_90 : decode cX11_note 90 = .ok (.getfield 26, 3) := by decide +kernel
theorem dX11_note_93 : decode cX11_note 93 = .ok (.getfield 214, 3) := by decide +kernel
theorem dX11_note_96 : decode cX11_note 96 = .ok (.if_icmp .gt 12, 3) := by decide +kernel
theorem dX11_note_99 : decode cX11_note 99 = .ok (.aload_n 0, 1) := by decide +kernel
theorem dX11_note_100 : decode cX11_note 100 = .ok (.getfield 58, 3) := by decide +kernel
theorem dX11_note_103 : decode cX11_note 103 = .ok (.iload 4, 2) := by decide +kernel
theorem dX11_note_105 : decode cX11_note 105 = .ok (.invokevirtual 160, 3) := by decide +kernel
theorem dX11_note_108 : decode cX11_note 108 = .ok (.aload_n 0, 1) := by decide +kernel
theorem dX11_note_109 : decode cX11_note 109 = .ok (.invokevirtual 102, 3) := by decide +kernel
theorem dX11_note_112 : decode cX11_note 112 = .ok (.ireturn, 1) := by decide +kernel
noncomputable def X11_note_j28 (w : Wd) : Option (Int32 × Wd) :=
(X11_refuse (1 : Int32) w).bind fun q3 =>
gd (narrow .boolean (.int q3.1) = .int q3.1) <|
some (q3.1, q3.2)
set_option maxRecDepth 20000 in
set_option maxHeartbeats 1000000 in
theorem t_X11_note_j28 {κ : Kx} (w : Wd) (h : ok (X11_note_j28  w) (PIw κ)) : J κ RX11 cX11_note 7 (some .boolean) (rmk 3 68) 28 [(0, .ref (ad (gm κ) 0))] [] w := by
  unfold X11_note_j28 at h
  refine j_aload_n 0 dX11_note_28 rfl rfl ?_
  refine j_iconst (1 : Int32) dX11_note_29 ki_1 ?_
  obtain ⟨q3, e4, h⟩ := ok_b h
  refine j_callV (As := [.int (1 : Int32)]) (st := []) [.int q3.1] (c_X11_refuse (kl κ) (gm κ) (kA κ) (1 : Int32) w q3 e4) ck_RX11_95 im_X11_refuse se_X11_refuse sh_0 cx_11 ⟨rfl, rfl⟩ ⟨by decide, by decide⟩ rfl rfl (Nat.le_of_ble_eq_true rfl) dX11_note_30 _ rfl ?_
  obtain ⟨hz, h⟩ := ok_g h
  have h := ok_s h
  exact j_iret dX11_note_33 rfl hz h
noncomputable def X11_note_j108 (w : Wd) : Option (Int32 × Wd) :=
(X11_agree w).bind fun q9 =>
gd (narrow .boolean (.int q9.1) = .int q9.1) <|
some (q9.1, q9.2)
set_option maxRecDepth 20000 in
set_option maxHeartbeats 1000000 in
theorem t_X11_note_j108 {κ : Kx} (w : Wd) (h : ok (X11_note_j108  w) (PIw κ)) : J κ RX11 cX11_note 7 (some .boolean) (rmk 3 68) 108 [(0, .ref (ad (gm κ) 0))] [] w := by
  unfold X11_note_j108 at h
  refine j_aload_n 0 dX11_note_108 rfl rfl ?_
  obtain ⟨q9, e10, h⟩ := ok_b h
  refine j_callV (As := []) (st := []) [.int q9.1] (c_X11_agree (kl κ) (gm κ) (kA κ) w q9 e10) ck_RX11_102 im_X11_agree se_X11_agree sh_0 cx_11 ⟨rfl, rfl⟩ ⟨by decide, by decide⟩ rfl rfl (Nat.le_of_ble_eq_true rfl) dX11_note_109 _ rfl ?_
  obtain ⟨hz, h⟩ := ok_g h
  have h := ok_s h
  exact j_iret dX11_note_112 rfl hz h
noncomputable def X11_note (a1 : Int32) (a2 : Int32) (a3 : Int32) (a4 : Int32) (a5 : Int32) (a6 : Int32) (w : Wd) : Option (Int32 × Wd) :=
(X11_canBeNoted a1 a2 a3 w).bind fun q1 =>
(if q1 = 0 then
X11_note_j28 w
else
(if (X11_isSpan a4 a5 w) = 0 then
X11_note_j28 w
else
(if (X11_isWeek a6 w) = 0 then
X11_note_j28 w
else
(if (w.1 19 0) < (160 : Int32) then
(X4_latestKnown w).bind fun q5 =>
(if q5 ≤ a6 then
(X4_add a1 a2 a3 a4 a5 a6 w).bind fun q7 =>
(if (q7.1 19 7) < a6 then
X11_note_j108 q7
else
(X10_relive a4 q7).bind fun q11 =>
X11_note_j108 q11)
else
(X11_refuse (5 : Int32) w).bind fun q13 =>
gd (narrow .boolean (.int q13.1) = .int q13.1) <|
some (q13.1, q13.2))
else
(X11_refuse (4 : Int32) w).bind fun q15 =>
gd (narrow .boolean (.int q15.1) = .int q15.1) <|
some (q15.1, q15.2)))))
set_option maxRecDepth 20000 in
set_option maxHeartbeats 1000000 in
theorem t_X11_note {κ : Kx} (a1 : Int32) (a2 : Int32) (a3 : Int32) (a4 : Int32) (a5 : Int32) (a6 : Int32) (w : Wd) (h : ok (X11_note  a1 a2 a3 a4 a5 a6 w) (PIw κ)) : J κ RX11 cX11_note 7 (some .boolean) (rmk 3 68) 0 [(0, .ref (ad (gm κ) 0)), (1, .int a1), (2, .int a2), (3, .int a3), (4, .int a4), (5, .int a5), (6, .int a6)] [] w := by
  unfold X11_note at h
  refine j_aload_n 0 dX11_note_0 rfl rfl ?_
  refine j_iload_n 1 dX11_note_1 rfl rfl ?_
  refine j_iload_n 2 dX11_note_2 rfl rfl ?_
  refine j_iload_n 3 dX11_note_3 rfl rfl ?_
  obtain ⟨q1, e2, h⟩ := ok_b h
  refine j_callV (As := [.int a1, .int a2, .int a3]) (st := []) [.int q1] (c_X11_canBeNoted (kl κ) (gm κ) (kA κ) a1 a2 a3 w q1 e2) ck_RX11_200 im_X11_canBeNoted se_X11_canBeNoted sh_0 cx_11 ⟨rfl, rfl⟩ ⟨by decide, by decide⟩ rfl rfl (Nat.le_of_ble_eq_true rfl) dX11_note_4 _ rfl ?_
  refine j_if_eq 28 dX11_note_7 (by decide) h (fun h => ?_) (fun h => ?_)
  · refine j_loc [(0, .ref (ad (gm κ) 0))] [0] rfl ?_
    exact t_X11_note_j28 w h
  · refine j_iload 4 dX11_note_10 rfl ?_
    refine j_iload 5 dX11_note_12 rfl ?_
    refine j_callS (As := [.int a4, .int a5]) (st := []) [.int (X11_isSpan a4 a5 w)] (c_X11_isSpan (kl κ) (gm κ) (kA κ) a4 a5 w) ck_RX11_151 st_X11_isSpan ⟨rfl, rfl⟩ ⟨by decide, by decide⟩ rfl rfl (Nat.le_of_ble_eq_true rfl) dX11_note_14 _ rfl ?_
    refine j_if_eq 28 dX11_note_17 (by decide) h (fun h => ?_) (fun h => ?_)
    · refine j_loc [(0, .ref (ad (gm κ) 0))] [0] rfl ?_
      exact t_X11_note_j28 w h
    · refine j_iload 6 dX11_note_20 rfl ?_
      refine j_callS (As := [.int a6]) (st := []) [.int (X11_isWeek a6 w)] (c_X11_isWeek (kl κ) (gm κ) (kA κ) a6 w) ck_RX11_168 st_X11_isWeek ⟨rfl, rfl⟩ ⟨by decide, by decide⟩ rfl rfl (Nat.le_of_ble_eq_true rfl) dX11_note_22 _ rfl ?_
      refine j_if_ne 34 dX11_note_25 (by decide) h (fun h => ?_) (fun h => ?_)
      · refine j_aload_n 0 dX11_note_34 rfl rfl ?_
        refine j_getA 19 fl_RX11_26 sh_0 fk_0_2 (by decide) dX11_note_35 ?_
        refine j_getI fl_RX11_203 sh_19 fk_19_0 dX11_note_38 ?_
        refine j_sipush (160 : Int32) dX11_note_41 ks_160 ?_
        refine j_ic_lt 53 dX11_note_44 (by decide) h (fun h => ?_) (fun h => ?_)
        · refine j_iload 6 dX11_note_53 rfl ?_
          refine j_aload_n 0 dX11_note_55 rfl rfl ?_
          refine j_getA 19 fl_RX11_26 sh_0 fk_0_2 (by decide) dX11_note_56 ?_
          obtain ⟨q5, e6, h⟩ := ok_b h
          refine j_callV (As := []) (st := [.int a6]) [.int q5, .int a6] (c_X4_latestKnown (kl κ) (gm κ) (kA κ) w q5 e6) ck_RX11_206 im_X4_latestKnown se_X4_latestKnown sh_19 cx_4 ⟨rfl, rfl⟩ ⟨by decide, by decide⟩ rfl rfl (Nat.le_of_ble_eq_true rfl) dX11_note_59 _ rfl ?_
          refine j_ic_ge 71 dX11_note_62 (by decide) h (fun h => ?_) (fun h => ?_)
          · refine j_aload_n 0 dX11_note_71 rfl rfl ?_
            refine j_getA 19 fl_RX11_26 sh_0 fk_0_2 (by decide) dX11_note_72 ?_
            refine j_iload_n 1 dX11_note_75 rfl rfl ?_
            refine j_iload_n 2 dX11_note_76 rfl rfl ?_
            refine j_iload_n 3 dX11_note_77 rfl rfl ?_
            refine j_iload 4 dX11_note_78 rfl ?_
            refine j_iload 5 dX11_note_80 rfl ?_
            refine j_iload 6 dX11_note_82 rfl ?_
            obtain ⟨q7, e8, h⟩ := ok_b h
            refine j_callV (As := [.int a1, .int a2, .int a3, .int a4, .int a5, .int a6]) (st := []) [] (c_X4_add (kl κ) (gm κ) (kA κ) a1 a2 a3 a4 a5 a6 w q7 e8) ck_RX11_210 im_X4_add se_X4_add sh_19 cx_4 ⟨rfl, rfl⟩ ⟨by decide, by decide⟩ rfl rfl (Nat.le_of_ble_eq_true rfl) dX11_note_84 _ rfl ?_
            refine j_iload 6 dX11_note_87 rfl ?_
            refine j_aload_n 0 dX11_note_89 rfl rfl ?_
            refine j_getA 19 fl_RX11_26 sh_0 fk_0_2 (by decide) dX11_note_90 ?_
            refine j_getI fl_RX11_214 sh_19 fk_19_7 dX11_note_93 ?_
            refine j_ic_gt 108 dX11_note_96 (by decide) h (fun h => ?_) (fun h => ?_)
            · refine j_loc [(0, .ref (ad (gm κ) 0))] [0] rfl ?_
              exact t_X11_note_j108 q7 h
            · refine j_aload_n 0 dX11_note_99 rfl rfl ?_
              refine j_getA 73 fl_RX11_58 sh_0 fk_0_6 (by decide) dX11_note_100 ?_
              refine j_iload 4 dX11_note_103 rfl ?_
              obtain ⟨q11, e12, h⟩ := ok_b h
              refine j_callV (As := [.int a4]) (st := []) [] (c_X10_relive (kl κ) (gm κ) (kA κ) a4 q7 q11 e12) ck_RX11_160 im_X10_relive se_X10_relive sh_73 cx_10 ⟨rfl, rfl⟩ ⟨by decide, by decide⟩ rfl rfl (Nat.le_of_ble_eq_true rfl) dX11_note_105 _ rfl ?_
              refine j_loc [(0, .ref (ad (gm κ) 0))] [0] rfl ?_
              exact t_X11_note_j108 q11 h
          · refine j_aload_n 0 dX11_note_65 rfl rfl ?_
            refine j_iconst (5 : Int32) dX11_note_66 ki_5 ?_
            obtain ⟨q13, e14, h⟩ := ok_b h
            refine j_callV (As := [.int (5 : Int32)]) (st := []) [.int q13.1] (c_X11_refuse (kl κ) (gm κ) (kA κ) (5 : Int32) w q13 e14) ck_RX11_95 im_X11_refuse se_X11_refuse sh_0 cx_11 ⟨rfl, rfl⟩ ⟨by decide, by decide⟩ rfl rfl (Nat.le_of_ble_eq_true rfl) dX11_note_67 _ rfl ?_
            obtain ⟨hz, h⟩ := ok_g h
            have h := ok_s h
            exact j_iret dX11_note_70 rfl hz h
        · refine j_aload_n 0 dX11_note_47 rfl rfl ?_
          refine j_iconst (4 : Int32) dX11_note_48 ki_4 ?_
          obtain ⟨q15, e16, h⟩ := ok_b h
          refine j_callV (As := [.int (4 : Int32)]) (st := []) [.int q15.1] (c_X11_refuse (kl κ) (gm κ) (kA κ) (4 : Int32) w q15 e16) ck_RX11_95 im_X11_refuse se_X11_refuse sh_0 cx_11 ⟨rfl, rfl⟩ ⟨by decide, by decide⟩ rfl rfl (Nat.le_of_ble_eq_true rfl) dX11_note_49 _ rfl ?_
          obtain ⟨hz, h⟩ := ok_g h
          have h := ok_s h
          exact j_iret dX11_note_52 rfl hz h
      · refine j_loc [(0, .ref (ad (gm κ) 0))] [0] rfl ?_
        exact t_X11_note_j28 w h
theorem c_X11_note (l : Launch) (γ : Gm) (A : Nat → Prop) (a1 : Int32) (a2 : Int32) (a3 : Int32) (a4 : Int32) (a5 : Int32) (a6 : Int32) (w : Wd) (q : Int32 × Wd) (e : X11_note  a1 a2 a3 a4 a5 a6 w = some q) : MetG l γ A yX11_note cX11_note 7 (some .boolean) (rmk 3 68) [.ref (ad (γ) 0), .int a1, .int a2, .int a3, .int a4, .int a5, .int a6] w (some (.int q.1)) q.2 := by
  refine met_of pn_RX11 (Nat.le_of_ble_eq_true rfl) ?_
  intro κ hl hγ hA hρ
  subst hl; subst hγ; subst hA
  exact t_X11_note   a1 a2 a3 a4 a5 a6 w ⟨q, e, pIw hρ rfl rfl⟩
theorem dX11_asof_0 : decode cX11_asof 0 = .ok (.iload_n 1, 1) := by decide +kernel
theorem dX11_asof_1 : decode cX11_asof 1 = .ok (.invokestatic 168, 3) := by decide +kernel
theorem dX11_asof_4 : decode cX11_asof 4 = .ok (.ifCond .ne 9, 3) := by decide +kernel
theorem dX11_asof_7 : decode cX11_asof 7 = .ok (.aload_n 0, 1) := by decide +kernel
theorem dX11_asof_8 : decode cX11_asof 8 = .ok (.iconst 1, 1) := by decide +kernel
theorem dX11_asof_9 : decode cX11_asof 9 = .ok (.invokevirtual 95, 3) := by decide +kernel
theorem dX11_asof_12 : decode cX11_asof 12 = .ok (.ireturn, 1) := by decide +kernel
theorem dX11_asof_13 : decode cX11_asof 13 = .ok (.aload_n 0, 1) := by decide +kernel
theorem dX11_asof_14 : decode cX11_asof 14 = .ok (.getfield 58, 3) := by decide +kernel
theorem dX11_asof_17 : decode cX11_asof 17 = .ok (.aload_n 0, 1) := by decide +kernel
theorem dX11_asof_18 : decode cX11_asof 18 = .ok (.getfield 26, 3) := by decide +kernel
theorem dX11_asof_21 : decode cX11_asof 21 = .ok (.iload_n 1, 1) := by decide +kernel
theorem dX11_asof_22 : decode cX11_asof 22 = .ok (.invokevirtual 226, 3) := by decide +kernel
theorem dX11_asof_25 : decode cX11_asof 25 = .ok (.invokevirtual 160, 3) := by decide +kernel
theorem dX11_asof_28 : decode cX11_asof 28 = .ok (.aload_n 0, 1) := by decide +kernel
theorem dX11_asof_29 : decode cX11_asof 29 = .ok (.invokevirtual 102, 3) := by decide +kernel
theorem dX11_asof_32 : decode cX11_asof 32 = .ok (.ireturn, 1) := by decide +kernel
noncomputable def X11_asof (a1 : Int32) (w : Wd) : Option (Int32 × Wd) :=
(if (X11_isWeek a1 w) = 0 then
(X11_refuse (1 : Int32) w).bind fun q7 =>
gd (narrow .boolean (.int q7.1) = .int q7.1) <|
some (q7.1, q7.2)
else
(X4_lookFrom a1 w).bind fun q1 =>
(X10_relive q1.1 q1.2).bind fun q3 =>
(X11_agree q3).bind fun q5 =>
gd (narrow .boolean (.int q5.1) = .int q5.1) <|
some (q5.1, q5.2))
set_option maxRecDepth 20000 in
set_option maxHeartbeats 1000000 in
theorem t_X11_asof {κ : Kx} (a1 : Int32) (w : Wd) (h : ok (X11_asof  a1 w) (PIw κ)) : J κ RX11 cX11_asof 2 (some .boolean) (rmk 2 48) 0 [(0, .ref (ad (gm κ) 0)), (1, .int a1)] [] w := by
  unfold X11_asof at h
  refine j_iload_n 1 dX11_asof_0 rfl rfl ?_
  refine j_callS (As := [.int a1]) (st := []) [.int (X11_isWeek a1 w)] (c_X11_isWeek (kl κ) (gm κ) (kA κ) a1 w) ck_RX11_168 st_X11_isWeek ⟨rfl, rfl⟩ ⟨by decide, by decide⟩ rfl rfl (Nat.le_of_ble_eq_true rfl) dX11_asof_1 _ rfl ?_
  refine j_if_ne 13 dX11_asof_4 (by decide) h (fun h => ?_) (fun h => ?_)
  · refine j_aload_n 0 dX11_asof_13 rfl rfl ?_
    refine j_getA 73 fl_RX11_58 sh_0 fk_0_6 (by decide) dX11_asof_14 ?_
    refine j_aload_n 0 dX11_asof_17 rfl rfl ?_
    refine j_getA 19 fl_RX11_26 sh_0 fk_0_2 (by decide) dX11_asof_18 ?_
    refine j_iload_n 1 dX11_asof_21 rfl rfl ?_
    obtain ⟨q1, e2, h⟩ := ok_b h
    refine j_callV (As := [.int a1]) (st := [.ref (ad (gm κ) 73)]) [.int q1.1, .ref (ad (gm κ) 73)] (c_X4_lookFrom (kl κ) (gm κ) (kA κ) a1 w q1 e2) ck_RX11_226 im_X4_lookFrom se_X4_lookFrom sh_19 cx_4 ⟨rfl, rfl⟩ ⟨by decide, by decide⟩ rfl rfl (Nat.le_of_ble_eq_true rfl) dX11_asof_22 _ rfl ?_
    obtain ⟨q3, e4, h⟩ := ok_b h
    refine j_callV (As := [.int q1.1]) (st := []) [] (c_X10_relive (kl κ) (gm κ) (kA κ) q1.1 q1.2 q3 e4) ck_RX11_160 im_X10_relive se_X10_relive sh_73 cx_10 ⟨rfl, rfl⟩ ⟨by decide, by decide⟩ rfl rfl (Nat.le_of_ble_eq_true rfl) dX11_asof_25 _ rfl ?_
    refine j_aload_n 0 dX11_asof_28 rfl rfl ?_
    obtain ⟨q5, e6, h⟩ := ok_b h
    refine j_callV (As := []) (st := []) [.int q5.1] (c_X11_agree (kl κ) (gm κ) (kA κ) q3 q5 e6) ck_RX11_102 im_X11_agree se_X11_agree sh_0 cx_11 ⟨rfl, rfl⟩ ⟨by decide, by decide⟩ rfl rfl (Nat.le_of_ble_eq_true rfl) dX11_asof_29 _ rfl ?_
    obtain ⟨hz, h⟩ := ok_g h
    have h := ok_s h
    exact j_iret dX11_asof_32 rfl hz h
  · refine j_aload_n 0 dX11_asof_7 rfl rfl ?_
    refine j_iconst (1 : Int32) dX11_asof_8 ki_1 ?_
    obtain ⟨q7, e8, h⟩ := ok_b h
    refine j_callV (As := [.int (1 : Int32)]) (st := []) [.int q7.1] (c_X11_refuse (kl κ) (gm κ) (kA κ) (1 : Int32) w q7 e8) ck_RX11_95 im_X11_refuse se_X11_refuse sh_0 cx_11 ⟨rfl, rfl⟩ ⟨by decide, by decide⟩ rfl rfl (Nat.le_of_ble_eq_true rfl) dX11_asof_9 _ rfl ?_
    obtain ⟨hz, h⟩ := ok_g h
    have h := ok_s h
    exact j_iret dX11_asof_12 rfl hz h
theorem c_X11_asof (l : Launch) (γ : Gm) (A : Nat → Prop) (a1 : Int32) (w : Wd) (q : Int32 × Wd) (e : X11_asof  a1 w = some q) : MetG l γ A yX11_asof cX11_asof 2 (some .boolean) (rmk 2 48) [.ref (ad (γ) 0), .int a1] w (some (.int q.1)) q.2 := by
  refine met_of pn_RX11 (Nat.le_of_ble_eq_true rfl) ?_
  intro κ hl hγ hA hρ
  subst hl; subst hγ; subst hA
  exact t_X11_asof   a1 w ⟨q, e, pIw hρ rfl rfl⟩
theorem dX11_where_0 : decode cX11_where 0 = .ok (.iload_n 1, 1) := by decide +kernel
theorem dX11_where_1 : decode cX11_where 1 = .ok (.iconst 0, 1) := by decide +kernel
theorem dX11_where_2 : decode cX11_where 2 = .ok (.iconst 1, 1) := by decide +kernel
theorem dX11_where_3 : decode cX11_where 3 = .ok (.invokestatic 91, 3) := by decide +kernel
theorem dX11_where_6 : decode cX11_where 6 = .ok (.ifCond .eq 39, 3) := by decide +kernel
theorem dX11_where_9 : decode cX11_where 9 = .ok (.iload_n 3, 1) := by decide +kernel
theorem dX11_where_10 : decode cX11_where 10 = .ok (.invokestatic 168, 3) := by decide +kernel
theorem dX11_where_13 : decode cX11_where 13 = .ok (.ifCond .eq 32, 3) := by decide +kernel
theorem dX11_where_16 : decode cX11_where 16 = .ok (.iload_n 1, 1) := by decide +kernel
theorem dX11_where_17 : decode cX11_where 17 = .ok (.ifCond .ne 17, 3) := by decide +kernel
theorem dX11_where_20 : decode cX11_where 20 = .ok (.aload_n 0, 1) := by decide +kernel
theorem dX11_where_21 : decode cX11_where 21 = .ok (.getfield 19, 3) := by decide +kernel
theorem dX11_where_24 : decode cX11_where 24 = .ok (.iload_n 2, 1) := by decide +kernel
theorem dX11_where_25 : decode cX11_where 25 = .ok (.invokevirtual 217, 3) := by decide +kernel
theorem dX11_where_28 : decode cX11_where 28 = .ok (.ifCond .eq 17, 3) := by decide +kernel
theorem dX11_where_31 : decode cX11_where 31 = .ok (.goto 20, 3) := by decide +kernel
theorem dX11_where_34 : decode cX11_where 34 = .ok (.aload_n 0, 1) := by decide +kernel
theorem dX11_where_35 : decode cX11_where 35 = .ok (.getfield 19, 3) := by decide +kernel
theorem dX11_where_38 : decode cX11_where 38 = .ok (.iload_n 2, 1) := by decide +kernel
theorem dX11_where_39 : decode cX11_where 39 = .ok (.invokevirtual 220, 3) := by decide +kernel
theorem dX11_where_42 : decode cX11_where 42 = .ok (.ifCond .ne 9, 3) := by decide +kernel
theorem dX11_where_45 : decode cX11_where 45 = .ok (.aload_n 0, 1) := by decide +kernel
theorem dX11_where_46 : decode cX11_where 46 = .ok (.iconst 1, 1) := by decide +kernel
theorem dX11_where_47 : decode cX11_where 47 = .ok (.invokevirtual 114, 3) := by decide +kernel
theorem dX11_where_50 : decode cX11_where 50 = .ok (.ireturn, 1) := by decide +kernel
theorem dX11_where_51 : decode cX11_where 51 = .ok (.aload_n 0, 1) := by decide +kernel
theorem dX11_where_52 : decode cX11_where 52 = .ok (.getfield 26, 3) := by decide +kernel
theorem dX11_where_55 : decode cX11_where 55 = .ok (.iload_n 3, 1) := by decide +kernel
theorem dX11_where_56 : decode cX11_where 56 = .ok (.invokevirtual 229, 3) := by decide +kernel
theorem dX11_where_59 : decode cX11_where 59 = .ok (.aload_n 0, 1) := by decide +kernel
theorem dX11_where_60 : decode cX11_where 60 = .ok (.bipush 6, 2) := by decide +kernel
theorem dX11_where_62 : decode cX11_where 62 = .ok (.iload_n 1, 1) := by decide +kernel
theorem dX11_where_63 : decode cX11_where 63 = .ok (.ifCond .ne 15, 3) := by decide +kernel
theorem dX11_where_66 : decode cX11_where 66 = .ok (.aload_n 0, 1) := by decide +kernel
theorem dX11_where_67 : decode cX11_where 67 = .ok (.getfield 26, 3) := by decide +kernel
theorem dX11_where_70 : decode cX11_where 70 = .ok (.getfield 232, 3) := by decide +kernel
theorem dX11_where_73 : decode cX11_where 73 = .ok (.iload_n 2, 1) := by decide +kernel
theorem dX11_where_74 : decode cX11_where 74 = .ok (.iaload, 1) := by decide +kernel
theorem dX11_where_75 : decode cX11_where 75 = .ok (.goto 12, 3) := by decide +kernel
theorem dX11_where_78 : decode cX11_where 78 = .ok (.aload_n 0, 1) := by decide +kernel
theorem dX11_where_79 : decode cX11_where 79 = .ok (.getfield 26, 3) := by decide +kernel
theorem dX11_where_82 : decode cX11_where 82 = .ok (.getfield 236, 3) := by decide +kernel
theorem dX11_where_85 : decode cX11_where 85 = .ok (.iload_n 2, 1) := by decide +kernel
theorem dX11_where_86 : decode cX11_where 86 = .ok (.iaload, 1) := by decide +kernel
theorem dX11_where_87 : decode cX11_where 87 = .ok (.invokevirtual 178, 3) := by decide +kernel
theorem dX11_where_90 : decode cX11_where 90 = .ok (.ireturn, 1) := by decide +kernel
noncomputable def X11_where_j45 (w : Wd) : Option (Int32 × Wd) :=
(X11_deny (1 : Int32) w).bind fun q1 =>
some (q1.1, q1.2)
set_option maxRecDepth 20000 in
set_option maxHeartbeats 1000000 in
theorem t_X11_where_j45 {κ : Kx} (w : Wd) (h : ok (X11_where_j45  w) (PIw κ)) : J κ RX11 cX11_where 4 (some .int) (rmk 3 66) 45 [(0, .ref (ad (gm κ) 0))] [] w := by
  unfold X11_where_j45 at h
  refine j_aload_n 0 dX11_where_45 rfl rfl ?_
  refine j_iconst (1 : Int32) dX11_where_46 ki_1 ?_
  obtain ⟨q1, e2, h⟩ := ok_b h
  refine j_callV (As := [.int (1 : Int32)]) (st := []) [.int q1.1] (c_X11_deny (kl κ) (gm κ) (kA κ) (1 : Int32) w q1 e2) ck_RX11_114 im_X11_deny se_X11_deny sh_0 cx_11 ⟨rfl, rfl⟩ ⟨by decide, by decide⟩ rfl rfl (Nat.le_of_ble_eq_true rfl) dX11_where_47 _ rfl ?_
  have h := ok_s h
  exact j_iret dX11_where_50 rfl rfl h
noncomputable def X11_where_j87 (s0 : Int32) (s1 : Int32) (w : Wd) : Option (Int32 × Wd) :=
(X11_answerOr s1 s0 w).bind fun q5 =>
some (q5.1, q5.2)
set_option maxRecDepth 20000 in
set_option maxHeartbeats 1000000 in
theorem t_X11_where_j87 {κ : Kx} (s0 : Int32) (s1 : Int32) (w : Wd) (h : ok (X11_where_j87  s0 s1 w) (PIw κ)) : J κ RX11 cX11_where 4 (some .int) (rmk 3 66) 87 [] [.int s0, .int s1, .ref (ad (gm κ) 0)] w := by
  unfold X11_where_j87 at h
  obtain ⟨q5, e6, h⟩ := ok_b h
  refine j_callV (As := [.int s1, .int s0]) (st := []) [.int q5.1] (c_X11_answerOr (kl κ) (gm κ) (kA κ) s1 s0 w q5 e6) ck_RX11_178 im_X11_answerOr se_X11_answerOr sh_0 cx_11 ⟨rfl, rfl⟩ ⟨by decide, by decide⟩ rfl rfl (Nat.le_of_ble_eq_true rfl) dX11_where_87 _ rfl ?_
  have h := ok_s h
  exact j_iret dX11_where_90 rfl rfl h
noncomputable def X11_where_j51 (a1 : Int32) (a2 : Int32) (a3 : Int32) (w : Wd) : Option (Int32 × Wd) :=
(X4_callUp a3 w).bind fun q3 =>
(if a1 = 0 then
gd (vp_in a2 20) <|
X11_where_j87 (q3.1 26 (ix a2)) (6 : Int32) q3
else
gd (vp_in a2 40) <|
X11_where_j87 (q3.1 27 (ix a2)) (6 : Int32) q3)
set_option maxRecDepth 20000 in
set_option maxHeartbeats 1000000 in
theorem t_X11_where_j51 {κ : Kx} (a1 : Int32) (a2 : Int32) (a3 : Int32) (w : Wd) (h : ok (X11_where_j51  a1 a2 a3 w) (PIw κ)) : J κ RX11 cX11_where 4 (some .int) (rmk 3 66) 51 [(0, .ref (ad (gm κ) 0)), (1, .int a1), (2, .int a2), (3, .int a3)] [] w := by
  unfold X11_where_j51 at h
  refine j_aload_n 0 dX11_where_51 rfl rfl ?_
  refine j_getA 19 fl_RX11_26 sh_0 fk_0_2 (by decide) dX11_where_52 ?_
  refine j_iload_n 3 dX11_where_55 rfl rfl ?_
  obtain ⟨q3, e4, h⟩ := ok_b h
  refine j_callV (As := [.int a3]) (st := []) [] (c_X4_callUp (kl κ) (gm κ) (kA κ) a3 w q3 e4) ck_RX11_229 im_X4_callUp se_X4_callUp sh_19 cx_4 ⟨rfl, rfl⟩ ⟨by decide, by decide⟩ rfl rfl (Nat.le_of_ble_eq_true rfl) dX11_where_56 _ rfl ?_
  refine j_aload_n 0 dX11_where_59 rfl rfl ?_
  refine j_bipush (6 : Int32) dX11_where_60 kb_6 ?_
  refine j_iload_n 1 dX11_where_62 rfl rfl ?_
  refine j_if_ne 78 dX11_where_63 (by decide) h (fun h => ?_) (fun h => ?_)
  · refine j_aload_n 0 dX11_where_78 rfl rfl ?_
    refine j_getA 19 fl_RX11_26 sh_0 fk_0_2 (by decide) dX11_where_79 ?_
    refine j_getA 27 fl_RX11_236 sh_19 fk_19_10 (by decide) dX11_where_82 ?_
    refine j_iload_n 2 dX11_where_85 rfl rfl ?_
    refine j_iald sh_27 dX11_where_86 h (fun h => ?_)
    refine j_loc [] [] rfl ?_
    exact t_X11_where_j87 (q3.1 27 (ix a2)) (6 : Int32) q3 h
  · refine j_aload_n 0 dX11_where_66 rfl rfl ?_
    refine j_getA 19 fl_RX11_26 sh_0 fk_0_2 (by decide) dX11_where_67 ?_
    refine j_getA 26 fl_RX11_232 sh_19 fk_19_9 (by decide) dX11_where_70 ?_
    refine j_iload_n 2 dX11_where_73 rfl rfl ?_
    refine j_iald sh_26 dX11_where_74 h (fun h => ?_)
    refine j_goto 87 dX11_where_75 (by decide) ?_
    refine j_loc [] [] rfl ?_
    exact t_X11_where_j87 (q3.1 26 (ix a2)) (6 : Int32) q3 h
noncomputable def X11_where (a1 : Int32) (a2 : Int32) (a3 : Int32) (w : Wd) : Option (Int32 × Wd) :=
(if (X11_within a1 (0 : Int32) (1 : Int32) w) = 0 then
X11_where_j45 w
else
(if (X11_isWeek a3 w) = 0 then
X11_where_j45 w
else
(if a1 = 0 then
(if (X2_isTeacher a2 w) = 0 then
X11_where_j45 w
else
X11_where_j51 a1 a2 a3 w)
else
(if (X2_isLearner a2 w) = 0 then
X11_where_j45 w
else
X11_where_j51 a1 a2 a3 w))))
set_option maxRecDepth 20000 in
set_option maxHeartbeats 1000000 in
theorem t_X11_where {κ : Kx} (a1 : Int32) (a2 : Int32) (a3 : Int32) (w : Wd) (h : ok (X11_where  a1 a2 a3 w) (PIw κ)) : J κ RX11 cX11_where 4 (some .int) (rmk 3 66) 0 [(0, .ref (ad (gm κ) 0)), (1, .int a1), (2, .int a2), (3, .int a3)] [] w := by
  unfold X11_where at h
  refine j_iload_n 1 dX11_where_0 rfl rfl ?_
  refine j_iconst (0 : Int32) dX11_where_1 ki_0 ?_
  refine j_iconst (1 : Int32) dX11_where_2 ki_1 ?_
  refine j_callS (As := [.int a1, .int (0 : Int32), .int (1 : Int32)]) (st := []) [.int (X11_within a1 (0 : Int32) (1 : Int32) w)] (c_X11_within (kl κ) (gm κ) (kA κ) a1 (0 : Int32) (1 : Int32) w) ck_RX11_91 st_X11_within ⟨rfl, rfl⟩ ⟨by decide, by decide⟩ rfl rfl (Nat.le_of_ble_eq_true rfl) dX11_where_3 _ rfl ?_
  refine j_if_eq 45 dX11_where_6 (by decide) h (fun h => ?_) (fun h => ?_)
  · refine j_loc [(0, .ref (ad (gm κ) 0))] [0] rfl ?_
    exact t_X11_where_j45 w h
  · refine j_iload_n 3 dX11_where_9 rfl rfl ?_
    refine j_callS (As := [.int a3]) (st := []) [.int (X11_isWeek a3 w)] (c_X11_isWeek (kl κ) (gm κ) (kA κ) a3 w) ck_RX11_168 st_X11_isWeek ⟨rfl, rfl⟩ ⟨by decide, by decide⟩ rfl rfl (Nat.le_of_ble_eq_true rfl) dX11_where_10 _ rfl ?_
    refine j_if_eq 45 dX11_where_13 (by decide) h (fun h => ?_) (fun h => ?_)
    · refine j_loc [(0, .ref (ad (gm κ) 0))] [0] rfl ?_
      exact t_X11_where_j45 w h
    · refine j_iload_n 1 dX11_where_16 rfl rfl ?_
      refine j_if_ne 34 dX11_where_17 (by decide) h (fun h => ?_) (fun h => ?_)
      · refine j_aload_n 0 dX11_where_34 rfl rfl ?_
        refine j_getA 5 fl_RX11_19 sh_0 fk_0_1 (by decide) dX11_where_35 ?_
        refine j_iload_n 2 dX11_where_38 rfl rfl ?_
        refine j_callV (As := [.int a2]) (st := []) [.int (X2_isLearner a2 w)] (c_X2_isLearner (kl κ) (gm κ) (kA κ) a2 w) ck_RX11_220 im_X2_isLearner se_X2_isLearner sh_5 cx_2 ⟨rfl, rfl⟩ ⟨by decide, by decide⟩ rfl rfl (Nat.le_of_ble_eq_true rfl) dX11_where_39 _ rfl ?_
        refine j_if_ne 51 dX11_where_42 (by decide) h (fun h => ?_) (fun h => ?_)
        · refine j_loc [(0, .ref (ad (gm κ) 0)), (1, .int a1), (2, .int a2), (3, .int a3)] [0, 1, 2, 3] rfl ?_
          exact t_X11_where_j51 a1 a2 a3 w h
        · refine j_loc [(0, .ref (ad (gm κ) 0))] [0] rfl ?_
          exact t_X11_where_j45 w h
      · refine j_aload_n 0 dX11_where_20 rfl rfl ?_
        refine j_getA 5 fl_RX11_19 sh_0 fk_0_1 (by decide) dX11_where_21 ?_
        refine j_iload_n 2 dX11_where_24 rfl rfl ?_
        refine j_callV (As := [.int a2]) (st := []) [.int (X2_isTeacher a2 w)] (c_X2_isTeacher (kl κ) (gm κ) (kA κ) a2 w) ck_RX11_217 im_X2_isTeacher se_X2_isTeacher sh_5 cx_2 ⟨rfl, rfl⟩ ⟨by decide, by decide⟩ rfl rfl (Nat.le_of_ble_eq_true rfl) dX11_where_25 _ rfl ?_
        refine j_if_eq 45 dX11_where_28 (by decide) h (fun h => ?_) (fun h => ?_)
        · refine j_loc [(0, .ref (ad (gm κ) 0))] [0] rfl ?_
          exact t_X11_where_j45 w h
        · refine j_goto 51 dX11_where_31 (by decide) ?_
          refine j_loc [(0, .ref (ad (gm κ) 0)), (1, .int a1), (2, .int a2), (3, .int a3)] [0, 1, 2, 3] rfl ?_
          exact t_X11_where_j51 a1 a2 a3 w h
theorem c_X11_where (l : Launch) (γ : Gm) (A : Nat → Prop) (a1 : Int32) (a2 : Int32) (a3 : Int32) (w : Wd) (q : Int32 × Wd) (e : X11_where  a1 a2 a3 w = some q) : MetG l γ A yX11_where cX11_where 4 (some .int) (rmk 3 66) [.ref (ad (γ) 0), .int a1, .int a2, .int a3] w (some (.int q.1)) q.2 := by
  refine met_of pn_RX11 (Nat.le_of_ble_eq_true rfl) ?_
  intro κ hl hγ hA hρ
  subst hl; subst hγ; subst hA
  exact t_X11_where   a1 a2 a3 w ⟨q, e, pIw hρ rfl rfl⟩
theorem dX11_lit_0 : decode cX11_lit 0 = .ok (.aload_n 0, 1) := by decide +kernel
theorem dX11_lit_1 : decode cX11_lit 1 = .ok (.getfield 19, 3) := by decide +kernel
theorem dX11_lit_4 : decode cX11_lit 4 = .ok (.iload_n 1, 1) := by decide +kernel
theorem dX11_lit_5 : decode cX11_lit 5 = .ok (.invokevirtual 223, 3) := by decide +kernel
theorem dX11_lit_8 : decode cX11_lit 8 = .ok (.ifCond .eq 10, 3) := by decide +kernel
theorem dX11_lit_11 : decode cX11_lit 11 = .ok (.iload_n 2, 1) := by decide +kernel
theorem dX11_lit_12 : decode cX11_lit 12 = .ok (.invokestatic 168, 3) := by decide +kernel
theorem dX11_lit_15 : decode cX11_lit 15 = .ok (.ifCond .ne 9, 3) := by decide +kernel
theorem dX11_lit_18 : decode cX11_lit 18 = .ok (.aload_n 0, 1) := by decide +kernel
theorem dX11_lit_19 : decode cX11_lit 19 = .ok (.iconst 1, 1) := by decide +kernel
theorem dX11_lit_20 : decode cX11_lit 20 = .ok (.invokevirtual 114, 3) := by decide +kernel
theorem dX11_lit_23 : decode cX11_lit 23 = .ok (.ireturn, 1) := by decide +kernel
theorem dX11_lit_24 : decode cX11_lit 24 = .ok (.aload_n 0, 1) := by decide +kernel
theorem dX11_lit_25 : decode cX11_lit 25 = .ok (.getfield 26, 3) := by decide +kernel
theorem dX11_lit_28 : decode cX11_lit 28 = .ok (.iload_n 2, 1) := by decide +kernel
theorem dX11_lit_29 : decode cX11_lit 29 = .ok (.invokevirtual 229, 3) := by decide +kernel
theorem dX11_lit_32 : decode cX11_lit 32 = .ok (.aload_n 0, 1) := by decide +kernel
theorem dX11_lit_33 : decode cX11_lit 33 = .ok (.bipush 6, 2) := by decide +kernel
theorem dX11_lit_35 : decode cX11_lit 35 = .ok (.aload_n 0, 1) := by decide +kernel
theorem dX11_lit_36 : decode cX11_lit 36 = .ok (.getfield 26, 3) := by decide +kernel
theorem dX11_lit_39 : decode cX11_lit 39 = .ok (.getfield 239, 3) := by decide +kernel
theorem dX11_lit_42 : decode cX11_lit 42 = .ok (.iload_n 1, 1) := by decide +kernel
theorem dX11_lit_43 : decode cX11_lit 43 = .ok (.iaload, 1) := by decide +kernel
theorem dX11_lit_44 : decode cX11_lit 44 = .ok (.invokevirtual 178, 3) := by decide +kernel
theorem dX11_lit_47 : decode cX11_lit 47 = .ok (.ireturn, 1) := by decide +kernel
noncomputable def X11_lit_j18 (w : Wd) : Option (Int32 × Wd) :=
(X11_deny (1 : Int32) w).bind fun q1 =>
some (q1.1, q1.2)
set_option maxRecDepth 20000 in
set_option maxHeartbeats 1000000 in
theorem t_X11_lit_j18 {κ : Kx} (w : Wd) (h : ok (X11_lit_j18  w) (PIw κ)) : J κ RX11 cX11_lit 3 (some .int) (rmk 3 66) 18 [(0, .ref (ad (gm κ) 0))] [] w := by
  unfold X11_lit_j18 at h
  refine j_aload_n 0 dX11_lit_18 rfl rfl ?_
  refine j_iconst (1 : Int32) dX11_lit_19 ki_1 ?_
  obtain ⟨q1, e2, h⟩ := ok_b h
  refine j_callV (As := [.int (1 : Int32)]) (st := []) [.int q1.1] (c_X11_deny (kl κ) (gm κ) (kA κ) (1 : Int32) w q1 e2) ck_RX11_114 im_X11_deny se_X11_deny sh_0 cx_11 ⟨rfl, rfl⟩ ⟨by decide, by decide⟩ rfl rfl (Nat.le_of_ble_eq_true rfl) dX11_lit_20 _ rfl ?_
  have h := ok_s h
  exact j_iret dX11_lit_23 rfl rfl h
noncomputable def X11_lit (a1 : Int32) (a2 : Int32) (w : Wd) : Option (Int32 × Wd) :=
(if (X2_isLamp a1 w) = 0 then
X11_lit_j18 w
else
(if (X11_isWeek a2 w) = 0 then
X11_lit_j18 w
else
(X4_callUp a2 w).bind fun q3 =>
gd (vp_in a1 12) <|
(X11_answerOr (6 : Int32) (q3.1 28 (ix a1)) q3).bind fun q5 =>
some (q5.1, q5.2)))
set_option maxRecDepth 20000 in
set_option maxHeartbeats 1000000 in
theorem t_X11_lit {κ : Kx} (a1 : Int32) (a2 : Int32) (w : Wd) (h : ok (X11_lit  a1 a2 w) (PIw κ)) : J κ RX11 cX11_lit 3 (some .int) (rmk 3 66) 0 [(0, .ref (ad (gm κ) 0)), (1, .int a1), (2, .int a2)] [] w := by
  unfold X11_lit at h
  refine j_aload_n 0 dX11_lit_0 rfl rfl ?_
  refine j_getA 5 fl_RX11_19 sh_0 fk_0_1 (by decide) dX11_lit_1 ?_
  refine j_iload_n 1 dX11_lit_4 rfl rfl ?_
  refine j_callV (As := [.int a1]) (st := []) [.int (X2_isLamp a1 w)] (c_X2_isLamp (kl κ) (gm κ) (kA κ) a1 w) ck_RX11_223 im_X2_isLamp se_X2_isLamp sh_5 cx_2 ⟨rfl, rfl⟩ ⟨by decide, by decide⟩ rfl rfl (Nat.le_of_ble_eq_true rfl) dX11_lit_5 _ rfl ?_
  refine j_if_eq 18 dX11_lit_8 (by decide) h (fun h => ?_) (fun h => ?_)
  · refine j_loc [(0, .ref (ad (gm κ) 0))] [0] rfl ?_
    exact t_X11_lit_j18 w h
  · refine j_iload_n 2 dX11_lit_11 rfl rfl ?_
    refine j_callS (As := [.int a2]) (st := []) [.int (X11_isWeek a2 w)] (c_X11_isWeek (kl κ) (gm κ) (kA κ) a2 w) ck_RX11_168 st_X11_isWeek ⟨rfl, rfl⟩ ⟨by decide, by decide⟩ rfl rfl (Nat.le_of_ble_eq_true rfl) dX11_lit_12 _ rfl ?_
    refine j_if_ne 24 dX11_lit_15 (by decide) h (fun h => ?_) (fun h => ?_)
    · refine j_aload_n 0 dX11_lit_24 rfl rfl ?_
      refine j_getA 19 fl_RX11_26 sh_0 fk_0_2 (by decide) dX11_lit_25 ?_
      refine j_iload_n 2 dX11_lit_28 rfl rfl ?_
      obtain ⟨q3, e4, h⟩ := ok_b h
      refine j_callV (As := [.int a2]) (st := []) [] (c_X4_callUp (kl κ) (gm κ) (kA κ) a2 w q3 e4) ck_RX11_229 im_X4_callUp se_X4_callUp sh_19 cx_4 ⟨rfl, rfl⟩ ⟨by decide, by decide⟩ rfl rfl (Nat.le_of_ble_eq_true rfl) dX11_lit_29 _ rfl ?_
      refine j_aload_n 0 dX11_lit_32 rfl rfl ?_
      refine j_bipush (6 : Int32) dX11_lit_33 kb_6 ?_
      refine j_aload_n 0 dX11_lit_35 rfl rfl ?_
      refine j_getA 19 fl_RX11_26 sh_0 fk_0_2 (by decide) dX11_lit_36 ?_
      refine j_getA 28 fl_RX11_239 sh_19 fk_19_11 (by decide) dX11_lit_39 ?_
      refine j_iload_n 1 dX11_lit_42 rfl rfl ?_
      refine j_iald sh_28 dX11_lit_43 h (fun h => ?_)
      obtain ⟨q5, e6, h⟩ := ok_b h
      refine j_callV (As := [.int (6 : Int32), .int (q3.1 28 (ix a1))]) (st := []) [.int q5.1] (c_X11_answerOr (kl κ) (gm κ) (kA κ) (6 : Int32) (q3.1 28 (ix a1)) q3 q5 e6) ck_RX11_178 im_X11_answerOr se_X11_answerOr sh_0 cx_11 ⟨rfl, rfl⟩ ⟨by decide, by decide⟩ rfl rfl (Nat.le_of_ble_eq_true rfl) dX11_lit_44 _ rfl ?_
      have h := ok_s h
      exact j_iret dX11_lit_47 rfl rfl h
    · refine j_loc [(0, .ref (ad (gm κ) 0))] [0] rfl ?_
      exact t_X11_lit_j18 w h
theorem c_X11_lit (l : Launch) (γ : Gm) (A : Nat → Prop) (a1 : Int32) (a2 : Int32) (w : Wd) (q : Int32 × Wd) (e : X11_lit  a1 a2 w = some q) : MetG l γ A yX11_lit cX11_lit 3 (some .int) (rmk 3 66) [.ref (ad (γ) 0), .int a1, .int a2] w (some (.int q.1)) q.2 := by
  refine met_of pn_RX11 (Nat.le_of_ble_eq_true rfl) ?_
  intro κ hl hγ hA hρ
  subst hl; subst hγ; subst hA
  exact t_X11_lit   a1 a2 w ⟨q, e, pIw hρ rfl rfl⟩
theorem dX11_feed_0 : decode cX11_feed 0 = .ok (.aload_n 0, 1) := by decide +kernel
theorem dX11_feed_1 : decode cX11_feed 1 = .ok (.getfield 42, 3) := by decide +kernel
theorem dX11_feed_4 : decode cX11_feed 4 = .ok (.invokevirtual 242, 3) := by decide +kernel
theorem dX11_feed_7 : decode cX11_feed 7 = .ok (.ifCond .ne 5, 3) := by decide +kernel
theorem dX11_feed_10 : decode cX11_feed 10 = .ok (.iconst (-1), 1) := by decide +kernel
theorem dX11_feed_11 : decode cX11_feed 11 = .ok (.ireturn, 1) := by decide +kernel
theorem dX11_feed_12 : decode cX11_feed 12 = .ok (.aload_n 0, 1) := by decide +kernel
theorem dX11_feed_13 : decode cX11_feed 13 = .ok (.getfield 42, 3) := by decide +kernel
theorem dX11_feed_16 : decode cX11_feed 16 = .ok (.iload_n 1, 1) := by decide +kernel
theorem dX11_feed_17 : decode cX11_feed 17 = .ok (.invokevirtual 245, 3) := by decide +kernel
theorem dX11_feed_20 : decode cX11_feed 20 = .ok (.aload_n 0, 1) := by decide +kernel
theorem dX11_feed_21 : decode cX11_feed 21 = .ok (.getfield 42, 3) := by decide +kernel
theorem dX11_feed_24 : decode cX11_feed 24 = .ok (.iload_n 2, 1) := by decide +kernel
theorem dX11_feed_25 : decode cX11_feed 25 = .ok (.invokevirtual 245, 3) := by decide +kernel
theorem dX11_feed_28 : decode cX11_feed 28 = .ok (.aload_n 0, 1) := by decide +kernel
theorem dX11_feed_29 : decode cX11_feed 29 = .ok (.getfield 42, 3) := by decide +kernel
theorem dX11_feed_32 : decode cX11_feed 32 = .ok (.iload_n 3, 1) := by decide +kernel
theorem dX11_feed_33 : decode cX11_feed 33 = .ok (.invokevirtual 245, 3) := by decide +kernel
theorem dX11_feed_36 : decode cX11_feed 36 = .ok (.aload_n 0, 1) := by decide +kernel
theorem dX11_feed_37 : decode cX11_feed 37 = .ok (.getfield 42, 3) := by decide +kernel
theorem dX11_feed_40 : decode cX11_feed 40 = .ok (.iload 4, 2) := by decide +kernel
theorem dX11_feed_42 : decode cX11_feed 42 = .ok (.invokevirtual 245, 3) := by decide +kernel
theorem dX11_feed_45 : decode cX11_feed 45 = .ok (.aload_n 0, 1) := by decide +kernel
theorem dX11_feed_46 : decode cX11_feed 46 = .ok (.getfield 42, 3) := by decide +kernel
theorem dX11_feed_49 : decode cX11_feed 49 = .ok (.iload 5, 2) := by decide +kernel
theorem dX11_feed_51 : decode cX11_feed 51 = .ok (.invokevirtual 245, 3) := by decide +kernel
theorem dX11_feed_54 : decode cX11_feed 54 = .ok (.aload_n 0, 1) := by decide +kernel
theorem dX11_feed_55 : decode cX11_feed 55 = .ok (.getfield 42, 3) := by decide +kernel
theorem dX11_feed_58 : decode cX11_feed 58 = .ok (.getfield 248, 3) := by decide +kernel
theorem dX11_feed_61 : decode cX11_feed 61 = .ok (.ireturn, 1) := by decide +kernel
noncomputable def X11_feed (a1 : Int32) (a2 : Int32) (a3 : Int32) (a4 : Int32) (a5 : Int32) (w : Wd) : Option (Int32 × Wd) :=
(if (X6_hasRoomForFive w) = 0 then
some ((-1 : Int32), w)
else
(X6_append a1 w).bind fun q1 =>
(X6_append a2 q1).bind fun q3 =>
(X6_append a3 q3).bind fun q5 =>
(X6_append a4 q5).bind fun q7 =>
(X6_append a5 q7).bind fun q9 =>
some ((q9.1 65 2), q9))
set_option maxRecDepth 20000 in
set_option maxHeartbeats 1000000 in
theorem t_X11_feed {κ : Kx} (a1 : Int32) (a2 : Int32) (a3 : Int32) (a4 : Int32) (a5 : Int32) (w : Wd) (h : ok (X11_feed  a1 a2 a3 a4 a5 w) (PIw κ)) : J κ RX11 cX11_feed 6 (some .int) (rmk 1 22) 0 [(0, .ref (ad (gm κ) 0)), (1, .int a1), (2, .int a2), (3, .int a3), (4, .int a4), (5, .int a5)] [] w := by
  unfold X11_feed at h
  refine j_aload_n 0 dX11_feed_0 rfl rfl ?_
  refine j_getA 65 fl_RX11_42 sh_0 fk_0_4 (by decide) dX11_feed_1 ?_
  refine j_callV (As := []) (st := []) [.int (X6_hasRoomForFive w)] (c_X6_hasRoomForFive (kl κ) (gm κ) (kA κ) w) ck_RX11_242 im_X6_hasRoomForFive se_X6_hasRoomForFive sh_65 cx_6 ⟨rfl, rfl⟩ ⟨by decide, by decide⟩ rfl rfl (Nat.le_of_ble_eq_true rfl) dX11_feed_4 _ rfl ?_
  refine j_if_ne 12 dX11_feed_7 (by decide) h (fun h => ?_) (fun h => ?_)
  · refine j_aload_n 0 dX11_feed_12 rfl rfl ?_
    refine j_getA 65 fl_RX11_42 sh_0 fk_0_4 (by decide) dX11_feed_13 ?_
    refine j_iload_n 1 dX11_feed_16 rfl rfl ?_
    obtain ⟨q1, e2, h⟩ := ok_b h
    refine j_callV (As := [.int a1]) (st := []) [] (c_X6_append (kl κ) (gm κ) (kA κ) a1 w q1 e2) ck_RX11_245 im_X6_append se_X6_append sh_65 cx_6 ⟨rfl, rfl⟩ ⟨by decide, by decide⟩ rfl rfl (Nat.le_of_ble_eq_true rfl) dX11_feed_17 _ rfl ?_
    refine j_aload_n 0 dX11_feed_20 rfl rfl ?_
    refine j_getA 65 fl_RX11_42 sh_0 fk_0_4 (by decide) dX11_feed_21 ?_
    refine j_iload_n 2 dX11_feed_24 rfl rfl ?_
    obtain ⟨q3, e4, h⟩ := ok_b h
    refine j_callV (As := [.int a2]) (st := []) [] (c_X6_append (kl κ) (gm κ) (kA κ) a2 q1 q3 e4) ck_RX11_245 im_X6_append se_X6_append sh_65 cx_6 ⟨rfl, rfl⟩ ⟨by decide, by decide⟩ rfl rfl (Nat.le_of_ble_eq_true rfl) dX11_feed_25 _ rfl ?_
    refine j_aload_n 0 dX11_feed_28 rfl rfl ?_
    refine j_getA 65 fl_RX11_42 sh_0 fk_0_4 (by decide) dX11_feed_29 ?_
    refine j_iload_n 3 dX11_feed_32 rfl rfl ?_
    obtain ⟨q5, e6, h⟩ := ok_b h
    refine j_callV (As := [.int a3]) (st := []) [] (c_X6_append (kl κ) (gm κ) (kA κ) a3 q3 q5 e6) ck_RX11_245 im_X6_append se_X6_append sh_65 cx_6 ⟨rfl, rfl⟩ ⟨by decide, by decide⟩ rfl rfl (Nat.le_of_ble_eq_true rfl) dX11_feed_33 _ rfl ?_
    refine j_aload_n 0 dX11_feed_36 rfl rfl ?_
    refine j_getA 65 fl_RX11_42 sh_0 fk_0_4 (by decide) dX11_feed_37 ?_
    refine j_iload 4 dX11_feed_40 rfl ?_
    obtain ⟨q7, e8, h⟩ := ok_b h
    refine j_callV (As := [.int a4]) (st := []) [] (c_X6_append (kl κ) (gm κ) (kA κ) a4 q5 q7 e8) ck_RX11_245 im_X6_append se_X6_append sh_65 cx_6 ⟨rfl, rfl⟩ ⟨by decide, by decide⟩ rfl rfl (Nat.le_of_ble_eq_true rfl) dX11_feed_42 _ rfl ?_
    refine j_aload_n 0 dX11_feed_45 rfl rfl ?_
    refine j_getA 65 fl_RX11_42 sh_0 fk_0_4 (by decide) dX11_feed_46 ?_
    refine j_iload 5 dX11_feed_49 rfl ?_
    obtain ⟨q9, e10, h⟩ := ok_b h
    refine j_callV (As := [.int a5]) (st := []) [] (c_X6_append (kl κ) (gm κ) (kA κ) a5 q7 q9 e10) ck_RX11_245 im_X6_append se_X6_append sh_65 cx_6 ⟨rfl, rfl⟩ ⟨by decide, by decide⟩ rfl rfl (Nat.le_of_ble_eq_true rfl) dX11_feed_51 _ rfl ?_
    refine j_aload_n 0 dX11_feed_54 rfl rfl ?_
    refine j_getA 65 fl_RX11_42 sh_0 fk_0_4 (by decide) dX11_feed_55 ?_
    refine j_getI fl_RX11_248 sh_65 fk_65_2 dX11_feed_58 ?_
    have h := ok_s h
    exact j_iret dX11_feed_61 rfl rfl h
  · refine j_iconst (-1 : Int32) dX11_feed_10 ki_m1 ?_
    have h := ok_s h
    exact j_iret dX11_feed_11 rfl rfl h
theorem c_X11_feed (l : Launch) (γ : Gm) (A : Nat → Prop) (a1 : Int32) (a2 : Int32) (a3 : Int32) (a4 : Int32) (a5 : Int32) (w : Wd) (q : Int32 × Wd) (e : X11_feed  a1 a2 a3 a4 a5 w = some q) : MetG l γ A yX11_feed cX11_feed 6 (some .int) (rmk 1 22) [.ref (ad (γ) 0), .int a1, .int a2, .int a3, .int a4, .int a5] w (some (.int q.1)) q.2 := by
  refine met_of pn_RX11 (Nat.le_of_ble_eq_true rfl) ?_
  intro κ hl hγ hA hρ
  subst hl; subst hγ; subst hA
  exact t_X11_feed   a1 a2 a3 a4 a5 w ⟨q, e, pIw hρ rfl rfl⟩
theorem dX11_orders_0 : decode cX11_orders 0 = .ok (.iload_n 1, 1) := by decide +kernel
theorem dX11_orders_1 : decode cX11_orders 1 = .ok (.iconst 0, 1) := by decide +kernel
theorem dX11_orders_2 : decode cX11_orders 2 = .ok (.aload_n 0, 1) := by decide +kernel
theorem dX11_orders_3 : decode cX11_orders 3 = .ok (.getfield 42, 3) := by decide +kernel
theorem dX11_orders_6 : decode cX11_orders 6 = .ok (.getfield 248, 3) := by decide +kernel
theorem dX11_orders_9 : decode cX11_orders 9 = .ok (.invokestatic 91, 3) := by decide +kernel
theorem dX11_orders_12 : decode cX11_orders 12 = .ok (.ifCond .eq 20, 3) := by decide +kernel
theorem dX11_orders_15 : decode cX11_orders 15 = .ok (.iload_n 2, 1) := by decide +kernel
theorem dX11_orders_16 : decode cX11_orders 16 = .ok (.invokestatic 168, 3) := by decide +kernel
theorem dX11_orders_19 : decode cX11_orders 19 = .ok (.ifCond .eq 13, 3) := by decide +kernel
theorem dX11_orders_22 : decode cX11_orders 22 = .ok (.iload_n 3, 1) := by decide +kernel
theorem dX11_orders_23 : decode cX11_orders 23 = .ok (.iconst 1, 1) := by decide +kernel
theorem dX11_orders_24 : decode cX11_orders 24 = .ok (.bipush 15, 2) := by decide +kernel
theorem dX11_orders_26 : decode cX11_orders 26 = .ok (.invokestatic 91, 3) := by decide +kernel
theorem dX11_orders_29 : decode cX11_orders 29 = .ok (.ifCond .ne 9, 3) := by decide +kernel
theorem dX11_orders_32 : decode cX11_orders 32 = .ok (.aload_n 0, 1) := by decide +kernel
theorem dX11_orders_33 : decode cX11_orders 33 = .ok (.iconst 1, 1) := by decide +kernel
theorem dX11_orders_34 : decode cX11_orders 34 = .ok (.invokevirtual 114, 3) := by decide +kernel
theorem dX11_orders_37 : decode cX11_orders 37 = .ok (.ireturn, 1) := by decide +kernel
theorem dX11_orders_38 : decode cX11_orders 38 = .ok (.aload_n 0, 1) := by decide +kernel
theorem dX11_orders_39 : decode cX11_orders 39 = .ok (.getfield 33, 3) := by decide +kernel
theorem dX11_orders_42 : decode cX11_orders 42 = .ok (.getfield 251, 3) := by decide +kernel
theorem dX11_orders_45 : decode cX11_orders 45 = .ok (.iconst 5, 1) := by decide +kernel
theorem dX11_orders_46 : decode cX11_orders 46 = .ok (.if_icmp .lt 9, 3) := by decide +kernel
theorem dX11_orders_49 : decode cX11_orders 49 = .ok (.aload_n 0, 1) := by decide +kernel
theorem dX11_orders_50 : decode cX11_orders 50 = .ok (.iconst 4, 1) := by decide +kernel
theorem dX11_orders_51 : decode cX11_orders 51 = .ok (.invokevirtual 114, 3) := by decide +kernel
theorem dX11_orders_54 : decode cX11_orders 54 = .ok (.ireturn, 1) := by decide +kernel
theorem dX11_orders_55 : decode cX11_orders 55 = .ok (.aload_n 0, 1) := by decide +kernel
theorem dX11_orders_56 : decode cX11_orders 56 = .ok (.getfield 42, 3) := by decide +kernel
theorem dX11_orders_59 : decode cX11_orders 59 = .ok (.iload_n 1, 1) := by decide +kernel
theorem dX11_orders_60 : decode cX11_orders 60 = .ok (.invokevirtual 254, 3) := by decide +kernel
theorem dX11_orders_63 : decode cX11_orders 63 = .ok (.aload_n 0, 1) := by decide +kernel
theorem dX11_orders_64 : decode cX11_orders 64 = .ok (.getfield 42, 3) := by decide +kernel
theorem dX11_orders_67 : decode cX11_orders 67 = .ok (.iconst 0, 1) := by decide +kernel
theorem dX11_orders_68 : decode cX11_orders 68 = .ok (.putfield 248, 3) := by decide +kernel
theorem dX11_orders_71 : decode cX11_orders 71 = .ok (.aload_n 0, 1) := by decide +kernel
theorem dX11_orders_72 : decode cX11_orders 72 = .ok (.getfield 42, 3) := by decide +kernel
theorem dX11_orders_75 : decode cX11_orders 75 = .ok (.getfield 257, 3) := by decide +kernel
theorem dX11_orders_78 : decode cX11_orders 78 = .ok (.ifCond .eq 10, 3) := by decide +kernel
theorem dX11_orders_81 : decode cX11_orders 81 = .ok (.aload_n 0, 1) := by decide +kernel
theorem dX11_orders_82 : decode cX11_orders 82 = .ok (.bipush 9, 2) := by decide +kernel
theorem dX11_orders_84 : decode cX11_orders 84 = .ok (.invokevirtual 114, 3) := by decide +kernel
theorem dX11_orders_87 : decode cX11_orders 87 = .ok (.ireturn, 1) := by decide +kernel
theorem dX11_orders_88 : decode cX11_orders 88 = .ok (.aload_n 0, 1) := by decide +kernel
theorem dX11_orders_89 : decode cX11_orders 89 = .ok (.getfield 58, 3) := by decide +kernel
theorem dX11_orders_92 : decode cX11_orders 92 = .ok (.iload_n 2, 1) := by decide +kernel
theorem dX11_orders_93 : decode cX11_orders 93 = .ok (.invokevirtual 160, 3) := by decide +kernel
theorem dX11_orders_96 : decode cX11_orders 96 = .ok (.aload_n 0, 1) := by decide +kernel
theorem dX11_orders_97 : decode cX11_orders 97 = .ok (.aload_n 0, 1) := by decide +kernel
theorem dX11_orders_98 : decode cX11_orders 98 = .ok (.getfield 33, 3) := by decide +kernel
theorem dX11_orders_101 : decode cX11_orders 101 = .ok (.iload_n 2, 1) := by decide +kernel
theorem dX11_orders_102 : decode cX11_orders 102 = .ok (.iload_n 3, 1) := by decide +kernel
theorem dX11_orders_103 : decode cX11_orders 103 = .ok (.invokevirtual 260, 3) := by decide +kernel
theorem dX11_orders_106 : decode cX11_orders 106 = .ok (.invokevirtual 145, 3) := by decide +kernel
theorem dX11_orders_109 : decode cX11_orders 109 = .ok (.ireturn, 1) := by decide +kernel
noncomputable def X11_orders_j32 (w : Wd) : Option (Int32 × Wd) :=
(X11_deny (1 : Int32) w).bind fun q1 =>
some (q1.1, q1.2)
set_option maxRecDepth 20000 in
set_option maxHeartbeats 1000000 in
theorem t_X11_orders_j32 {κ : Kx} (w : Wd) (h : ok (X11_orders_j32  w) (PIw κ)) : J κ RX11 cX11_orders 4 (some .int) (rmk 7 148) 32 [(0, .ref (ad (gm κ) 0))] [] w := by
  unfold X11_orders_j32 at h
  refine j_aload_n 0 dX11_orders_32 rfl rfl ?_
  refine j_iconst (1 : Int32) dX11_orders_33 ki_1 ?_
  obtain ⟨q1, e2, h⟩ := ok_b h
  refine j_callV (As := [.int (1 : Int32)]) (st := []) [.int q1.1] (c_X11_deny (kl κ) (gm κ) (kA κ) (1 : Int32) w q1 e2) ck_RX11_114 im_X11_deny se_X11_deny sh_0 cx_11 ⟨rfl, rfl⟩ ⟨by decide, by decide⟩ rfl rfl (Nat.le_of_ble_eq_true rfl) dX11_orders_34 _ rfl ?_
  have h := ok_s h
  exact j_iret dX11_orders_37 rfl rfl h
noncomputable def X11_orders (a1 : Int32) (a2 : Int32) (a3 : Int32) (w : Wd) : Option (Int32 × Wd) :=
(if (X11_within a1 (0 : Int32) (w.1 65 2) w) = 0 then
X11_orders_j32 w
else
(if (X11_isWeek a2 w) = 0 then
X11_orders_j32 w
else
(if (X11_within a3 (1 : Int32) (15 : Int32) w) = 0 then
X11_orders_j32 w
else
(if (w.1 30 0) < (5 : Int32) then
(X6_parse a1 w).bind fun q3 =>
(some (puI q3 65 2 (0 : Int32))).bind fun w5 =>
(if (w5.1 65 4) = 0 then
(X10_relive a2 w5).bind fun q6 =>
(X0_keepText a2 a3 q6).bind fun q8 =>
(X11_answer q8.1 q8.2).bind fun q10 =>
some (q10.1, q10.2)
else
(X11_deny (9 : Int32) w5).bind fun q12 =>
some (q12.1, q12.2))
else
(X11_deny (4 : Int32) w).bind fun q14 =>
some (q14.1, q14.2)))))
set_option maxRecDepth 20000 in
set_option maxHeartbeats 1000000 in
theorem t_X11_orders {κ : Kx} (a1 : Int32) (a2 : Int32) (a3 : Int32) (w : Wd) (h : ok (X11_orders  a1 a2 a3 w) (PIw κ)) : J κ RX11 cX11_orders 4 (some .int) (rmk 7 148) 0 [(0, .ref (ad (gm κ) 0)), (1, .int a1), (2, .int a2), (3, .int a3)] [] w := by
  unfold X11_orders at h
  refine j_iload_n 1 dX11_orders_0 rfl rfl ?_
  refine j_iconst (0 : Int32) dX11_orders_1 ki_0 ?_
  refine j_aload_n 0 dX11_orders_2 rfl rfl ?_
  refine j_getA 65 fl_RX11_42 sh_0 fk_0_4 (by decide) dX11_orders_3 ?_
  refine j_getI fl_RX11_248 sh_65 fk_65_2 dX11_orders_6 ?_
  refine j_callS (As := [.int a1, .int (0 : Int32), .int (w.1 65 2)]) (st := []) [.int (X11_within a1 (0 : Int32) (w.1 65 2) w)] (c_X11_within (kl κ) (gm κ) (kA κ) a1 (0 : Int32) (w.1 65 2) w) ck_RX11_91 st_X11_within ⟨rfl, rfl⟩ ⟨by decide, by decide⟩ rfl rfl (Nat.le_of_ble_eq_true rfl) dX11_orders_9 _ rfl ?_
  refine j_if_eq 32 dX11_orders_12 (by decide) h (fun h => ?_) (fun h => ?_)
  · refine j_loc [(0, .ref (ad (gm κ) 0))] [0] rfl ?_
    exact t_X11_orders_j32 w h
  · refine j_iload_n 2 dX11_orders_15 rfl rfl ?_
    refine j_callS (As := [.int a2]) (st := []) [.int (X11_isWeek a2 w)] (c_X11_isWeek (kl κ) (gm κ) (kA κ) a2 w) ck_RX11_168 st_X11_isWeek ⟨rfl, rfl⟩ ⟨by decide, by decide⟩ rfl rfl (Nat.le_of_ble_eq_true rfl) dX11_orders_16 _ rfl ?_
    refine j_if_eq 32 dX11_orders_19 (by decide) h (fun h => ?_) (fun h => ?_)
    · refine j_loc [(0, .ref (ad (gm κ) 0))] [0] rfl ?_
      exact t_X11_orders_j32 w h
    · refine j_iload_n 3 dX11_orders_22 rfl rfl ?_
      refine j_iconst (1 : Int32) dX11_orders_23 ki_1 ?_
      refine j_bipush (15 : Int32) dX11_orders_24 kb_15 ?_
      refine j_callS (As := [.int a3, .int (1 : Int32), .int (15 : Int32)]) (st := []) [.int (X11_within a3 (1 : Int32) (15 : Int32) w)] (c_X11_within (kl κ) (gm κ) (kA κ) a3 (1 : Int32) (15 : Int32) w) ck_RX11_91 st_X11_within ⟨rfl, rfl⟩ ⟨by decide, by decide⟩ rfl rfl (Nat.le_of_ble_eq_true rfl) dX11_orders_26 _ rfl ?_
      refine j_if_ne 38 dX11_orders_29 (by decide) h (fun h => ?_) (fun h => ?_)
      · refine j_aload_n 0 dX11_orders_38 rfl rfl ?_
        refine j_getA 30 fl_RX11_33 sh_0 fk_0_3 (by decide) dX11_orders_39 ?_
        refine j_getI fl_RX11_251 sh_30 fk_30_0 dX11_orders_42 ?_
        refine j_iconst (5 : Int32) dX11_orders_45 ki_5 ?_
        refine j_ic_lt 55 dX11_orders_46 (by decide) h (fun h => ?_) (fun h => ?_)
        · refine j_aload_n 0 dX11_orders_55 rfl rfl ?_
          refine j_getA 65 fl_RX11_42 sh_0 fk_0_4 (by decide) dX11_orders_56 ?_
          refine j_iload_n 1 dX11_orders_59 rfl rfl ?_
          obtain ⟨q3, e4, h⟩ := ok_b h
          refine j_callV (As := [.int a1]) (st := []) [] (c_X6_parse (kl κ) (gm κ) (kA κ) a1 w q3 e4) ck_RX11_254 im_X6_parse se_X6_parse sh_65 cx_6 ⟨rfl, rfl⟩ ⟨by decide, by decide⟩ rfl rfl (Nat.le_of_ble_eq_true rfl) dX11_orders_60 _ rfl ?_
          refine j_aload_n 0 dX11_orders_63 rfl rfl ?_
          refine j_getA 65 fl_RX11_42 sh_0 fk_0_4 (by decide) dX11_orders_64 ?_
          refine j_iconst (0 : Int32) dX11_orders_67 ki_0 ?_
          refine j_putI fp_RX11_248 sh_65 fk_65_2 dX11_orders_68 ?_
          refine j_lW h (fun w5 h => ?_)
          refine j_aload_n 0 dX11_orders_71 rfl rfl ?_
          refine j_getA 65 fl_RX11_42 sh_0 fk_0_4 (by decide) dX11_orders_72 ?_
          refine j_getI fl_RX11_257 sh_65 fk_65_4 dX11_orders_75 ?_
          refine j_if_eq 88 dX11_orders_78 (by decide) h (fun h => ?_) (fun h => ?_)
          · refine j_aload_n 0 dX11_orders_88 rfl rfl ?_
            refine j_getA 73 fl_RX11_58 sh_0 fk_0_6 (by decide) dX11_orders_89 ?_
            refine j_iload_n 2 dX11_orders_92 rfl rfl ?_
            obtain ⟨q6, e7, h⟩ := ok_b h
            refine j_callV (As := [.int a2]) (st := []) [] (c_X10_relive (kl κ) (gm κ) (kA κ) a2 w5 q6 e7) ck_RX11_160 im_X10_relive se_X10_relive sh_73 cx_10 ⟨rfl, rfl⟩ ⟨by decide, by decide⟩ rfl rfl (Nat.le_of_ble_eq_true rfl) dX11_orders_93 _ rfl ?_
            refine j_aload_n 0 dX11_orders_96 rfl rfl ?_
            refine j_aload_n 0 dX11_orders_97 rfl rfl ?_
            refine j_getA 30 fl_RX11_33 sh_0 fk_0_3 (by decide) dX11_orders_98 ?_
            refine j_iload_n 2 dX11_orders_101 rfl rfl ?_
            refine j_iload_n 3 dX11_orders_102 rfl rfl ?_
            obtain ⟨q8, e9, h⟩ := ok_b h
            refine j_callV (As := [.int a2, .int a3]) (st := [.ref (ad (gm κ) 0)]) [.int q8.1, .ref (ad (gm κ) 0)] (c_X0_keepText (kl κ) (gm κ) (kA κ) a2 a3 q6 q8 e9) ck_RX11_260 im_X0_keepText se_X0_keepText sh_30 cx_0 ⟨rfl, rfl⟩ ⟨by decide, by decide⟩ rfl rfl (Nat.le_of_ble_eq_true rfl) dX11_orders_103 _ rfl ?_
            obtain ⟨q10, e11, h⟩ := ok_b h
            refine j_callV (As := [.int q8.1]) (st := []) [.int q10.1] (c_X11_answer (kl κ) (gm κ) (kA κ) q8.1 q8.2 q10 e11) ck_RX11_145 im_X11_answer se_X11_answer sh_0 cx_11 ⟨rfl, rfl⟩ ⟨by decide, by decide⟩ rfl rfl (Nat.le_of_ble_eq_true rfl) dX11_orders_106 _ rfl ?_
            have h := ok_s h
            exact j_iret dX11_orders_109 rfl rfl h
          · refine j_aload_n 0 dX11_orders_81 rfl rfl ?_
            refine j_bipush (9 : Int32) dX11_orders_82 kb_9 ?_
            obtain ⟨q12, e13, h⟩ := ok_b h
            refine j_callV (As := [.int (9 : Int32)]) (st := []) [.int q12.1] (c_X11_deny (kl κ) (gm κ) (kA κ) (9 : Int32) w5 q12 e13) ck_RX11_114 im_X11_deny se_X11_deny sh_0 cx_11 ⟨rfl, rfl⟩ ⟨by decide, by decide⟩ rfl rfl (Nat.le_of_ble_eq_true rfl) dX11_orders_84 _ rfl ?_
            have h := ok_s h
            exact j_iret dX11_orders_87 rfl rfl h
        · refine j_aload_n 0 dX11_orders_49 rfl rfl ?_
          refine j_iconst (4 : Int32) dX11_orders_50 ki_4 ?_
          obtain ⟨q14, e15, h⟩ := ok_b h
          refine j_callV (As := [.int (4 : Int32)]) (st := []) [.int q14.1] (c_X11_deny (kl κ) (gm κ) (kA κ) (4 : Int32) w q14 e15) ck_RX11_114 im_X11_deny se_X11_deny sh_0 cx_11 ⟨rfl, rfl⟩ ⟨by decide, by decide⟩ rfl rfl (Nat.le_of_ble_eq_true rfl) dX11_orders_51 _ rfl ?_
          have h := ok_s h
          exact j_iret dX11_orders_54 rfl rfl h
      · refine j_loc [(0, .ref (ad (gm κ) 0))] [0] rfl ?_
        exact t_X11_orders_j32 w h
theorem c_X11_orders (l : Launch) (γ : Gm) (A : Nat → Prop) (a1 : Int32) (a2 : Int32) (a3 : Int32) (w : Wd) (q : Int32 × Wd) (e : X11_orders  a1 a2 a3 w = some q) : MetG l γ A yX11_orders cX11_orders 4 (some .int) (rmk 7 148) [.ref (ad (γ) 0), .int a1, .int a2, .int a3] w (some (.int q.1)) q.2 := by
  refine met_of pn_RX11 (Nat.le_of_ble_eq_true rfl) ?_
  intro κ hl hγ hA hρ
  subst hl; subst hγ; subst hA
  exact t_X11_orders   a1 a2 a3 w ⟨q, e, pIw hρ rfl rfl⟩
theorem dX11_fault_0 : decode cX11_fault 0 = .ok (.iload_n 1, 1) := by decide +kernel
theorem dX11_fault_1 : decode cX11_fault 1 = .ok (.ifCond .ne 11, 3) := by decide +kernel
theorem dX11_fault_4 : decode cX11_fault 4 = .ok (.aload_n 0, 1) := by decide +kernel
theorem dX11_fault_5 : decode cX11_fault 5 = .ok (.getfield 42, 3) := by decide +kernel
theorem dX11_fault_8 : decode cX11_fault 8 = .ok (.getfield 257, 3) := by decide +kernel
theorem dX11_fault_11 : decode cX11_fault 11 = .ok (.ireturn, 1) := by decide +kernel
theorem dX11_fault_12 : decode cX11_fault 12 = .ok (.iload_n 1, 1) := by decide +kernel
theorem dX11_fault_13 : decode cX11_fault 13 = .ok (.iconst 1, 1) := by decide +kernel
theorem dX11_fault_14 : decode cX11_fault 14 = .ok (.if_icmp .ne 13, 3) := by decide +kernel
theorem dX11_fault_17 : decode cX11_fault 17 = .ok (.aload_n 0, 1) := by decide +kernel
theorem dX11_fault_18 : decode cX11_fault 18 = .ok (.getfield 42, 3) := by decide +kernel
theorem dX11_fault_21 : decode cX11_fault 21 = .ok (.getfield 263, 3) := by decide +kernel
theorem dX11_fault_24 : decode cX11_fault 24 = .ok (.goto 4, 3) := by decide +kernel
theorem dX11_fault_27 : decode cX11_fault 27 = .ok (.iconst (-1), 1) := by decide +kernel
theorem dX11_fault_28 : decode cX11_fault 28 = .ok (.ireturn, 1) := by decide +kernel
noncomputable def X11_faultO (a1 : Int32) (w : Wd) : Option (Int32) :=
(if a1 = 0 then
some (w.1 65 4)
else
(if a1 = (1 : Int32) then
some (w.1 65 5)
else
some (-1 : Int32)))
set_option maxRecDepth 20000 in
set_option maxHeartbeats 1000000 in
theorem t_X11_fault {κ : Kx} (a1 : Int32) (w : Wd) (h : ok (X11_faultO  a1 w) (PI κ w)) : J κ RX11 cX11_fault 2 (some .int) (rmk 0 0) 0 [(0, .ref (ad (gm κ) 0)), (1, .int a1)] [] w := by
  unfold X11_faultO at h
  refine j_iload_n 1 dX11_fault_0 rfl rfl ?_
  refine j_if_ne 12 dX11_fault_1 (by decide) h (fun h => ?_) (fun h => ?_)
  · refine j_iload_n 1 dX11_fault_12 rfl rfl ?_
    refine j_iconst (1 : Int32) dX11_fault_13 ki_1 ?_
    refine j_ic_ne 27 dX11_fault_14 (by decide) h (fun h => ?_) (fun h => ?_)
    · refine j_iconst (-1 : Int32) dX11_fault_27 ki_m1 ?_
      have h := ok_s h
      exact j_iret dX11_fault_28 rfl rfl h
    · refine j_aload_n 0 dX11_fault_17 rfl rfl ?_
      refine j_getA 65 fl_RX11_42 sh_0 fk_0_4 (by decide) dX11_fault_18 ?_
      refine j_getI fl_RX11_263 sh_65 fk_65_5 dX11_fault_21 ?_
      refine j_goto 28 dX11_fault_24 (by decide) ?_
      have h := ok_s h
      exact j_iret dX11_fault_28 rfl rfl h
  · refine j_aload_n 0 dX11_fault_4 rfl rfl ?_
    refine j_getA 65 fl_RX11_42 sh_0 fk_0_4 (by decide) dX11_fault_5 ?_
    refine j_getI fl_RX11_257 sh_65 fk_65_4 dX11_fault_8 ?_
    have h := ok_s h
    exact j_iret dX11_fault_11 rfl rfl h
noncomputable def X11_fault (a1 : Int32) (w : Wd) : Int32 := (X11_faultO  a1 w).getD 0
theorem X11_fault_eq (a1 : Int32) (w : Wd) : X11_faultO  a1 w = some (X11_fault  a1 w) := by
  unfold X11_fault X11_faultO
  repeat (first | rfl | split)
theorem c_X11_fault (l : Launch) (γ : Gm) (A : Nat → Prop) (a1 : Int32) (w : Wd) : MetG l γ A yX11_fault cX11_fault 2 (some .int) (rmk 0 0) [.ref (ad (γ) 0), .int a1] w (some (.int (X11_fault  a1 w))) w := by
  refine met_of pn_RX11 (Nat.le_of_ble_eq_true rfl) ?_
  intro κ hl hγ hA hρ
  subst hl; subst hγ; subst hA
  exact t_X11_fault   a1 w ⟨_, X11_fault_eq  a1 w, pI hρ rfl rfl⟩
