theorem dX12_learner_0 : decode cX12_learner 0 = .ok (.aload_n 0, 1) := by decide +kernel
theorem dX12_learner_1 : decode cX12_learner 1 = .ok (.iload_n 1, 1) := by decide +kernel
theorem dX12_learner_2 : decode cX12_learner 2 = .ok (.invokevirtual 319, 3) := by decide +kernel
theorem dX12_learner_5 : decode cX12_learner 5 = .ok (.ifCond .eq 23, 3) := by decide +kernel
theorem dX12_learner_8 : decode cX12_learner 8 = .ok (.iload_n 2, 1) := by decide +kernel
theorem dX12_learner_9 : decode cX12_learner 9 = .ok (.iconst 5, 1) := by decide +kernel
theorem dX12_learner_10 : decode cX12_learner 10 = .ok (.if_icmp .lt 18, 3) := by decide +kernel
theorem dX12_learner_13 : decode cX12_learner 13 = .ok (.iload_n 2, 1) := by decide +kernel
theorem dX12_learner_14 : decode cX12_learner 14 = .ok (.bipush 99, 2) := by decide +kernel
theorem dX12_learner_16 : decode cX12_learner 16 = .ok (.if_icmp .gt 12, 3) := by decide +kernel
theorem dX12_learner_19 : decode cX12_learner 19 = .ok (.iload_n 3, 1) := by decide +kernel
theorem dX12_learner_20 : decode cX12_learner 20 = .ok (.ifCond .lt 8, 3) := by decide +kernel
theorem dX12_learner_23 : decode cX12_learner 23 = .ok (.iload_n 3, 1) := by decide +kernel
theorem dX12_learner_24 : decode cX12_learner 24 = .ok (.iconst 5, 1) := by decide +kernel
theorem dX12_learner_25 : decode cX12_learner 25 = .ok (.if_icmp .lt 9, 3) := by decide +kernel
theorem dX12_learner_28 : decode cX12_learner 28 = .ok (.aload_n 0, 1) := by decide +kernel
theorem dX12_learner_29 : decode cX12_learner 29 = .ok (.iconst 1, 1) := by decide +kernel
theorem dX12_learner_30 : decode cX12_learner 30 = .ok (.invokevirtual 312, 3) := by decide +kernel
theorem dX12_learner_33 : decode cX12_learner 33 = .ok (.ireturn, 1) := by decide +kernel
theorem dX12_learner_34 : decode cX12_learner 34 = .ok (.aload_n 0, 1) := by decide +kernel
theorem dX12_learner_35 : decode cX12_learner 35 = .ok (.getfield 300, 3) := by decide +kernel
theorem dX12_learner_38 : decode cX12_learner 38 = .ok (.bipush 40, 2) := by decide +kernel
theorem dX12_learner_40 : decode cX12_learner 40 = .ok (.if_icmp .ne 9, 3) := by decide +kernel
theorem dX12_learner_43 : decode cX12_learner 43 = .ok (.aload_n 0, 1) := by decide +kernel
theorem dX12_learner_44 : decode cX12_learner 44 = .ok (.iconst 4, 1) := by decide +kernel
theorem dX12_learner_45 : decode cX12_learner 45 = .ok (.invokevirtual 312, 3) := by decide +kernel
theorem dX12_learner_48 : decode cX12_learner 48 = .ok (.ireturn, 1) := by decide +kernel
theorem dX12_learner_49 : decode cX12_learner 49 = .ok (.aload_n 0, 1) := by decide +kernel
theorem dX12_learner_50 : decode cX12_learner 50 = .ok (.getfield 45, 3) := by decide +kernel
theorem dX12_learner_53 : decode cX12_learner 53 = .ok (.aload_n 0, 1) := by decide +kernel
theorem dX12_learner_54 : decode cX12_learner 54 = .ok (.getfield 300, 3) := by decide +kernel
theorem dX12_learner_57 : decode cX12_learner 57 = .ok (.iload_n 1, 1) := by decide +kernel
theorem dX12_learner_58 : decode cX12_learner 58 = .ok (.iastore, 1) := by decide +kernel
theorem dX12_learner_59 : decode cX12_learner 59 = .ok (.aload_n 0, 1) := by decide +kernel
theorem dX12_learner_60 : decode cX12_learner 60 = .ok (.getfield 48, 3) := by decide +kernel
theorem dX12_learner_63 : decode cX12_learner 63 = .ok (.aload_n 0, 1) := by decide +kernel
theorem dX12_learner_64 : decode cX12_learner 64 = .ok (.getfield 300, 3) := by decide +kernel
theorem dX12_learner_67 : decode cX12_learner 67 = .ok (.iload_n 2, 1) := by decide +kernel
theorem dX12_learner_68 : decode cX12_learner 68 = .ok (.iastore, 1) := by decide +kernel
theorem dX12_learner_69 : decode cX12_learner 69 = .ok (.aload_n 0, 1) := by decide +kernel
theorem dX12_learner_70 : decode cX12_learner 70 = .ok (.getfield 51, 3) := by decide +kernel
theorem dX12_learner_73 : decode cX12_learner 73 = .ok (.aload_n 0, 1) := by decide +kernel
theorem dX12_learner_74 : decode cX12_learner 74 = .ok (.getfield 300, 3) := by decide +kernel
theorem dX12_learner_77 : decode cX12_learner 77 = .ok (.iload_n 3, 1) := by decide +kernel
theorem dX12_learner_78 : decode cX12_learner 78 = .ok (.iastore, 1) := by decide +kernel
theorem dX12_learner_79 : decode cX12_learner 79 = .ok (.aload_n 0, 1) := by decide +kernel
theorem dX12_learner_80 : decode cX12_learner 80 = .ok (.dup, 1) := by decide +kernel
theorem dX12_learner_81 : decode cX12_learner 81 = .ok (.getfield 300, 3) := by decide +kernel
theorem dX12_learner_84 : decode cX12_learner 84 = .ok (.iconst 1, 1) := by decide +kernel
theorem dX12_learner_85 : decode cX12_learner 85 = .ok (.iadd, 1) := by decide +kernel
theorem dX12_learner_86 : decode cX12_learner 86 = .ok (.putfield 300, 3) := by decide +kernel
theorem dX12_learner_89 : decode cX12_learner 89 = .ok (.aload_n 0, 1) := by decide +kernel
theorem dX12_learner_90 : decode cX12_learner 90 = .ok (.aload_n 0, 1) := by decide +kernel
theorem dX12_learner_91 : decode cX12_learner 91 = .ok (.getfield 300, 3) := by decide +kernel
theorem dX12_learner_94 : decode cX12_learner 94 = .ok (.iconst 1, 1) := by decide +kernel
theorem dX12_learner_95 : decode cX12_learner 95 = .ok (.isub, 1) := by decide +kernel
theorem dX12_learner_96 : decode cX12_learner 96 = .ok (.invokevirtual 316, 3) := by decide +kernel
theorem dX12_learner_99 : decode cX12_learner 99 = .ok (.ireturn, 1) := by decide +kernel
noncomputable def X12_learner_j28 (w : Wd) : Option (Int32 × Wd) :=
(X12_refuse (1 : Int32) w).bind fun q1 =>
some (q1.1, q1.2)
set_option maxRecDepth 20000 in
set_option maxHeartbeats 1000000 in
theorem t_X12_learner_j28 {κ : Kx} (w : Wd) (h : ok (X12_learner_j28  w) (PIw κ)) : J κ RX12 cX12_learner 4 (some .int) (rmk 1 21) 28 [(0, .ref (ad (gm κ) 97))] [] w := by
  unfold X12_learner_j28 at h
  refine j_aload_n 0 dX12_learner_28 rfl rfl ?_
  refine j_iconst (1 : Int32) dX12_learner_29 ki_1 ?_
  obtain ⟨q1, e2, h⟩ := ok_b h
  refine j_callV (As := [.int (1 : Int32)]) (st := []) [.int q1.1] (c_X12_refuse (kl κ) (gm κ) (kA κ) (1 : Int32) w q1 e2) ck_RX12_312 im_X12_refuse se_X12_refuse sh_97 cx_12 ⟨rfl, rfl⟩ ⟨by decide, by decide⟩ rfl rfl (Nat.le_of_ble_eq_true rfl) dX12_learner_30 _ rfl ?_
  have h := ok_s h
  exact j_iret dX12_learner_33 rfl rfl h
noncomputable def X12_learner (a1 : Int32) (a2 : Int32) (a3 : Int32) (w : Wd) : Option (Int32 × Wd) :=
(if (X12_isPlace a1 w) = 0 then
X12_learner_j28 w
else
(if a2 < (5 : Int32) then
X12_learner_j28 w
else
(if (99 : Int32) < a2 then
X12_learner_j28 w
else
(if a3 < 0 then
X12_learner_j28 w
else
(if a3 < (5 : Int32) then
(if (w.1 97 6) = (40 : Int32) then
(X12_refuse (4 : Int32) w).bind fun q9 =>
some (q9.1, q9.2)
else
gd (vp_in (w.1 97 6) 40) <|
(some (puI w 108 (ix (w.1 97 6)) a1)).bind fun w3 =>
gd (vp_in (w3.1 97 6) 40) <|
(some (puI w3 109 (ix (w3.1 97 6)) a2)).bind fun w4 =>
gd (vp_in (w4.1 97 6) 40) <|
(some (puI w4 110 (ix (w4.1 97 6)) a3)).bind fun w5 =>
(some (puI w5 97 6 ((w5.1 97 6) + (1 : Int32)))).bind fun w6 =>
(X12_gives ((w6.1 97 6) - (1 : Int32)) w6).bind fun q7 =>
some (q7.1, q7.2))
else
X12_learner_j28 w)))))
set_option maxRecDepth 20000 in
set_option maxHeartbeats 1000000 in
theorem t_X12_learner {κ : Kx} (a1 : Int32) (a2 : Int32) (a3 : Int32) (w : Wd) (h : ok (X12_learner  a1 a2 a3 w) (PIw κ)) : J κ RX12 cX12_learner 4 (some .int) (rmk 1 21) 0 [(0, .ref (ad (gm κ) 97)), (1, .int a1), (2, .int a2), (3, .int a3)] [] w := by
  unfold X12_learner at h
  refine j_aload_n 0 dX12_learner_0 rfl rfl ?_
  refine j_iload_n 1 dX12_learner_1 rfl rfl ?_
  refine j_callV (As := [.int a1]) (st := []) [.int (X12_isPlace a1 w)] (c_X12_isPlace (kl κ) (gm κ) (kA κ) a1 w) ck_RX12_319 im_X12_isPlace se_X12_isPlace sh_97 cx_12 ⟨rfl, rfl⟩ ⟨by decide, by decide⟩ rfl rfl (Nat.le_of_ble_eq_true rfl) dX12_learner_2 _ rfl ?_
  refine j_if_eq 28 dX12_learner_5 (by decide) h (fun h => ?_) (fun h => ?_)
  · refine j_loc [(0, .ref (ad (gm κ) 97))] [0] rfl ?_
    exact t_X12_learner_j28 w h
  · refine j_iload_n 2 dX12_learner_8 rfl rfl ?_
    refine j_iconst (5 : Int32) dX12_learner_9 ki_5 ?_
    refine j_ic_lt 28 dX12_learner_10 (by decide) h (fun h => ?_) (fun h => ?_)
    · refine j_loc [(0, .ref (ad (gm κ) 97))] [0] rfl ?_
      exact t_X12_learner_j28 w h
    · refine j_iload_n 2 dX12_learner_13 rfl rfl ?_
      refine j_bipush (99 : Int32) dX12_learner_14 kb_99 ?_
      refine j_ic_gt 28 dX12_learner_16 (by decide) h (fun h => ?_) (fun h => ?_)
      · refine j_loc [(0, .ref (ad (gm κ) 97))] [0] rfl ?_
        exact t_X12_learner_j28 w h
      · refine j_iload_n 3 dX12_learner_19 rfl rfl ?_
        refine j_if_lt 28 dX12_learner_20 (by decide) h (fun h => ?_) (fun h => ?_)
        · refine j_loc [(0, .ref (ad (gm κ) 97))] [0] rfl ?_
          exact t_X12_learner_j28 w h
        · refine j_iload_n 3 dX12_learner_23 rfl rfl ?_
          refine j_iconst (5 : Int32) dX12_learner_24 ki_5 ?_
          refine j_ic_lt 34 dX12_learner_25 (by decide) h (fun h => ?_) (fun h => ?_)
          · refine j_aload_n 0 dX12_learner_34 rfl rfl ?_
            refine j_getI fl_RX12_300 sh_97 fk_97_6 dX12_learner_35 ?_
            refine j_bipush (40 : Int32) dX12_learner_38 kb_40 ?_
            refine j_ic_ne 49 dX12_learner_40 (by decide) h (fun h => ?_) (fun h => ?_)
            · refine j_aload_n 0 dX12_learner_49 rfl rfl ?_
              refine j_getA 108 fl_RX12_45 sh_97 fk_97_19 (by decide) dX12_learner_50 ?_
              refine j_aload_n 0 dX12_learner_53 rfl rfl ?_
              refine j_getI fl_RX12_300 sh_97 fk_97_6 dX12_learner_54 ?_
              refine j_iload_n 1 dX12_learner_57 rfl rfl ?_
              refine j_iast sh_108 dX12_learner_58 h (fun h => ?_)
              refine j_lW h (fun w3 h => ?_)
              refine j_aload_n 0 dX12_learner_59 rfl rfl ?_
              refine j_getA 109 fl_RX12_48 sh_97 fk_97_20 (by decide) dX12_learner_60 ?_
              refine j_aload_n 0 dX12_learner_63 rfl rfl ?_
              refine j_getI fl_RX12_300 sh_97 fk_97_6 dX12_learner_64 ?_
              refine j_iload_n 2 dX12_learner_67 rfl rfl ?_
              refine j_iast sh_109 dX12_learner_68 h (fun h => ?_)
              refine j_lW h (fun w4 h => ?_)
              refine j_aload_n 0 dX12_learner_69 rfl rfl ?_
              refine j_getA 110 fl_RX12_51 sh_97 fk_97_21 (by decide) dX12_learner_70 ?_
              refine j_aload_n 0 dX12_learner_73 rfl rfl ?_
              refine j_getI fl_RX12_300 sh_97 fk_97_6 dX12_learner_74 ?_
              refine j_iload_n 3 dX12_learner_77 rfl rfl ?_
              refine j_iast sh_110 dX12_learner_78 h (fun h => ?_)
              refine j_lW h (fun w5 h => ?_)
              refine j_aload_n 0 dX12_learner_79 rfl rfl ?_
              refine j_dup dX12_learner_80 rfl ?_
              refine j_getI fl_RX12_300 sh_97 fk_97_6 dX12_learner_81 ?_
              refine j_iconst (1 : Int32) dX12_learner_84 ki_1 ?_
              refine j_iadd dX12_learner_85 ?_
              refine j_putI fp_RX12_300 sh_97 fk_97_6 dX12_learner_86 ?_
              refine j_lW h (fun w6 h => ?_)
              refine j_aload_n 0 dX12_learner_89 rfl rfl ?_
              refine j_aload_n 0 dX12_learner_90 rfl rfl ?_
              refine j_getI fl_RX12_300 sh_97 fk_97_6 dX12_learner_91 ?_
              refine j_iconst (1 : Int32) dX12_learner_94 ki_1 ?_
              refine j_isub dX12_learner_95 ?_
              obtain ⟨q7, e8, h⟩ := ok_b h
              refine j_callV (As := [.int ((w6.1 97 6) - (1 : Int32))]) (st := []) [.int q7.1] (c_X12_gives (kl κ) (gm κ) (kA κ) ((w6.1 97 6) - (1 : Int32)) w6 q7 e8) ck_RX12_316 im_X12_gives se_X12_gives sh_97 cx_12 ⟨rfl, rfl⟩ ⟨by decide, by decide⟩ rfl rfl (Nat.le_of_ble_eq_true rfl) dX12_learner_96 _ rfl ?_
              have h := ok_s h
              exact j_iret dX12_learner_99 rfl rfl h
            · refine j_aload_n 0 dX12_learner_43 rfl rfl ?_
              refine j_iconst (4 : Int32) dX12_learner_44 ki_4 ?_
              obtain ⟨q9, e10, h⟩ := ok_b h
              refine j_callV (As := [.int (4 : Int32)]) (st := []) [.int q9.1] (c_X12_refuse (kl κ) (gm κ) (kA κ) (4 : Int32) w q9 e10) ck_RX12_312 im_X12_refuse se_X12_refuse sh_97 cx_12 ⟨rfl, rfl⟩ ⟨by decide, by decide⟩ rfl rfl (Nat.le_of_ble_eq_true rfl) dX12_learner_45 _ rfl ?_
              have h := ok_s h
              exact j_iret dX12_learner_48 rfl rfl h
          · refine j_loc [(0, .ref (ad (gm κ) 97))] [0] rfl ?_
            exact t_X12_learner_j28 w h
theorem c_X12_learner (l : Launch) (γ : Gm) (A : Nat → Prop) (a1 : Int32) (a2 : Int32) (a3 : Int32) (w : Wd) (q : Int32 × Wd) (e : X12_learner  a1 a2 a3 w = some q) : MetG l γ A yX12_learner cX12_learner 4 (some .int) (rmk 1 21) [.ref (ad (γ) 97), .int a1, .int a2, .int a3] w (some (.int q.1)) q.2 := by
  refine met_of pn_RX12 (Nat.le_of_ble_eq_true rfl) ?_
  intro κ hl hγ hA hρ
  subst hl; subst hγ; subst hA
  exact t_X12_learner   a1 a2 a3 w ⟨q, e, pIw hρ rfl rfl⟩
theorem dX12_teacher_0 : decode cX12_teacher 0 = .ok (.iload_n 1, 1) := by decide +kernel
theorem dX12_teacher_1 : decode cX12_teacher 1 = .ok (.iconst 1, 1) := by decide +kernel
theorem dX12_teacher_2 : decode cX12_teacher 2 = .ok (.if_icmp .lt 17, 3) := by decide +kernel
theorem dX12_teacher_5 : decode cX12_teacher 5 = .ok (.iload_n 1, 1) := by decide +kernel
theorem dX12_teacher_6 : decode cX12_teacher 6 = .ok (.bipush 31, 2) := by decide +kernel
theorem dX12_teacher_8 : decode cX12_teacher 8 = .ok (.if_icmp .gt 11, 3) := by decide +kernel
theorem dX12_teacher_11 : decode cX12_teacher 11 = .ok (.aload_n 0, 1) := by decide +kernel
theorem dX12_teacher_12 : decode cX12_teacher 12 = .ok (.iload_n 2, 1) := by decide +kernel
theorem dX12_teacher_13 : decode cX12_teacher 13 = .ok (.invokevirtual 319, 3) := by decide +kernel
theorem dX12_teacher_16 : decode cX12_teacher 16 = .ok (.ifCond .ne 9, 3) := by decide +kernel
theorem dX12_teacher_19 : decode cX12_teacher 19 = .ok (.aload_n 0, 1) := by decide +kernel
theorem dX12_teacher_20 : decode cX12_teacher 20 = .ok (.iconst 1, 1) := by decide +kernel
theorem dX12_teacher_21 : decode cX12_teacher 21 = .ok (.invokevirtual 312, 3) := by decide +kernel
theorem dX12_teacher_24 : decode cX12_teacher 24 = .ok (.ireturn, 1) := by decide +kernel
theorem dX12_teacher_25 : decode cX12_teacher 25 = .ok (.aload_n 0, 1) := by decide +kernel
theorem dX12_teacher_26 : decode cX12_teacher 26 = .ok (.getfield 303, 3) := by decide +kernel
theorem dX12_teacher_29 : decode cX12_teacher 29 = .ok (.bipush 20, 2) := by decide +kernel
theorem dX12_teacher_31 : decode cX12_teacher 31 = .ok (.if_icmp .ne 9, 3) := by decide +kernel
theorem dX12_teacher_34 : decode cX12_teacher 34 = .ok (.aload_n 0, 1) := by decide +kernel
theorem dX12_teacher_35 : decode cX12_teacher 35 = .ok (.iconst 4, 1) := by decide +kernel
theorem dX12_teacher_36 : decode cX12_teacher 36 = .ok (.invokevirtual 312, 3) := by decide +kernel
theorem dX12_teacher_39 : decode cX12_teacher 39 = .ok (.ireturn, 1) := by decide +kernel
theorem dX12_teacher_40 : decode cX12_teacher 40 = .ok (.aload_n 0, 1) := by decide +kernel
theorem dX12_teacher_41 : decode cX12_teacher 41 = .ok (.getfield 54, 3) := by decide +kernel
theorem dX12_teacher_44 : decode cX12_teacher 44 = .ok (.aload_n 0, 1) := by decide +kernel
theorem dX12_teacher_45 : decode cX12_teacher 45 = .ok (.getfield 303, 3) := by decide +kernel
theorem dX12_teacher_48 : decode cX12_teacher 48 = .ok (.iload_n 1, 1) := by decide +kernel
theorem dX12_teacher_49 : decode cX12_teacher 49 = .ok (.iastore, 1) := by decide +kernel
theorem dX12_teacher_50 : decode cX12_teacher 50 = .ok (.aload_n 0, 1) := by decide +kernel
theorem dX12_teacher_51 : decode cX12_teacher 51 = .ok (.getfield 57, 3) := by decide +kernel
theorem dX12_teacher_54 : decode cX12_teacher 54 = .ok (.aload_n 0, 1) := by decide +kernel
theorem dX12_teacher_55 : decode cX12_teacher 55 = .ok (.getfield 303, 3) := by decide +kernel
theorem dX12_teacher_58 : decode cX12_teacher 58 = .ok (.iload_n 2, 1) := by decide +kernel
theorem dX12_teacher_59 : decode cX12_teacher 59 = .ok (.iastore, 1) := by decide +kernel
theorem dX12_teacher_60 : decode cX12_teacher 60 = .ok (.aload_n 0, 1) := by decide +kernel
theorem dX12_teacher_61 : decode cX12_teacher 61 = .ok (.dup, 1) := by decide +kernel
theorem dX12_teacher_62 : decode cX12_teacher 62 = .ok (.getfield 303, 3) := by decide +kernel
theorem dX12_teacher_65 : decode cX12_teacher 65 = .ok (.iconst 1, 1) := by decide +kernel
theorem dX12_teacher_66 : decode cX12_teacher 66 = .ok (.iadd, 1) := by decide +kernel
theorem dX12_teacher_67 : decode cX12_teacher 67 = .ok (.putfield 303, 3) := by decide +kernel
theorem dX12_teacher_70 : decode cX12_teacher 70 = .ok (.aload_n 0, 1) := by decide +kernel
theorem dX12_teacher_71 : decode cX12_teacher 71 = .ok (.aload_n 0, 1) := by decide +kernel
theorem dX12_teacher_72 : decode cX12_teacher 72 = .ok (.getfield 303, 3) := by decide +kernel
theorem dX12_teacher_75 : decode cX12_teacher 75 = .ok (.iconst 1, 1) := by decide +kernel
theorem dX12_teacher_76 : decode cX12_teacher 76 = .ok (.isub, 1) := by decide +kernel
theorem dX12_teacher_77 : decode cX12_teacher 77 = .ok (.invokevirtual 316, 3) := by decide +kernel
theorem dX12_teacher_80 : decode cX12_teacher 80 = .ok (.ireturn, 1) := by decide +kernel
noncomputable def X12_teacher_j19 (w : Wd) : Option (Int32 × Wd) :=
(X12_refuse (1 : Int32) w).bind fun q1 =>
some (q1.1, q1.2)
set_option maxRecDepth 20000 in
set_option maxHeartbeats 1000000 in
theorem t_X12_teacher_j19 {κ : Kx} (w : Wd) (h : ok (X12_teacher_j19  w) (PIw κ)) : J κ RX12 cX12_teacher 3 (some .int) (rmk 1 21) 19 [(0, .ref (ad (gm κ) 97))] [] w := by
  unfold X12_teacher_j19 at h
  refine j_aload_n 0 dX12_teacher_19 rfl rfl ?_
  refine j_iconst (1 : Int32) dX12_teacher_20 ki_1 ?_
  obtain ⟨q1, e2, h⟩ := ok_b h
  refine j_callV (As := [.int (1 : Int32)]) (st := []) [.int q1.1] (c_X12_refuse (kl κ) (gm κ) (kA κ) (1 : Int32) w q1 e2) ck_RX12_312 im_X12_refuse se_X12_refuse sh_97 cx_12 ⟨rfl, rfl⟩ ⟨by decide, by decide⟩ rfl rfl (Nat.le_of_ble_eq_true rfl) dX12_teacher_21 _ rfl ?_
  have h := ok_s h
  exact j_iret dX12_teacher_24 rfl rfl h
noncomputable def X12_teacher (a1 : Int32) (a2 : Int32) (w : Wd) : Option (Int32 × Wd) :=
(if a1 < (1 : Int32) then
X12_teacher_j19 w
else
(if (31 : Int32) < a1 then
X12_teacher_j19 w
else
(if (X12_isPlace a2 w) = 0 then
X12_teacher_j19 w
else
(if (w.1 97 7) = (20 : Int32) then
(X12_refuse (4 : Int32) w).bind fun q8 =>
some (q8.1, q8.2)
else
gd (vp_in (w.1 97 7) 20) <|
(some (puI w 111 (ix (w.1 97 7)) a1)).bind fun w3 =>
gd (vp_in (w3.1 97 7) 20) <|
(some (puI w3 112 (ix (w3.1 97 7)) a2)).bind fun w4 =>
(some (puI w4 97 7 ((w4.1 97 7) + (1 : Int32)))).bind fun w5 =>
(X12_gives ((w5.1 97 7) - (1 : Int32)) w5).bind fun q6 =>
some (q6.1, q6.2)))))
set_option maxRecDepth 20000 in
set_option maxHeartbeats 1000000 in
theorem t_X12_teacher {κ : Kx} (a1 : Int32) (a2 : Int32) (w : Wd) (h : ok (X12_teacher  a1 a2 w) (PIw κ)) : J κ RX12 cX12_teacher 3 (some .int) (rmk 1 21) 0 [(0, .ref (ad (gm κ) 97)), (1, .int a1), (2, .int a2)] [] w := by
  unfold X12_teacher at h
  refine j_iload_n 1 dX12_teacher_0 rfl rfl ?_
  refine j_iconst (1 : Int32) dX12_teacher_1 ki_1 ?_
  refine j_ic_lt 19 dX12_teacher_2 (by decide) h (fun h => ?_) (fun h => ?_)
  · refine j_loc [(0, .ref (ad (gm κ) 97))] [0] rfl ?_
    exact t_X12_teacher_j19 w h
  · refine j_iload_n 1 dX12_teacher_5 rfl rfl ?_
    refine j_bipush (31 : Int32) dX12_teacher_6 kb_31 ?_
    refine j_ic_gt 19 dX12_teacher_8 (by decide) h (fun h => ?_) (fun h => ?_)
    · refine j_loc [(0, .ref (ad (gm κ) 97))] [0] rfl ?_
      exact t_X12_teacher_j19 w h
    · refine j_aload_n 0 dX12_teacher_11 rfl rfl ?_
      refine j_iload_n 2 dX12_teacher_12 rfl rfl ?_
      refine j_callV (As := [.int a2]) (st := []) [.int (X12_isPlace a2 w)] (c_X12_isPlace (kl κ) (gm κ) (kA κ) a2 w) ck_RX12_319 im_X12_isPlace se_X12_isPlace sh_97 cx_12 ⟨rfl, rfl⟩ ⟨by decide, by decide⟩ rfl rfl (Nat.le_of_ble_eq_true rfl) dX12_teacher_13 _ rfl ?_
      refine j_if_ne 25 dX12_teacher_16 (by decide) h (fun h => ?_) (fun h => ?_)
      · refine j_aload_n 0 dX12_teacher_25 rfl rfl ?_
        refine j_getI fl_RX12_303 sh_97 fk_97_7 dX12_teacher_26 ?_
        refine j_bipush (20 : Int32) dX12_teacher_29 kb_20 ?_
        refine j_ic_ne 40 dX12_teacher_31 (by decide) h (fun h => ?_) (fun h => ?_)
        · refine j_aload_n 0 dX12_teacher_40 rfl rfl ?_
          refine j_getA 111 fl_RX12_54 sh_97 fk_97_22 (by decide) dX12_teacher_41 ?_
          refine j_aload_n 0 dX12_teacher_44 rfl rfl ?_
          refine j_getI fl_RX12_303 sh_97 fk_97_7 dX12_teacher_45 ?_
          refine j_iload_n 1 dX12_teacher_48 rfl rfl ?_
          refine j_iast sh_111 dX12_teacher_49 h (fun h => ?_)
          refine j_lW h (fun w3 h => ?_)
          refine j_aload_n 0 dX12_teacher_50 rfl rfl ?_
          refine j_getA 112 fl_RX12_57 sh_97 fk_97_23 (by decide) dX12_teacher_51 ?_
          refine j_aload_n 0 dX12_teacher_54 rfl rfl ?_
          refine j_getI fl_RX12_303 sh_97 fk_97_7 dX12_teacher_55 ?_
          refine j_iload_n 2 dX12_teacher_58 rfl rfl ?_
          refine j_iast sh_112 dX12_teacher_59 h (fun h => ?_)
          refine j_lW h (fun w4 h => ?_)
          refine j_aload_n 0 dX12_teacher_60 rfl rfl ?_
          refine j_dup dX12_teacher_61 rfl ?_
          refine j_getI fl_RX12_303 sh_97 fk_97_7 dX12_teacher_62 ?_
          refine j_iconst (1 : Int32) dX12_teacher_65 ki_1 ?_
          refine j_iadd dX12_teacher_66 ?_
          refine j_putI fp_RX12_303 sh_97 fk_97_7 dX12_teacher_67 ?_
          refine j_lW h (fun w5 h => ?_)
          refine j_aload_n 0 dX12_teacher_70 rfl rfl ?_
          refine j_aload_n 0 dX12_teacher_71 rfl rfl ?_
          refine j_getI fl_RX12_303 sh_97 fk_97_7 dX12_teacher_72 ?_
          refine j_iconst (1 : Int32) dX12_teacher_75 ki_1 ?_
          refine j_isub dX12_teacher_76 ?_
          obtain ⟨q6, e7, h⟩ := ok_b h
          refine j_callV (As := [.int ((w5.1 97 7) - (1 : Int32))]) (st := []) [.int q6.1] (c_X12_gives (kl κ) (gm κ) (kA κ) ((w5.1 97 7) - (1 : Int32)) w5 q6 e7) ck_RX12_316 im_X12_gives se_X12_gives sh_97 cx_12 ⟨rfl, rfl⟩ ⟨by decide, by decide⟩ rfl rfl (Nat.le_of_ble_eq_true rfl) dX12_teacher_77 _ rfl ?_
          have h := ok_s h
          exact j_iret dX12_teacher_80 rfl rfl h
        · refine j_aload_n 0 dX12_teacher_34 rfl rfl ?_
          refine j_iconst (4 : Int32) dX12_teacher_35 ki_4 ?_
          obtain ⟨q8, e9, h⟩ := ok_b h
          refine j_callV (As := [.int (4 : Int32)]) (st := []) [.int q8.1] (c_X12_refuse (kl κ) (gm κ) (kA κ) (4 : Int32) w q8 e9) ck_RX12_312 im_X12_refuse se_X12_refuse sh_97 cx_12 ⟨rfl, rfl⟩ ⟨by decide, by decide⟩ rfl rfl (Nat.le_of_ble_eq_true rfl) dX12_teacher_36 _ rfl ?_
          have h := ok_s h
          exact j_iret dX12_teacher_39 rfl rfl h
      · refine j_loc [(0, .ref (ad (gm κ) 97))] [0] rfl ?_
        exact t_X12_teacher_j19 w h
theorem c_X12_teacher (l : Launch) (γ : Gm) (A : Nat → Prop) (a1 : Int32) (a2 : Int32) (w : Wd) (q : Int32 × Wd) (e : X12_teacher  a1 a2 w = some q) : MetG l γ A yX12_teacher cX12_teacher 3 (some .int) (rmk 1 21) [.ref (ad (γ) 97), .int a1, .int a2] w (some (.int q.1)) q.2 := by
  refine met_of pn_RX12 (Nat.le_of_ble_eq_true rfl) ?_
  intro κ hl hγ hA hρ
  subst hl; subst hγ; subst hA
  exact t_X12_teacher   a1 a2 w ⟨q, e, pIw hρ rfl rfl⟩
theorem dX12_lamp_0 : decode cX12_lamp 0 = .ok (.aload_n 0, 1) := by decide +kernel
theorem dX12_lamp_1 : decode cX12_lamp 1 = .ok (.iload_n 1, 1) := by decide +kernel
theorem dX12_lamp_2 : decode cX12_lamp 2 = .ok (.invokevirtual 319, 3) := by decide +kernel
theorem dX12_lamp_5 : decode cX12_lamp 5 = .ok (.ifCond .ne 9, 3) := by decide +kernel
theorem dX12_lamp_8 : decode cX12_lamp 8 = .ok (.aload_n 0, 1) := by decide +kernel
theorem dX12_lamp_9 : decode cX12_lamp 9 = .ok (.iconst 1, 1) := by decide +kernel
theorem dX12_lamp_10 : decode cX12_lamp 10 = .ok (.invokevirtual 312, 3) := by decide +kernel
theorem dX12_lamp_13 : decode cX12_lamp 13 = .ok (.ireturn, 1) := by decide +kernel
theorem dX12_lamp_14 : decode cX12_lamp 14 = .ok (.aload_n 0, 1) := by decide +kernel
theorem dX12_lamp_15 : decode cX12_lamp 15 = .ok (.getfield 306, 3) := by decide +kernel
theorem dX12_lamp_18 : decode cX12_lamp 18 = .ok (.bipush 12, 2) := by decide +kernel
theorem dX12_lamp_20 : decode cX12_lamp 20 = .ok (.if_icmp .ne 9, 3) := by decide +kernel
theorem dX12_lamp_23 : decode cX12_lamp 23 = .ok (.aload_n 0, 1) := by decide +kernel
theorem dX12_lamp_24 : decode cX12_lamp 24 = .ok (.iconst 4, 1) := by decide +kernel
theorem dX12_lamp_25 : decode cX12_lamp 25 = .ok (.invokevirtual 312, 3) := by decide +kernel
theorem dX12_lamp_28 : decode cX12_lamp 28 = .ok (.ireturn, 1) := by decide +kernel
theorem dX12_lamp_29 : decode cX12_lamp 29 = .ok (.aload_n 0, 1) := by decide +kernel
theorem dX12_lamp_30 : decode cX12_lamp 30 = .ok (.getfield 60, 3) := by decide +kernel
theorem dX12_lamp_33 : decode cX12_lamp 33 = .ok (.aload_n 0, 1) := by decide +kernel
theorem dX12_lamp_34 : decode cX12_lamp 34 = .ok (.getfield 306, 3) := by decide +kernel
theorem dX12_lamp_37 : decode cX12_lamp 37 = .ok (.iload_n 1, 1) := by decide +kernel
theorem dX12_lamp_38 : decode cX12_lamp 38 = .ok (.iastore, 1) := by decide +kernel
theorem dX12_lamp_39 : decode cX12_lamp 39 = .ok (.aload_n 0, 1) := by decide +kernel
theorem dX12_lamp_40 : decode cX12_lamp 40 = .ok (.dup, 1) := by decide +kernel
theorem dX12_lamp_41 : decode cX12_lamp 41 = .ok (.getfield 306, 3) := by decide +kernel
theorem dX12_lamp_44 : decode cX12_lamp 44 = .ok (.iconst 1, 1) := by decide +kernel
theorem dX12_lamp_45 : decode cX12_lamp 45 = .ok (.iadd, 1) := by decide +kernel
theorem dX12_lamp_46 : decode cX12_lamp 46 = .ok (.putfield 306, 3) := by decide +kernel
theorem dX12_lamp_49 : decode cX12_lamp 49 = .ok (.aload_n 0, 1) := by decide +kernel
theorem dX12_lamp_50 : decode cX12_lamp 50 = .ok (.aload_n 0, 1) := by decide +kernel
theorem dX12_lamp_51 : decode cX12_lamp 51 = .ok (.getfield 306, 3) := by decide +kernel
theorem dX12_lamp_54 : decode cX12_lamp 54 = .ok (.iconst 1, 1) := by decide +kernel
theorem dX12_lamp_55 : decode cX12_lamp 55 = .ok (.isub, 1) := by decide +kernel
theorem dX12_lamp_56 : decode cX12_lamp 56 = .ok (.invokevirtual 316, 3) := by decide +kernel
theorem dX12_lamp_59 : decode cX12_lamp 59 = .ok (.ireturn, 1) := by decide +kernel
noncomputable def X12_lamp (a1 : Int32) (w : Wd) : Option (Int32 × Wd) :=
(if (X12_isPlace a1 w) = 0 then
(X12_refuse (1 : Int32) w).bind fun q7 =>
some (q7.1, q7.2)
else
(if (w.1 97 8) = (12 : Int32) then
(X12_refuse (4 : Int32) w).bind fun q5 =>
some (q5.1, q5.2)
else
gd (vp_in (w.1 97 8) 12) <|
(some (puI w 113 (ix (w.1 97 8)) a1)).bind fun w1 =>
(some (puI w1 97 8 ((w1.1 97 8) + (1 : Int32)))).bind fun w2 =>
(X12_gives ((w2.1 97 8) - (1 : Int32)) w2).bind fun q3 =>
some (q3.1, q3.2)))
set_option maxRecDepth 20000 in
set_option maxHeartbeats 1000000 in
theorem t_X12_lamp {κ : Kx} (a1 : Int32) (w : Wd) (h : ok (X12_lamp  a1 w) (PIw κ)) : J κ RX12 cX12_lamp 2 (some .int) (rmk 1 21) 0 [(0, .ref (ad (gm κ) 97)), (1, .int a1)] [] w := by
  unfold X12_lamp at h
  refine j_aload_n 0 dX12_lamp_0 rfl rfl ?_
  refine j_iload_n 1 dX12_lamp_1 rfl rfl ?_
  refine j_callV (As := [.int a1]) (st := []) [.int (X12_isPlace a1 w)] (c_X12_isPlace (kl κ) (gm κ) (kA κ) a1 w) ck_RX12_319 im_X12_isPlace se_X12_isPlace sh_97 cx_12 ⟨rfl, rfl⟩ ⟨by decide, by decide⟩ rfl rfl (Nat.le_of_ble_eq_true rfl) dX12_lamp_2 _ rfl ?_
  refine j_if_ne 14 dX12_lamp_5 (by decide) h (fun h => ?_) (fun h => ?_)
  · refine j_aload_n 0 dX12_lamp_14 rfl rfl ?_
    refine j_getI fl_RX12_306 sh_97 fk_97_8 dX12_lamp_15 ?_
    refine j_bipush (12 : Int32) dX12_lamp_18 kb_12 ?_
    refine j_ic_ne 29 dX12_lamp_20 (by decide) h (fun h => ?_) (fun h => ?_)
    · refine j_aload_n 0 dX12_lamp_29 rfl rfl ?_
      refine j_getA 113 fl_RX12_60 sh_97 fk_97_24 (by decide) dX12_lamp_30 ?_
      refine j_aload_n 0 dX12_lamp_33 rfl rfl ?_
      refine j_getI fl_RX12_306 sh_97 fk_97_8 dX12_lamp_34 ?_
      refine j_iload_n 1 dX12_lamp_37 rfl rfl ?_
      refine j_iast sh_113 dX12_lamp_38 h (fun h => ?_)
      refine j_lW h (fun w1 h => ?_)
      refine j_aload_n 0 dX12_lamp_39 rfl rfl ?_
      refine j_dup dX12_lamp_40 rfl ?_
      refine j_getI fl_RX12_306 sh_97 fk_97_8 dX12_lamp_41 ?_
      refine j_iconst (1 : Int32) dX12_lamp_44 ki_1 ?_
      refine j_iadd dX12_lamp_45 ?_
      refine j_putI fp_RX12_306 sh_97 fk_97_8 dX12_lamp_46 ?_
      refine j_lW h (fun w2 h => ?_)
      refine j_aload_n 0 dX12_lamp_49 rfl rfl ?_
      refine j_aload_n 0 dX12_lamp_50 rfl rfl ?_
      refine j_getI fl_RX12_306 sh_97 fk_97_8 dX12_lamp_51 ?_
      refine j_iconst (1 : Int32) dX12_lamp_54 ki_1 ?_
      refine j_isub dX12_lamp_55 ?_
      obtain ⟨q3, e4, h⟩ := ok_b h
      refine j_callV (As := [.int ((w2.1 97 8) - (1 : Int32))]) (st := []) [.int q3.1] (c_X12_gives (kl κ) (gm κ) (kA κ) ((w2.1 97 8) - (1 : Int32)) w2 q3 e4) ck_RX12_316 im_X12_gives se_X12_gives sh_97 cx_12 ⟨rfl, rfl⟩ ⟨by decide, by decide⟩ rfl rfl (Nat.le_of_ble_eq_true rfl) dX12_lamp_56 _ rfl ?_
      have h := ok_s h
      exact j_iret dX12_lamp_59 rfl rfl h
    · refine j_aload_n 0 dX12_lamp_23 rfl rfl ?_
      refine j_iconst (4 : Int32) dX12_lamp_24 ki_4 ?_
      obtain ⟨q5, e6, h⟩ := ok_b h
      refine j_callV (As := [.int (4 : Int32)]) (st := []) [.int q5.1] (c_X12_refuse (kl κ) (gm κ) (kA κ) (4 : Int32) w q5 e6) ck_RX12_312 im_X12_refuse se_X12_refuse sh_97 cx_12 ⟨rfl, rfl⟩ ⟨by decide, by decide⟩ rfl rfl (Nat.le_of_ble_eq_true rfl) dX12_lamp_25 _ rfl ?_
      have h := ok_s h
      exact j_iret dX12_lamp_28 rfl rfl h
  · refine j_aload_n 0 dX12_lamp_8 rfl rfl ?_
    refine j_iconst (1 : Int32) dX12_lamp_9 ki_1 ?_
    obtain ⟨q7, e8, h⟩ := ok_b h
    refine j_callV (As := [.int (1 : Int32)]) (st := []) [.int q7.1] (c_X12_refuse (kl κ) (gm κ) (kA κ) (1 : Int32) w q7 e8) ck_RX12_312 im_X12_refuse se_X12_refuse sh_97 cx_12 ⟨rfl, rfl⟩ ⟨by decide, by decide⟩ rfl rfl (Nat.le_of_ble_eq_true rfl) dX12_lamp_10 _ rfl ?_
    have h := ok_s h
    exact j_iret dX12_lamp_13 rfl rfl h
theorem c_X12_lamp (l : Launch) (γ : Gm) (A : Nat → Prop) (a1 : Int32) (w : Wd) (q : Int32 × Wd) (e : X12_lamp  a1 w = some q) : MetG l γ A yX12_lamp cX12_lamp 2 (some .int) (rmk 1 21) [.ref (ad (γ) 97), .int a1] w (some (.int q.1)) q.2 := by
  refine met_of pn_RX12 (Nat.le_of_ble_eq_true rfl) ?_
  intro κ hl hγ hA hρ
  subst hl; subst hγ; subst hA
  exact t_X12_lamp   a1 w ⟨q, e, pIw hρ rfl rfl⟩
theorem dX12_note_0 : decode cX12_note 0 = .ok (.iload_n 1, 1) := by decide +kernel
theorem dX12_note_1 : decode cX12_note 1 = .ok (.ifCond .eq 8, 3) := by decide +kernel
theorem dX12_note_4 : decode cX12_note 4 = .ok (.iload_n 1, 1) := by decide +kernel
theorem dX12_note_5 : decode cX12_note 5 = .ok (.iconst 3, 1) := by decide +kernel
theorem dX12_note_6 : decode cX12_note 6 = .ok (.if_icmp .ne 11, 3) := by decide +kernel
theorem dX12_note_9 : decode cX12_note 9 = .ok (.aload_n 0, 1) := by decide +kernel
theorem dX12_note_10 : decode cX12_note 10 = .ok (.iload_n 2, 1) := by decide +kernel
theorem dX12_note_11 : decode cX12_note 11 = .ok (.invokevirtual 336, 3) := by decide +kernel
theorem dX12_note_14 : decode cX12_note 14 = .ok (.goto 8, 3) := by decide +kernel
theorem dX12_note_17 : decode cX12_note 17 = .ok (.aload_n 0, 1) := by decide +kernel
theorem dX12_note_18 : decode cX12_note 18 = .ok (.iload_n 2, 1) := by decide +kernel
theorem dX12_note_19 : decode cX12_note 19 = .ok (.invokevirtual 339, 3) := by decide +kernel
theorem dX12_note_22 : decode cX12_note 22 = .ok (.istore 7, 2) := by decide +kernel
theorem dX12_note_24 : decode cX12_note 24 = .ok (.iload_n 1, 1) := by decide +kernel
theorem dX12_note_25 : decode cX12_note 25 = .ok (.ifCond .eq 8, 3) := by decide +kernel
theorem dX12_note_28 : decode cX12_note 28 = .ok (.iload_n 1, 1) := by decide +kernel
theorem dX12_note_29 : decode cX12_note 29 = .ok (.iconst 1, 1) := by decide +kernel
theorem dX12_note_30 : decode cX12_note 30 = .ok (.if_icmp .ne 11, 3) := by decide +kernel
theorem dX12_note_33 : decode cX12_note 33 = .ok (.aload_n 0, 1) := by decide +kernel
theorem dX12_note_34 : decode cX12_note 34 = .ok (.iload_n 3, 1) := by decide +kernel
theorem dX12_note_35 : decode cX12_note 35 = .ok (.invokevirtual 342, 3) := by decide +kernel
theorem dX12_note_38 : decode cX12_note 38 = .ok (.goto 13, 3) := by decide +kernel
theorem dX12_note_41 : decode cX12_note 41 = .ok (.iload_n 3, 1) := by decide +kernel
theorem dX12_note_42 : decode cX12_note 42 = .ok (.iconst (-1), 1) := by decide +kernel
theorem dX12_note_43 : decode cX12_note 43 = .ok (.if_icmp .ne 7, 3) := by decide +kernel
theorem dX12_note_46 : decode cX12_note 46 = .ok (.iconst 1, 1) := by decide +kernel
theorem dX12_note_47 : decode cX12_note 47 = .ok (.goto 4, 3) := by decide +kernel
theorem dX12_note_50 : decode cX12_note 50 = .ok (.iconst 0, 1) := by decide +kernel
theorem dX12_note_51 : decode cX12_note 51 = .ok (.istore 8, 2) := by decide +kernel
theorem dX12_note_53 : decode cX12_note 53 = .ok (.iload_n 1, 1) := by decide +kernel
theorem dX12_note_54 : decode cX12_note 54 = .ok (.ifCond .lt 49, 3) := by decide +kernel
theorem dX12_note_57 : decode cX12_note 57 = .ok (.iload_n 1, 1) := by decide +kernel
theorem dX12_note_58 : decode cX12_note 58 = .ok (.iconst 3, 1) := by decide +kernel
theorem dX12_note_59 : decode cX12_note 59 = .ok (.if_icmp .gt 44, 3) := by decide +kernel
theorem dX12_note_62 : decode cX12_note 62 = .ok (.iload 7, 2) := by decide +kernel
theorem dX12_note_64 : decode cX12_note 64 = .ok (.ifCond .eq 39, 3) := by decide +kernel
theorem dX12_note_67 : decode cX12_note 67 = .ok (.iload 8, 2) := by decide +kernel
theorem dX12_note_69 : decode cX12_note 69 = .ok (.ifCond .eq 34, 3) := by decide +kernel
theorem dX12_note_72 : decode cX12_note 72 = .ok (.iload 4, 2) := by decide +kernel
theorem dX12_note_74 : decode cX12_note 74 = .ok (.invokestatic 322, 3) := by decide +kernel
theorem dX12_note_77 : decode cX12_note 77 = .ok (.ifCond .eq 26, 3) := by decide +kernel
theorem dX12_note_80 : decode cX12_note 80 = .ok (.iload 5, 2) := by decide +kernel
theorem dX12_note_82 : decode cX12_note 82 = .ok (.invokestatic 322, 3) := by decide +kernel
theorem dX12_note_85 : decode cX12_note 85 = .ok (.ifCond .eq 18, 3) := by decide +kernel
theorem dX12_note_88 : decode cX12_note 88 = .ok (.iload 5, 2) := by decide +kernel
theorem dX12_note_90 : decode cX12_note 90 = .ok (.iload 4, 2) := by decide +kernel
theorem dX12_note_92 : decode cX12_note 92 = .ok (.if_icmp .lt 11, 3) := by decide +kernel
theorem dX12_note_95 : decode cX12_note 95 = .ok (.iload 6, 2) := by decide +kernel
theorem dX12_note_97 : decode cX12_note 97 = .ok (.invokestatic 322, 3) := by decide +kernel
theorem dX12_note_100 : decode cX12_note 100 = .ok (.ifCond .ne 9, 3) := by decide +kernel
theorem dX12_note_103 : decode cX12_note 103 = .ok (.aload_n 0, 1) := by decide +kernel
theorem dX12_note_104 : decode cX12_note 104 = .ok (.iconst 1, 1) := by decide +kernel
theorem dX12_note_105 : decode cX12_note 105 = .ok (.invokevirtual 284, 3) := by decide +kernel
theorem dX12_note_108 : decode cX12_note 108 = .ok (.ireturn, 1) := by decide +kernel
theorem dX12_note_109 : decode cX12_note 109 = .ok (.aload_n 0, 1) := by decide +kernel
theorem dX12_note_110 : decode cX12_note 110 = .ok (.getfield 345, 3) := by decide +kernel
theorem dX12_note_113 : decode cX12_note 113 = .ok (.sipush 160, 3) := by decide +kernel
theorem dX12_note_116 : decode cX12_note 116 = .ok (.if_icmp .ne 9, 3) := by decide +kernel
theorem dX12_note_119 : decode cX12_note 119 = .ok (.aload_n 0, 1) := by decide +kernel
theorem dX12_note_120 : decode cX12_note 120 = .ok (.iconst 4, 1) := by decide +kernel
theorem dX12_note_121 : decode cX12_note 121 = .ok (.invokevirtual 284, 3) := by decide +kernel
theorem dX12_note_124 : decode cX12_note 124 = .ok (.ireturn, 1) := by decide +kernel
theorem dX12_note_125 : decode cX12_note 125 = .ok (.iload 6, 2) := by decide +kernel
theorem dX12_note_127 : decode cX12_note 127 = .ok (.aload_n 0, 1) := by decide +kernel
theorem dX12_note_128 : decode cX12_note 128 = .ok (.getfield 348, 3) := by decide +kernel
theorem dX12_note_131 : decode cX12_note 131 = .ok (.if_icmp .ge 9, 3) := by decide +kernel
theorem dX12_note_134 : decode cX12_note 134 = .ok (.aload_n 0, 1) := by decide +kernel
theorem dX12_note_135 : decode cX12_note 135 = .ok (.iconst 5, 1) := by decide +kernel
theorem dX12_note_136 : decode cX12_note 136 = .ok (.invokevirtual 284, 3) := by decide +kernel
theorem dX12_note_139 : decode cX12_note 139 = .ok (.ireturn, 1) := by decide +kernel
theorem dX12_note_140 : decode cX12_note 140 = .ok (.aload_n 0, 1) := by decide +kernel
theorem dX12_note_141 : decode cX12_note 141 = .ok (.iload 6, 2) := by decide +kernel
theorem dX12_note_143 : decode cX12_note 143 = .ok (.putfield 348, 3) := by decide +kernel
theorem dX12_note_146 : decode cX12_note 146 = .ok (.aload_n 0, 1) := by decide +kernel
theorem dX12_note_147 : decode cX12_note 147 = .ok (.getfield 63, 3) := by decide +kernel
theorem dX12_note_150 : decode cX12_note 150 = .ok (.aload_n 0, 1) := by decide +kernel
theorem dX12_note_151 : decode cX12_note 151 = .ok (.getfield 345, 3) := by decide +kernel
theorem dX12_note_154 : decode cX12_note 154 = .ok (.iload_n 1, 1) := by decide +kernel
theorem dX12_note_155 : decode cX12_note 155 = .ok (.iastore, 1) := by decide +kernel
theorem dX12_note_156 : decode cX12_note 156 = .ok (.aload_n 0, 1) := by decide +kernel
theorem dX12_note_157 : decode cX12_note 157 = .ok (.getfield 66, 3) := by decide +kernel
theorem dX12_note_160 : decode cX12_note 160 = .ok (.aload_n 0, 1) := by decide +kernel
theorem dX12_note_161 : decode cX12_note 161 = .ok (.getfield 345, 3) := by decide +kernel
theorem dX12_note_164 : decode cX12_note 164 = .ok (.iload_n 2, 1) := by decide +kernel
theorem dX12_note_165 : decode cX12_note 165 = .ok (.iastore, 1) := by decide +kernel
theorem dX12_note_166 : decode cX12_note 166 = .ok (.aload_n 0, 1) := by decide +kernel
theorem dX12_note_167 : decode cX12_note 167 = .ok (.getfield 69, 3) := by decide +kernel
theorem dX12_note_170 : decode cX12_note 170 = .ok (.aload_n 0, 1) := by decide +kernel
theorem dX12_note_171 : decode cX12_note 171 = .ok (.getfield 345, 3) := by decide +kernel
theorem dX12_note_174 : decode cX12_note 174 = .ok (.iload_n 3, 1) := by decide +kernel
theorem dX12_note_175 : decode cX12_note 175 = .ok (.iastore, 1) := by decide +kernel
theorem dX12_note_176 : decode cX12_note 176 = .ok (.aload_n 0, 1) := by decide +kernel
theorem dX12_note_177 : decode cX12_note 177 = .ok (.getfield 72, 3) := by decide +kernel
theorem dX12_note_180 : decode cX12_note 180 = .ok (.aload_n 0, 1) := by decide +kernel
theorem dX12_note_181 : decode cX12_note 181 = .ok (.getfield 345, 3) := by decide +kernel
theorem dX12_note_184 : decode cX12_note 184 = .ok (.iload 4, 2) := by decide +kernel
theorem dX12_note_186 : decode cX12_note 186 = .ok (.iastore, 1) := by decide +kernel
theorem dX12_note_187 : decode cX12_note 187 = .ok (.aload_n 0, 1) := by decide +kernel
theorem dX12_note_188 : decode cX12_note 188 = .ok (.getfield 75, 3) := by decide +kernel
theorem dX12_note_191 : decode cX12_note 191 = .ok (.aload_n 0, 1) := by decide +kernel
theorem dX12_note_192 : decode cX12_note 192 = .ok (.getfield 345, 3) := by decide +kernel
theorem dX12_note_195 : decode cX12_note 195 = .ok (.iload 5, 2) := by decide +kernel
theorem dX12_note_197 : decode cX12_note 197 = .ok (.iastore, 1) := by decide +kernel
theorem dX12_note_198 : decode cX12_note 198 = .ok (.aload_n 0, 1) := by decide +kernel
theorem dX12_note_199 : decode cX12_note 199 = .ok (.getfield 78, 3) := by decide +kernel
theorem dX12_note_202 : decode cX12_note 202 = .ok (.aload_n 0, 1) := by decide +kernel
theorem dX12_note_203 : decode cX12_note 203 = .ok (.getfield 345, 3) := by decide +kernel
theorem dX12_note_206 : decode cX12_note 206 = .ok (.iload 6, 2) := by decide +kernel
theorem dX12_note_208 : decode cX12_note 208 = .ok (.iastore, 1) := by decide +kernel
theorem dX12_note_209 : decode cX12_note 209 = .ok (.aload_n 0, 1) := by decide +kernel
theorem dX12_note_210 : decode cX12_note 210 = .ok (.dup, 1) := by decide +kernel
theorem dX12_note_211 : decode cX12_note 211 = .ok (.getfield 345, 3) := by decide +kernel
theorem dX12_note_214 : decode cX12_note 214 = .ok (.iconst 1, 1) := by decide +kernel
theorem dX12_note_215 : decode cX12_note 215 = .ok (.iadd, 1) := by decide +kernel
theorem dX12_note_216 : decode cX12_note 216 = .ok (.putfield 345, 3) := by decide +kernel
theorem dX12_note_219 : decode cX12_note 219 = .ok (.aload_n 0, 1) := by decide +kernel
theorem dX12_note_220 : decode cX12_note 220 = .ok (.iconst 0, 1) := by decide +kernel
theorem dX12_note_221 : decode cX12_note 221 = .ok (.invokevirtual 284, 3) := by decide +kernel
theorem dX12_note_224 : decode cX12_note 224 = .ok (.ireturn, 1) := by decide +kernel
noncomputable def X12_note_j103 (w : Wd) : Option (Int32 × Wd) :=
(X12_is (1 : Int32) w).bind fun q1 =>
gd (narrow .boolean (.int q1.1) = .int q1.1) <|
some (q1.1, q1.2)
set_option maxRecDepth 20000 in
set_option maxHeartbeats 1000000 in
theorem t_X12_note_j103 {κ : Kx} (w : Wd) (h : ok (X12_note_j103  w) (PIw κ)) : J κ RX12 cX12_note 9 (some .boolean) (rmk 1 21) 103 [(0, .ref (ad (gm κ) 97))] [] w := by
  unfold X12_note_j103 at h
  refine j_aload_n 0 dX12_note_103 rfl rfl ?_
  refine j_iconst (1 : Int32) dX12_note_104 ki_1 ?_
  obtain ⟨q1, e2, h⟩ := ok_b h
  refine j_callV (As := [.int (1 : Int32)]) (st := []) [.int q1.1] (c_X12_is (kl κ) (gm κ) (kA κ) (1 : Int32) w q1 e2) ck_RX12_284 im_X12_is se_X12_is sh_97 cx_12 ⟨rfl, rfl⟩ ⟨by decide, by decide⟩ rfl rfl (Nat.le_of_ble_eq_true rfl) dX12_note_105 _ rfl ?_
  obtain ⟨hz, h⟩ := ok_g h
  have h := ok_s h
  exact j_iret dX12_note_108 rfl hz h
noncomputable def X12_note_j51 (a1 : Int32) (a2 : Int32) (a3 : Int32) (a4 : Int32) (a5 : Int32) (a6 : Int32) (a7 : Int32) (s0 : Int32) (w : Wd) : Option (Int32 × Wd) :=
(if a1 < 0 then
X12_note_j103 w
else
(if (3 : Int32) < a1 then
X12_note_j103 w
else
(if a7 = 0 then
X12_note_j103 w
else
(if s0 = 0 then
X12_note_j103 w
else
(if (X12_isWeek a4 w) = 0 then
X12_note_j103 w
else
(if (X12_isWeek a5 w) = 0 then
X12_note_j103 w
else
(if a5 < a4 then
X12_note_j103 w
else
(if (X12_isWeek a6 w) = 0 then
X12_note_j103 w
else
(if (w.1 97 9) = (160 : Int32) then
(X12_is (4 : Int32) w).bind fun q15 =>
gd (narrow .boolean (.int q15.1) = .int q15.1) <|
some (q15.1, q15.2)
else
(if (w.1 97 10) ≤ a6 then
(some (puI w 97 10 a6)).bind fun w3 =>
gd (vp_in (w3.1 97 9) 160) <|
(some (puI w3 114 (ix (w3.1 97 9)) a1)).bind fun w4 =>
gd (vp_in (w4.1 97 9) 160) <|
(some (puI w4 115 (ix (w4.1 97 9)) a2)).bind fun w5 =>
gd (vp_in (w5.1 97 9) 160) <|
(some (puI w5 116 (ix (w5.1 97 9)) a3)).bind fun w6 =>
gd (vp_in (w6.1 97 9) 160) <|
(some (puI w6 117 (ix (w6.1 97 9)) a4)).bind fun w7 =>
gd (vp_in (w7.1 97 9) 160) <|
(some (puI w7 118 (ix (w7.1 97 9)) a5)).bind fun w8 =>
gd (vp_in (w8.1 97 9) 160) <|
(some (puI w8 119 (ix (w8.1 97 9)) a6)).bind fun w9 =>
(some (puI w9 97 9 ((w9.1 97 9) + (1 : Int32)))).bind fun w10 =>
(X12_is (0 : Int32) w10).bind fun q11 =>
gd (narrow .boolean (.int q11.1) = .int q11.1) <|
some (q11.1, q11.2)
else
(X12_is (5 : Int32) w).bind fun q13 =>
gd (narrow .boolean (.int q13.1) = .int q13.1) <|
some (q13.1, q13.2)))))))))))
set_option maxRecDepth 20000 in
set_option maxHeartbeats 1000000 in
theorem t_X12_note_j51 {κ : Kx} (a1 : Int32) (a2 : Int32) (a3 : Int32) (a4 : Int32) (a5 : Int32) (a6 : Int32) (a7 : Int32) (s0 : Int32) (w : Wd) (h : ok (X12_note_j51  a1 a2 a3 a4 a5 a6 a7 s0 w) (PIw κ)) : J κ RX12 cX12_note 9 (some .boolean) (rmk 1 21) 51 [(0, .ref (ad (gm κ) 97)), (1, .int a1), (2, .int a2), (3, .int a3), (4, .int a4), (5, .int a5), (6, .int a6), (7, .int a7)] [.int s0] w := by
  unfold X12_note_j51 at h
  refine j_istore [(8, .int s0), (0, .ref (ad (gm κ) 97)), (1, .int a1), (2, .int a2), (3, .int a3), (4, .int a4), (5, .int a5), (6, .int a6), (7, .int a7)] dX12_note_51 (by decide) rfl ?_
  refine j_iload_n 2 dX12_note_53 rfl rfl ?_
  refine j_if_lt 103 dX12_note_54 (by decide) h (fun h => ?_) (fun h => ?_)
  · refine j_loc [(0, .ref (ad (gm κ) 97))] [1] rfl ?_
    exact t_X12_note_j103 w h
  · refine j_iload_n 2 dX12_note_57 rfl rfl ?_
    refine j_iconst (3 : Int32) dX12_note_58 ki_3 ?_
    refine j_ic_gt 103 dX12_note_59 (by decide) h (fun h => ?_) (fun h => ?_)
    · refine j_loc [(0, .ref (ad (gm κ) 97))] [1] rfl ?_
      exact t_X12_note_j103 w h
    · refine j_iload 8 dX12_note_62 rfl ?_
      refine j_if_eq 103 dX12_note_64 (by decide) h (fun h => ?_) (fun h => ?_)
      · refine j_loc [(0, .ref (ad (gm κ) 97))] [1] rfl ?_
        exact t_X12_note_j103 w h
      · refine j_iload 0 dX12_note_67 rfl ?_
        refine j_if_eq 103 dX12_note_69 (by decide) h (fun h => ?_) (fun h => ?_)
        · refine j_loc [(0, .ref (ad (gm κ) 97))] [1] rfl ?_
          exact t_X12_note_j103 w h
        · refine j_iload 5 dX12_note_72 rfl ?_
          refine j_callS (As := [.int a4]) (st := []) [.int (X12_isWeek a4 w)] (c_X12_isWeek (kl κ) (gm κ) (kA κ) a4 w) ck_RX12_322 st_X12_isWeek ⟨rfl, rfl⟩ ⟨by decide, by decide⟩ rfl rfl (Nat.le_of_ble_eq_true rfl) dX12_note_74 _ rfl ?_
          refine j_if_eq 103 dX12_note_77 (by decide) h (fun h => ?_) (fun h => ?_)
          · refine j_loc [(0, .ref (ad (gm κ) 97))] [1] rfl ?_
            exact t_X12_note_j103 w h
          · refine j_iload 6 dX12_note_80 rfl ?_
            refine j_callS (As := [.int a5]) (st := []) [.int (X12_isWeek a5 w)] (c_X12_isWeek (kl κ) (gm κ) (kA κ) a5 w) ck_RX12_322 st_X12_isWeek ⟨rfl, rfl⟩ ⟨by decide, by decide⟩ rfl rfl (Nat.le_of_ble_eq_true rfl) dX12_note_82 _ rfl ?_
            refine j_if_eq 103 dX12_note_85 (by decide) h (fun h => ?_) (fun h => ?_)
            · refine j_loc [(0, .ref (ad (gm κ) 97))] [1] rfl ?_
              exact t_X12_note_j103 w h
            · refine j_iload 6 dX12_note_88 rfl ?_
              refine j_iload 5 dX12_note_90 rfl ?_
              refine j_ic_lt 103 dX12_note_92 (by decide) h (fun h => ?_) (fun h => ?_)
              · refine j_loc [(0, .ref (ad (gm κ) 97))] [1] rfl ?_
                exact t_X12_note_j103 w h
              · refine j_iload 7 dX12_note_95 rfl ?_
                refine j_callS (As := [.int a6]) (st := []) [.int (X12_isWeek a6 w)] (c_X12_isWeek (kl κ) (gm κ) (kA κ) a6 w) ck_RX12_322 st_X12_isWeek ⟨rfl, rfl⟩ ⟨by decide, by decide⟩ rfl rfl (Nat.le_of_ble_eq_true rfl) dX12_note_97 _ rfl ?_
                refine j_if_ne 109 dX12_note_100 (by decide) h (fun h => ?_) (fun h => ?_)
                · refine j_aload_n 1 dX12_note_109 rfl rfl ?_
                  refine j_getI fl_RX12_345 sh_97 fk_97_9 dX12_note_110 ?_
                  refine j_sipush (160 : Int32) dX12_note_113 ks_160 ?_
                  refine j_ic_ne 125 dX12_note_116 (by decide) h (fun h => ?_) (fun h => ?_)
                  · refine j_iload 7 dX12_note_125 rfl ?_
                    refine j_aload_n 1 dX12_note_127 rfl rfl ?_
                    refine j_getI fl_RX12_348 sh_97 fk_97_10 dX12_note_128 ?_
                    refine j_ic_ge 140 dX12_note_131 (by decide) h (fun h => ?_) (fun h => ?_)
                    · refine j_aload_n 1 dX12_note_140 rfl rfl ?_
                      refine j_iload 7 dX12_note_141 rfl ?_
                      refine j_putI fp_RX12_348 sh_97 fk_97_10 dX12_note_143 ?_
                      refine j_lW h (fun w3 h => ?_)
                      refine j_aload_n 1 dX12_note_146 rfl rfl ?_
                      refine j_getA 114 fl_RX12_63 sh_97 fk_97_25 (by decide) dX12_note_147 ?_
                      refine j_aload_n 1 dX12_note_150 rfl rfl ?_
                      refine j_getI fl_RX12_345 sh_97 fk_97_9 dX12_note_151 ?_
                      refine j_iload_n 2 dX12_note_154 rfl rfl ?_
                      refine j_iast sh_114 dX12_note_155 h (fun h => ?_)
                      refine j_lW h (fun w4 h => ?_)
                      refine j_aload_n 1 dX12_note_156 rfl rfl ?_
                      refine j_getA 115 fl_RX12_66 sh_97 fk_97_26 (by decide) dX12_note_157 ?_
                      refine j_aload_n 1 dX12_note_160 rfl rfl ?_
                      refine j_getI fl_RX12_345 sh_97 fk_97_9 dX12_note_161 ?_
                      refine j_iload_n 3 dX12_note_164 rfl rfl ?_
                      refine j_iast sh_115 dX12_note_165 h (fun h => ?_)
                      refine j_lW h (fun w5 h => ?_)
                      refine j_aload_n 1 dX12_note_166 rfl rfl ?_
                      refine j_getA 116 fl_RX12_69 sh_97 fk_97_27 (by decide) dX12_note_167 ?_
                      refine j_aload_n 1 dX12_note_170 rfl rfl ?_
                      refine j_getI fl_RX12_345 sh_97 fk_97_9 dX12_note_171 ?_
                      refine j_iload_n 4 dX12_note_174 rfl rfl ?_
                      refine j_iast sh_116 dX12_note_175 h (fun h => ?_)
                      refine j_lW h (fun w6 h => ?_)
                      refine j_aload_n 1 dX12_note_176 rfl rfl ?_
                      refine j_getA 117 fl_RX12_72 sh_97 fk_97_28 (by decide) dX12_note_177 ?_
                      refine j_aload_n 1 dX12_note_180 rfl rfl ?_
                      refine j_getI fl_RX12_345 sh_97 fk_97_9 dX12_note_181 ?_
                      refine j_iload 5 dX12_note_184 rfl ?_
                      refine j_iast sh_117 dX12_note_186 h (fun h => ?_)
                      refine j_lW h (fun w7 h => ?_)
                      refine j_aload_n 1 dX12_note_187 rfl rfl ?_
                      refine j_getA 118 fl_RX12_75 sh_97 fk_97_29 (by decide) dX12_note_188 ?_
                      refine j_aload_n 1 dX12_note_191 rfl rfl ?_
                      refine j_getI fl_RX12_345 sh_97 fk_97_9 dX12_note_192 ?_
                      refine j_iload 6 dX12_note_195 rfl ?_
                      refine j_iast sh_118 dX12_note_197 h (fun h => ?_)
                      refine j_lW h (fun w8 h => ?_)
                      refine j_aload_n 1 dX12_note_198 rfl rfl ?_
                      refine j_getA 119 fl_RX12_78 sh_97 fk_97_30 (by decide) dX12_note_199 ?_
                      refine j_aload_n 1 dX12_note_202 rfl rfl ?_
                      refine j_getI fl_RX12_345 sh_97 fk_97_9 dX12_note_203 ?_
                      refine j_iload 7 dX12_note_206 rfl ?_
                      refine j_iast sh_119 dX12_note_208 h (fun h => ?_)
                      refine j_lW h (fun w9 h => ?_)
                      refine j_aload_n 1 dX12_note_209 rfl rfl ?_
                      refine j_dup dX12_note_210 rfl ?_
                      refine j_getI fl_RX12_345 sh_97 fk_97_9 dX12_note_211 ?_
                      refine j_iconst (1 : Int32) dX12_note_214 ki_1 ?_
                      refine j_iadd dX12_note_215 ?_
                      refine j_putI fp_RX12_345 sh_97 fk_97_9 dX12_note_216 ?_
                      refine j_lW h (fun w10 h => ?_)
                      refine j_aload_n 1 dX12_note_219 rfl rfl ?_
                      refine j_iconst (0 : Int32) dX12_note_220 ki_0 ?_
                      obtain ⟨q11, e12, h⟩ := ok_b h
                      refine j_callV (As := [.int (0 : Int32)]) (st := []) [.int q11.1] (c_X12_is (kl κ) (gm κ) (kA κ) (0 : Int32) w10 q11 e12) ck_RX12_284 im_X12_is se_X12_is sh_97 cx_12 ⟨rfl, rfl⟩ ⟨by decide, by decide⟩ rfl rfl (Nat.le_of_ble_eq_true rfl) dX12_note_221 _ rfl ?_
                      obtain ⟨hz, h⟩ := ok_g h
                      have h := ok_s h
                      exact j_iret dX12_note_224 rfl hz h
                    · refine j_aload_n 1 dX12_note_134 rfl rfl ?_
                      refine j_iconst (5 : Int32) dX12_note_135 ki_5 ?_
                      obtain ⟨q13, e14, h⟩ := ok_b h
                      refine j_callV (As := [.int (5 : Int32)]) (st := []) [.int q13.1] (c_X12_is (kl κ) (gm κ) (kA κ) (5 : Int32) w q13 e14) ck_RX12_284 im_X12_is se_X12_is sh_97 cx_12 ⟨rfl, rfl⟩ ⟨by decide, by decide⟩ rfl rfl (Nat.le_of_ble_eq_true rfl) dX12_note_136 _ rfl ?_
                      obtain ⟨hz, h⟩ := ok_g h
                      have h := ok_s h
                      exact j_iret dX12_note_139 rfl hz h
                  · refine j_aload_n 1 dX12_note_119 rfl rfl ?_
                    refine j_iconst (4 : Int32) dX12_note_120 ki_4 ?_
                    obtain ⟨q15, e16, h⟩ := ok_b h
                    refine j_callV (As := [.int (4 : Int32)]) (st := []) [.int q15.1] (c_X12_is (kl κ) (gm κ) (kA κ) (4 : Int32) w q15 e16) ck_RX12_284 im_X12_is se_X12_is sh_97 cx_12 ⟨rfl, rfl⟩ ⟨by decide, by decide⟩ rfl rfl (Nat.le_of_ble_eq_true rfl) dX12_note_121 _ rfl ?_
                    obtain ⟨hz, h⟩ := ok_g h
                    have h := ok_s h
                    exact j_iret dX12_note_124 rfl hz h
                · refine j_loc [(0, .ref (ad (gm κ) 97))] [1] rfl ?_
                  exact t_X12_note_j103 w h
noncomputable def X12_note_j33 (a1 : Int32) (a2 : Int32) (a3 : Int32) (a4 : Int32) (a5 : Int32) (a6 : Int32) (a7 : Int32) (w : Wd) : Option (Int32 × Wd) :=
X12_note_j51 a1 a2 a3 a4 a5 a6 a7 (X12_isLamp a3 w) w
set_option maxRecDepth 20000 in
set_option maxHeartbeats 1000000 in
theorem t_X12_note_j33 {κ : Kx} (a1 : Int32) (a2 : Int32) (a3 : Int32) (a4 : Int32) (a5 : Int32) (a6 : Int32) (a7 : Int32) (w : Wd) (h : ok (X12_note_j33  a1 a2 a3 a4 a5 a6 a7 w) (PIw κ)) : J κ RX12 cX12_note 9 (some .boolean) (rmk 1 21) 33 [(0, .ref (ad (gm κ) 97)), (1, .int a1), (2, .int a2), (3, .int a3), (4, .int a4), (5, .int a5), (6, .int a6), (7, .int a7)] [] w := by
  unfold X12_note_j33 at h
  refine j_aload_n 0 dX12_note_33 rfl rfl ?_
  refine j_iload_n 3 dX12_note_34 rfl rfl ?_
  refine j_callV (As := [.int a3]) (st := []) [.int (X12_isLamp a3 w)] (c_X12_isLamp (kl κ) (gm κ) (kA κ) a3 w) ck_RX12_342 im_X12_isLamp se_X12_isLamp sh_97 cx_12 ⟨rfl, rfl⟩ ⟨by decide, by decide⟩ rfl rfl (Nat.le_of_ble_eq_true rfl) dX12_note_35 _ rfl ?_
  refine j_goto 51 dX12_note_38 (by decide) ?_
  refine j_loc [(0, .ref (ad (gm κ) 97)), (1, .int a1), (2, .int a2), (3, .int a3), (4, .int a4), (5, .int a5), (6, .int a6), (7, .int a7)] [0, 1, 2, 3, 4, 5, 6, 7] rfl ?_
  exact t_X12_note_j51 a1 a2 a3 a4 a5 a6 a7 (X12_isLamp a3 w) w h
noncomputable def X12_note_j22 (a1 : Int32) (a2 : Int32) (a3 : Int32) (a4 : Int32) (a5 : Int32) (a6 : Int32) (s0 : Int32) (w : Wd) : Option (Int32 × Wd) :=
(if a1 = 0 then
X12_note_j33 a1 a2 a3 a4 a5 a6 s0 w
else
(if a1 = (1 : Int32) then
X12_note_j33 a1 a2 a3 a4 a5 a6 s0 w
else
(if a3 = (-1 : Int32) then
X12_note_j51 a1 a2 a3 a4 a5 a6 s0 (1 : Int32) w
else
X12_note_j51 a1 a2 a3 a4 a5 a6 s0 (0 : Int32) w)))
set_option maxRecDepth 20000 in
set_option maxHeartbeats 1000000 in
theorem t_X12_note_j22 {κ : Kx} (a1 : Int32) (a2 : Int32) (a3 : Int32) (a4 : Int32) (a5 : Int32) (a6 : Int32) (s0 : Int32) (w : Wd) (h : ok (X12_note_j22  a1 a2 a3 a4 a5 a6 s0 w) (PIw κ)) : J κ RX12 cX12_note 9 (some .boolean) (rmk 1 21) 22 [(0, .ref (ad (gm κ) 97)), (1, .int a1), (2, .int a2), (3, .int a3), (4, .int a4), (5, .int a5), (6, .int a6)] [.int s0] w := by
  unfold X12_note_j22 at h
  refine j_istore [(7, .int s0), (0, .ref (ad (gm κ) 97)), (1, .int a1), (2, .int a2), (3, .int a3), (4, .int a4), (5, .int a5), (6, .int a6)] dX12_note_22 (by decide) rfl ?_
  refine j_iload_n 2 dX12_note_24 rfl rfl ?_
  refine j_if_eq 33 dX12_note_25 (by decide) h (fun h => ?_) (fun h => ?_)
  · refine j_loc [(0, .ref (ad (gm κ) 97)), (1, .int a1), (2, .int a2), (3, .int a3), (4, .int a4), (5, .int a5), (6, .int a6), (7, .int s0)] [1, 2, 3, 4, 5, 6, 7, 0] rfl ?_
    exact t_X12_note_j33 a1 a2 a3 a4 a5 a6 s0 w h
  · refine j_iload_n 2 dX12_note_28 rfl rfl ?_
    refine j_iconst (1 : Int32) dX12_note_29 ki_1 ?_
    refine j_ic_ne 41 dX12_note_30 (by decide) h (fun h => ?_) (fun h => ?_)
    · refine j_iload_n 4 dX12_note_41 rfl rfl ?_
      refine j_iconst (-1 : Int32) dX12_note_42 ki_m1 ?_
      refine j_ic_ne 50 dX12_note_43 (by decide) h (fun h => ?_) (fun h => ?_)
      · refine j_iconst (0 : Int32) dX12_note_50 ki_0 ?_
        refine j_loc [(0, .ref (ad (gm κ) 97)), (1, .int a1), (2, .int a2), (3, .int a3), (4, .int a4), (5, .int a5), (6, .int a6), (7, .int s0)] [1, 2, 3, 4, 5, 6, 7, 0] rfl ?_
        exact t_X12_note_j51 a1 a2 a3 a4 a5 a6 s0 (0 : Int32) w h
      · refine j_iconst (1 : Int32) dX12_note_46 ki_1 ?_
        refine j_goto 51 dX12_note_47 (by decide) ?_
        refine j_loc [(0, .ref (ad (gm κ) 97)), (1, .int a1), (2, .int a2), (3, .int a3), (4, .int a4), (5, .int a5), (6, .int a6), (7, .int s0)] [1, 2, 3, 4, 5, 6, 7, 0] rfl ?_
        exact t_X12_note_j51 a1 a2 a3 a4 a5 a6 s0 (1 : Int32) w h
    · refine j_loc [(0, .ref (ad (gm κ) 97)), (1, .int a1), (2, .int a2), (3, .int a3), (4, .int a4), (5, .int a5), (6, .int a6), (7, .int s0)] [1, 2, 3, 4, 5, 6, 7, 0] rfl ?_
      exact t_X12_note_j33 a1 a2 a3 a4 a5 a6 s0 w h
noncomputable def X12_note_j9 (a1 : Int32) (a2 : Int32) (a3 : Int32) (a4 : Int32) (a5 : Int32) (a6 : Int32) (w : Wd) : Option (Int32 × Wd) :=
X12_note_j22 a1 a2 a3 a4 a5 a6 (X12_isTeacher a2 w) w
set_option maxRecDepth 20000 in
set_option maxHeartbeats 1000000 in
theorem t_X12_note_j9 {κ : Kx} (a1 : Int32) (a2 : Int32) (a3 : Int32) (a4 : Int32) (a5 : Int32) (a6 : Int32) (w : Wd) (h : ok (X12_note_j9  a1 a2 a3 a4 a5 a6 w) (PIw κ)) : J κ RX12 cX12_note 9 (some .boolean) (rmk 1 21) 9 [(0, .ref (ad (gm κ) 97)), (1, .int a1), (2, .int a2), (3, .int a3), (4, .int a4), (5, .int a5), (6, .int a6)] [] w := by
  unfold X12_note_j9 at h
  refine j_aload_n 0 dX12_note_9 rfl rfl ?_
  refine j_iload_n 2 dX12_note_10 rfl rfl ?_
  refine j_callV (As := [.int a2]) (st := []) [.int (X12_isTeacher a2 w)] (c_X12_isTeacher (kl κ) (gm κ) (kA κ) a2 w) ck_RX12_336 im_X12_isTeacher se_X12_isTeacher sh_97 cx_12 ⟨rfl, rfl⟩ ⟨by decide, by decide⟩ rfl rfl (Nat.le_of_ble_eq_true rfl) dX12_note_11 _ rfl ?_
  refine j_goto 22 dX12_note_14 (by decide) ?_
  refine j_loc [(0, .ref (ad (gm κ) 97)), (1, .int a1), (2, .int a2), (3, .int a3), (4, .int a4), (5, .int a5), (6, .int a6)] [0, 1, 2, 3, 4, 5, 6] rfl ?_
  exact t_X12_note_j22 a1 a2 a3 a4 a5 a6 (X12_isTeacher a2 w) w h
noncomputable def X12_note (a1 : Int32) (a2 : Int32) (a3 : Int32) (a4 : Int32) (a5 : Int32) (a6 : Int32) (w : Wd) : Option (Int32 × Wd) :=
(if a1 = 0 then
X12_note_j9 a1 a2 a3 a4 a5 a6 w
else
(if a1 = (3 : Int32) then
X12_note_j9 a1 a2 a3 a4 a5 a6 w
else
X12_note_j22 a1 a2 a3 a4 a5 a6 (X12_isLearner a2 w) w))
set_option maxRecDepth 20000 in
set_option maxHeartbeats 1000000 in
theorem t_X12_note {κ : Kx} (a1 : Int32) (a2 : Int32) (a3 : Int32) (a4 : Int32) (a5 : Int32) (a6 : Int32) (w : Wd) (h : ok (X12_note  a1 a2 a3 a4 a5 a6 w) (PIw κ)) : J κ RX12 cX12_note 9 (some .boolean) (rmk 1 21) 0 [(0, .ref (ad (gm κ) 97)), (1, .int a1), (2, .int a2), (3, .int a3), (4, .int a4), (5, .int a5), (6, .int a6)] [] w := by
  unfold X12_note at h
  refine j_iload_n 1 dX12_note_0 rfl rfl ?_
  refine j_if_eq 9 dX12_note_1 (by decide) h (fun h => ?_) (fun h => ?_)
  · refine j_loc [(0, .ref (ad (gm κ) 97)), (1, .int a1), (2, .int a2), (3, .int a3), (4, .int a4), (5, .int a5), (6, .int a6)] [0, 1, 2, 3, 4, 5, 6] rfl ?_
    exact t_X12_note_j9 a1 a2 a3 a4 a5 a6 w h
  · refine j_iload_n 1 dX12_note_4 rfl rfl ?_
    refine j_iconst (3 : Int32) dX12_note_5 ki_3 ?_
    refine j_ic_ne 17 dX12_note_6 (by decide) h (fun h => ?_) (fun h => ?_)
    · refine j_aload_n 0 dX12_note_17 rfl rfl ?_
      refine j_iload_n 2 dX12_note_18 rfl rfl ?_
      refine j_callV (As := [.int a2]) (st := []) [.int (X12_isLearner a2 w)] (c_X12_isLearner (kl κ) (gm κ) (kA κ) a2 w) ck_RX12_339 im_X12_isLearner se_X12_isLearner sh_97 cx_12 ⟨rfl, rfl⟩ ⟨by decide, by decide⟩ rfl rfl (Nat.le_of_ble_eq_true rfl) dX12_note_19 _ rfl ?_
      refine j_loc [(0, .ref (ad (gm κ) 97)), (1, .int a1), (2, .int a2), (3, .int a3), (4, .int a4), (5, .int a5), (6, .int a6)] [0, 1, 2, 3, 4, 5, 6] rfl ?_
      exact t_X12_note_j22 a1 a2 a3 a4 a5 a6 (X12_isLearner a2 w) w h
    · refine j_loc [(0, .ref (ad (gm κ) 97)), (1, .int a1), (2, .int a2), (3, .int a3), (4, .int a4), (5, .int a5), (6, .int a6)] [0, 1, 2, 3, 4, 5, 6] rfl ?_
      exact t_X12_note_j9 a1 a2 a3 a4 a5 a6 w h
theorem c_X12_note (l : Launch) (γ : Gm) (A : Nat → Prop) (a1 : Int32) (a2 : Int32) (a3 : Int32) (a4 : Int32) (a5 : Int32) (a6 : Int32) (w : Wd) (q : Int32 × Wd) (e : X12_note  a1 a2 a3 a4 a5 a6 w = some q) : MetG l γ A yX12_note cX12_note 9 (some .boolean) (rmk 1 21) [.ref (ad (γ) 97), .int a1, .int a2, .int a3, .int a4, .int a5, .int a6] w (some (.int q.1)) q.2 := by
  refine met_of pn_RX12 (Nat.le_of_ble_eq_true rfl) ?_
  intro κ hl hγ hA hρ
  subst hl; subst hγ; subst hA
  exact t_X12_note   a1 a2 a3 a4 a5 a6 w ⟨q, e, pIw hρ rfl rfl⟩
theorem dX12_asof_0 : decode cX12_asof 0 = .ok (.iload_n 1, 1) := by decide +kernel
theorem dX12_asof_1 : decode cX12_asof 1 = .ok (.invokestatic 322, 3) := by decide +kernel
theorem dX12_asof_4 : decode cX12_asof 4 = .ok (.ifCond .ne 9, 3) := by decide +kernel
theorem dX12_asof_7 : decode cX12_asof 7 = .ok (.aload_n 0, 1) := by decide +kernel
theorem dX12_asof_8 : decode cX12_asof 8 = .ok (.iconst 1, 1) := by decide +kernel
theorem dX12_asof_9 : decode cX12_asof 9 = .ok (.invokevirtual 284, 3) := by decide +kernel
theorem dX12_asof_12 : decode cX12_asof 12 = .ok (.ireturn, 1) := by decide +kernel
theorem dX12_asof_13 : decode cX12_asof 13 = .ok (.aload_n 0, 1) := by decide +kernel
theorem dX12_asof_14 : decode cX12_asof 14 = .ok (.iload_n 1, 1) := by decide +kernel
theorem dX12_asof_15 : decode cX12_asof 15 = .ok (.putfield 20, 3) := by decide +kernel
theorem dX12_asof_18 : decode cX12_asof 18 = .ok (.aload_n 0, 1) := by decide +kernel
theorem dX12_asof_19 : decode cX12_asof 19 = .ok (.iconst 0, 1) := by decide +kernel
theorem dX12_asof_20 : decode cX12_asof 20 = .ok (.invokevirtual 284, 3) := by decide +kernel
theorem dX12_asof_23 : decode cX12_asof 23 = .ok (.ireturn, 1) := by decide +kernel
noncomputable def X12_asof (a1 : Int32) (w : Wd) : Option (Int32 × Wd) :=
(if (X12_isWeek a1 w) = 0 then
(X12_is (1 : Int32) w).bind fun q4 =>
gd (narrow .boolean (.int q4.1) = .int q4.1) <|
some (q4.1, q4.2)
else
(some (puI w 97 11 a1)).bind fun w1 =>
(X12_is (0 : Int32) w1).bind fun q2 =>
gd (narrow .boolean (.int q2.1) = .int q2.1) <|
some (q2.1, q2.2))
set_option maxRecDepth 20000 in
set_option maxHeartbeats 1000000 in
theorem t_X12_asof {κ : Kx} (a1 : Int32) (w : Wd) (h : ok (X12_asof  a1 w) (PIw κ)) : J κ RX12 cX12_asof 2 (some .boolean) (rmk 1 21) 0 [(0, .ref (ad (gm κ) 97)), (1, .int a1)] [] w := by
  unfold X12_asof at h
  refine j_iload_n 1 dX12_asof_0 rfl rfl ?_
  refine j_callS (As := [.int a1]) (st := []) [.int (X12_isWeek a1 w)] (c_X12_isWeek (kl κ) (gm κ) (kA κ) a1 w) ck_RX12_322 st_X12_isWeek ⟨rfl, rfl⟩ ⟨by decide, by decide⟩ rfl rfl (Nat.le_of_ble_eq_true rfl) dX12_asof_1 _ rfl ?_
  refine j_if_ne 13 dX12_asof_4 (by decide) h (fun h => ?_) (fun h => ?_)
  · refine j_aload_n 0 dX12_asof_13 rfl rfl ?_
    refine j_iload_n 1 dX12_asof_14 rfl rfl ?_
    refine j_putI fp_RX12_20 sh_97 fk_97_11 dX12_asof_15 ?_
    refine j_lW h (fun w1 h => ?_)
    refine j_aload_n 0 dX12_asof_18 rfl rfl ?_
    refine j_iconst (0 : Int32) dX12_asof_19 ki_0 ?_
    obtain ⟨q2, e3, h⟩ := ok_b h
    refine j_callV (As := [.int (0 : Int32)]) (st := []) [.int q2.1] (c_X12_is (kl κ) (gm κ) (kA κ) (0 : Int32) w1 q2 e3) ck_RX12_284 im_X12_is se_X12_is sh_97 cx_12 ⟨rfl, rfl⟩ ⟨by decide, by decide⟩ rfl rfl (Nat.le_of_ble_eq_true rfl) dX12_asof_20 _ rfl ?_
    obtain ⟨hz, h⟩ := ok_g h
    have h := ok_s h
    exact j_iret dX12_asof_23 rfl hz h
  · refine j_aload_n 0 dX12_asof_7 rfl rfl ?_
    refine j_iconst (1 : Int32) dX12_asof_8 ki_1 ?_
    obtain ⟨q4, e5, h⟩ := ok_b h
    refine j_callV (As := [.int (1 : Int32)]) (st := []) [.int q4.1] (c_X12_is (kl κ) (gm κ) (kA κ) (1 : Int32) w q4 e5) ck_RX12_284 im_X12_is se_X12_is sh_97 cx_12 ⟨rfl, rfl⟩ ⟨by decide, by decide⟩ rfl rfl (Nat.le_of_ble_eq_true rfl) dX12_asof_9 _ rfl ?_
    obtain ⟨hz, h⟩ := ok_g h
    have h := ok_s h
    exact j_iret dX12_asof_12 rfl hz h
theorem c_X12_asof (l : Launch) (γ : Gm) (A : Nat → Prop) (a1 : Int32) (w : Wd) (q : Int32 × Wd) (e : X12_asof  a1 w = some q) : MetG l γ A yX12_asof cX12_asof 2 (some .boolean) (rmk 1 21) [.ref (ad (γ) 97), .int a1] w (some (.int q.1)) q.2 := by
  refine met_of pn_RX12 (Nat.le_of_ble_eq_true rfl) ?_
  intro κ hl hγ hA hρ
  subst hl; subst hγ; subst hA
  exact t_X12_asof   a1 w ⟨q, e, pIw hρ rfl rfl⟩
theorem dX12_lampOf_0 : decode cX12_lampOf 0 = .ok (.iconst (-1), 1) := by decide +kernel
theorem dX12_lampOf_1 : decode cX12_lampOf 1 = .ok (.istore 4, 2) := by decide +kernel
theorem dX12_lampOf_3 : decode cX12_lampOf 3 = .ok (.iconst 0, 1) := by decide +kernel
theorem dX12_lampOf_4 : decode cX12_lampOf 4 = .ok (.istore 5, 2) := by decide +kernel
theorem dX12_lampOf_6 : decode cX12_lampOf 6 = .ok (.iload 5, 2) := by decide +kernel
theorem dX12_lampOf_8 : decode cX12_lampOf 8 = .ok (.aload_n 0, 1) := by decide +kernel
theorem dX12_lampOf_9 : decode cX12_lampOf 9 = .ok (.getfield 345, 3) := by decide +kernel
theorem dX12_lampOf_12 : decode cX12_lampOf 12 = .ok (.if_icmp .ge 94, 3) := by decide +kernel
theorem dX12_lampOf_15 : decode cX12_lampOf 15 = .ok (.aload_n 0, 1) := by decide +kernel
theorem dX12_lampOf_16 : decode cX12_lampOf 16 = .ok (.getfield 66, 3) := by decide +kernel
theorem dX12_lampOf_19 : decode cX12_lampOf 19 = .ok (.iload 5, 2) := by decide +kernel
theorem dX12_lampOf_21 : decode cX12_lampOf 21 = .ok (.iaload, 1) := by decide +kernel
theorem dX12_lampOf_22 : decode cX12_lampOf 22 = .ok (.iload_n 2, 1) := by decide +kernel
theorem dX12_lampOf_23 : decode cX12_lampOf 23 = .ok (.if_icmp .ne 77, 3) := by decide +kernel
theorem dX12_lampOf_26 : decode cX12_lampOf 26 = .ok (.iload_n 3, 1) := by decide +kernel
theorem dX12_lampOf_27 : decode cX12_lampOf 27 = .ok (.aload_n 0, 1) := by decide +kernel
theorem dX12_lampOf_28 : decode cX12_lampOf 28 = .ok (.getfield 72, 3) := by decide +kernel
theorem dX12_lampOf_31 : decode cX12_lampOf 31 = .ok (.iload 5, 2) := by decide +kernel
theorem dX12_lampOf_33 : decode cX12_lampOf 33 = .ok (.iaload, 1) := by decide +kernel
theorem dX12_lampOf_34 : decode cX12_lampOf 34 = .ok (.if_icmp .lt 66, 3) := by decide +kernel
theorem dX12_lampOf_37 : decode cX12_lampOf 37 = .ok (.iload_n 3, 1) := by decide +kernel
theorem dX12_lampOf_38 : decode cX12_lampOf 38 = .ok (.aload_n 0, 1) := by decide +kernel
theorem dX12_lampOf_39 : decode cX12_lampOf 39 = .ok (.getfield 75, 3) := by decide +kernel
theorem dX12_lampOf_42 : decode cX12_lampOf 42 = .ok (.iload 5, 2) := by decide +kernel
theorem dX12_lampOf_44 : decode cX12_lampOf 44 = .ok (.iaload, 1) := by decide +kernel
theorem dX12_lampOf_45 : decode cX12_lampOf 45 = .ok (.if_icmp .gt 55, 3) := by decide +kernel
theorem dX12_lampOf_48 : decode cX12_lampOf 48 = .ok (.aload_n 0, 1) := by decide +kernel
theorem dX12_lampOf_49 : decode cX12_lampOf 49 = .ok (.getfield 78, 3) := by decide +kernel
theorem dX12_lampOf_52 : decode cX12_lampOf 52 = .ok (.iload 5, 2) := by decide +kernel
theorem dX12_lampOf_54 : decode cX12_lampOf 54 = .ok (.iaload, 1) := by decide +kernel
theorem dX12_lampOf_55 : decode cX12_lampOf 55 = .ok (.aload_n 0, 1) := by decide +kernel
theorem dX12_lampOf_56 : decode cX12_lampOf 56 = .ok (.getfield 20, 3) := by decide +kernel
theorem dX12_lampOf_59 : decode cX12_lampOf 59 = .ok (.if_icmp .le 6, 3) := by decide +kernel
theorem dX12_lampOf_62 : decode cX12_lampOf 62 = .ok (.goto 38, 3) := by decide +kernel
theorem dX12_lampOf_65 : decode cX12_lampOf 65 = .ok (.aload_n 0, 1) := by decide +kernel
theorem dX12_lampOf_66 : decode cX12_lampOf 66 = .ok (.getfield 63, 3) := by decide +kernel
theorem dX12_lampOf_69 : decode cX12_lampOf 69 = .ok (.iload 5, 2) := by decide +kernel
theorem dX12_lampOf_71 : decode cX12_lampOf 71 = .ok (.iaload, 1) := by decide +kernel
theorem dX12_lampOf_72 : decode cX12_lampOf 72 = .ok (.iconst 3, 1) := by decide +kernel
theorem dX12_lampOf_73 : decode cX12_lampOf 73 = .ok (.iload_n 1, 1) := by decide +kernel
theorem dX12_lampOf_74 : decode cX12_lampOf 74 = .ok (.isub, 1) := by decide +kernel
theorem dX12_lampOf_75 : decode cX12_lampOf 75 = .ok (.if_icmp .ne 5, 3) := by decide +kernel
theorem dX12_lampOf_78 : decode cX12_lampOf 78 = .ok (.iconst (-1), 1) := by decide +kernel
theorem dX12_lampOf_79 : decode cX12_lampOf 79 = .ok (.ireturn, 1) := by decide +kernel
theorem dX12_lampOf_80 : decode cX12_lampOf 80 = .ok (.aload_n 0, 1) := by decide +kernel
theorem dX12_lampOf_81 : decode cX12_lampOf 81 = .ok (.getfield 63, 3) := by decide +kernel
theorem dX12_lampOf_84 : decode cX12_lampOf 84 = .ok (.iload 5, 2) := by decide +kernel
theorem dX12_lampOf_86 : decode cX12_lampOf 86 = .ok (.iaload, 1) := by decide +kernel
theorem dX12_lampOf_87 : decode cX12_lampOf 87 = .ok (.iload_n 1, 1) := by decide +kernel
theorem dX12_lampOf_88 : decode cX12_lampOf 88 = .ok (.if_icmp .ne 12, 3) := by decide +kernel
theorem dX12_lampOf_91 : decode cX12_lampOf 91 = .ok (.aload_n 0, 1) := by decide +kernel
theorem dX12_lampOf_92 : decode cX12_lampOf 92 = .ok (.getfield 69, 3) := by decide +kernel
theorem dX12_lampOf_95 : decode cX12_lampOf 95 = .ok (.iload 5, 2) := by decide +kernel
theorem dX12_lampOf_97 : decode cX12_lampOf 97 = .ok (.iaload, 1) := by decide +kernel
theorem dX12_lampOf_98 : decode cX12_lampOf 98 = .ok (.istore 4, 2) := by decide +kernel
theorem dX12_lampOf_100 : decode cX12_lampOf 100 = .ok (.iinc 5 1, 3) := by decide +kernel
theorem dX12_lampOf_103 : decode cX12_lampOf 103 = .ok (.goto (-97), 3) := by decide +kernel
theorem dX12_lampOf_106 : decode cX12_lampOf 106 = .ok (.iload 4, 2) := by decide +kernel
theorem dX12_lampOf_108 : decode cX12_lampOf 108 = .ok (.ireturn, 1) := by decide +kernel
noncomputable def X12_lampOf_j100 (a1 : Int32) (a2 : Int32) (a3 : Int32) (a4 : Int32) (a5 : Int32) (w : Wd) : Option ((Int32 × Int32) ⊕ (Unit ⊕ Int32)) :=
some (.inl (a4, (a5 + (1 : Int32))))
set_option maxRecDepth 20000 in
set_option maxHeartbeats 1000000 in
theorem t_X12_lampOf_j100 {κ : Kx} (a1 : Int32) (a2 : Int32) (a3 : Int32) (a4 : Int32) (a5 : Int32) (w : Wd) {G : (Int32 × Int32) → Prop} {P : (Unit ⊕ Int32) → Prop} (KG : ∀ s, G s → J κ RX12 cX12_lampOf 6 (some .int) (rmk 0 0) 6 [(0, .ref (ad (gm κ) 97)), (1, .int a1), (2, .int a2), (3, .int a3), (4, .int s.1), (5, .int s.2)] [] w) (K0 : ∀ e, P (.inl e) → J κ RX12 cX12_lampOf 6 (some .int) (rmk 0 0) 78 [] [] w) (K1 : ∀ e, P (.inr e) → J κ RX12 cX12_lampOf 6 (some .int) (rmk 0 0) 106 [(4, .int e)] [] w) (h : ok (X12_lampOf_j100  a1 a2 a3 a4 a5 w) (sel G P)) : J κ RX12 cX12_lampOf 6 (some .int) (rmk 0 0) 100 [(0, .ref (ad (gm κ) 97)), (1, .int a1), (2, .int a2), (3, .int a3), (4, .int a4), (5, .int a5)] [] w := by
  unfold X12_lampOf_j100 at h
  refine j_iinc (a5 + (1 : Int32)) 5 [(5, .int (a5 + (1 : Int32))), (0, .ref (ad (gm κ) 97)), (1, .int a1), (2, .int a2), (3, .int a3), (4, .int a4)] dX12_lampOf_100 rfl (by rw [kn_1]) (by decide) rfl ?_
  refine j_goto 6 dX12_lampOf_103 (by decide) ?_
  refine j_loc [(0, .ref (ad (gm κ) 97)), (1, .int a1), (2, .int a2), (3, .int a3), (4, .int a4), (5, .int (a5 + (1 : Int32)))] [1, 2, 3, 4, 5, 0] rfl ?_
  have h := sel_l h
  have h := KG _ h
  exact h
noncomputable def X12_lampOf_b6 (a1 : Int32) (a2 : Int32) (a3 : Int32) (w : Wd) (s : (Int32 × Int32)) : Option ((Int32 × Int32) ⊕ (Unit ⊕ Int32)) :=
(if (w.1 97 9) ≤ s.2 then
some (.inr (.inr s.1))
else
gd (vp_in s.2 160) <|
(if (w.1 115 (ix s.2)) = a2 then
gd (vp_in s.2 160) <|
(if a3 < (w.1 117 (ix s.2)) then
X12_lampOf_j100 a1 a2 a3 s.1 s.2 w
else
gd (vp_in s.2 160) <|
(if (w.1 118 (ix s.2)) < a3 then
X12_lampOf_j100 a1 a2 a3 s.1 s.2 w
else
gd (vp_in s.2 160) <|
(if (w.1 119 (ix s.2)) ≤ (w.1 97 11) then
gd (vp_in s.2 160) <|
(if (w.1 114 (ix s.2)) = ((3 : Int32) - a1) then
some (.inr (.inl ()))
else
gd (vp_in s.2 160) <|
(if (w.1 114 (ix s.2)) = a1 then
gd (vp_in s.2 160) <|
X12_lampOf_j100 a1 a2 a3 (w.1 116 (ix s.2)) s.2 w
else
X12_lampOf_j100 a1 a2 a3 s.1 s.2 w))
else
X12_lampOf_j100 a1 a2 a3 s.1 s.2 w)))
else
X12_lampOf_j100 a1 a2 a3 s.1 s.2 w))
set_option maxRecDepth 20000 in
set_option maxHeartbeats 1000000 in
theorem t_X12_lampOf_b6 {κ : Kx} (a1 : Int32) (a2 : Int32) (a3 : Int32) (w : Wd) {P : (Unit ⊕ Int32) → Prop} (K0 : ∀ e, P (.inl e) → J κ RX12 cX12_lampOf 6 (some .int) (rmk 0 0) 78 [] [] w) (K1 : ∀ e, P (.inr e) → J κ RX12 cX12_lampOf 6 (some .int) (rmk 0 0) 106 [(4, .int e)] [] w) (s : (Int32 × Int32)) (h : ok (lp (X12_lampOf_b6  a1 a2 a3 w) s) P) : J κ RX12 cX12_lampOf 6 (some .int) (rmk 0 0) 6 [(0, .ref (ad (gm κ) 97)), (1, .int a1), (2, .int a2), (3, .int a3), (4, .int s.1), (5, .int s.2)] [] w := by
  refine lp_ind (fun s => J κ RX12 cX12_lampOf 6 (some .int) (rmk 0 0) 6 [(0, .ref (ad (gm κ) 97)), (1, .int a1), (2, .int a2), (3, .int a3), (4, .int s.1), (5, .int s.2)] [] w) (fun s h => ?_) s h
  unfold X12_lampOf_b6 at h
  refine j_iload 5 dX12_lampOf_6 rfl ?_
  refine j_aload_n 0 dX12_lampOf_8 rfl rfl ?_
  refine j_getI fl_RX12_345 sh_97 fk_97_9 dX12_lampOf_9 ?_
  refine j_ic_ge 106 dX12_lampOf_12 (by decide) h (fun h => ?_) (fun h => ?_)
  · refine j_loc [(4, .int s.1)] [4] rfl ?_
    have h := sel_r h
    have h := K1 _ h
    exact h
  · refine j_aload_n 0 dX12_lampOf_15 rfl rfl ?_
    refine j_getA 115 fl_RX12_66 sh_97 fk_97_26 (by decide) dX12_lampOf_16 ?_
    refine j_iload 5 dX12_lampOf_19 rfl ?_
    refine j_iald sh_115 dX12_lampOf_21 h (fun h => ?_)
    refine j_iload_n 2 dX12_lampOf_22 rfl rfl ?_
    refine j_ic_ne 100 dX12_lampOf_23 (by decide) h (fun h => ?_) (fun h => ?_)
    · refine j_loc [(0, .ref (ad (gm κ) 97)), (1, .int a1), (2, .int a2), (3, .int a3), (4, .int s.1), (5, .int s.2)] [0, 1, 2, 3, 4, 5] rfl ?_
      exact t_X12_lampOf_j100 a1 a2 a3 s.1 s.2 w (fun _ h => h) K0 K1 h
    · refine j_iload_n 3 dX12_lampOf_26 rfl rfl ?_
      refine j_aload_n 0 dX12_lampOf_27 rfl rfl ?_
      refine j_getA 117 fl_RX12_72 sh_97 fk_97_28 (by decide) dX12_lampOf_28 ?_
      refine j_iload 5 dX12_lampOf_31 rfl ?_
      refine j_iald sh_117 dX12_lampOf_33 h (fun h => ?_)
      refine j_ic_lt 100 dX12_lampOf_34 (by decide) h (fun h => ?_) (fun h => ?_)
      · refine j_loc [(0, .ref (ad (gm κ) 97)), (1, .int a1), (2, .int a2), (3, .int a3), (4, .int s.1), (5, .int s.2)] [0, 1, 2, 3, 4, 5] rfl ?_
        exact t_X12_lampOf_j100 a1 a2 a3 s.1 s.2 w (fun _ h => h) K0 K1 h
      · refine j_iload_n 3 dX12_lampOf_37 rfl rfl ?_
        refine j_aload_n 0 dX12_lampOf_38 rfl rfl ?_
        refine j_getA 118 fl_RX12_75 sh_97 fk_97_29 (by decide) dX12_lampOf_39 ?_
        refine j_iload 5 dX12_lampOf_42 rfl ?_
        refine j_iald sh_118 dX12_lampOf_44 h (fun h => ?_)
        refine j_ic_gt 100 dX12_lampOf_45 (by decide) h (fun h => ?_) (fun h => ?_)
        · refine j_loc [(0, .ref (ad (gm κ) 97)), (1, .int a1), (2, .int a2), (3, .int a3), (4, .int s.1), (5, .int s.2)] [0, 1, 2, 3, 4, 5] rfl ?_
          exact t_X12_lampOf_j100 a1 a2 a3 s.1 s.2 w (fun _ h => h) K0 K1 h
        · refine j_aload_n 0 dX12_lampOf_48 rfl rfl ?_
          refine j_getA 119 fl_RX12_78 sh_97 fk_97_30 (by decide) dX12_lampOf_49 ?_
          refine j_iload 5 dX12_lampOf_52 rfl ?_
          refine j_iald sh_119 dX12_lampOf_54 h (fun h => ?_)
          refine j_aload_n 0 dX12_lampOf_55 rfl rfl ?_
          refine j_getI fl_RX12_20 sh_97 fk_97_11 dX12_lampOf_56 ?_
          refine j_ic_le 65 dX12_lampOf_59 (by decide) h (fun h => ?_) (fun h => ?_)
          · refine j_aload_n 0 dX12_lampOf_65 rfl rfl ?_
            refine j_getA 114 fl_RX12_63 sh_97 fk_97_25 (by decide) dX12_lampOf_66 ?_
            refine j_iload 5 dX12_lampOf_69 rfl ?_
            refine j_iald sh_114 dX12_lampOf_71 h (fun h => ?_)
            refine j_iconst (3 : Int32) dX12_lampOf_72 ki_3 ?_
            refine j_iload_n 1 dX12_lampOf_73 rfl rfl ?_
            refine j_isub dX12_lampOf_74 ?_
            refine j_ic_ne 80 dX12_lampOf_75 (by decide) h (fun h => ?_) (fun h => ?_)
            · refine j_aload_n 0 dX12_lampOf_80 rfl rfl ?_
              refine j_getA 114 fl_RX12_63 sh_97 fk_97_25 (by decide) dX12_lampOf_81 ?_
              refine j_iload 5 dX12_lampOf_84 rfl ?_
              refine j_iald sh_114 dX12_lampOf_86 h (fun h => ?_)
              refine j_iload_n 1 dX12_lampOf_87 rfl rfl ?_
              refine j_ic_ne 100 dX12_lampOf_88 (by decide) h (fun h => ?_) (fun h => ?_)
              · refine j_loc [(0, .ref (ad (gm κ) 97)), (1, .int a1), (2, .int a2), (3, .int a3), (4, .int s.1), (5, .int s.2)] [0, 1, 2, 3, 4, 5] rfl ?_
                exact t_X12_lampOf_j100 a1 a2 a3 s.1 s.2 w (fun _ h => h) K0 K1 h
              · refine j_aload_n 0 dX12_lampOf_91 rfl rfl ?_
                refine j_getA 116 fl_RX12_69 sh_97 fk_97_27 (by decide) dX12_lampOf_92 ?_
                refine j_iload 5 dX12_lampOf_95 rfl ?_
                refine j_iald sh_116 dX12_lampOf_97 h (fun h => ?_)
                refine j_istore [(4, .int (w.1 116 (ix s.2))), (0, .ref (ad (gm κ) 97)), (1, .int a1), (2, .int a2), (3, .int a3), (5, .int s.2)] dX12_lampOf_98 (by decide) rfl ?_
                refine j_loc [(0, .ref (ad (gm κ) 97)), (1, .int a1), (2, .int a2), (3, .int a3), (4, .int (w.1 116 (ix s.2))), (5, .int s.2)] [1, 2, 3, 4, 0, 5] rfl ?_
                exact t_X12_lampOf_j100 a1 a2 a3 (w.1 116 (ix s.2)) s.2 w (fun _ h => h) K0 K1 h
            · refine j_loc [] [] rfl ?_
              have h := sel_r h
              have h := K0 _ h
              exact h
          · refine j_goto 100 dX12_lampOf_62 (by decide) ?_
            refine j_loc [(0, .ref (ad (gm κ) 97)), (1, .int a1), (2, .int a2), (3, .int a3), (4, .int s.1), (5, .int s.2)] [0, 1, 2, 3, 4, 5] rfl ?_
            exact t_X12_lampOf_j100 a1 a2 a3 s.1 s.2 w (fun _ h => h) K0 K1 h
noncomputable def X12_lampOf (a1 : Int32) (a2 : Int32) (a3 : Int32) (w : Wd) : Option (Int32) :=
(lp (X12_lampOf_b6 a1 a2 a3 w) ((-1 : Int32), (0 : Int32))).bind fun e1 => match e1 with
| (.inl e2) => (some (-1 : Int32))
| (.inr e3) => (some e3)
set_option maxRecDepth 20000 in
set_option maxHeartbeats 1000000 in
theorem t_X12_lampOf {κ : Kx} (a1 : Int32) (a2 : Int32) (a3 : Int32) (w : Wd) (h : ok (X12_lampOf  a1 a2 a3 w) (PI κ w)) : J κ RX12 cX12_lampOf 6 (some .int) (rmk 0 0) 0 [(0, .ref (ad (gm κ) 97)), (1, .int a1), (2, .int a2), (3, .int a3)] [] w := by
  unfold X12_lampOf at h
  refine j_iconst (-1 : Int32) dX12_lampOf_0 ki_m1 ?_
  refine j_istore [(4, .int (-1 : Int32)), (0, .ref (ad (gm κ) 97)), (1, .int a1), (2, .int a2), (3, .int a3)] dX12_lampOf_1 (by decide) rfl ?_
  refine j_iconst (0 : Int32) dX12_lampOf_3 ki_0 ?_
  refine j_istore [(5, .int (0 : Int32)), (4, .int (-1 : Int32)), (0, .ref (ad (gm κ) 97)), (1, .int a1), (2, .int a2), (3, .int a3)] dX12_lampOf_4 (by decide) rfl ?_
  refine j_loc [(0, .ref (ad (gm κ) 97)), (1, .int a1), (2, .int a2), (3, .int a3), (4, .int (-1 : Int32)), (5, .int (0 : Int32))] [2, 3, 4, 5, 1, 0] rfl ?_
  refine t_X12_lampOf_b6 a1 a2 a3 w (fun e2 h => ?_) (fun e3 h => ?_) ((-1 : Int32), (0 : Int32)) (ok_bb h)
  · refine j_iconst (-1 : Int32) dX12_lampOf_78 ki_m1 ?_
    have h := ok_s h
    exact j_iret dX12_lampOf_79 rfl rfl h
  · refine j_iload 0 dX12_lampOf_106 rfl ?_
    have h := ok_s h
    exact j_iret dX12_lampOf_108 rfl rfl h
theorem c_X12_lampOf (l : Launch) (γ : Gm) (A : Nat → Prop) (a1 : Int32) (a2 : Int32) (a3 : Int32) (w : Wd) (q : Int32) (e : X12_lampOf  a1 a2 a3 w = some q) : MetG l γ A yX12_lampOf cX12_lampOf 6 (some .int) (rmk 0 0) [.ref (ad (γ) 97), .int a1, .int a2, .int a3] w (some (.int q)) w := by
  refine met_of pn_RX12 (Nat.le_of_ble_eq_true rfl) ?_
  intro κ hl hγ hA hρ
  subst hl; subst hγ; subst hA
  exact t_X12_lampOf   a1 a2 a3 w ⟨q, e, pI hρ rfl rfl⟩
