theorem dX11_proof_0 : decode cX11_proof 0 = .ok (.aload_n 0, 1) := by decide +kernel
theorem dX11_proof_1 : decode cX11_proof 1 = .ok (.getfield 19, 3) := by decide +kernel
theorem dX11_proof_4 : decode cX11_proof 4 = .ok (.iload_n 1, 1) := by decide +kernel
theorem dX11_proof_5 : decode cX11_proof 5 = .ok (.invokevirtual 220, 3) := by decide +kernel
theorem dX11_proof_8 : decode cX11_proof 8 = .ok (.ifCond .eq 25, 3) := by decide +kernel
theorem dX11_proof_11 : decode cX11_proof 11 = .ok (.iload_n 2, 1) := by decide +kernel
theorem dX11_proof_12 : decode cX11_proof 12 = .ok (.invokestatic 168, 3) := by decide +kernel
theorem dX11_proof_15 : decode cX11_proof 15 = .ok (.ifCond .eq 18, 3) := by decide +kernel
theorem dX11_proof_18 : decode cX11_proof 18 = .ok (.lload_n 3, 1) := by decide +kernel
theorem dX11_proof_19 : decode cX11_proof 19 = .ok (.invokestatic 320, 3) := by decide +kernel
theorem dX11_proof_22 : decode cX11_proof 22 = .ok (.ifCond .eq 11, 3) := by decide +kernel
theorem dX11_proof_25 : decode cX11_proof 25 = .ok (.lload 5, 2) := by decide +kernel
theorem dX11_proof_27 : decode cX11_proof 27 = .ok (.invokestatic 320, 3) := by decide +kernel
theorem dX11_proof_30 : decode cX11_proof 30 = .ok (.ifCond .ne 9, 3) := by decide +kernel
theorem dX11_proof_33 : decode cX11_proof 33 = .ok (.aload_n 0, 1) := by decide +kernel
theorem dX11_proof_34 : decode cX11_proof 34 = .ok (.iconst 1, 1) := by decide +kernel
theorem dX11_proof_35 : decode cX11_proof 35 = .ok (.invokevirtual 114, 3) := by decide +kernel
theorem dX11_proof_38 : decode cX11_proof 38 = .ok (.ireturn, 1) := by decide +kernel
theorem dX11_proof_39 : decode cX11_proof 39 = .ok (.aload_n 0, 1) := by decide +kernel
theorem dX11_proof_40 : decode cX11_proof 40 = .ok (.getfield 65, 3) := by decide +kernel
theorem dX11_proof_43 : decode cX11_proof 43 = .ok (.getfield 324, 3) := by decide +kernel
theorem dX11_proof_46 : decode cX11_proof 46 = .ok (.bipush 60, 2) := by decide +kernel
theorem dX11_proof_48 : decode cX11_proof 48 = .ok (.if_icmp .lt 11, 3) := by decide +kernel
theorem dX11_proof_51 : decode cX11_proof 51 = .ok (.aload_n 0, 1) := by decide +kernel
theorem dX11_proof_52 : decode cX11_proof 52 = .ok (.iconst 4, 1) := by decide +kernel
theorem dX11_proof_53 : decode cX11_proof 53 = .ok (.invokevirtual 114, 3) := by decide +kernel
theorem dX11_proof_56 : decode cX11_proof 56 = .ok (.goto 19, 3) := by decide +kernel
theorem dX11_proof_59 : decode cX11_proof 59 = .ok (.aload_n 0, 1) := by decide +kernel
theorem dX11_proof_60 : decode cX11_proof 60 = .ok (.aload_n 0, 1) := by decide +kernel
theorem dX11_proof_61 : decode cX11_proof 61 = .ok (.getfield 65, 3) := by decide +kernel
theorem dX11_proof_64 : decode cX11_proof 64 = .ok (.iload_n 1, 1) := by decide +kernel
theorem dX11_proof_65 : decode cX11_proof 65 = .ok (.iload_n 2, 1) := by decide +kernel
theorem dX11_proof_66 : decode cX11_proof 66 = .ok (.lload_n 3, 1) := by decide +kernel
theorem dX11_proof_67 : decode cX11_proof 67 = .ok (.lload 5, 2) := by decide +kernel
theorem dX11_proof_69 : decode cX11_proof 69 = .ok (.invokevirtual 325, 3) := by decide +kernel
theorem dX11_proof_72 : decode cX11_proof 72 = .ok (.invokevirtual 145, 3) := by decide +kernel
theorem dX11_proof_75 : decode cX11_proof 75 = .ok (.ireturn, 1) := by decide +kernel
noncomputable def X11_proof_j33 (w : Wd) : Option (Int32 × Wd) :=
(X11_deny (1 : Int32) w).bind fun q1 =>
some (q1.1, q1.2)
set_option maxRecDepth 20000 in
set_option maxHeartbeats 1000000 in
theorem t_X11_proof_j33 {κ : Kx} (w : Wd) (h : ok (X11_proof_j33  w) (PIw κ)) : J κ RX11 cX11_proof 7 (some .int) (rmk 3 78) 33 [(0, .ref (ad (gm κ) 0))] [] w := by
  unfold X11_proof_j33 at h
  refine j_aload_n 0 dX11_proof_33 rfl rfl ?_
  refine j_iconst (1 : Int32) dX11_proof_34 ki_1 ?_
  obtain ⟨q1, e2, h⟩ := ok_b h
  refine j_callV (As := [.int (1 : Int32)]) (st := []) [.int q1.1] (c_X11_deny (kl κ) (gm κ) (kA κ) (1 : Int32) w q1 e2) ck_RX11_114 im_X11_deny se_X11_deny sh_0 cx_11 ⟨rfl, rfl⟩ ⟨by decide, by decide⟩ rfl rfl (Nat.le_of_ble_eq_true rfl) dX11_proof_35 _ rfl ?_
  have h := ok_s h
  exact j_iret dX11_proof_38 rfl rfl h
noncomputable def X11_proof (a1 : Int32) (a2 : Int32) (a3 : Int64) (a5 : Int64) (w : Wd) : Option (Int32 × Wd) :=
(if (X2_isLearner a1 w) = 0 then
X11_proof_j33 w
else
(if (X11_isWeek a2 w) = 0 then
X11_proof_j33 w
else
(X5_lengthOf a3 w).bind fun q3 =>
(if q3 = 0 then
X11_proof_j33 w
else
(X5_lengthOf a5 w).bind fun q5 =>
(if q5 = 0 then
X11_proof_j33 w
else
(if (w.1 80 0) < (60 : Int32) then
(X5_add a1 a2 a3 a5 w).bind fun q7 =>
(X11_answer q7.1 q7.2).bind fun q9 =>
some (q9.1, q9.2)
else
(X11_deny (4 : Int32) w).bind fun q11 =>
some (q11.1, q11.2))))))
set_option maxRecDepth 20000 in
set_option maxHeartbeats 1000000 in
theorem t_X11_proof {κ : Kx} (a1 : Int32) (a2 : Int32) (a3 : Int64) (a5 : Int64) (w : Wd) (h : ok (X11_proof  a1 a2 a3 a5 w) (PIw κ)) : J κ RX11 cX11_proof 7 (some .int) (rmk 3 78) 0 [(0, .ref (ad (gm κ) 0)), (1, .int a1), (2, .int a2), (3, .long a3), (5, .long a5)] [] w := by
  unfold X11_proof at h
  refine j_aload_n 0 dX11_proof_0 rfl rfl ?_
  refine j_getA 5 fl_RX11_19 sh_0 fk_0_1 (by decide) dX11_proof_1 ?_
  refine j_iload_n 1 dX11_proof_4 rfl rfl ?_
  refine j_callV (As := [.int a1]) (st := []) [.int (X2_isLearner a1 w)] (c_X2_isLearner (kl κ) (gm κ) (kA κ) a1 w) ck_RX11_220 im_X2_isLearner se_X2_isLearner sh_5 cx_2 ⟨rfl, rfl⟩ ⟨by decide, by decide⟩ rfl rfl (Nat.le_of_ble_eq_true rfl) dX11_proof_5 _ rfl ?_
  refine j_if_eq 33 dX11_proof_8 (by decide) h (fun h => ?_) (fun h => ?_)
  · refine j_loc [(0, .ref (ad (gm κ) 0))] [0] rfl ?_
    exact t_X11_proof_j33 w h
  · refine j_iload_n 2 dX11_proof_11 rfl rfl ?_
    refine j_callS (As := [.int a2]) (st := []) [.int (X11_isWeek a2 w)] (c_X11_isWeek (kl κ) (gm κ) (kA κ) a2 w) ck_RX11_168 st_X11_isWeek ⟨rfl, rfl⟩ ⟨by decide, by decide⟩ rfl rfl (Nat.le_of_ble_eq_true rfl) dX11_proof_12 _ rfl ?_
    refine j_if_eq 33 dX11_proof_15 (by decide) h (fun h => ?_) (fun h => ?_)
    · refine j_loc [(0, .ref (ad (gm κ) 0))] [0] rfl ?_
      exact t_X11_proof_j33 w h
    · refine j_lload_n 3 dX11_proof_18 rfl rfl ?_
      obtain ⟨q3, e4, h⟩ := ok_b h
      refine j_callS (As := [.long a3]) (st := []) [.int q3] (c_X5_lengthOf (kl κ) (gm κ) (kA κ) a3 w q3 e4) ck_RX11_320 st_X5_lengthOf ⟨rfl, rfl⟩ ⟨by decide, by decide⟩ rfl rfl (Nat.le_of_ble_eq_true rfl) dX11_proof_19 _ rfl ?_
      refine j_if_eq 33 dX11_proof_22 (by decide) h (fun h => ?_) (fun h => ?_)
      · refine j_loc [(0, .ref (ad (gm κ) 0))] [0] rfl ?_
        exact t_X11_proof_j33 w h
      · refine j_lload 4 dX11_proof_25 rfl ?_
        obtain ⟨q5, e6, h⟩ := ok_b h
        refine j_callS (As := [.long a5]) (st := []) [.int q5] (c_X5_lengthOf (kl κ) (gm κ) (kA κ) a5 w q5 e6) ck_RX11_320 st_X5_lengthOf ⟨rfl, rfl⟩ ⟨by decide, by decide⟩ rfl rfl (Nat.le_of_ble_eq_true rfl) dX11_proof_27 _ rfl ?_
        refine j_if_ne 39 dX11_proof_30 (by decide) h (fun h => ?_) (fun h => ?_)
        · refine j_aload_n 0 dX11_proof_39 rfl rfl ?_
          refine j_getA 80 fl_RX11_65 sh_0 fk_0_7 (by decide) dX11_proof_40 ?_
          refine j_getI fl_RX11_324 sh_80 fk_80_0 dX11_proof_43 ?_
          refine j_bipush (60 : Int32) dX11_proof_46 kb_60 ?_
          refine j_ic_lt 59 dX11_proof_48 (by decide) h (fun h => ?_) (fun h => ?_)
          · refine j_aload_n 0 dX11_proof_59 rfl rfl ?_
            refine j_aload_n 0 dX11_proof_60 rfl rfl ?_
            refine j_getA 80 fl_RX11_65 sh_0 fk_0_7 (by decide) dX11_proof_61 ?_
            refine j_iload_n 1 dX11_proof_64 rfl rfl ?_
            refine j_iload_n 2 dX11_proof_65 rfl rfl ?_
            refine j_lload_n 3 dX11_proof_66 rfl rfl ?_
            refine j_lload 4 dX11_proof_67 rfl ?_
            obtain ⟨q7, e8, h⟩ := ok_b h
            refine j_callV (As := [.int a1, .int a2, .long a3, .long a5]) (st := [.ref (ad (gm κ) 0)]) [.int q7.1, .ref (ad (gm κ) 0)] (c_X5_add (kl κ) (gm κ) (kA κ) a1 a2 a3 a5 w q7 e8) ck_RX11_325 im_X5_add se_X5_add sh_80 cx_5 ⟨rfl, rfl⟩ ⟨by decide, by decide⟩ rfl rfl (Nat.le_of_ble_eq_true rfl) dX11_proof_69 _ rfl ?_
            obtain ⟨q9, e10, h⟩ := ok_b h
            refine j_callV (As := [.int q7.1]) (st := []) [.int q9.1] (c_X11_answer (kl κ) (gm κ) (kA κ) q7.1 q7.2 q9 e10) ck_RX11_145 im_X11_answer se_X11_answer sh_0 cx_11 ⟨rfl, rfl⟩ ⟨by decide, by decide⟩ rfl rfl (Nat.le_of_ble_eq_true rfl) dX11_proof_72 _ rfl ?_
            have h := ok_s h
            exact j_iret dX11_proof_75 rfl rfl h
          · refine j_aload_n 0 dX11_proof_51 rfl rfl ?_
            refine j_iconst (4 : Int32) dX11_proof_52 ki_4 ?_
            obtain ⟨q11, e12, h⟩ := ok_b h
            refine j_callV (As := [.int (4 : Int32)]) (st := []) [.int q11.1] (c_X11_deny (kl κ) (gm κ) (kA κ) (4 : Int32) w q11 e12) ck_RX11_114 im_X11_deny se_X11_deny sh_0 cx_11 ⟨rfl, rfl⟩ ⟨by decide, by decide⟩ rfl rfl (Nat.le_of_ble_eq_true rfl) dX11_proof_53 _ rfl ?_
            refine j_goto 75 dX11_proof_56 (by decide) ?_
            have h := ok_s h
            exact j_iret dX11_proof_75 rfl rfl h
        · refine j_loc [(0, .ref (ad (gm κ) 0))] [0] rfl ?_
          exact t_X11_proof_j33 w h
theorem c_X11_proof (l : Launch) (γ : Gm) (A : Nat → Prop) (a1 : Int32) (a2 : Int32) (a3 : Int64) (a5 : Int64) (w : Wd) (q : Int32 × Wd) (e : X11_proof  a1 a2 a3 a5 w = some q) : MetG l γ A yX11_proof cX11_proof 7 (some .int) (rmk 3 78) [.ref (ad (γ) 0), .int a1, .int a2, .long a3, .long a5] w (some (.int q.1)) q.2 := by
  refine met_of pn_RX11 (Nat.le_of_ble_eq_true rfl) ?_
  intro κ hl hγ hA hρ
  subst hl; subst hγ; subst hA
  exact t_X11_proof   a1 a2 a3 a5 w ⟨q, e, pIw hρ rfl rfl⟩
theorem dX11_doneAheadOf_0 : decode cX11_doneAheadOf 0 = .ok (.aload_n 0, 1) := by decide +kernel
theorem dX11_doneAheadOf_1 : decode cX11_doneAheadOf 1 = .ok (.getfield 65, 3) := by decide +kernel
theorem dX11_doneAheadOf_4 : decode cX11_doneAheadOf 4 = .ok (.getfield 331, 3) := by decide +kernel
theorem dX11_doneAheadOf_7 : decode cX11_doneAheadOf 7 = .ok (.iload_n 1, 1) := by decide +kernel
theorem dX11_doneAheadOf_8 : decode cX11_doneAheadOf 8 = .ok (.iaload, 1) := by decide +kernel
theorem dX11_doneAheadOf_9 : decode cX11_doneAheadOf 9 = .ok (.iconst 1, 1) := by decide +kernel
theorem dX11_doneAheadOf_10 : decode cX11_doneAheadOf 10 = .ok (.isub, 1) := by decide +kernel
theorem dX11_doneAheadOf_11 : decode cX11_doneAheadOf 11 = .ok (.istore_n 2, 1) := by decide +kernel
theorem dX11_doneAheadOf_12 : decode cX11_doneAheadOf 12 = .ok (.iload_n 2, 1) := by decide +kernel
theorem dX11_doneAheadOf_13 : decode cX11_doneAheadOf 13 = .ok (.ifCond .ge 7, 3) := by decide +kernel
theorem dX11_doneAheadOf_16 : decode cX11_doneAheadOf 16 = .ok (.iconst 0, 1) := by decide +kernel
theorem dX11_doneAheadOf_17 : decode cX11_doneAheadOf 17 = .ok (.goto 20, 3) := by decide +kernel
theorem dX11_doneAheadOf_20 : decode cX11_doneAheadOf 20 = .ok (.aload_n 0, 1) := by decide +kernel
theorem dX11_doneAheadOf_21 : decode cX11_doneAheadOf 21 = .ok (.getfield 58, 3) := by decide +kernel
theorem dX11_doneAheadOf_24 : decode cX11_doneAheadOf 24 = .ok (.aload_n 0, 1) := by decide +kernel
theorem dX11_doneAheadOf_25 : decode cX11_doneAheadOf 25 = .ok (.getfield 65, 3) := by decide +kernel
theorem dX11_doneAheadOf_28 : decode cX11_doneAheadOf 28 = .ok (.getfield 350, 3) := by decide +kernel
theorem dX11_doneAheadOf_31 : decode cX11_doneAheadOf 31 = .ok (.iload_n 1, 1) := by decide +kernel
theorem dX11_doneAheadOf_32 : decode cX11_doneAheadOf 32 = .ok (.iaload, 1) := by decide +kernel
theorem dX11_doneAheadOf_33 : decode cX11_doneAheadOf 33 = .ok (.iload_n 2, 1) := by decide +kernel
theorem dX11_doneAheadOf_34 : decode cX11_doneAheadOf 34 = .ok (.invokevirtual 307, 3) := by decide +kernel
theorem dX11_doneAheadOf_37 : decode cX11_doneAheadOf 37 = .ok (.ireturn, 1) := by decide +kernel
noncomputable def X11_doneAheadOf (a1 : Int32) (w : Wd) : Option (Int32) :=
gd (vp_in a1 60) <|
(some ((w.1 82 (ix a1)) - (1 : Int32))).bind fun z1 =>
(if 0 ≤ z1 then
gd (vp_in a1 60) <|
(X10_doneBehind (w.1 81 (ix a1)) z1 w).bind fun q2 =>
some q2
else
some (0 : Int32))
set_option maxRecDepth 20000 in
set_option maxHeartbeats 1000000 in
theorem t_X11_doneAheadOf {κ : Kx} (a1 : Int32) (w : Wd) (h : ok (X11_doneAheadOf  a1 w) (PI κ w)) : J κ RX11 cX11_doneAheadOf 3 (some .int) (rmk 2 46) 0 [(0, .ref (ad (gm κ) 0)), (1, .int a1)] [] w := by
  unfold X11_doneAheadOf at h
  refine j_aload_n 0 dX11_doneAheadOf_0 rfl rfl ?_
  refine j_getA 80 fl_RX11_65 sh_0 fk_0_7 (by decide) dX11_doneAheadOf_1 ?_
  refine j_getA 82 fl_RX11_331 sh_80 fk_80_2 (by decide) dX11_doneAheadOf_4 ?_
  refine j_iload_n 1 dX11_doneAheadOf_7 rfl rfl ?_
  refine j_iald sh_82 dX11_doneAheadOf_8 h (fun h => ?_)
  refine j_iconst (1 : Int32) dX11_doneAheadOf_9 ki_1 ?_
  refine j_isub dX11_doneAheadOf_10 ?_
  refine j_lI h (fun z1 h => ?_)
  refine j_istore_n [(2, .int z1), (0, .ref (ad (gm κ) 0)), (1, .int a1)] dX11_doneAheadOf_11 rfl (by decide) rfl ?_
  refine j_iload_n 0 dX11_doneAheadOf_12 rfl rfl ?_
  refine j_if_ge 20 dX11_doneAheadOf_13 (by decide) h (fun h => ?_) (fun h => ?_)
  · refine j_aload_n 1 dX11_doneAheadOf_20 rfl rfl ?_
    refine j_getA 73 fl_RX11_58 sh_0 fk_0_6 (by decide) dX11_doneAheadOf_21 ?_
    refine j_aload_n 1 dX11_doneAheadOf_24 rfl rfl ?_
    refine j_getA 80 fl_RX11_65 sh_0 fk_0_7 (by decide) dX11_doneAheadOf_25 ?_
    refine j_getA 81 fl_RX11_350 sh_80 fk_80_1 (by decide) dX11_doneAheadOf_28 ?_
    refine j_iload_n 2 dX11_doneAheadOf_31 rfl rfl ?_
    refine j_iald sh_81 dX11_doneAheadOf_32 h (fun h => ?_)
    refine j_iload_n 0 dX11_doneAheadOf_33 rfl rfl ?_
    obtain ⟨q2, e3, h⟩ := ok_b h
    refine j_callV (As := [.int (w.1 81 (ix a1)), .int z1]) (st := []) [.int q2] (c_X10_doneBehind (kl κ) (gm κ) (kA κ) (w.1 81 (ix a1)) z1 w q2 e3) ck_RX11_307 im_X10_doneBehind se_X10_doneBehind sh_73 cx_10 ⟨rfl, rfl⟩ ⟨by decide, by decide⟩ rfl rfl (Nat.le_of_ble_eq_true rfl) dX11_doneAheadOf_34 _ rfl ?_
    have h := ok_s h
    exact j_iret dX11_doneAheadOf_37 rfl rfl h
  · refine j_iconst (0 : Int32) dX11_doneAheadOf_16 ki_0 ?_
    refine j_goto 37 dX11_doneAheadOf_17 (by decide) ?_
    have h := ok_s h
    exact j_iret dX11_doneAheadOf_37 rfl rfl h
theorem c_X11_doneAheadOf (l : Launch) (γ : Gm) (A : Nat → Prop) (a1 : Int32) (w : Wd) (q : Int32) (e : X11_doneAheadOf  a1 w = some q) : MetG l γ A yX11_doneAheadOf cX11_doneAheadOf 3 (some .int) (rmk 2 46) [.ref (ad (γ) 0), .int a1] w (some (.int q)) w := by
  refine met_of pn_RX11 (Nat.le_of_ble_eq_true rfl) ?_
  intro κ hl hγ hA hρ
  subst hl; subst hγ; subst hA
  exact t_X11_doneAheadOf   a1 w ⟨q, e, pI hρ rfl rfl⟩
theorem dX11_owedSlips_0 : decode cX11_owedSlips 0 = .ok (.aload_n 0, 1) := by decide +kernel
theorem dX11_owedSlips_1 : decode cX11_owedSlips 1 = .ok (.iload_n 1, 1) := by decide +kernel
theorem dX11_owedSlips_2 : decode cX11_owedSlips 2 = .ok (.invokevirtual 343, 3) := by decide +kernel
theorem dX11_owedSlips_5 : decode cX11_owedSlips 5 = .ok (.istore_n 2, 1) := by decide +kernel
theorem dX11_owedSlips_6 : decode cX11_owedSlips 6 = .ok (.iconst 0, 1) := by decide +kernel
theorem dX11_owedSlips_7 : decode cX11_owedSlips 7 = .ok (.istore_n 3, 1) := by decide +kernel
theorem dX11_owedSlips_8 : decode cX11_owedSlips 8 = .ok (.iconst 0, 1) := by decide +kernel
theorem dX11_owedSlips_9 : decode cX11_owedSlips 9 = .ok (.istore 4, 2) := by decide +kernel
theorem dX11_owedSlips_11 : decode cX11_owedSlips 11 = .ok (.iload 4, 2) := by decide +kernel
theorem dX11_owedSlips_13 : decode cX11_owedSlips 13 = .ok (.bipush 15, 2) := by decide +kernel
theorem dX11_owedSlips_15 : decode cX11_owedSlips 15 = .ok (.if_icmp .ge 27, 3) := by decide +kernel
theorem dX11_owedSlips_18 : decode cX11_owedSlips 18 = .ok (.iload_n 3, 1) := by decide +kernel
theorem dX11_owedSlips_19 : decode cX11_owedSlips 19 = .ok (.aload_n 0, 1) := by decide +kernel
theorem dX11_owedSlips_20 : decode cX11_owedSlips 20 = .ok (.getfield 65, 3) := by decide +kernel
theorem dX11_owedSlips_23 : decode cX11_owedSlips 23 = .ok (.iload_n 1, 1) := by decide +kernel
theorem dX11_owedSlips_24 : decode cX11_owedSlips 24 = .ok (.iload 4, 2) := by decide +kernel
theorem dX11_owedSlips_26 : decode cX11_owedSlips 26 = .ok (.aload_n 0, 1) := by decide +kernel
theorem dX11_owedSlips_27 : decode cX11_owedSlips 27 = .ok (.getfield 49, 3) := by decide +kernel
theorem dX11_owedSlips_30 : decode cX11_owedSlips 30 = .ok (.iload_n 2, 1) := by decide +kernel
theorem dX11_owedSlips_31 : decode cX11_owedSlips 31 = .ok (.invokevirtual 346, 3) := by decide +kernel
theorem dX11_owedSlips_34 : decode cX11_owedSlips 34 = .ok (.iadd, 1) := by decide +kernel
theorem dX11_owedSlips_35 : decode cX11_owedSlips 35 = .ok (.istore_n 3, 1) := by decide +kernel
theorem dX11_owedSlips_36 : decode cX11_owedSlips 36 = .ok (.iinc 4 1, 3) := by decide +kernel
theorem dX11_owedSlips_39 : decode cX11_owedSlips 39 = .ok (.goto (-28), 3) := by decide +kernel
theorem dX11_owedSlips_42 : decode cX11_owedSlips 42 = .ok (.iload_n 3, 1) := by decide +kernel
theorem dX11_owedSlips_43 : decode cX11_owedSlips 43 = .ok (.ireturn, 1) := by decide +kernel
noncomputable def X11_owedSlips_b11 (a1 : Int32) (a2 : Int32) (w : Wd) (s : (Int32 × Int32)) : Option ((Int32 × Int32) ⊕ Int32) :=
(if (15 : Int32) ≤ s.2 then
some (.inr s.1)
else
(X5_countOwed a1 s.2 a2 w).bind fun q3 =>
some (.inl ((s.1 + q3), (s.2 + (1 : Int32)))))
set_option maxRecDepth 20000 in
set_option maxHeartbeats 1000000 in
theorem t_X11_owedSlips_b11 {κ : Kx} (a1 : Int32) (a2 : Int32) (w : Wd) {P : Int32 → Prop} (K0 : ∀ e, P e → J κ RX11 cX11_owedSlips 5 (some .int) (rmk 3 68) 42 [(3, .int e)] [] w) (s : (Int32 × Int32)) (h : ok (lp (X11_owedSlips_b11  a1 a2 w) s) P) : J κ RX11 cX11_owedSlips 5 (some .int) (rmk 3 68) 11 [(0, .ref (ad (gm κ) 0)), (1, .int a1), (2, .int a2), (3, .int s.1), (4, .int s.2)] [] w := by
  refine lp_ind (fun s => J κ RX11 cX11_owedSlips 5 (some .int) (rmk 3 68) 11 [(0, .ref (ad (gm κ) 0)), (1, .int a1), (2, .int a2), (3, .int s.1), (4, .int s.2)] [] w) (fun s h => ?_) s h
  unfold X11_owedSlips_b11 at h
  refine j_iload 4 dX11_owedSlips_11 rfl ?_
  refine j_bipush (15 : Int32) dX11_owedSlips_13 kb_15 ?_
  refine j_ic_ge 42 dX11_owedSlips_15 (by decide) h (fun h => ?_) (fun h => ?_)
  · refine j_loc [(3, .int s.1)] [3] rfl ?_
    have h := sel_r h
    have h := K0 _ h
    exact h
  · refine j_iload_n 3 dX11_owedSlips_18 rfl rfl ?_
    refine j_aload_n 0 dX11_owedSlips_19 rfl rfl ?_
    refine j_getA 80 fl_RX11_65 sh_0 fk_0_7 (by decide) dX11_owedSlips_20 ?_
    refine j_iload_n 1 dX11_owedSlips_23 rfl rfl ?_
    refine j_iload 4 dX11_owedSlips_24 rfl ?_
    refine j_aload_n 0 dX11_owedSlips_26 rfl rfl ?_
    refine j_getA 69 fl_RX11_49 sh_0 fk_0_5 (by decide) dX11_owedSlips_27 ?_
    refine j_iload_n 2 dX11_owedSlips_30 rfl rfl ?_
    obtain ⟨q3, e4, h⟩ := ok_b h
    refine j_callV (As := [.int a1, .int s.2, .ref (ad (gm κ) 69), .int a2]) (st := [.int s.1]) [.int q3, .int s.1] (c_X5_countOwed (kl κ) (gm κ) (kA κ) a1 s.2 a2 w q3 e4) ck_RX11_346 im_X5_countOwed se_X5_countOwed sh_80 cx_5 ⟨rfl, rfl⟩ ⟨by decide, by decide⟩ rfl rfl (Nat.le_of_ble_eq_true rfl) dX11_owedSlips_31 _ rfl ?_
    refine j_iadd dX11_owedSlips_34 ?_
    refine j_istore_n [(3, .int (s.1 + q3)), (0, .ref (ad (gm κ) 0)), (1, .int a1), (2, .int a2), (4, .int s.2)] dX11_owedSlips_35 rfl (by decide) rfl ?_
    refine j_iinc (s.2 + (1 : Int32)) 4 [(4, .int (s.2 + (1 : Int32))), (3, .int (s.1 + q3)), (0, .ref (ad (gm κ) 0)), (1, .int a1), (2, .int a2)] dX11_owedSlips_36 rfl (by rw [kn_1]) (by decide) rfl ?_
    refine j_goto 11 dX11_owedSlips_39 (by decide) ?_
    refine j_loc [(0, .ref (ad (gm κ) 0)), (1, .int a1), (2, .int a2), (3, .int (s.1 + q3)), (4, .int (s.2 + (1 : Int32)))] [2, 3, 4, 1, 0] rfl ?_
    have h := sel_l h
    exact h
noncomputable def X11_owedSlips (a1 : Int32) (w : Wd) : Option (Int32) :=
(X11_doneAheadOf a1 w).bind fun q1 =>
(lp (X11_owedSlips_b11 a1 q1 w) ((0 : Int32), (0 : Int32))).bind fun e5 =>
some e5
set_option maxRecDepth 20000 in
set_option maxHeartbeats 1000000 in
theorem t_X11_owedSlips {κ : Kx} (a1 : Int32) (w : Wd) (h : ok (X11_owedSlips  a1 w) (PI κ w)) : J κ RX11 cX11_owedSlips 5 (some .int) (rmk 3 68) 0 [(0, .ref (ad (gm κ) 0)), (1, .int a1)] [] w := by
  unfold X11_owedSlips at h
  refine j_aload_n 0 dX11_owedSlips_0 rfl rfl ?_
  refine j_iload_n 1 dX11_owedSlips_1 rfl rfl ?_
  obtain ⟨q1, e2, h⟩ := ok_b h
  refine j_callV (As := [.int a1]) (st := []) [.int q1] (c_X11_doneAheadOf (kl κ) (gm κ) (kA κ) a1 w q1 e2) ck_RX11_343 im_X11_doneAheadOf se_X11_doneAheadOf sh_0 cx_11 ⟨rfl, rfl⟩ ⟨by decide, by decide⟩ rfl rfl (Nat.le_of_ble_eq_true rfl) dX11_owedSlips_2 _ rfl ?_
  refine j_istore_n [(2, .int q1), (0, .ref (ad (gm κ) 0)), (1, .int a1)] dX11_owedSlips_5 rfl (by decide) rfl ?_
  refine j_iconst (0 : Int32) dX11_owedSlips_6 ki_0 ?_
  refine j_istore_n [(3, .int (0 : Int32)), (2, .int q1), (0, .ref (ad (gm κ) 0)), (1, .int a1)] dX11_owedSlips_7 rfl (by decide) rfl ?_
  refine j_iconst (0 : Int32) dX11_owedSlips_8 ki_0 ?_
  refine j_istore [(4, .int (0 : Int32)), (3, .int (0 : Int32)), (2, .int q1), (0, .ref (ad (gm κ) 0)), (1, .int a1)] dX11_owedSlips_9 (by decide) rfl ?_
  refine j_loc [(0, .ref (ad (gm κ) 0)), (1, .int a1), (2, .int q1), (3, .int (0 : Int32)), (4, .int (0 : Int32))] [3, 4, 2, 1, 0] rfl ?_
  refine t_X11_owedSlips_b11 a1 q1 w (fun e5 h => ?_) ((0 : Int32), (0 : Int32)) (ok_bb h)
  · refine j_iload_n 0 dX11_owedSlips_42 rfl rfl ?_
    have h := ok_s h
    exact j_iret dX11_owedSlips_43 rfl rfl h
theorem c_X11_owedSlips (l : Launch) (γ : Gm) (A : Nat → Prop) (a1 : Int32) (w : Wd) (q : Int32) (e : X11_owedSlips  a1 w = some q) : MetG l γ A yX11_owedSlips cX11_owedSlips 5 (some .int) (rmk 3 68) [.ref (ad (γ) 0), .int a1] w (some (.int q)) w := by
  refine met_of pn_RX11 (Nat.le_of_ble_eq_true rfl) ?_
  intro κ hl hγ hA hρ
  subst hl; subst hγ; subst hA
  exact t_X11_owedSlips   a1 w ⟨q, e, pI hρ rfl rfl⟩
theorem dX11_isPassed_0 : decode cX11_isPassed 0 = .ok (.aload_n 0, 1) := by decide +kernel
theorem dX11_isPassed_1 : decode cX11_isPassed 1 = .ok (.getfield 19, 3) := by decide +kernel
theorem dX11_isPassed_4 : decode cX11_isPassed 4 = .ok (.getfield 353, 3) := by decide +kernel
theorem dX11_isPassed_7 : decode cX11_isPassed 7 = .ok (.aload_n 0, 1) := by decide +kernel
theorem dX11_isPassed_8 : decode cX11_isPassed 8 = .ok (.getfield 65, 3) := by decide +kernel
theorem dX11_isPassed_11 : decode cX11_isPassed 11 = .ok (.getfield 350, 3) := by decide +kernel
theorem dX11_isPassed_14 : decode cX11_isPassed 14 = .ok (.iload_n 1, 1) := by decide +kernel
theorem dX11_isPassed_15 : decode cX11_isPassed 15 = .ok (.iaload, 1) := by decide +kernel
theorem dX11_isPassed_16 : decode cX11_isPassed 16 = .ok (.iaload, 1) := by decide +kernel
theorem dX11_isPassed_17 : decode cX11_isPassed 17 = .ok (.istore_n 2, 1) := by decide +kernel
theorem dX11_isPassed_18 : decode cX11_isPassed 18 = .ok (.aload_n 0, 1) := by decide +kernel
theorem dX11_isPassed_19 : decode cX11_isPassed 19 = .ok (.getfield 65, 3) := by decide +kernel
theorem dX11_isPassed_22 : decode cX11_isPassed 22 = .ok (.getfield 334, 3) := by decide +kernel
theorem dX11_isPassed_25 : decode cX11_isPassed 25 = .ok (.iload_n 1, 1) := by decide +kernel
theorem dX11_isPassed_26 : decode cX11_isPassed 26 = .ok (.iaload, 1) := by decide +kernel
theorem dX11_isPassed_27 : decode cX11_isPassed 27 = .ok (.aload_n 0, 1) := by decide +kernel
theorem dX11_isPassed_28 : decode cX11_isPassed 28 = .ok (.getfield 33, 3) := by decide +kernel
theorem dX11_isPassed_31 : decode cX11_isPassed 31 = .ok (.aload_n 0, 1) := by decide +kernel
theorem dX11_isPassed_32 : decode cX11_isPassed 32 = .ok (.getfield 19, 3) := by decide +kernel
theorem dX11_isPassed_35 : decode cX11_isPassed 35 = .ok (.getfield 356, 3) := by decide +kernel
theorem dX11_isPassed_38 : decode cX11_isPassed 38 = .ok (.iload_n 2, 1) := by decide +kernel
theorem dX11_isPassed_39 : decode cX11_isPassed 39 = .ok (.iaload, 1) := by decide +kernel
theorem dX11_isPassed_40 : decode cX11_isPassed 40 = .ok (.aload_n 0, 1) := by decide +kernel
theorem dX11_isPassed_41 : decode cX11_isPassed 41 = .ok (.getfield 65, 3) := by decide +kernel
theorem dX11_isPassed_44 : decode cX11_isPassed 44 = .ok (.getfield 331, 3) := by decide +kernel
theorem dX11_isPassed_47 : decode cX11_isPassed 47 = .ok (.iload_n 1, 1) := by decide +kernel
theorem dX11_isPassed_48 : decode cX11_isPassed 48 = .ok (.iaload, 1) := by decide +kernel
theorem dX11_isPassed_49 : decode cX11_isPassed 49 = .ok (.invokevirtual 266, 3) := by decide +kernel
theorem dX11_isPassed_52 : decode cX11_isPassed 52 = .ok (.getfield 276, 3) := by decide +kernel
theorem dX11_isPassed_55 : decode cX11_isPassed 55 = .ok (.if_icmp .gt 7, 3) := by decide +kernel
theorem dX11_isPassed_58 : decode cX11_isPassed 58 = .ok (.iconst 1, 1) := by decide +kernel
theorem dX11_isPassed_59 : decode cX11_isPassed 59 = .ok (.goto 4, 3) := by decide +kernel
theorem dX11_isPassed_62 : decode cX11_isPassed 62 = .ok (.iconst 0, 1) := by decide +kernel
theorem dX11_isPassed_63 : decode cX11_isPassed 63 = .ok (.ireturn, 1) := by decide +kernel
noncomputable def X11_isPassed (a1 : Int32) (w : Wd) : Option (Int32 × Wd) :=
gd (vp_in a1 60) <|
gd (vp_in (w.1 81 (ix a1)) 40) <|
(some (w.1 12 (ix (w.1 81 (ix a1))))).bind fun z1 =>
gd (vp_in a1 60) <|
gd (vp_in z1 16) <|
gd (vp_in a1 60) <|
(X0_standingIn (w.1 6 (ix z1)) (w.1 82 (ix a1)) w).bind fun q2 =>
gd (q2.1 < 4) <|
(if (q2.2.1 (stc q2.1) 9) < (w.1 83 (ix a1)) then
some ((0 : Int32), q2.2)
else
some ((1 : Int32), q2.2))
set_option maxRecDepth 20000 in
set_option maxHeartbeats 1000000 in
theorem t_X11_isPassed {κ : Kx} (a1 : Int32) (w : Wd) (h : ok (X11_isPassed  a1 w) (PIw κ)) : J κ RX11 cX11_isPassed 3 (some .boolean) (rmk 3 75) 0 [(0, .ref (ad (gm κ) 0)), (1, .int a1)] [] w := by
  unfold X11_isPassed at h
  refine j_aload_n 0 dX11_isPassed_0 rfl rfl ?_
  refine j_getA 5 fl_RX11_19 sh_0 fk_0_1 (by decide) dX11_isPassed_1 ?_
  refine j_getA 12 fl_RX11_353 sh_5 fk_5_9 (by decide) dX11_isPassed_4 ?_
  refine j_aload_n 0 dX11_isPassed_7 rfl rfl ?_
  refine j_getA 80 fl_RX11_65 sh_0 fk_0_7 (by decide) dX11_isPassed_8 ?_
  refine j_getA 81 fl_RX11_350 sh_80 fk_80_1 (by decide) dX11_isPassed_11 ?_
  refine j_iload_n 1 dX11_isPassed_14 rfl rfl ?_
  refine j_iald sh_81 dX11_isPassed_15 h (fun h => ?_)
  refine j_iald sh_12 dX11_isPassed_16 h (fun h => ?_)
  refine j_lI h (fun z1 h => ?_)
  refine j_istore_n [(2, .int z1), (0, .ref (ad (gm κ) 0)), (1, .int a1)] dX11_isPassed_17 rfl (by decide) rfl ?_
  refine j_aload_n 1 dX11_isPassed_18 rfl rfl ?_
  refine j_getA 80 fl_RX11_65 sh_0 fk_0_7 (by decide) dX11_isPassed_19 ?_
  refine j_getA 83 fl_RX11_334 sh_80 fk_80_3 (by decide) dX11_isPassed_22 ?_
  refine j_iload_n 2 dX11_isPassed_25 rfl rfl ?_
  refine j_iald sh_83 dX11_isPassed_26 h (fun h => ?_)
  refine j_aload_n 1 dX11_isPassed_27 rfl rfl ?_
  refine j_getA 30 fl_RX11_33 sh_0 fk_0_3 (by decide) dX11_isPassed_28 ?_
  refine j_aload_n 1 dX11_isPassed_31 rfl rfl ?_
  refine j_getA 5 fl_RX11_19 sh_0 fk_0_1 (by decide) dX11_isPassed_32 ?_
  refine j_getA 6 fl_RX11_356 sh_5 fk_5_1 (by decide) dX11_isPassed_35 ?_
  refine j_iload_n 0 dX11_isPassed_38 rfl rfl ?_
  refine j_iald sh_6 dX11_isPassed_39 h (fun h => ?_)
  refine j_aload_n 1 dX11_isPassed_40 rfl rfl ?_
  refine j_getA 80 fl_RX11_65 sh_0 fk_0_7 (by decide) dX11_isPassed_41 ?_
  refine j_getA 82 fl_RX11_331 sh_80 fk_80_2 (by decide) dX11_isPassed_44 ?_
  refine j_iload_n 2 dX11_isPassed_47 rfl rfl ?_
  refine j_iald sh_82 dX11_isPassed_48 h (fun h => ?_)
  obtain ⟨q2, e3, h⟩ := ok_b h
  refine j_callV (As := [.int (w.1 6 (ix z1)), .int (w.1 82 (ix a1))]) (st := [.int (w.1 83 (ix a1))]) [.ref (ad (gm κ) (stc q2.1)), .int (w.1 83 (ix a1))] (c_X0_standingIn (kl κ) (gm κ) (kA κ) (w.1 6 (ix z1)) (w.1 82 (ix a1)) w q2 e3) ck_RX11_266 im_X0_standingIn se_X0_standingIn sh_30 cx_0 ⟨rfl, rfl⟩ ⟨by decide, by decide⟩ rfl rfl (Nat.le_of_ble_eq_true rfl) dX11_isPassed_49 _ rfl ?_
  obtain ⟨h4, h⟩ := ok_g h
  refine j_getI fl_RX11_276 (st_sh h4).1 (st_fk h4).2.2.2.2.2.2.2.2.2.1 dX11_isPassed_52 ?_
  refine j_ic_gt 62 dX11_isPassed_55 (by decide) h (fun h => ?_) (fun h => ?_)
  · refine j_iconst (0 : Int32) dX11_isPassed_62 ki_0 ?_
    have h := ok_s h
    exact j_iret dX11_isPassed_63 rfl (by decide) h
  · refine j_iconst (1 : Int32) dX11_isPassed_58 ki_1 ?_
    refine j_goto 63 dX11_isPassed_59 (by decide) ?_
    have h := ok_s h
    exact j_iret dX11_isPassed_63 rfl (by decide) h
theorem c_X11_isPassed (l : Launch) (γ : Gm) (A : Nat → Prop) (a1 : Int32) (w : Wd) (q : Int32 × Wd) (e : X11_isPassed  a1 w = some q) : MetG l γ A yX11_isPassed cX11_isPassed 3 (some .boolean) (rmk 3 75) [.ref (ad (γ) 0), .int a1] w (some (.int q.1)) q.2 := by
  refine met_of pn_RX11 (Nat.le_of_ble_eq_true rfl) ?_
  intro κ hl hγ hA hρ
  subst hl; subst hγ; subst hA
  exact t_X11_isPassed   a1 w ⟨q, e, pIw hρ rfl rfl⟩
theorem dX11_slips_0 : decode cX11_slips 0 = .ok (.aload_n 0, 1) := by decide +kernel
theorem dX11_slips_1 : decode cX11_slips 1 = .ok (.getfield 65, 3) := by decide +kernel
theorem dX11_slips_4 : decode cX11_slips 4 = .ok (.iload_n 1, 1) := by decide +kernel
theorem dX11_slips_5 : decode cX11_slips 5 = .ok (.invokevirtual 328, 3) := by decide +kernel
theorem dX11_slips_8 : decode cX11_slips 8 = .ok (.ifCond .eq 12, 3) := by decide +kernel
theorem dX11_slips_11 : decode cX11_slips 11 = .ok (.iload_n 2, 1) := by decide +kernel
theorem dX11_slips_12 : decode cX11_slips 12 = .ok (.iconst 0, 1) := by decide +kernel
theorem dX11_slips_13 : decode cX11_slips 13 = .ok (.iconst 3, 1) := by decide +kernel
theorem dX11_slips_14 : decode cX11_slips 14 = .ok (.invokestatic 91, 3) := by decide +kernel
theorem dX11_slips_17 : decode cX11_slips 17 = .ok (.ifCond .ne 9, 3) := by decide +kernel
theorem dX11_slips_20 : decode cX11_slips 20 = .ok (.aload_n 0, 1) := by decide +kernel
theorem dX11_slips_21 : decode cX11_slips 21 = .ok (.iconst 1, 1) := by decide +kernel
theorem dX11_slips_22 : decode cX11_slips 22 = .ok (.invokevirtual 114, 3) := by decide +kernel
theorem dX11_slips_25 : decode cX11_slips 25 = .ok (.ireturn, 1) := by decide +kernel
theorem dX11_slips_26 : decode cX11_slips 26 = .ok (.iload_n 2, 1) := by decide +kernel
theorem dX11_slips_27 : decode cX11_slips 27 = .ok (.iconst 1, 1) := by decide +kernel
theorem dX11_slips_28 : decode cX11_slips 28 = .ok (.if_icmp .eq 8, 3) := by decide +kernel
theorem dX11_slips_31 : decode cX11_slips 31 = .ok (.iload_n 2, 1) := by decide +kernel
theorem dX11_slips_32 : decode cX11_slips 32 = .ok (.iconst 2, 1) := by decide +kernel
theorem dX11_slips_33 : decode cX11_slips 33 = .ok (.if_icmp .ne 21, 3) := by decide +kernel
theorem dX11_slips_36 : decode cX11_slips 36 = .ok (.aload_n 0, 1) := by decide +kernel
theorem dX11_slips_37 : decode cX11_slips 37 = .ok (.getfield 58, 3) := by decide +kernel
theorem dX11_slips_40 : decode cX11_slips 40 = .ok (.aload_n 0, 1) := by decide +kernel
theorem dX11_slips_41 : decode cX11_slips 41 = .ok (.getfield 65, 3) := by decide +kernel
theorem dX11_slips_44 : decode cX11_slips 44 = .ok (.getfield 331, 3) := by decide +kernel
theorem dX11_slips_47 : decode cX11_slips 47 = .ok (.iload_n 1, 1) := by decide +kernel
theorem dX11_slips_48 : decode cX11_slips 48 = .ok (.iaload, 1) := by decide +kernel
theorem dX11_slips_49 : decode cX11_slips 49 = .ok (.iconst 1, 1) := by decide +kernel
theorem dX11_slips_50 : decode cX11_slips 50 = .ok (.isub, 1) := by decide +kernel
theorem dX11_slips_51 : decode cX11_slips 51 = .ok (.invokevirtual 290, 3) := by decide +kernel
theorem dX11_slips_54 : decode cX11_slips 54 = .ok (.iload_n 2, 1) := by decide +kernel
theorem dX11_slips_55 : decode cX11_slips 55 = .ok (.tableswitch 69 0 2 #[25, 39, 49], 25) := by decide +kernel
theorem dX11_slips_80 : decode cX11_slips 80 = .ok (.aload_n 0, 1) := by decide +kernel
theorem dX11_slips_81 : decode cX11_slips 81 = .ok (.aload_n 0, 1) := by decide +kernel
theorem dX11_slips_82 : decode cX11_slips 82 = .ok (.getfield 65, 3) := by decide +kernel
theorem dX11_slips_85 : decode cX11_slips 85 = .ok (.getfield 334, 3) := by decide +kernel
theorem dX11_slips_88 : decode cX11_slips 88 = .ok (.iload_n 1, 1) := by decide +kernel
theorem dX11_slips_89 : decode cX11_slips 89 = .ok (.iaload, 1) := by decide +kernel
theorem dX11_slips_90 : decode cX11_slips 90 = .ok (.invokevirtual 145, 3) := by decide +kernel
theorem dX11_slips_93 : decode cX11_slips 93 = .ok (.ireturn, 1) := by decide +kernel
theorem dX11_slips_94 : decode cX11_slips 94 = .ok (.aload_n 0, 1) := by decide +kernel
theorem dX11_slips_95 : decode cX11_slips 95 = .ok (.aload_n 0, 1) := by decide +kernel
theorem dX11_slips_96 : decode cX11_slips 96 = .ok (.iload_n 1, 1) := by decide +kernel
theorem dX11_slips_97 : decode cX11_slips 97 = .ok (.invokevirtual 337, 3) := by decide +kernel
theorem dX11_slips_100 : decode cX11_slips 100 = .ok (.invokevirtual 145, 3) := by decide +kernel
theorem dX11_slips_103 : decode cX11_slips 103 = .ok (.ireturn, 1) := by decide +kernel
theorem dX11_slips_104 : decode cX11_slips 104 = .ok (.aload_n 0, 1) := by decide +kernel
theorem dX11_slips_105 : decode cX11_slips 105 = .ok (.aload_n 0, 1) := by decide +kernel
theorem dX11_slips_106 : decode cX11_slips 106 = .ok (.getfield 65, 3) := by decide +kernel
theorem dX11_slips_109 : decode cX11_slips 109 = .ok (.getfield 334, 3) := by decide +kernel
theorem dX11_slips_112 : decode cX11_slips 112 = .ok (.iload_n 1, 1) := by decide +kernel
theorem dX11_slips_113 : decode cX11_slips 113 = .ok (.iaload, 1) := by decide +kernel
theorem dX11_slips_114 : decode cX11_slips 114 = .ok (.aload_n 0, 1) := by decide +kernel
theorem dX11_slips_115 : decode cX11_slips 115 = .ok (.iload_n 1, 1) := by decide +kernel
theorem dX11_slips_116 : decode cX11_slips 116 = .ok (.invokevirtual 337, 3) := by decide +kernel
theorem dX11_slips_119 : decode cX11_slips 119 = .ok (.isub, 1) := by decide +kernel
theorem dX11_slips_120 : decode cX11_slips 120 = .ok (.invokevirtual 145, 3) := by decide +kernel
theorem dX11_slips_123 : decode cX11_slips 123 = .ok (.ireturn, 1) := by decide +kernel
theorem dX11_slips_124 : decode cX11_slips 124 = .ok (.aload_n 0, 1) := by decide +kernel
theorem dX11_slips_125 : decode cX11_slips 125 = .ok (.aload_n 0, 1) := by decide +kernel
theorem dX11_slips_126 : decode cX11_slips 126 = .ok (.iload_n 1, 1) := by decide +kernel
theorem dX11_slips_127 : decode cX11_slips 127 = .ok (.invokevirtual 340, 3) := by decide +kernel
theorem dX11_slips_130 : decode cX11_slips 130 = .ok (.invokevirtual 286, 3) := by decide +kernel
theorem dX11_slips_133 : decode cX11_slips 133 = .ok (.ireturn, 1) := by decide +kernel
noncomputable def X11_slips_j20 (w : Wd) : Option (Int32 × Wd) :=
(X11_deny (1 : Int32) w).bind fun q1 =>
some (q1.1, q1.2)
set_option maxRecDepth 20000 in
set_option maxHeartbeats 1000000 in
theorem t_X11_slips_j20 {κ : Kx} (w : Wd) (h : ok (X11_slips_j20  w) (PIw κ)) : J κ RX11 cX11_slips 3 (some .int) (rmk 6 153) 20 [(0, .ref (ad (gm κ) 0))] [] w := by
  unfold X11_slips_j20 at h
  refine j_aload_n 0 dX11_slips_20 rfl rfl ?_
  refine j_iconst (1 : Int32) dX11_slips_21 ki_1 ?_
  obtain ⟨q1, e2, h⟩ := ok_b h
  refine j_callV (As := [.int (1 : Int32)]) (st := []) [.int q1.1] (c_X11_deny (kl κ) (gm κ) (kA κ) (1 : Int32) w q1 e2) ck_RX11_114 im_X11_deny se_X11_deny sh_0 cx_11 ⟨rfl, rfl⟩ ⟨by decide, by decide⟩ rfl rfl (Nat.le_of_ble_eq_true rfl) dX11_slips_22 _ rfl ?_
  have h := ok_s h
  exact j_iret dX11_slips_25 rfl rfl h
noncomputable def X11_slips_j54 (a1 : Int32) (a2 : Int32) (w : Wd) : Option (Int32 × Wd) :=
(if a2 = (0 : Int32) then
gd (vp_in a1 60) <|
(X11_answer (w.1 83 (ix a1)) w).bind fun q5 =>
some (q5.1, q5.2)
else
(if a2 = (1 : Int32) then
(X11_owedSlips a1 w).bind fun q7 =>
(X11_answer q7 w).bind fun q9 =>
some (q9.1, q9.2)
else
(if a2 = (2 : Int32) then
gd (vp_in a1 60) <|
(X11_owedSlips a1 w).bind fun q11 =>
(X11_answer ((w.1 83 (ix a1)) - q11) w).bind fun q13 =>
some (q13.1, q13.2)
else
(X11_isPassed a1 w).bind fun q15 =>
(X11_answerWhether q15.1 q15.2).bind fun q17 =>
some (q17.1, q17.2))))
set_option maxRecDepth 20000 in
set_option maxHeartbeats 1000000 in
theorem t_X11_slips_j54 {κ : Kx} (a1 : Int32) (a2 : Int32) (w : Wd) (h : ok (X11_slips_j54  a1 a2 w) (PIw κ)) : J κ RX11 cX11_slips 3 (some .int) (rmk 6 153) 54 [(0, .ref (ad (gm κ) 0)), (1, .int a1), (2, .int a2)] [] w := by
  unfold X11_slips_j54 at h
  refine j_iload_n 2 dX11_slips_54 rfl rfl ?_
  refine j_cs (0 : Int32) h (fun h => ?_) (fun n0 h => ?_)
  · refine j_tab 80 dX11_slips_55 (by decide) (by decide) rfl (by decide) ?_
    refine j_aload_n 0 dX11_slips_80 rfl rfl ?_
    refine j_aload_n 0 dX11_slips_81 rfl rfl ?_
    refine j_getA 80 fl_RX11_65 sh_0 fk_0_7 (by decide) dX11_slips_82 ?_
    refine j_getA 83 fl_RX11_334 sh_80 fk_80_3 (by decide) dX11_slips_85 ?_
    refine j_iload_n 1 dX11_slips_88 rfl rfl ?_
    refine j_iald sh_83 dX11_slips_89 h (fun h => ?_)
    obtain ⟨q5, e6, h⟩ := ok_b h
    refine j_callV (As := [.int (w.1 83 (ix a1))]) (st := []) [.int q5.1] (c_X11_answer (kl κ) (gm κ) (kA κ) (w.1 83 (ix a1)) w q5 e6) ck_RX11_145 im_X11_answer se_X11_answer sh_0 cx_11 ⟨rfl, rfl⟩ ⟨by decide, by decide⟩ rfl rfl (Nat.le_of_ble_eq_true rfl) dX11_slips_90 _ rfl ?_
    have h := ok_s h
    exact j_iret dX11_slips_93 rfl rfl h
  refine j_cs (1 : Int32) h (fun h => ?_) (fun n1 h => ?_)
  · refine j_tab 94 dX11_slips_55 (by decide) (by decide) rfl (by decide) ?_
    refine j_aload_n 0 dX11_slips_94 rfl rfl ?_
    refine j_aload_n 0 dX11_slips_95 rfl rfl ?_
    refine j_iload_n 1 dX11_slips_96 rfl rfl ?_
    obtain ⟨q7, e8, h⟩ := ok_b h
    refine j_callV (As := [.int a1]) (st := [.ref (ad (gm κ) 0)]) [.int q7, .ref (ad (gm κ) 0)] (c_X11_owedSlips (kl κ) (gm κ) (kA κ) a1 w q7 e8) ck_RX11_337 im_X11_owedSlips se_X11_owedSlips sh_0 cx_11 ⟨rfl, rfl⟩ ⟨by decide, by decide⟩ rfl rfl (Nat.le_of_ble_eq_true rfl) dX11_slips_97 _ rfl ?_
    obtain ⟨q9, e10, h⟩ := ok_b h
    refine j_callV (As := [.int q7]) (st := []) [.int q9.1] (c_X11_answer (kl κ) (gm κ) (kA κ) q7 w q9 e10) ck_RX11_145 im_X11_answer se_X11_answer sh_0 cx_11 ⟨rfl, rfl⟩ ⟨by decide, by decide⟩ rfl rfl (Nat.le_of_ble_eq_true rfl) dX11_slips_100 _ rfl ?_
    have h := ok_s h
    exact j_iret dX11_slips_103 rfl rfl h
  refine j_cs (2 : Int32) h (fun h => ?_) (fun n2 h => ?_)
  · refine j_tab 104 dX11_slips_55 (by decide) (by decide) rfl (by decide) ?_
    refine j_aload_n 0 dX11_slips_104 rfl rfl ?_
    refine j_aload_n 0 dX11_slips_105 rfl rfl ?_
    refine j_getA 80 fl_RX11_65 sh_0 fk_0_7 (by decide) dX11_slips_106 ?_
    refine j_getA 83 fl_RX11_334 sh_80 fk_80_3 (by decide) dX11_slips_109 ?_
    refine j_iload_n 1 dX11_slips_112 rfl rfl ?_
    refine j_iald sh_83 dX11_slips_113 h (fun h => ?_)
    refine j_aload_n 0 dX11_slips_114 rfl rfl ?_
    refine j_iload_n 1 dX11_slips_115 rfl rfl ?_
    obtain ⟨q11, e12, h⟩ := ok_b h
    refine j_callV (As := [.int a1]) (st := [.int (w.1 83 (ix a1)), .ref (ad (gm κ) 0)]) [.int q11, .int (w.1 83 (ix a1)), .ref (ad (gm κ) 0)] (c_X11_owedSlips (kl κ) (gm κ) (kA κ) a1 w q11 e12) ck_RX11_337 im_X11_owedSlips se_X11_owedSlips sh_0 cx_11 ⟨rfl, rfl⟩ ⟨by decide, by decide⟩ rfl rfl (Nat.le_of_ble_eq_true rfl) dX11_slips_116 _ rfl ?_
    refine j_isub dX11_slips_119 ?_
    obtain ⟨q13, e14, h⟩ := ok_b h
    refine j_callV (As := [.int ((w.1 83 (ix a1)) - q11)]) (st := []) [.int q13.1] (c_X11_answer (kl κ) (gm κ) (kA κ) ((w.1 83 (ix a1)) - q11) w q13 e14) ck_RX11_145 im_X11_answer se_X11_answer sh_0 cx_11 ⟨rfl, rfl⟩ ⟨by decide, by decide⟩ rfl rfl (Nat.le_of_ble_eq_true rfl) dX11_slips_120 _ rfl ?_
    have h := ok_s h
    exact j_iret dX11_slips_123 rfl rfl h
  replace n0 := lv_neT n0 (show ((0 : Int32)).toInt = 0 by decide)
  replace n1 := lv_neT n1 (show ((1 : Int32)).toInt = 1 by decide)
  replace n2 := lv_neT n2 (show ((2 : Int32)).toInt = 2 by decide)
  refine j_tabD 124 dX11_slips_55 (by omega) (by decide) ?_
  refine j_aload_n 0 dX11_slips_124 rfl rfl ?_
  refine j_aload_n 0 dX11_slips_125 rfl rfl ?_
  refine j_iload_n 1 dX11_slips_126 rfl rfl ?_
  obtain ⟨q15, e16, h⟩ := ok_b h
  refine j_callV (As := [.int a1]) (st := [.ref (ad (gm κ) 0)]) [.int q15.1, .ref (ad (gm κ) 0)] (c_X11_isPassed (kl κ) (gm κ) (kA κ) a1 w q15 e16) ck_RX11_340 im_X11_isPassed se_X11_isPassed sh_0 cx_11 ⟨rfl, rfl⟩ ⟨by decide, by decide⟩ rfl rfl (Nat.le_of_ble_eq_true rfl) dX11_slips_127 _ rfl ?_
  obtain ⟨q17, e18, h⟩ := ok_b h
  refine j_callV (As := [.int q15.1]) (st := []) [.int q17.1] (c_X11_answerWhether (kl κ) (gm κ) (kA κ) q15.1 q15.2 q17 e18) ck_RX11_286 im_X11_answerWhether se_X11_answerWhether sh_0 cx_11 ⟨rfl, rfl⟩ ⟨by decide, by decide⟩ rfl rfl (Nat.le_of_ble_eq_true rfl) dX11_slips_130 _ rfl ?_
  have h := ok_s h
  exact j_iret dX11_slips_133 rfl rfl h
noncomputable def X11_slips_j36 (a1 : Int32) (a2 : Int32) (w : Wd) : Option (Int32 × Wd) :=
gd (vp_in a1 60) <|
(X10_reach ((w.1 82 (ix a1)) - (1 : Int32)) w).bind fun q3 =>
X11_slips_j54 a1 a2 q3
set_option maxRecDepth 20000 in
set_option maxHeartbeats 1000000 in
theorem t_X11_slips_j36 {κ : Kx} (a1 : Int32) (a2 : Int32) (w : Wd) (h : ok (X11_slips_j36  a1 a2 w) (PIw κ)) : J κ RX11 cX11_slips 3 (some .int) (rmk 6 153) 36 [(0, .ref (ad (gm κ) 0)), (1, .int a1), (2, .int a2)] [] w := by
  unfold X11_slips_j36 at h
  refine j_aload_n 0 dX11_slips_36 rfl rfl ?_
  refine j_getA 73 fl_RX11_58 sh_0 fk_0_6 (by decide) dX11_slips_37 ?_
  refine j_aload_n 0 dX11_slips_40 rfl rfl ?_
  refine j_getA 80 fl_RX11_65 sh_0 fk_0_7 (by decide) dX11_slips_41 ?_
  refine j_getA 82 fl_RX11_331 sh_80 fk_80_2 (by decide) dX11_slips_44 ?_
  refine j_iload_n 1 dX11_slips_47 rfl rfl ?_
  refine j_iald sh_82 dX11_slips_48 h (fun h => ?_)
  refine j_iconst (1 : Int32) dX11_slips_49 ki_1 ?_
  refine j_isub dX11_slips_50 ?_
  obtain ⟨q3, e4, h⟩ := ok_b h
  refine j_callV (As := [.int ((w.1 82 (ix a1)) - (1 : Int32))]) (st := []) [] (c_X10_reach (kl κ) (gm κ) (kA κ) ((w.1 82 (ix a1)) - (1 : Int32)) w q3 e4) ck_RX11_290 im_X10_reach se_X10_reach sh_73 cx_10 ⟨rfl, rfl⟩ ⟨by decide, by decide⟩ rfl rfl (Nat.le_of_ble_eq_true rfl) dX11_slips_51 _ rfl ?_
  refine j_loc [(0, .ref (ad (gm κ) 0)), (1, .int a1), (2, .int a2)] [0, 1, 2] rfl ?_
  exact t_X11_slips_j54 a1 a2 q3 h
noncomputable def X11_slips (a1 : Int32) (a2 : Int32) (w : Wd) : Option (Int32 × Wd) :=
(if (X5_isProof a1 w) = 0 then
X11_slips_j20 w
else
(if (X11_within a2 (0 : Int32) (3 : Int32) w) = 0 then
X11_slips_j20 w
else
(if a2 = (1 : Int32) then
X11_slips_j36 a1 a2 w
else
(if a2 = (2 : Int32) then
X11_slips_j36 a1 a2 w
else
X11_slips_j54 a1 a2 w))))
set_option maxRecDepth 20000 in
set_option maxHeartbeats 1000000 in
theorem t_X11_slips {κ : Kx} (a1 : Int32) (a2 : Int32) (w : Wd) (h : ok (X11_slips  a1 a2 w) (PIw κ)) : J κ RX11 cX11_slips 3 (some .int) (rmk 6 153) 0 [(0, .ref (ad (gm κ) 0)), (1, .int a1), (2, .int a2)] [] w := by
  unfold X11_slips at h
  refine j_aload_n 0 dX11_slips_0 rfl rfl ?_
  refine j_getA 80 fl_RX11_65 sh_0 fk_0_7 (by decide) dX11_slips_1 ?_
  refine j_iload_n 1 dX11_slips_4 rfl rfl ?_
  refine j_callV (As := [.int a1]) (st := []) [.int (X5_isProof a1 w)] (c_X5_isProof (kl κ) (gm κ) (kA κ) a1 w) ck_RX11_328 im_X5_isProof se_X5_isProof sh_80 cx_5 ⟨rfl, rfl⟩ ⟨by decide, by decide⟩ rfl rfl (Nat.le_of_ble_eq_true rfl) dX11_slips_5 _ rfl ?_
  refine j_if_eq 20 dX11_slips_8 (by decide) h (fun h => ?_) (fun h => ?_)
  · refine j_loc [(0, .ref (ad (gm κ) 0))] [0] rfl ?_
    exact t_X11_slips_j20 w h
  · refine j_iload_n 2 dX11_slips_11 rfl rfl ?_
    refine j_iconst (0 : Int32) dX11_slips_12 ki_0 ?_
    refine j_iconst (3 : Int32) dX11_slips_13 ki_3 ?_
    refine j_callS (As := [.int a2, .int (0 : Int32), .int (3 : Int32)]) (st := []) [.int (X11_within a2 (0 : Int32) (3 : Int32) w)] (c_X11_within (kl κ) (gm κ) (kA κ) a2 (0 : Int32) (3 : Int32) w) ck_RX11_91 st_X11_within ⟨rfl, rfl⟩ ⟨by decide, by decide⟩ rfl rfl (Nat.le_of_ble_eq_true rfl) dX11_slips_14 _ rfl ?_
    refine j_if_ne 26 dX11_slips_17 (by decide) h (fun h => ?_) (fun h => ?_)
    · refine j_iload_n 2 dX11_slips_26 rfl rfl ?_
      refine j_iconst (1 : Int32) dX11_slips_27 ki_1 ?_
      refine j_ic_eq 36 dX11_slips_28 (by decide) h (fun h => ?_) (fun h => ?_)
      · refine j_loc [(0, .ref (ad (gm κ) 0)), (1, .int a1), (2, .int a2)] [0, 1, 2] rfl ?_
        exact t_X11_slips_j36 a1 a2 w h
      · refine j_iload_n 2 dX11_slips_31 rfl rfl ?_
        refine j_iconst (2 : Int32) dX11_slips_32 ki_2 ?_
        refine j_ic_ne 54 dX11_slips_33 (by decide) h (fun h => ?_) (fun h => ?_)
        · refine j_loc [(0, .ref (ad (gm κ) 0)), (1, .int a1), (2, .int a2)] [0, 1, 2] rfl ?_
          exact t_X11_slips_j54 a1 a2 w h
        · refine j_loc [(0, .ref (ad (gm κ) 0)), (1, .int a1), (2, .int a2)] [0, 1, 2] rfl ?_
          exact t_X11_slips_j36 a1 a2 w h
    · refine j_loc [(0, .ref (ad (gm κ) 0))] [0] rfl ?_
      exact t_X11_slips_j20 w h
theorem c_X11_slips (l : Launch) (γ : Gm) (A : Nat → Prop) (a1 : Int32) (a2 : Int32) (w : Wd) (q : Int32 × Wd) (e : X11_slips  a1 a2 w = some q) : MetG l γ A yX11_slips cX11_slips 3 (some .int) (rmk 6 153) [.ref (ad (γ) 0), .int a1, .int a2] w (some (.int q.1)) q.2 := by
  refine met_of pn_RX11 (Nat.le_of_ble_eq_true rfl) ?_
  intro κ hl hγ hA hρ
  subst hl; subst hγ; subst hA
  exact t_X11_slips   a1 a2 w ⟨q, e, pIw hρ rfl rfl⟩
theorem dX11_owed_0 : decode cX11_owed 0 = .ok (.aload_n 0, 1) := by decide +kernel
theorem dX11_owed_1 : decode cX11_owed 1 = .ok (.getfield 65, 3) := by decide +kernel
theorem dX11_owed_4 : decode cX11_owed 4 = .ok (.iload_n 1, 1) := by decide +kernel
theorem dX11_owed_5 : decode cX11_owed 5 = .ok (.invokevirtual 328, 3) := by decide +kernel
theorem dX11_owed_8 : decode cX11_owed 8 = .ok (.ifCond .eq 10, 3) := by decide +kernel
theorem dX11_owed_11 : decode cX11_owed 11 = .ok (.iload_n 2, 1) := by decide +kernel
theorem dX11_owed_12 : decode cX11_owed 12 = .ok (.invokestatic 296, 3) := by decide +kernel
theorem dX11_owed_15 : decode cX11_owed 15 = .ok (.ifCond .ne 9, 3) := by decide +kernel
theorem dX11_owed_18 : decode cX11_owed 18 = .ok (.aload_n 0, 1) := by decide +kernel
theorem dX11_owed_19 : decode cX11_owed 19 = .ok (.iconst 1, 1) := by decide +kernel
theorem dX11_owed_20 : decode cX11_owed 20 = .ok (.invokevirtual 114, 3) := by decide +kernel
theorem dX11_owed_23 : decode cX11_owed 23 = .ok (.ireturn, 1) := by decide +kernel
theorem dX11_owed_24 : decode cX11_owed 24 = .ok (.aload_n 0, 1) := by decide +kernel
theorem dX11_owed_25 : decode cX11_owed 25 = .ok (.getfield 58, 3) := by decide +kernel
theorem dX11_owed_28 : decode cX11_owed 28 = .ok (.aload_n 0, 1) := by decide +kernel
theorem dX11_owed_29 : decode cX11_owed 29 = .ok (.getfield 65, 3) := by decide +kernel
theorem dX11_owed_32 : decode cX11_owed 32 = .ok (.getfield 331, 3) := by decide +kernel
theorem dX11_owed_35 : decode cX11_owed 35 = .ok (.iload_n 1, 1) := by decide +kernel
theorem dX11_owed_36 : decode cX11_owed 36 = .ok (.iaload, 1) := by decide +kernel
theorem dX11_owed_37 : decode cX11_owed 37 = .ok (.iconst 1, 1) := by decide +kernel
theorem dX11_owed_38 : decode cX11_owed 38 = .ok (.isub, 1) := by decide +kernel
theorem dX11_owed_39 : decode cX11_owed 39 = .ok (.invokevirtual 290, 3) := by decide +kernel
theorem dX11_owed_42 : decode cX11_owed 42 = .ok (.aload_n 0, 1) := by decide +kernel
theorem dX11_owed_43 : decode cX11_owed 43 = .ok (.aload_n 0, 1) := by decide +kernel
theorem dX11_owed_44 : decode cX11_owed 44 = .ok (.getfield 65, 3) := by decide +kernel
theorem dX11_owed_47 : decode cX11_owed 47 = .ok (.iload_n 1, 1) := by decide +kernel
theorem dX11_owed_48 : decode cX11_owed 48 = .ok (.iload_n 2, 1) := by decide +kernel
theorem dX11_owed_49 : decode cX11_owed 49 = .ok (.aload_n 0, 1) := by decide +kernel
theorem dX11_owed_50 : decode cX11_owed 50 = .ok (.getfield 49, 3) := by decide +kernel
theorem dX11_owed_53 : decode cX11_owed 53 = .ok (.aload_n 0, 1) := by decide +kernel
theorem dX11_owed_54 : decode cX11_owed 54 = .ok (.iload_n 1, 1) := by decide +kernel
theorem dX11_owed_55 : decode cX11_owed 55 = .ok (.invokevirtual 343, 3) := by decide +kernel
theorem dX11_owed_58 : decode cX11_owed 58 = .ok (.invokevirtual 346, 3) := by decide +kernel
theorem dX11_owed_61 : decode cX11_owed 61 = .ok (.invokevirtual 145, 3) := by decide +kernel
theorem dX11_owed_64 : decode cX11_owed 64 = .ok (.ireturn, 1) := by decide +kernel
noncomputable def X11_owed_j18 (w : Wd) : Option (Int32 × Wd) :=
(X11_deny (1 : Int32) w).bind fun q1 =>
some (q1.1, q1.2)
set_option maxRecDepth 20000 in
set_option maxHeartbeats 1000000 in
theorem t_X11_owed_j18 {κ : Kx} (w : Wd) (h : ok (X11_owed_j18  w) (PIw κ)) : J κ RX11 cX11_owed 3 (some .int) (rmk 6 153) 18 [(0, .ref (ad (gm κ) 0))] [] w := by
  unfold X11_owed_j18 at h
  refine j_aload_n 0 dX11_owed_18 rfl rfl ?_
  refine j_iconst (1 : Int32) dX11_owed_19 ki_1 ?_
  obtain ⟨q1, e2, h⟩ := ok_b h
  refine j_callV (As := [.int (1 : Int32)]) (st := []) [.int q1.1] (c_X11_deny (kl κ) (gm κ) (kA κ) (1 : Int32) w q1 e2) ck_RX11_114 im_X11_deny se_X11_deny sh_0 cx_11 ⟨rfl, rfl⟩ ⟨by decide, by decide⟩ rfl rfl (Nat.le_of_ble_eq_true rfl) dX11_owed_20 _ rfl ?_
  have h := ok_s h
  exact j_iret dX11_owed_23 rfl rfl h
noncomputable def X11_owed (a1 : Int32) (a2 : Int32) (w : Wd) : Option (Int32 × Wd) :=
(if (X5_isProof a1 w) = 0 then
X11_owed_j18 w
else
(if (X11_isLesson a2 w) = 0 then
X11_owed_j18 w
else
gd (vp_in a1 60) <|
(X10_reach ((w.1 82 (ix a1)) - (1 : Int32)) w).bind fun q3 =>
(X11_doneAheadOf a1 q3).bind fun q5 =>
(X5_countOwed a1 a2 q5 q3).bind fun q7 =>
(X11_answer q7 q3).bind fun q9 =>
some (q9.1, q9.2)))
set_option maxRecDepth 20000 in
set_option maxHeartbeats 1000000 in
theorem t_X11_owed {κ : Kx} (a1 : Int32) (a2 : Int32) (w : Wd) (h : ok (X11_owed  a1 a2 w) (PIw κ)) : J κ RX11 cX11_owed 3 (some .int) (rmk 6 153) 0 [(0, .ref (ad (gm κ) 0)), (1, .int a1), (2, .int a2)] [] w := by
  unfold X11_owed at h
  refine j_aload_n 0 dX11_owed_0 rfl rfl ?_
  refine j_getA 80 fl_RX11_65 sh_0 fk_0_7 (by decide) dX11_owed_1 ?_
  refine j_iload_n 1 dX11_owed_4 rfl rfl ?_
  refine j_callV (As := [.int a1]) (st := []) [.int (X5_isProof a1 w)] (c_X5_isProof (kl κ) (gm κ) (kA κ) a1 w) ck_RX11_328 im_X5_isProof se_X5_isProof sh_80 cx_5 ⟨rfl, rfl⟩ ⟨by decide, by decide⟩ rfl rfl (Nat.le_of_ble_eq_true rfl) dX11_owed_5 _ rfl ?_
  refine j_if_eq 18 dX11_owed_8 (by decide) h (fun h => ?_) (fun h => ?_)
  · refine j_loc [(0, .ref (ad (gm κ) 0))] [0] rfl ?_
    exact t_X11_owed_j18 w h
  · refine j_iload_n 2 dX11_owed_11 rfl rfl ?_
    refine j_callS (As := [.int a2]) (st := []) [.int (X11_isLesson a2 w)] (c_X11_isLesson (kl κ) (gm κ) (kA κ) a2 w) ck_RX11_296 st_X11_isLesson ⟨rfl, rfl⟩ ⟨by decide, by decide⟩ rfl rfl (Nat.le_of_ble_eq_true rfl) dX11_owed_12 _ rfl ?_
    refine j_if_ne 24 dX11_owed_15 (by decide) h (fun h => ?_) (fun h => ?_)
    · refine j_aload_n 0 dX11_owed_24 rfl rfl ?_
      refine j_getA 73 fl_RX11_58 sh_0 fk_0_6 (by decide) dX11_owed_25 ?_
      refine j_aload_n 0 dX11_owed_28 rfl rfl ?_
      refine j_getA 80 fl_RX11_65 sh_0 fk_0_7 (by decide) dX11_owed_29 ?_
      refine j_getA 82 fl_RX11_331 sh_80 fk_80_2 (by decide) dX11_owed_32 ?_
      refine j_iload_n 1 dX11_owed_35 rfl rfl ?_
      refine j_iald sh_82 dX11_owed_36 h (fun h => ?_)
      refine j_iconst (1 : Int32) dX11_owed_37 ki_1 ?_
      refine j_isub dX11_owed_38 ?_
      obtain ⟨q3, e4, h⟩ := ok_b h
      refine j_callV (As := [.int ((w.1 82 (ix a1)) - (1 : Int32))]) (st := []) [] (c_X10_reach (kl κ) (gm κ) (kA κ) ((w.1 82 (ix a1)) - (1 : Int32)) w q3 e4) ck_RX11_290 im_X10_reach se_X10_reach sh_73 cx_10 ⟨rfl, rfl⟩ ⟨by decide, by decide⟩ rfl rfl (Nat.le_of_ble_eq_true rfl) dX11_owed_39 _ rfl ?_
      refine j_aload_n 0 dX11_owed_42 rfl rfl ?_
      refine j_aload_n 0 dX11_owed_43 rfl rfl ?_
      refine j_getA 80 fl_RX11_65 sh_0 fk_0_7 (by decide) dX11_owed_44 ?_
      refine j_iload_n 1 dX11_owed_47 rfl rfl ?_
      refine j_iload_n 2 dX11_owed_48 rfl rfl ?_
      refine j_aload_n 0 dX11_owed_49 rfl rfl ?_
      refine j_getA 69 fl_RX11_49 sh_0 fk_0_5 (by decide) dX11_owed_50 ?_
      refine j_aload_n 0 dX11_owed_53 rfl rfl ?_
      refine j_iload_n 1 dX11_owed_54 rfl rfl ?_
      obtain ⟨q5, e6, h⟩ := ok_b h
      refine j_callV (As := [.int a1]) (st := [.ref (ad (gm κ) 69), .int a2, .int a1, .ref (ad (gm κ) 80), .ref (ad (gm κ) 0)]) [.int q5, .ref (ad (gm κ) 69), .int a2, .int a1, .ref (ad (gm κ) 80), .ref (ad (gm κ) 0)] (c_X11_doneAheadOf (kl κ) (gm κ) (kA κ) a1 q3 q5 e6) ck_RX11_343 im_X11_doneAheadOf se_X11_doneAheadOf sh_0 cx_11 ⟨rfl, rfl⟩ ⟨by decide, by decide⟩ rfl rfl (Nat.le_of_ble_eq_true rfl) dX11_owed_55 _ rfl ?_
      obtain ⟨q7, e8, h⟩ := ok_b h
      refine j_callV (As := [.int a1, .int a2, .ref (ad (gm κ) 69), .int q5]) (st := [.ref (ad (gm κ) 0)]) [.int q7, .ref (ad (gm κ) 0)] (c_X5_countOwed (kl κ) (gm κ) (kA κ) a1 a2 q5 q3 q7 e8) ck_RX11_346 im_X5_countOwed se_X5_countOwed sh_80 cx_5 ⟨rfl, rfl⟩ ⟨by decide, by decide⟩ rfl rfl (Nat.le_of_ble_eq_true rfl) dX11_owed_58 _ rfl ?_
      obtain ⟨q9, e10, h⟩ := ok_b h
      refine j_callV (As := [.int q7]) (st := []) [.int q9.1] (c_X11_answer (kl κ) (gm κ) (kA κ) q7 q3 q9 e10) ck_RX11_145 im_X11_answer se_X11_answer sh_0 cx_11 ⟨rfl, rfl⟩ ⟨by decide, by decide⟩ rfl rfl (Nat.le_of_ble_eq_true rfl) dX11_owed_61 _ rfl ?_
      have h := ok_s h
      exact j_iret dX11_owed_64 rfl rfl h
    · refine j_loc [(0, .ref (ad (gm κ) 0))] [0] rfl ?_
      exact t_X11_owed_j18 w h
theorem c_X11_owed (l : Launch) (γ : Gm) (A : Nat → Prop) (a1 : Int32) (a2 : Int32) (w : Wd) (q : Int32 × Wd) (e : X11_owed  a1 a2 w = some q) : MetG l γ A yX11_owed cX11_owed 3 (some .int) (rmk 6 153) [.ref (ad (γ) 0), .int a1, .int a2] w (some (.int q.1)) q.2 := by
  refine met_of pn_RX11 (Nat.le_of_ble_eq_true rfl) ?_
  intro κ hl hγ hA hρ
  subst hl; subst hγ; subst hA
  exact t_X11_owed   a1 a2 w ⟨q, e, pIw hρ rfl rfl⟩
theorem dX11_canRead_0 : decode cX11_canRead 0 = .ok (.aload_n 0, 1) := by decide +kernel
theorem dX11_canRead_1 : decode cX11_canRead 1 = .ok (.getfield 65, 3) := by decide +kernel
theorem dX11_canRead_4 : decode cX11_canRead 4 = .ok (.iload_n 1, 1) := by decide +kernel
theorem dX11_canRead_5 : decode cX11_canRead 5 = .ok (.iload_n 2, 1) := by decide +kernel
theorem dX11_canRead_6 : decode cX11_canRead 6 = .ok (.invokevirtual 359, 3) := by decide +kernel
theorem dX11_canRead_9 : decode cX11_canRead 9 = .ok (.istore_n 3, 1) := by decide +kernel
theorem dX11_canRead_10 : decode cX11_canRead 10 = .ok (.iload_n 3, 1) := by decide +kernel
theorem dX11_canRead_11 : decode cX11_canRead 11 = .ok (.iconst (-1), 1) := by decide +kernel
theorem dX11_canRead_12 : decode cX11_canRead 12 = .ok (.if_icmp .eq 15, 3) := by decide +kernel
theorem dX11_canRead_15 : decode cX11_canRead 15 = .ok (.aload_n 0, 1) := by decide +kernel
theorem dX11_canRead_16 : decode cX11_canRead 16 = .ok (.iload_n 3, 1) := by decide +kernel
theorem dX11_canRead_17 : decode cX11_canRead 17 = .ok (.invokevirtual 340, 3) := by decide +kernel
theorem dX11_canRead_20 : decode cX11_canRead 20 = .ok (.ifCond .eq 7, 3) := by decide +kernel
theorem dX11_canRead_23 : decode cX11_canRead 23 = .ok (.iconst 1, 1) := by decide +kernel
theorem dX11_canRead_24 : decode cX11_canRead 24 = .ok (.goto 4, 3) := by decide +kernel
theorem dX11_canRead_27 : decode cX11_canRead 27 = .ok (.iconst 0, 1) := by decide +kernel
theorem dX11_canRead_28 : decode cX11_canRead 28 = .ok (.ireturn, 1) := by decide +kernel
noncomputable def X11_canRead (a1 : Int32) (a2 : Int32) (w : Wd) : Option (Int32 × Wd) :=
(X5_latestBy a1 a2 w).bind fun q1 =>
(if q1 = (-1 : Int32) then
some ((0 : Int32), w)
else
(X11_isPassed q1 w).bind fun q3 =>
(if q3.1 = 0 then
some ((0 : Int32), q3.2)
else
some ((1 : Int32), q3.2)))
set_option maxRecDepth 20000 in
set_option maxHeartbeats 1000000 in
theorem t_X11_canRead {κ : Kx} (a1 : Int32) (a2 : Int32) (w : Wd) (h : ok (X11_canRead  a1 a2 w) (PIw κ)) : J κ RX11 cX11_canRead 4 (some .boolean) (rmk 4 97) 0 [(0, .ref (ad (gm κ) 0)), (1, .int a1), (2, .int a2)] [] w := by
  unfold X11_canRead at h
  refine j_aload_n 0 dX11_canRead_0 rfl rfl ?_
  refine j_getA 80 fl_RX11_65 sh_0 fk_0_7 (by decide) dX11_canRead_1 ?_
  refine j_iload_n 1 dX11_canRead_4 rfl rfl ?_
  refine j_iload_n 2 dX11_canRead_5 rfl rfl ?_
  obtain ⟨q1, e2, h⟩ := ok_b h
  refine j_callV (As := [.int a1, .int a2]) (st := []) [.int q1] (c_X5_latestBy (kl κ) (gm κ) (kA κ) a1 a2 w q1 e2) ck_RX11_359 im_X5_latestBy se_X5_latestBy sh_80 cx_5 ⟨rfl, rfl⟩ ⟨by decide, by decide⟩ rfl rfl (Nat.le_of_ble_eq_true rfl) dX11_canRead_6 _ rfl ?_
  refine j_istore_n [(3, .int q1), (0, .ref (ad (gm κ) 0)), (1, .int a1), (2, .int a2)] dX11_canRead_9 rfl (by decide) rfl ?_
  refine j_iload_n 0 dX11_canRead_10 rfl rfl ?_
  refine j_iconst (-1 : Int32) dX11_canRead_11 ki_m1 ?_
  refine j_ic_eq 27 dX11_canRead_12 (by decide) h (fun h => ?_) (fun h => ?_)
  · refine j_iconst (0 : Int32) dX11_canRead_27 ki_0 ?_
    have h := ok_s h
    exact j_iret dX11_canRead_28 rfl (by decide) h
  · refine j_aload_n 1 dX11_canRead_15 rfl rfl ?_
    refine j_iload_n 0 dX11_canRead_16 rfl rfl ?_
    obtain ⟨q3, e4, h⟩ := ok_b h
    refine j_callV (As := [.int q1]) (st := []) [.int q3.1] (c_X11_isPassed (kl κ) (gm κ) (kA κ) q1 w q3 e4) ck_RX11_340 im_X11_isPassed se_X11_isPassed sh_0 cx_11 ⟨rfl, rfl⟩ ⟨by decide, by decide⟩ rfl rfl (Nat.le_of_ble_eq_true rfl) dX11_canRead_17 _ rfl ?_
    refine j_if_eq 27 dX11_canRead_20 (by decide) h (fun h => ?_) (fun h => ?_)
    · refine j_iconst (0 : Int32) dX11_canRead_27 ki_0 ?_
      have h := ok_s h
      exact j_iret dX11_canRead_28 rfl (by decide) h
    · refine j_iconst (1 : Int32) dX11_canRead_23 ki_1 ?_
      refine j_goto 28 dX11_canRead_24 (by decide) ?_
      have h := ok_s h
      exact j_iret dX11_canRead_28 rfl (by decide) h
theorem c_X11_canRead (l : Launch) (γ : Gm) (A : Nat → Prop) (a1 : Int32) (a2 : Int32) (w : Wd) (q : Int32 × Wd) (e : X11_canRead  a1 a2 w = some q) : MetG l γ A yX11_canRead cX11_canRead 4 (some .boolean) (rmk 4 97) [.ref (ad (γ) 0), .int a1, .int a2] w (some (.int q.1)) q.2 := by
  refine met_of pn_RX11 (Nat.le_of_ble_eq_true rfl) ?_
  intro κ hl hγ hA hρ
  subst hl; subst hγ; subst hA
  exact t_X11_canRead   a1 a2 w ⟨q, e, pIw hρ rfl rfl⟩
theorem dX11_reads_0 : decode cX11_reads 0 = .ok (.aload_n 0, 1) := by decide +kernel
theorem dX11_reads_1 : decode cX11_reads 1 = .ok (.getfield 19, 3) := by decide +kernel
theorem dX11_reads_4 : decode cX11_reads 4 = .ok (.iload_n 1, 1) := by decide +kernel
theorem dX11_reads_5 : decode cX11_reads 5 = .ok (.invokevirtual 220, 3) := by decide +kernel
theorem dX11_reads_8 : decode cX11_reads 8 = .ok (.ifCond .eq 10, 3) := by decide +kernel
theorem dX11_reads_11 : decode cX11_reads 11 = .ok (.iload_n 2, 1) := by decide +kernel
theorem dX11_reads_12 : decode cX11_reads 12 = .ok (.invokestatic 168, 3) := by decide +kernel
theorem dX11_reads_15 : decode cX11_reads 15 = .ok (.ifCond .ne 9, 3) := by decide +kernel
theorem dX11_reads_18 : decode cX11_reads 18 = .ok (.aload_n 0, 1) := by decide +kernel
theorem dX11_reads_19 : decode cX11_reads 19 = .ok (.iconst 1, 1) := by decide +kernel
theorem dX11_reads_20 : decode cX11_reads 20 = .ok (.invokevirtual 114, 3) := by decide +kernel
theorem dX11_reads_23 : decode cX11_reads 23 = .ok (.ireturn, 1) := by decide +kernel
theorem dX11_reads_24 : decode cX11_reads 24 = .ok (.aload_n 0, 1) := by decide +kernel
theorem dX11_reads_25 : decode cX11_reads 25 = .ok (.aload_n 0, 1) := by decide +kernel
theorem dX11_reads_26 : decode cX11_reads 26 = .ok (.iload_n 1, 1) := by decide +kernel
theorem dX11_reads_27 : decode cX11_reads 27 = .ok (.iload_n 2, 1) := by decide +kernel
theorem dX11_reads_28 : decode cX11_reads 28 = .ok (.invokevirtual 362, 3) := by decide +kernel
theorem dX11_reads_31 : decode cX11_reads 31 = .ok (.invokevirtual 286, 3) := by decide +kernel
theorem dX11_reads_34 : decode cX11_reads 34 = .ok (.ireturn, 1) := by decide +kernel
noncomputable def X11_reads_j18 (w : Wd) : Option (Int32 × Wd) :=
(X11_deny (1 : Int32) w).bind fun q1 =>
some (q1.1, q1.2)
set_option maxRecDepth 20000 in
set_option maxHeartbeats 1000000 in
theorem t_X11_reads_j18 {κ : Kx} (w : Wd) (h : ok (X11_reads_j18  w) (PIw κ)) : J κ RX11 cX11_reads 3 (some .int) (rmk 5 120) 18 [(0, .ref (ad (gm κ) 0))] [] w := by
  unfold X11_reads_j18 at h
  refine j_aload_n 0 dX11_reads_18 rfl rfl ?_
  refine j_iconst (1 : Int32) dX11_reads_19 ki_1 ?_
  obtain ⟨q1, e2, h⟩ := ok_b h
  refine j_callV (As := [.int (1 : Int32)]) (st := []) [.int q1.1] (c_X11_deny (kl κ) (gm κ) (kA κ) (1 : Int32) w q1 e2) ck_RX11_114 im_X11_deny se_X11_deny sh_0 cx_11 ⟨rfl, rfl⟩ ⟨by decide, by decide⟩ rfl rfl (Nat.le_of_ble_eq_true rfl) dX11_reads_20 _ rfl ?_
  have h := ok_s h
  exact j_iret dX11_reads_23 rfl rfl h
noncomputable def X11_reads (a1 : Int32) (a2 : Int32) (w : Wd) : Option (Int32 × Wd) :=
(if (X2_isLearner a1 w) = 0 then
X11_reads_j18 w
else
(if (X11_isWeek a2 w) = 0 then
X11_reads_j18 w
else
(X11_canRead a1 a2 w).bind fun q3 =>
(X11_answerWhether q3.1 q3.2).bind fun q5 =>
some (q5.1, q5.2)))
set_option maxRecDepth 20000 in
set_option maxHeartbeats 1000000 in
theorem t_X11_reads {κ : Kx} (a1 : Int32) (a2 : Int32) (w : Wd) (h : ok (X11_reads  a1 a2 w) (PIw κ)) : J κ RX11 cX11_reads 3 (some .int) (rmk 5 120) 0 [(0, .ref (ad (gm κ) 0)), (1, .int a1), (2, .int a2)] [] w := by
  unfold X11_reads at h
  refine j_aload_n 0 dX11_reads_0 rfl rfl ?_
  refine j_getA 5 fl_RX11_19 sh_0 fk_0_1 (by decide) dX11_reads_1 ?_
  refine j_iload_n 1 dX11_reads_4 rfl rfl ?_
  refine j_callV (As := [.int a1]) (st := []) [.int (X2_isLearner a1 w)] (c_X2_isLearner (kl κ) (gm κ) (kA κ) a1 w) ck_RX11_220 im_X2_isLearner se_X2_isLearner sh_5 cx_2 ⟨rfl, rfl⟩ ⟨by decide, by decide⟩ rfl rfl (Nat.le_of_ble_eq_true rfl) dX11_reads_5 _ rfl ?_
  refine j_if_eq 18 dX11_reads_8 (by decide) h (fun h => ?_) (fun h => ?_)
  · refine j_loc [(0, .ref (ad (gm κ) 0))] [0] rfl ?_
    exact t_X11_reads_j18 w h
  · refine j_iload_n 2 dX11_reads_11 rfl rfl ?_
    refine j_callS (As := [.int a2]) (st := []) [.int (X11_isWeek a2 w)] (c_X11_isWeek (kl κ) (gm κ) (kA κ) a2 w) ck_RX11_168 st_X11_isWeek ⟨rfl, rfl⟩ ⟨by decide, by decide⟩ rfl rfl (Nat.le_of_ble_eq_true rfl) dX11_reads_12 _ rfl ?_
    refine j_if_ne 24 dX11_reads_15 (by decide) h (fun h => ?_) (fun h => ?_)
    · refine j_aload_n 0 dX11_reads_24 rfl rfl ?_
      refine j_aload_n 0 dX11_reads_25 rfl rfl ?_
      refine j_iload_n 1 dX11_reads_26 rfl rfl ?_
      refine j_iload_n 2 dX11_reads_27 rfl rfl ?_
      obtain ⟨q3, e4, h⟩ := ok_b h
      refine j_callV (As := [.int a1, .int a2]) (st := [.ref (ad (gm κ) 0)]) [.int q3.1, .ref (ad (gm κ) 0)] (c_X11_canRead (kl κ) (gm κ) (kA κ) a1 a2 w q3 e4) ck_RX11_362 im_X11_canRead se_X11_canRead sh_0 cx_11 ⟨rfl, rfl⟩ ⟨by decide, by decide⟩ rfl rfl (Nat.le_of_ble_eq_true rfl) dX11_reads_28 _ rfl ?_
      obtain ⟨q5, e6, h⟩ := ok_b h
      refine j_callV (As := [.int q3.1]) (st := []) [.int q5.1] (c_X11_answerWhether (kl κ) (gm κ) (kA κ) q3.1 q3.2 q5 e6) ck_RX11_286 im_X11_answerWhether se_X11_answerWhether sh_0 cx_11 ⟨rfl, rfl⟩ ⟨by decide, by decide⟩ rfl rfl (Nat.le_of_ble_eq_true rfl) dX11_reads_31 _ rfl ?_
      have h := ok_s h
      exact j_iret dX11_reads_34 rfl rfl h
    · refine j_loc [(0, .ref (ad (gm κ) 0))] [0] rfl ?_
      exact t_X11_reads_j18 w h
theorem c_X11_reads (l : Launch) (γ : Gm) (A : Nat → Prop) (a1 : Int32) (a2 : Int32) (w : Wd) (q : Int32 × Wd) (e : X11_reads  a1 a2 w = some q) : MetG l γ A yX11_reads cX11_reads 3 (some .int) (rmk 5 120) [.ref (ad (γ) 0), .int a1, .int a2] w (some (.int q.1)) q.2 := by
  refine met_of pn_RX11 (Nat.le_of_ble_eq_true rfl) ?_
  intro κ hl hγ hA hρ
  subst hl; subst hγ; subst hA
  exact t_X11_reads   a1 a2 w ⟨q, e, pIw hρ rfl rfl⟩
theorem dX11_flag_0 : decode cX11_flag 0 = .ok (.aload_n 0, 1) := by decide +kernel
theorem dX11_flag_1 : decode cX11_flag 1 = .ok (.getfield 19, 3) := by decide +kernel
theorem dX11_flag_4 : decode cX11_flag 4 = .ok (.iload_n 1, 1) := by decide +kernel
theorem dX11_flag_5 : decode cX11_flag 5 = .ok (.invokevirtual 148, 3) := by decide +kernel
theorem dX11_flag_8 : decode cX11_flag 8 = .ok (.ifCond .eq 10, 3) := by decide +kernel
theorem dX11_flag_11 : decode cX11_flag 11 = .ok (.iload_n 2, 1) := by decide +kernel
theorem dX11_flag_12 : decode cX11_flag 12 = .ok (.invokestatic 168, 3) := by decide +kernel
theorem dX11_flag_15 : decode cX11_flag 15 = .ok (.ifCond .ne 9, 3) := by decide +kernel
theorem dX11_flag_18 : decode cX11_flag 18 = .ok (.aload_n 0, 1) := by decide +kernel
theorem dX11_flag_19 : decode cX11_flag 19 = .ok (.iconst 1, 1) := by decide +kernel
theorem dX11_flag_20 : decode cX11_flag 20 = .ok (.invokevirtual 114, 3) := by decide +kernel
theorem dX11_flag_23 : decode cX11_flag 23 = .ok (.ireturn, 1) := by decide +kernel
theorem dX11_flag_24 : decode cX11_flag 24 = .ok (.iconst 0, 1) := by decide +kernel
theorem dX11_flag_25 : decode cX11_flag 25 = .ok (.istore_n 3, 1) := by decide +kernel
theorem dX11_flag_26 : decode cX11_flag 26 = .ok (.iconst 0, 1) := by decide +kernel
theorem dX11_flag_27 : decode cX11_flag 27 = .ok (.istore 4, 2) := by decide +kernel
theorem dX11_flag_29 : decode cX11_flag 29 = .ok (.iconst 0, 1) := by decide +kernel
theorem dX11_flag_30 : decode cX11_flag 30 = .ok (.istore 5, 2) := by decide +kernel
theorem dX11_flag_32 : decode cX11_flag 32 = .ok (.iload 5, 2) := by decide +kernel
theorem dX11_flag_34 : decode cX11_flag 34 = .ok (.aload_n 0, 1) := by decide +kernel
theorem dX11_flag_35 : decode cX11_flag 35 = .ok (.getfield 19, 3) := by decide +kernel
theorem dX11_flag_38 : decode cX11_flag 38 = .ok (.getfield 181, 3) := by decide +kernel
theorem dX11_flag_41 : decode cX11_flag 41 = .ok (.if_icmp .ge 46, 3) := by decide +kernel
theorem dX11_flag_44 : decode cX11_flag 44 = .ok (.aload_n 0, 1) := by decide +kernel
theorem dX11_flag_45 : decode cX11_flag 45 = .ok (.getfield 19, 3) := by decide +kernel
theorem dX11_flag_48 : decode cX11_flag 48 = .ok (.getfield 353, 3) := by decide +kernel
theorem dX11_flag_51 : decode cX11_flag 51 = .ok (.iload 5, 2) := by decide +kernel
theorem dX11_flag_53 : decode cX11_flag 53 = .ok (.iaload, 1) := by decide +kernel
theorem dX11_flag_54 : decode cX11_flag 54 = .ok (.iload_n 1, 1) := by decide +kernel
theorem dX11_flag_55 : decode cX11_flag 55 = .ok (.if_icmp .ne 26, 3) := by decide +kernel
theorem dX11_flag_58 : decode cX11_flag 58 = .ok (.iinc 3 1, 3) := by decide +kernel
theorem dX11_flag_61 : decode cX11_flag 61 = .ok (.iload 4, 2) := by decide +kernel
theorem dX11_flag_63 : decode cX11_flag 63 = .ok (.aload_n 0, 1) := by decide +kernel
theorem dX11_flag_64 : decode cX11_flag 64 = .ok (.iload 5, 2) := by decide +kernel
theorem dX11_flag_66 : decode cX11_flag 66 = .ok (.iload_n 2, 1) := by decide +kernel
theorem dX11_flag_67 : decode cX11_flag 67 = .ok (.invokevirtual 362, 3) := by decide +kernel
theorem dX11_flag_70 : decode cX11_flag 70 = .ok (.ifCond .eq 7, 3) := by decide +kernel
theorem dX11_flag_73 : decode cX11_flag 73 = .ok (.iconst 1, 1) := by decide +kernel
theorem dX11_flag_74 : decode cX11_flag 74 = .ok (.goto 4, 3) := by decide +kernel
theorem dX11_flag_77 : decode cX11_flag 77 = .ok (.iconst 0, 1) := by decide +kernel
theorem dX11_flag_78 : decode cX11_flag 78 = .ok (.iadd, 1) := by decide +kernel
theorem dX11_flag_79 : decode cX11_flag 79 = .ok (.istore 4, 2) := by decide +kernel
theorem dX11_flag_81 : decode cX11_flag 81 = .ok (.iinc 5 1, 3) := by decide +kernel
theorem dX11_flag_84 : decode cX11_flag 84 = .ok (.goto (-52), 3) := by decide +kernel
theorem dX11_flag_87 : decode cX11_flag 87 = .ok (.aload_n 0, 1) := by decide +kernel
theorem dX11_flag_88 : decode cX11_flag 88 = .ok (.getfield 33, 3) := by decide +kernel
theorem dX11_flag_91 : decode cX11_flag 91 = .ok (.aload_n 0, 1) := by decide +kernel
theorem dX11_flag_92 : decode cX11_flag 92 = .ok (.getfield 19, 3) := by decide +kernel
theorem dX11_flag_95 : decode cX11_flag 95 = .ok (.getfield 356, 3) := by decide +kernel
theorem dX11_flag_98 : decode cX11_flag 98 = .ok (.iload_n 1, 1) := by decide +kernel
theorem dX11_flag_99 : decode cX11_flag 99 = .ok (.iaload, 1) := by decide +kernel
theorem dX11_flag_100 : decode cX11_flag 100 = .ok (.iload_n 2, 1) := by decide +kernel
theorem dX11_flag_101 : decode cX11_flag 101 = .ok (.invokevirtual 266, 3) := by decide +kernel
theorem dX11_flag_104 : decode cX11_flag 104 = .ok (.getfield 279, 3) := by decide +kernel
theorem dX11_flag_107 : decode cX11_flag 107 = .ok (.istore 5, 2) := by decide +kernel
theorem dX11_flag_109 : decode cX11_flag 109 = .ok (.aload_n 0, 1) := by decide +kernel
theorem dX11_flag_110 : decode cX11_flag 110 = .ok (.iload_n 3, 1) := by decide +kernel
theorem dX11_flag_111 : decode cX11_flag 111 = .ok (.ifCond .le 19, 3) := by decide +kernel
theorem dX11_flag_114 : decode cX11_flag 114 = .ok (.iload 4, 2) := by decide +kernel
theorem dX11_flag_116 : decode cX11_flag 116 = .ok (.bipush 100, 2) := by decide +kernel
theorem dX11_flag_118 : decode cX11_flag 118 = .ok (.imul, 1) := by decide +kernel
theorem dX11_flag_119 : decode cX11_flag 119 = .ok (.iload 5, 2) := by decide +kernel
theorem dX11_flag_121 : decode cX11_flag 121 = .ok (.iload_n 3, 1) := by decide +kernel
theorem dX11_flag_122 : decode cX11_flag 122 = .ok (.imul, 1) := by decide +kernel
theorem dX11_flag_123 : decode cX11_flag 123 = .ok (.if_icmp .lt 7, 3) := by decide +kernel
theorem dX11_flag_126 : decode cX11_flag 126 = .ok (.iconst 1, 1) := by decide +kernel
theorem dX11_flag_127 : decode cX11_flag 127 = .ok (.goto 4, 3) := by decide +kernel
theorem dX11_flag_130 : decode cX11_flag 130 = .ok (.iconst 0, 1) := by decide +kernel
theorem dX11_flag_131 : decode cX11_flag 131 = .ok (.invokevirtual 286, 3) := by decide +kernel
theorem dX11_flag_134 : decode cX11_flag 134 = .ok (.ireturn, 1) := by decide +kernel
noncomputable def X11_flag_j18 (w : Wd) : Option (Int32 × Wd) :=
(X11_deny (1 : Int32) w).bind fun q1 =>
some (q1.1, q1.2)
set_option maxRecDepth 20000 in
set_option maxHeartbeats 1000000 in
theorem t_X11_flag_j18 {κ : Kx} (w : Wd) (h : ok (X11_flag_j18  w) (PIw κ)) : J κ RX11 cX11_flag 6 (some .int) (rmk 5 120) 18 [(0, .ref (ad (gm κ) 0))] [] w := by
  unfold X11_flag_j18 at h
  refine j_aload_n 0 dX11_flag_18 rfl rfl ?_
  refine j_iconst (1 : Int32) dX11_flag_19 ki_1 ?_
  obtain ⟨q1, e2, h⟩ := ok_b h
  refine j_callV (As := [.int (1 : Int32)]) (st := []) [.int q1.1] (c_X11_deny (kl κ) (gm κ) (kA κ) (1 : Int32) w q1 e2) ck_RX11_114 im_X11_deny se_X11_deny sh_0 cx_11 ⟨rfl, rfl⟩ ⟨by decide, by decide⟩ rfl rfl (Nat.le_of_ble_eq_true rfl) dX11_flag_20 _ rfl ?_
  have h := ok_s h
  exact j_iret dX11_flag_23 rfl rfl h
noncomputable def X11_flag_j81 (a1 : Int32) (a2 : Int32) (a3 : Int32) (a4 : Int32) (a5 : Int32) (w : Wd) : Option ((Int32 × Int32 × Int32 × Wd) ⊕ (Int32 × Int32 × Wd)) :=
some (.inl (a3, a4, (a5 + (1 : Int32)), w))
set_option maxRecDepth 20000 in
set_option maxHeartbeats 1000000 in
theorem t_X11_flag_j81 {κ : Kx} (a1 : Int32) (a2 : Int32) (a3 : Int32) (a4 : Int32) (a5 : Int32) (w : Wd) {G : (Int32 × Int32 × Int32 × Wd) → Prop} {P : (Int32 × Int32 × Wd) → Prop} (KG : ∀ s, G s → J κ RX11 cX11_flag 6 (some .int) (rmk 5 120) 32 [(0, .ref (ad (gm κ) 0)), (1, .int a1), (2, .int a2), (3, .int s.1), (4, .int s.2.1), (5, .int s.2.2.1)] [] s.2.2.2) (K0 : ∀ e, P e → J κ RX11 cX11_flag 6 (some .int) (rmk 5 120) 87 [(0, .ref (ad (gm κ) 0)), (1, .int a1), (2, .int a2), (3, .int e.1), (4, .int e.2.1)] [] e.2.2) (h : ok (X11_flag_j81  a1 a2 a3 a4 a5 w) (sel G P)) : J κ RX11 cX11_flag 6 (some .int) (rmk 5 120) 81 [(0, .ref (ad (gm κ) 0)), (1, .int a1), (2, .int a2), (3, .int a3), (4, .int a4), (5, .int a5)] [] w := by
  unfold X11_flag_j81 at h
  refine j_iinc (a5 + (1 : Int32)) 5 [(5, .int (a5 + (1 : Int32))), (0, .ref (ad (gm κ) 0)), (1, .int a1), (2, .int a2), (3, .int a3), (4, .int a4)] dX11_flag_81 rfl (by rw [kn_1]) (by decide) rfl ?_
  refine j_goto 32 dX11_flag_84 (by decide) ?_
  refine j_loc [(0, .ref (ad (gm κ) 0)), (1, .int a1), (2, .int a2), (3, .int a3), (4, .int a4), (5, .int (a5 + (1 : Int32)))] [1, 2, 3, 4, 5, 0] rfl ?_
  have h := sel_l h
  have h := KG _ h
  exact h
noncomputable def X11_flag_j78 (a1 : Int32) (a2 : Int32) (a3 : Int32) (a5 : Int32) (s0 : Int32) (s1 : Int32) (w : Wd) : Option ((Int32 × Int32 × Int32 × Wd) ⊕ (Int32 × Int32 × Wd)) :=
X11_flag_j81 a1 a2 a3 (s1 + s0) a5 w
set_option maxRecDepth 20000 in
set_option maxHeartbeats 1000000 in
theorem t_X11_flag_j78 {κ : Kx} (a1 : Int32) (a2 : Int32) (a3 : Int32) (a5 : Int32) (s0 : Int32) (s1 : Int32) (w : Wd) {G : (Int32 × Int32 × Int32 × Wd) → Prop} {P : (Int32 × Int32 × Wd) → Prop} (KG : ∀ s, G s → J κ RX11 cX11_flag 6 (some .int) (rmk 5 120) 32 [(0, .ref (ad (gm κ) 0)), (1, .int a1), (2, .int a2), (3, .int s.1), (4, .int s.2.1), (5, .int s.2.2.1)] [] s.2.2.2) (K0 : ∀ e, P e → J κ RX11 cX11_flag 6 (some .int) (rmk 5 120) 87 [(0, .ref (ad (gm κ) 0)), (1, .int a1), (2, .int a2), (3, .int e.1), (4, .int e.2.1)] [] e.2.2) (h : ok (X11_flag_j78  a1 a2 a3 a5 s0 s1 w) (sel G P)) : J κ RX11 cX11_flag 6 (some .int) (rmk 5 120) 78 [(0, .ref (ad (gm κ) 0)), (1, .int a1), (2, .int a2), (3, .int a3), (5, .int a5)] [.int s0, .int s1] w := by
  unfold X11_flag_j78 at h
  refine j_iadd dX11_flag_78 ?_
  refine j_istore [(4, .int (s1 + s0)), (0, .ref (ad (gm κ) 0)), (1, .int a1), (2, .int a2), (3, .int a3), (5, .int a5)] dX11_flag_79 (by decide) rfl ?_
  refine j_loc [(0, .ref (ad (gm κ) 0)), (1, .int a1), (2, .int a2), (3, .int a3), (4, .int (s1 + s0)), (5, .int a5)] [1, 2, 3, 4, 0, 5] rfl ?_
  exact t_X11_flag_j81 a1 a2 a3 (s1 + s0) a5 w KG K0 h
noncomputable def X11_flag_b32 (a1 : Int32) (a2 : Int32) (s : (Int32 × Int32 × Int32 × Wd)) : Option ((Int32 × Int32 × Int32 × Wd) ⊕ (Int32 × Int32 × Wd)) :=
(if (s.2.2.2.1 5 8) ≤ s.2.2.1 then
some (.inr (s.1, s.2.1, s.2.2.2))
else
gd (vp_in s.2.2.1 40) <|
(if (s.2.2.2.1 12 (ix s.2.2.1)) = a1 then
(X11_canRead s.2.2.1 a2 s.2.2.2).bind fun q3 =>
(if q3.1 = 0 then
X11_flag_j78 a1 a2 (s.1 + (1 : Int32)) s.2.2.1 (0 : Int32) s.2.1 q3.2
else
X11_flag_j78 a1 a2 (s.1 + (1 : Int32)) s.2.2.1 (1 : Int32) s.2.1 q3.2)
else
X11_flag_j81 a1 a2 s.1 s.2.1 s.2.2.1 s.2.2.2))
set_option maxRecDepth 20000 in
set_option maxHeartbeats 1000000 in
theorem t_X11_flag_b32 {κ : Kx} (a1 : Int32) (a2 : Int32) {P : (Int32 × Int32 × Wd) → Prop} (K0 : ∀ e, P e → J κ RX11 cX11_flag 6 (some .int) (rmk 5 120) 87 [(0, .ref (ad (gm κ) 0)), (1, .int a1), (2, .int a2), (3, .int e.1), (4, .int e.2.1)] [] e.2.2) (s : (Int32 × Int32 × Int32 × Wd)) (h : ok (lp (X11_flag_b32  a1 a2) s) P) : J κ RX11 cX11_flag 6 (some .int) (rmk 5 120) 32 [(0, .ref (ad (gm κ) 0)), (1, .int a1), (2, .int a2), (3, .int s.1), (4, .int s.2.1), (5, .int s.2.2.1)] [] s.2.2.2 := by
  refine lp_ind (fun s => J κ RX11 cX11_flag 6 (some .int) (rmk 5 120) 32 [(0, .ref (ad (gm κ) 0)), (1, .int a1), (2, .int a2), (3, .int s.1), (4, .int s.2.1), (5, .int s.2.2.1)] [] s.2.2.2) (fun s h => ?_) s h
  unfold X11_flag_b32 at h
  refine j_iload 5 dX11_flag_32 rfl ?_
  refine j_aload_n 0 dX11_flag_34 rfl rfl ?_
  refine j_getA 5 fl_RX11_19 sh_0 fk_0_1 (by decide) dX11_flag_35 ?_
  refine j_getI fl_RX11_181 sh_5 fk_5_8 dX11_flag_38 ?_
  refine j_ic_ge 87 dX11_flag_41 (by decide) h (fun h => ?_) (fun h => ?_)
  · refine j_loc [(0, .ref (ad (gm κ) 0)), (1, .int a1), (2, .int a2), (3, .int s.1), (4, .int s.2.1)] [0, 1, 2, 3, 4] rfl ?_
    have h := sel_r h
    have h := K0 _ h
    exact h
  · refine j_aload_n 0 dX11_flag_44 rfl rfl ?_
    refine j_getA 5 fl_RX11_19 sh_0 fk_0_1 (by decide) dX11_flag_45 ?_
    refine j_getA 12 fl_RX11_353 sh_5 fk_5_9 (by decide) dX11_flag_48 ?_
    refine j_iload 5 dX11_flag_51 rfl ?_
    refine j_iald sh_12 dX11_flag_53 h (fun h => ?_)
    refine j_iload_n 1 dX11_flag_54 rfl rfl ?_
    refine j_ic_ne 81 dX11_flag_55 (by decide) h (fun h => ?_) (fun h => ?_)
    · refine j_loc [(0, .ref (ad (gm κ) 0)), (1, .int a1), (2, .int a2), (3, .int s.1), (4, .int s.2.1), (5, .int s.2.2.1)] [0, 1, 2, 3, 4, 5] rfl ?_
      exact t_X11_flag_j81 a1 a2 s.1 s.2.1 s.2.2.1 s.2.2.2 (fun _ h => h) K0 h
    · refine j_iinc (s.1 + (1 : Int32)) 3 [(3, .int (s.1 + (1 : Int32))), (0, .ref (ad (gm κ) 0)), (1, .int a1), (2, .int a2), (4, .int s.2.1), (5, .int s.2.2.1)] dX11_flag_58 rfl (by rw [kn_1]) (by decide) rfl ?_
      refine j_iload 4 dX11_flag_61 rfl ?_
      refine j_aload_n 1 dX11_flag_63 rfl rfl ?_
      refine j_iload 5 dX11_flag_64 rfl ?_
      refine j_iload_n 3 dX11_flag_66 rfl rfl ?_
      obtain ⟨q3, e4, h⟩ := ok_b h
      refine j_callV (As := [.int s.2.2.1, .int a2]) (st := [.int s.2.1]) [.int q3.1, .int s.2.1] (c_X11_canRead (kl κ) (gm κ) (kA κ) s.2.2.1 a2 s.2.2.2 q3 e4) ck_RX11_362 im_X11_canRead se_X11_canRead sh_0 cx_11 ⟨rfl, rfl⟩ ⟨by decide, by decide⟩ rfl rfl (Nat.le_of_ble_eq_true rfl) dX11_flag_67 _ rfl ?_
      refine j_if_eq 77 dX11_flag_70 (by decide) h (fun h => ?_) (fun h => ?_)
      · refine j_iconst (0 : Int32) dX11_flag_77 ki_0 ?_
        refine j_loc [(0, .ref (ad (gm κ) 0)), (1, .int a1), (2, .int a2), (3, .int (s.1 + (1 : Int32))), (5, .int s.2.2.1)] [1, 2, 3, 0, 5] rfl ?_
        exact t_X11_flag_j78 a1 a2 (s.1 + (1 : Int32)) s.2.2.1 (0 : Int32) s.2.1 q3.2 (fun _ h => h) K0 h
      · refine j_iconst (1 : Int32) dX11_flag_73 ki_1 ?_
        refine j_goto 78 dX11_flag_74 (by decide) ?_
        refine j_loc [(0, .ref (ad (gm κ) 0)), (1, .int a1), (2, .int a2), (3, .int (s.1 + (1 : Int32))), (5, .int s.2.2.1)] [1, 2, 3, 0, 5] rfl ?_
        exact t_X11_flag_j78 a1 a2 (s.1 + (1 : Int32)) s.2.2.1 (1 : Int32) s.2.1 q3.2 (fun _ h => h) K0 h
noncomputable def X11_flag_j131 (s0 : Int32) (w : Wd) : Option (Int32 × Wd) :=
(X11_answerWhether s0 w).bind fun q9 =>
some (q9.1, q9.2)
set_option maxRecDepth 20000 in
set_option maxHeartbeats 1000000 in
theorem t_X11_flag_j131 {κ : Kx} (s0 : Int32) (w : Wd) (h : ok (X11_flag_j131  s0 w) (PIw κ)) : J κ RX11 cX11_flag 6 (some .int) (rmk 5 120) 131 [] [.int s0, .ref (ad (gm κ) 0)] w := by
  unfold X11_flag_j131 at h
  obtain ⟨q9, e10, h⟩ := ok_b h
  refine j_callV (As := [.int s0]) (st := []) [.int q9.1] (c_X11_answerWhether (kl κ) (gm κ) (kA κ) s0 w q9 e10) ck_RX11_286 im_X11_answerWhether se_X11_answerWhether sh_0 cx_11 ⟨rfl, rfl⟩ ⟨by decide, by decide⟩ rfl rfl (Nat.le_of_ble_eq_true rfl) dX11_flag_131 _ rfl ?_
  have h := ok_s h
  exact j_iret dX11_flag_134 rfl rfl h
noncomputable def X11_flag_j130 (w : Wd) : Option (Int32 × Wd) :=
X11_flag_j131 (0 : Int32) w
set_option maxRecDepth 20000 in
set_option maxHeartbeats 1000000 in
theorem t_X11_flag_j130 {κ : Kx} (w : Wd) (h : ok (X11_flag_j130  w) (PIw κ)) : J κ RX11 cX11_flag 6 (some .int) (rmk 5 120) 130 [] [.ref (ad (gm κ) 0)] w := by
  unfold X11_flag_j130 at h
  refine j_iconst (0 : Int32) dX11_flag_130 ki_0 ?_
  refine j_loc [] [] rfl ?_
  exact t_X11_flag_j131 (0 : Int32) w h
noncomputable def X11_flag (a1 : Int32) (a2 : Int32) (w : Wd) : Option (Int32 × Wd) :=
(if (X2_isPlace a1 w) = 0 then
X11_flag_j18 w
else
(if (X11_isWeek a2 w) = 0 then
X11_flag_j18 w
else
(lp (X11_flag_b32 a1 a2) ((0 : Int32), (0 : Int32), (0 : Int32), w)).bind fun e5 =>
gd (vp_in a1 16) <|
(X0_standingIn (e5.2.2.1 6 (ix a1)) a2 e5.2.2).bind fun q6 =>
gd (q6.1 < 4) <|
(if e5.1 ≤ 0 then
X11_flag_j130 q6.2
else
(if (e5.2.1 * (100 : Int32)) < ((q6.2.1 (stc q6.1) 10) * e5.1) then
X11_flag_j130 q6.2
else
X11_flag_j131 (1 : Int32) q6.2))))
set_option maxRecDepth 20000 in
set_option maxHeartbeats 1000000 in
theorem t_X11_flag {κ : Kx} (a1 : Int32) (a2 : Int32) (w : Wd) (h : ok (X11_flag  a1 a2 w) (PIw κ)) : J κ RX11 cX11_flag 6 (some .int) (rmk 5 120) 0 [(0, .ref (ad (gm κ) 0)), (1, .int a1), (2, .int a2)] [] w := by
  unfold X11_flag at h
  refine j_aload_n 0 dX11_flag_0 rfl rfl ?_
  refine j_getA 5 fl_RX11_19 sh_0 fk_0_1 (by decide) dX11_flag_1 ?_
  refine j_iload_n 1 dX11_flag_4 rfl rfl ?_
  refine j_callV (As := [.int a1]) (st := []) [.int (X2_isPlace a1 w)] (c_X2_isPlace (kl κ) (gm κ) (kA κ) a1 w) ck_RX11_148 im_X2_isPlace se_X2_isPlace sh_5 cx_2 ⟨rfl, rfl⟩ ⟨by decide, by decide⟩ rfl rfl (Nat.le_of_ble_eq_true rfl) dX11_flag_5 _ rfl ?_
  refine j_if_eq 18 dX11_flag_8 (by decide) h (fun h => ?_) (fun h => ?_)
  · refine j_loc [(0, .ref (ad (gm κ) 0))] [0] rfl ?_
    exact t_X11_flag_j18 w h
  · refine j_iload_n 2 dX11_flag_11 rfl rfl ?_
    refine j_callS (As := [.int a2]) (st := []) [.int (X11_isWeek a2 w)] (c_X11_isWeek (kl κ) (gm κ) (kA κ) a2 w) ck_RX11_168 st_X11_isWeek ⟨rfl, rfl⟩ ⟨by decide, by decide⟩ rfl rfl (Nat.le_of_ble_eq_true rfl) dX11_flag_12 _ rfl ?_
    refine j_if_ne 24 dX11_flag_15 (by decide) h (fun h => ?_) (fun h => ?_)
    · refine j_iconst (0 : Int32) dX11_flag_24 ki_0 ?_
      refine j_istore_n [(3, .int (0 : Int32)), (0, .ref (ad (gm κ) 0)), (1, .int a1), (2, .int a2)] dX11_flag_25 rfl (by decide) rfl ?_
      refine j_iconst (0 : Int32) dX11_flag_26 ki_0 ?_
      refine j_istore [(4, .int (0 : Int32)), (3, .int (0 : Int32)), (0, .ref (ad (gm κ) 0)), (1, .int a1), (2, .int a2)] dX11_flag_27 (by decide) rfl ?_
      refine j_iconst (0 : Int32) dX11_flag_29 ki_0 ?_
      refine j_istore [(5, .int (0 : Int32)), (4, .int (0 : Int32)), (3, .int (0 : Int32)), (0, .ref (ad (gm κ) 0)), (1, .int a1), (2, .int a2)] dX11_flag_30 (by decide) rfl ?_
      refine j_loc [(0, .ref (ad (gm κ) 0)), (1, .int a1), (2, .int a2), (3, .int (0 : Int32)), (4, .int (0 : Int32)), (5, .int (0 : Int32))] [3, 4, 5, 2, 1, 0] rfl ?_
      refine t_X11_flag_b32 a1 a2 (fun e5 h => ?_) ((0 : Int32), (0 : Int32), (0 : Int32), w) (ok_bb h)
      · refine j_aload_n 0 dX11_flag_87 rfl rfl ?_
        refine j_getA 30 fl_RX11_33 sh_0 fk_0_3 (by decide) dX11_flag_88 ?_
        refine j_aload_n 0 dX11_flag_91 rfl rfl ?_
        refine j_getA 5 fl_RX11_19 sh_0 fk_0_1 (by decide) dX11_flag_92 ?_
        refine j_getA 6 fl_RX11_356 sh_5 fk_5_1 (by decide) dX11_flag_95 ?_
        refine j_iload_n 1 dX11_flag_98 rfl rfl ?_
        refine j_iald sh_6 dX11_flag_99 h (fun h => ?_)
        refine j_iload_n 2 dX11_flag_100 rfl rfl ?_
        obtain ⟨q6, e7, h⟩ := ok_b h
        refine j_callV (As := [.int (e5.2.2.1 6 (ix a1)), .int a2]) (st := []) [.ref (ad (gm κ) (stc q6.1))] (c_X0_standingIn (kl κ) (gm κ) (kA κ) (e5.2.2.1 6 (ix a1)) a2 e5.2.2 q6 e7) ck_RX11_266 im_X0_standingIn se_X0_standingIn sh_30 cx_0 ⟨rfl, rfl⟩ ⟨by decide, by decide⟩ rfl rfl (Nat.le_of_ble_eq_true rfl) dX11_flag_101 _ rfl ?_
        obtain ⟨h8, h⟩ := ok_g h
        refine j_getI fl_RX11_279 (st_sh h8).1 (st_fk h8).2.2.2.2.2.2.2.2.2.2 dX11_flag_104 ?_
        refine j_istore [(5, .int (q6.2.1 (stc q6.1) 10)), (0, .ref (ad (gm κ) 0)), (1, .int a1), (2, .int a2), (3, .int e5.1), (4, .int e5.2.1)] dX11_flag_107 (by decide) rfl ?_
        refine j_aload_n 1 dX11_flag_109 rfl rfl ?_
        refine j_iload_n 4 dX11_flag_110 rfl rfl ?_
        refine j_if_le 130 dX11_flag_111 (by decide) h (fun h => ?_) (fun h => ?_)
        · refine j_loc [] [] rfl ?_
          exact t_X11_flag_j130 q6.2 h
        · refine j_iload 5 dX11_flag_114 rfl ?_
          refine j_bipush (100 : Int32) dX11_flag_116 kb_100 ?_
          refine j_imul dX11_flag_118 ?_
          refine j_iload 0 dX11_flag_119 rfl ?_
          refine j_iload_n 4 dX11_flag_121 rfl rfl ?_
          refine j_imul dX11_flag_122 ?_
          refine j_ic_lt 130 dX11_flag_123 (by decide) h (fun h => ?_) (fun h => ?_)
          · refine j_loc [] [] rfl ?_
            exact t_X11_flag_j130 q6.2 h
          · refine j_iconst (1 : Int32) dX11_flag_126 ki_1 ?_
            refine j_goto 131 dX11_flag_127 (by decide) ?_
            refine j_loc [] [] rfl ?_
            exact t_X11_flag_j131 (1 : Int32) q6.2 h
    · refine j_loc [(0, .ref (ad (gm κ) 0))] [0] rfl ?_
      exact t_X11_flag_j18 w h
theorem c_X11_flag (l : Launch) (γ : Gm) (A : Nat → Prop) (a1 : Int32) (a2 : Int32) (w : Wd) (q : Int32 × Wd) (e : X11_flag  a1 a2 w = some q) : MetG l γ A yX11_flag cX11_flag 6 (some .int) (rmk 5 120) [.ref (ad (γ) 0), .int a1, .int a2] w (some (.int q.1)) q.2 := by
  refine met_of pn_RX11 (Nat.le_of_ble_eq_true rfl) ?_
  intro κ hl hγ hA hρ
  subst hl; subst hγ; subst hA
  exact t_X11_flag   a1 a2 w ⟨q, e, pIw hρ rfl rfl⟩
