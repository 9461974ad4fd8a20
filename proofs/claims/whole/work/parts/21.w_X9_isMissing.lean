theorem dX9_isMissing_0 : decode cX9_isMissing 0 = .ok (.aload_n 0, 1) := by decide +kernel
theorem dX9_isMissing_1 : decode cX9_isMissing 1 = .ok (.getfield 19, 3) := by decide +kernel
theorem dX9_isMissing_4 : decode cX9_isMissing 4 = .ok (.iload_n 1, 1) := by decide +kernel
theorem dX9_isMissing_5 : decode cX9_isMissing 5 = .ok (.iaload, 1) := by decide +kernel
theorem dX9_isMissing_6 : decode cX9_isMissing 6 = .ok (.iconst (-1), 1) := by decide +kernel
theorem dX9_isMissing_7 : decode cX9_isMissing 7 = .ok (.if_icmp .ne 7, 3) := by decide +kernel
theorem dX9_isMissing_10 : decode cX9_isMissing 10 = .ok (.iconst 1, 1) := by decide +kernel
theorem dX9_isMissing_11 : decode cX9_isMissing 11 = .ok (.goto 4, 3) := by decide +kernel
theorem dX9_isMissing_14 : decode cX9_isMissing 14 = .ok (.iconst 0, 1) := by decide +kernel
theorem dX9_isMissing_15 : decode cX9_isMissing 15 = .ok (.ireturn, 1) := by decide +kernel
noncomputable def X9_isMissing (a1 : Int32) (w : Wd) : Option (Int32) :=
gd (vp_in a1 4) <|
(if (w.1 4 (ix a1)) = (-1 : Int32) then
some (1 : Int32)
else
some (0 : Int32))
set_option maxRecDepth 20000 in
set_option maxHeartbeats 1000000 in
theorem t_X9_isMissing {κ : Kx} (a1 : Int32) (w : Wd) (h : ok (X9_isMissing  a1 w) (PI κ w)) : J κ RX9 cX9_isMissing 2 (some .boolean) (rmk 0 0) 0 [(0, .ref (ad (gm κ) 1)), (1, .int a1)] [] w := by
  unfold X9_isMissing at h
  refine j_aload_n 0 dX9_isMissing_0 rfl rfl ?_
  refine j_getA 4 fl_RX9_19 sh_1 fk_1_2 (by decide) dX9_isMissing_1 ?_
  refine j_iload_n 1 dX9_isMissing_4 rfl rfl ?_
  refine j_iald sh_4 dX9_isMissing_5 h (fun h => ?_)
  refine j_iconst (-1 : Int32) dX9_isMissing_6 ki_m1 ?_
  refine j_ic_ne 14 dX9_isMissing_7 (by decide) h (fun h => ?_) (fun h => ?_)
  · refine j_iconst (0 : Int32) dX9_isMissing_14 ki_0 ?_
    have h := ok_s h
    exact j_iret dX9_isMissing_15 rfl (by decide) h
  · refine j_iconst (1 : Int32) dX9_isMissing_10 ki_1 ?_
    refine j_goto 15 dX9_isMissing_11 (by decide) ?_
    have h := ok_s h
    exact j_iret dX9_isMissing_15 rfl (by decide) h
theorem c_X9_isMissing (l : Launch) (γ : Gm) (A : Nat → Prop) (a1 : Int32) (w : Wd) (q : Int32) (e : X9_isMissing  a1 w = some q) : MetG l γ A yX9_isMissing cX9_isMissing 2 (some .boolean) (rmk 0 0) [.ref (ad (γ) 1), .int a1] w (some (.int q)) w := by
  refine met_of pn_RX9 (Nat.le_of_ble_eq_true rfl) ?_
  intro κ hl hγ hA hρ
  subst hl; subst hγ; subst hA
  exact t_X9_isMissing   a1 w ⟨q, e, pI hρ rfl rfl⟩
theorem dX9_alike_0 : decode cX9_alike 0 = .ok (.aload_n 0, 1) := by decide +kernel
theorem dX9_alike_1 : decode cX9_alike 1 = .ok (.getfield 15, 3) := by decide +kernel
theorem dX9_alike_4 : decode cX9_alike 4 = .ok (.iload_n 1, 1) := by decide +kernel
theorem dX9_alike_5 : decode cX9_alike 5 = .ok (.iaload, 1) := by decide +kernel
theorem dX9_alike_6 : decode cX9_alike 6 = .ok (.aload_n 0, 1) := by decide +kernel
theorem dX9_alike_7 : decode cX9_alike 7 = .ok (.getfield 15, 3) := by decide +kernel
theorem dX9_alike_10 : decode cX9_alike 10 = .ok (.iload_n 2, 1) := by decide +kernel
theorem dX9_alike_11 : decode cX9_alike 11 = .ok (.iaload, 1) := by decide +kernel
theorem dX9_alike_12 : decode cX9_alike 12 = .ok (.if_icmp .ne 7, 3) := by decide +kernel
theorem dX9_alike_15 : decode cX9_alike 15 = .ok (.iconst 1, 1) := by decide +kernel
theorem dX9_alike_16 : decode cX9_alike 16 = .ok (.goto 4, 3) := by decide +kernel
theorem dX9_alike_19 : decode cX9_alike 19 = .ok (.iconst 0, 1) := by decide +kernel
theorem dX9_alike_20 : decode cX9_alike 20 = .ok (.ireturn, 1) := by decide +kernel
noncomputable def X9_alike (a1 : Int32) (a2 : Int32) (w : Wd) : Option (Int32) :=
gd (vp_in a1 4) <|
gd (vp_in a2 4) <|
(if (w.1 3 (ix a1)) = (w.1 3 (ix a2)) then
some (1 : Int32)
else
some (0 : Int32))
set_option maxRecDepth 20000 in
set_option maxHeartbeats 1000000 in
theorem t_X9_alike {κ : Kx} (a1 : Int32) (a2 : Int32) (w : Wd) (h : ok (X9_alike  a1 a2 w) (PI κ w)) : J κ RX9 cX9_alike 3 (some .boolean) (rmk 0 0) 0 [(0, .ref (ad (gm κ) 1)), (1, .int a1), (2, .int a2)] [] w := by
  unfold X9_alike at h
  refine j_aload_n 0 dX9_alike_0 rfl rfl ?_
  refine j_getA 3 fl_RX9_15 sh_1 fk_1_1 (by decide) dX9_alike_1 ?_
  refine j_iload_n 1 dX9_alike_4 rfl rfl ?_
  refine j_iald sh_3 dX9_alike_5 h (fun h => ?_)
  refine j_aload_n 0 dX9_alike_6 rfl rfl ?_
  refine j_getA 3 fl_RX9_15 sh_1 fk_1_1 (by decide) dX9_alike_7 ?_
  refine j_iload_n 2 dX9_alike_10 rfl rfl ?_
  refine j_iald sh_3 dX9_alike_11 h (fun h => ?_)
  refine j_ic_ne 19 dX9_alike_12 (by decide) h (fun h => ?_) (fun h => ?_)
  · refine j_iconst (0 : Int32) dX9_alike_19 ki_0 ?_
    have h := ok_s h
    exact j_iret dX9_alike_20 rfl (by decide) h
  · refine j_iconst (1 : Int32) dX9_alike_15 ki_1 ?_
    refine j_goto 20 dX9_alike_16 (by decide) ?_
    have h := ok_s h
    exact j_iret dX9_alike_20 rfl (by decide) h
theorem c_X9_alike (l : Launch) (γ : Gm) (A : Nat → Prop) (a1 : Int32) (a2 : Int32) (w : Wd) (q : Int32) (e : X9_alike  a1 a2 w = some q) : MetG l γ A yX9_alike cX9_alike 3 (some .boolean) (rmk 0 0) [.ref (ad (γ) 1), .int a1, .int a2] w (some (.int q)) w := by
  refine met_of pn_RX9 (Nat.le_of_ble_eq_true rfl) ?_
  intro κ hl hγ hA hρ
  subst hl; subst hγ; subst hA
  exact t_X9_alike   a1 a2 w ⟨q, e, pI hρ rfl rfl⟩
theorem dX9_reaches_0 : decode cX9_reaches 0 = .ok (.iload_n 2, 1) := by decide +kernel
theorem dX9_reaches_1 : decode cX9_reaches 1 = .ok (.aload_n 0, 1) := by decide +kernel
theorem dX9_reaches_2 : decode cX9_reaches 2 = .ok (.getfield 19, 3) := by decide +kernel
theorem dX9_reaches_5 : decode cX9_reaches 5 = .ok (.iload_n 1, 1) := by decide +kernel
theorem dX9_reaches_6 : decode cX9_reaches 6 = .ok (.iaload, 1) := by decide +kernel
theorem dX9_reaches_7 : decode cX9_reaches 7 = .ok (.iload_n 3, 1) := by decide +kernel
theorem dX9_reaches_8 : decode cX9_reaches 8 = .ok (.isub, 1) := by decide +kernel
theorem dX9_reaches_9 : decode cX9_reaches 9 = .ok (.if_icmp .gt 7, 3) := by decide +kernel
theorem dX9_reaches_12 : decode cX9_reaches 12 = .ok (.iconst 1, 1) := by decide +kernel
theorem dX9_reaches_13 : decode cX9_reaches 13 = .ok (.goto 4, 3) := by decide +kernel
theorem dX9_reaches_16 : decode cX9_reaches 16 = .ok (.iconst 0, 1) := by decide +kernel
theorem dX9_reaches_17 : decode cX9_reaches 17 = .ok (.ireturn, 1) := by decide +kernel
noncomputable def X9_reaches (a1 : Int32) (a2 : Int32) (a3 : Int32) (w : Wd) : Option (Int32) :=
gd (vp_in a1 4) <|
(if ((w.1 4 (ix a1)) - a3) < a2 then
some (0 : Int32)
else
some (1 : Int32))
set_option maxRecDepth 20000 in
set_option maxHeartbeats 1000000 in
theorem t_X9_reaches {κ : Kx} (a1 : Int32) (a2 : Int32) (a3 : Int32) (w : Wd) (h : ok (X9_reaches  a1 a2 a3 w) (PI κ w)) : J κ RX9 cX9_reaches 4 (some .boolean) (rmk 0 0) 0 [(0, .ref (ad (gm κ) 1)), (1, .int a1), (2, .int a2), (3, .int a3)] [] w := by
  unfold X9_reaches at h
  refine j_iload_n 2 dX9_reaches_0 rfl rfl ?_
  refine j_aload_n 0 dX9_reaches_1 rfl rfl ?_
  refine j_getA 4 fl_RX9_19 sh_1 fk_1_2 (by decide) dX9_reaches_2 ?_
  refine j_iload_n 1 dX9_reaches_5 rfl rfl ?_
  refine j_iald sh_4 dX9_reaches_6 h (fun h => ?_)
  refine j_iload_n 3 dX9_reaches_7 rfl rfl ?_
  refine j_isub dX9_reaches_8 ?_
  refine j_ic_gt 16 dX9_reaches_9 (by decide) h (fun h => ?_) (fun h => ?_)
  · refine j_iconst (0 : Int32) dX9_reaches_16 ki_0 ?_
    have h := ok_s h
    exact j_iret dX9_reaches_17 rfl (by decide) h
  · refine j_iconst (1 : Int32) dX9_reaches_12 ki_1 ?_
    refine j_goto 17 dX9_reaches_13 (by decide) ?_
    have h := ok_s h
    exact j_iret dX9_reaches_17 rfl (by decide) h
theorem c_X9_reaches (l : Launch) (γ : Gm) (A : Nat → Prop) (a1 : Int32) (a2 : Int32) (a3 : Int32) (w : Wd) (q : Int32) (e : X9_reaches  a1 a2 a3 w = some q) : MetG l γ A yX9_reaches cX9_reaches 4 (some .boolean) (rmk 0 0) [.ref (ad (γ) 1), .int a1, .int a2, .int a3] w (some (.int q)) w := by
  refine met_of pn_RX9 (Nat.le_of_ble_eq_true rfl) ?_
  intro κ hl hγ hA hρ
  subst hl; subst hγ; subst hA
  exact t_X9_reaches   a1 a2 a3 w ⟨q, e, pI hρ rfl rfl⟩
theorem dX9_whyNot_0 : decode cX9_whyNot 0 = .ok (.iload_n 1, 1) := by decide +kernel
theorem dX9_whyNot_1 : decode cX9_whyNot 1 = .ok (.invokestatic 32, 3) := by decide +kernel
theorem dX9_whyNot_4 : decode cX9_whyNot 4 = .ok (.ifCond .ne 5, 3) := by decide +kernel
theorem dX9_whyNot_7 : decode cX9_whyNot 7 = .ok (.iconst 1, 1) := by decide +kernel
theorem dX9_whyNot_8 : decode cX9_whyNot 8 = .ok (.ireturn, 1) := by decide +kernel
theorem dX9_whyNot_9 : decode cX9_whyNot 9 = .ok (.aload_n 0, 1) := by decide +kernel
theorem dX9_whyNot_10 : decode cX9_whyNot 10 = .ok (.iload_n 1, 1) := by decide +kernel
theorem dX9_whyNot_11 : decode cX9_whyNot 11 = .ok (.invokevirtual 36, 3) := by decide +kernel
theorem dX9_whyNot_14 : decode cX9_whyNot 14 = .ok (.ifCond .eq 5, 3) := by decide +kernel
theorem dX9_whyNot_17 : decode cX9_whyNot 17 = .ok (.iconst 2, 1) := by decide +kernel
theorem dX9_whyNot_18 : decode cX9_whyNot 18 = .ok (.ireturn, 1) := by decide +kernel
theorem dX9_whyNot_19 : decode cX9_whyNot 19 = .ok (.iload_n 2, 1) := by decide +kernel
theorem dX9_whyNot_20 : decode cX9_whyNot 20 = .ok (.iconst 0, 1) := by decide +kernel
theorem dX9_whyNot_21 : decode cX9_whyNot 21 = .ok (.aload_n 0, 1) := by decide +kernel
theorem dX9_whyNot_22 : decode cX9_whyNot 22 = .ok (.getfield 19, 3) := by decide +kernel
theorem dX9_whyNot_25 : decode cX9_whyNot 25 = .ok (.iload_n 1, 1) := by decide +kernel
theorem dX9_whyNot_26 : decode cX9_whyNot 26 = .ok (.iaload, 1) := by decide +kernel
theorem dX9_whyNot_27 : decode cX9_whyNot 27 = .ok (.iconst 1, 1) := by decide +kernel
theorem dX9_whyNot_28 : decode cX9_whyNot 28 = .ok (.isub, 1) := by decide +kernel
theorem dX9_whyNot_29 : decode cX9_whyNot 29 = .ok (.invokestatic 28, 3) := by decide +kernel
theorem dX9_whyNot_32 : decode cX9_whyNot 32 = .ok (.ifCond .eq 7, 3) := by decide +kernel
theorem dX9_whyNot_35 : decode cX9_whyNot 35 = .ok (.iconst 0, 1) := by decide +kernel
theorem dX9_whyNot_36 : decode cX9_whyNot 36 = .ok (.goto 4, 3) := by decide +kernel
theorem dX9_whyNot_39 : decode cX9_whyNot 39 = .ok (.iconst 3, 1) := by decide +kernel
theorem dX9_whyNot_40 : decode cX9_whyNot 40 = .ok (.ireturn, 1) := by decide +kernel
noncomputable def X9_whyNot (a1 : Int32) (a2 : Int32) (w : Wd) : Option (Int32) :=
(if (X9_isTray a1 w) = 0 then
some (1 : Int32)
else
(X9_isMissing a1 w).bind fun q1 =>
(if q1 = 0 then
gd (vp_in a1 4) <|
(if (X11_within a2 (0 : Int32) ((w.1 4 (ix a1)) - (1 : Int32)) w) = 0 then
some (3 : Int32)
else
some (0 : Int32))
else
some (2 : Int32)))
set_option maxRecDepth 20000 in
set_option maxHeartbeats 1000000 in
theorem t_X9_whyNot {κ : Kx} (a1 : Int32) (a2 : Int32) (w : Wd) (h : ok (X9_whyNot  a1 a2 w) (PI κ w)) : J κ RX9 cX9_whyNot 3 (some .int) (rmk 2 42) 0 [(0, .ref (ad (gm κ) 1)), (1, .int a1), (2, .int a2)] [] w := by
  unfold X9_whyNot at h
  refine j_iload_n 1 dX9_whyNot_0 rfl rfl ?_
  refine j_callS (As := [.int a1]) (st := []) [.int (X9_isTray a1 w)] (c_X9_isTray (kl κ) (gm κ) (kA κ) a1 w) ck_RX9_32 st_X9_isTray ⟨rfl, rfl⟩ ⟨by decide, by decide⟩ rfl rfl (Nat.le_of_ble_eq_true rfl) dX9_whyNot_1 _ rfl ?_
  refine j_if_ne 9 dX9_whyNot_4 (by decide) h (fun h => ?_) (fun h => ?_)
  · refine j_aload_n 0 dX9_whyNot_9 rfl rfl ?_
    refine j_iload_n 1 dX9_whyNot_10 rfl rfl ?_
    obtain ⟨q1, e2, h⟩ := ok_b h
    refine j_callV (As := [.int a1]) (st := []) [.int q1] (c_X9_isMissing (kl κ) (gm κ) (kA κ) a1 w q1 e2) ck_RX9_36 im_X9_isMissing se_X9_isMissing sh_1 cx_9 ⟨rfl, rfl⟩ ⟨by decide, by decide⟩ rfl rfl (Nat.le_of_ble_eq_true rfl) dX9_whyNot_11 _ rfl ?_
    refine j_if_eq 19 dX9_whyNot_14 (by decide) h (fun h => ?_) (fun h => ?_)
    · refine j_iload_n 2 dX9_whyNot_19 rfl rfl ?_
      refine j_iconst (0 : Int32) dX9_whyNot_20 ki_0 ?_
      refine j_aload_n 0 dX9_whyNot_21 rfl rfl ?_
      refine j_getA 4 fl_RX9_19 sh_1 fk_1_2 (by decide) dX9_whyNot_22 ?_
      refine j_iload_n 1 dX9_whyNot_25 rfl rfl ?_
      refine j_iald sh_4 dX9_whyNot_26 h (fun h => ?_)
      refine j_iconst (1 : Int32) dX9_whyNot_27 ki_1 ?_
      refine j_isub dX9_whyNot_28 ?_
      refine j_callS (As := [.int a2, .int (0 : Int32), .int ((w.1 4 (ix a1)) - (1 : Int32))]) (st := []) [.int (X11_within a2 (0 : Int32) ((w.1 4 (ix a1)) - (1 : Int32)) w)] (c_X11_within (kl κ) (gm κ) (kA κ) a2 (0 : Int32) ((w.1 4 (ix a1)) - (1 : Int32)) w) ck_RX9_28 st_X11_within ⟨rfl, rfl⟩ ⟨by decide, by decide⟩ rfl rfl (Nat.le_of_ble_eq_true rfl) dX9_whyNot_29 _ rfl ?_
      refine j_if_eq 39 dX9_whyNot_32 (by decide) h (fun h => ?_) (fun h => ?_)
      · refine j_iconst (3 : Int32) dX9_whyNot_39 ki_3 ?_
        have h := ok_s h
        exact j_iret dX9_whyNot_40 rfl rfl h
      · refine j_iconst (0 : Int32) dX9_whyNot_35 ki_0 ?_
        refine j_goto 40 dX9_whyNot_36 (by decide) ?_
        have h := ok_s h
        exact j_iret dX9_whyNot_40 rfl rfl h
    · refine j_iconst (2 : Int32) dX9_whyNot_17 ki_2 ?_
      have h := ok_s h
      exact j_iret dX9_whyNot_18 rfl rfl h
  · refine j_iconst (1 : Int32) dX9_whyNot_7 ki_1 ?_
    have h := ok_s h
    exact j_iret dX9_whyNot_8 rfl rfl h
theorem c_X9_whyNot (l : Launch) (γ : Gm) (A : Nat → Prop) (a1 : Int32) (a2 : Int32) (w : Wd) (q : Int32) (e : X9_whyNot  a1 a2 w = some q) : MetG l γ A yX9_whyNot cX9_whyNot 3 (some .int) (rmk 2 42) [.ref (ad (γ) 1), .int a1, .int a2] w (some (.int q)) w := by
  refine met_of pn_RX9 (Nat.le_of_ble_eq_true rfl) ?_
  intro κ hl hγ hA hρ
  subst hl; subst hγ; subst hA
  exact t_X9_whyNot   a1 a2 w ⟨q, e, pI hρ rfl rfl⟩
theorem dJ7_rangeCheck_23922_0 : decode cJ7_rangeCheck_23922 0 = .ok (.iload_n 1, 1) := by decide +kernel
theorem dJ7_rangeCheck_23922_1 : decode cJ7_rangeCheck_23922 1 = .ok (.iload_n 2, 1) := by decide +kernel
theorem dJ7_rangeCheck_23922_2 : decode cJ7_rangeCheck_23922 2 = .ok (.if_icmp .le 44, 3) := by decide +kernel
theorem dJ7_rangeCheck_23922_5 : decode cJ7_rangeCheck_23922 5 = .ok (.new 43, 3) := by decide +kernel
theorem dJ7_rangeCheck_23922_8 : decode cJ7_rangeCheck_23922 8 = .ok (.dup, 1) := by decide +kernel
theorem dJ7_rangeCheck_23922_9 : decode cJ7_rangeCheck_23922 9 = .ok (.new 45, 3) := by decide +kernel
theorem dJ7_rangeCheck_23922_12 : decode cJ7_rangeCheck_23922 12 = .ok (.dup, 1) := by decide +kernel
theorem dJ7_rangeCheck_23922_13 : decode cJ7_rangeCheck_23922 13 = .ok (.invokespecial 47, 3) := by decide +kernel
theorem dJ7_rangeCheck_23922_16 : decode cJ7_rangeCheck_23922 16 = .ok (.ldc 48, 2) := by decide +kernel
theorem dJ7_rangeCheck_23922_18 : decode cJ7_rangeCheck_23922 18 = .ok (.invokevirtual 50, 3) := by decide +kernel
theorem dJ7_rangeCheck_23922_21 : decode cJ7_rangeCheck_23922 21 = .ok (.iload_n 1, 1) := by decide +kernel
theorem dJ7_rangeCheck_23922_22 : decode cJ7_rangeCheck_23922 22 = .ok (.invokevirtual 54, 3) := by decide +kernel
theorem dJ7_rangeCheck_23922_25 : decode cJ7_rangeCheck_23922 25 = .ok (.ldc 57, 2) := by decide +kernel
theorem dJ7_rangeCheck_23922_27 : decode cJ7_rangeCheck_23922 27 = .ok (.invokevirtual 50, 3) := by decide +kernel
theorem dJ7_rangeCheck_23922_30 : decode cJ7_rangeCheck_23922 30 = .ok (.iload_n 2, 1) := by decide +kernel
theorem dJ7_rangeCheck_23922_31 : decode cJ7_rangeCheck_23922 31 = .ok (.invokevirtual 54, 3) := by decide +kernel
theorem dJ7_rangeCheck_23922_34 : decode cJ7_rangeCheck_23922 34 = .ok (.ldc 59, 2) := by decide +kernel
theorem dJ7_rangeCheck_23922_36 : decode cJ7_rangeCheck_23922 36 = .ok (.invokevirtual 50, 3) := by decide +kernel
theorem dJ7_rangeCheck_23922_39 : decode cJ7_rangeCheck_23922 39 = .ok (.invokevirtual 61, 3) := by decide +kernel
theorem dJ7_rangeCheck_23922_42 : decode cJ7_rangeCheck_23922 42 = .ok (.invokespecial 65, 3) := by decide +kernel
theorem dJ7_rangeCheck_23922_45 : decode cJ7_rangeCheck_23922 45 = .ok (.athrow, 1) := by decide +kernel
theorem dJ7_rangeCheck_23922_46 : decode cJ7_rangeCheck_23922 46 = .ok (.iload_n 1, 1) := by decide +kernel
theorem dJ7_rangeCheck_23922_47 : decode cJ7_rangeCheck_23922 47 = .ok (.ifCond .ge 12, 3) := by decide +kernel
theorem dJ7_rangeCheck_23922_50 : decode cJ7_rangeCheck_23922 50 = .ok (.new 68, 3) := by decide +kernel
theorem dJ7_rangeCheck_23922_53 : decode cJ7_rangeCheck_23922 53 = .ok (.dup, 1) := by decide +kernel
theorem dJ7_rangeCheck_23922_54 : decode cJ7_rangeCheck_23922 54 = .ok (.iload_n 1, 1) := by decide +kernel
theorem dJ7_rangeCheck_23922_55 : decode cJ7_rangeCheck_23922 55 = .ok (.invokespecial 70, 3) := by decide +kernel
theorem dJ7_rangeCheck_23922_58 : decode cJ7_rangeCheck_23922 58 = .ok (.athrow, 1) := by decide +kernel
theorem dJ7_rangeCheck_23922_59 : decode cJ7_rangeCheck_23922 59 = .ok (.iload_n 2, 1) := by decide +kernel
theorem dJ7_rangeCheck_23922_60 : decode cJ7_rangeCheck_23922 60 = .ok (.iload_n 0, 1) := by decide +kernel
theorem dJ7_rangeCheck_23922_61 : decode cJ7_rangeCheck_23922 61 = .ok (.if_icmp .le 12, 3) := by decide +kernel
theorem dJ7_rangeCheck_23922_64 : decode cJ7_rangeCheck_23922 64 = .ok (.new 68, 3) := by decide +kernel
theorem dJ7_rangeCheck_23922_67 : decode cJ7_rangeCheck_23922 67 = .ok (.dup, 1) := by decide +kernel
theorem dJ7_rangeCheck_23922_68 : decode cJ7_rangeCheck_23922 68 = .ok (.iload_n 2, 1) := by decide +kernel
theorem dJ7_rangeCheck_23922_69 : decode cJ7_rangeCheck_23922 69 = .ok (.invokespecial 70, 3) := by decide +kernel
theorem dJ7_rangeCheck_23922_72 : decode cJ7_rangeCheck_23922 72 = .ok (.athrow, 1) := by decide +kernel
theorem dJ7_rangeCheck_23922_73 : decode cJ7_rangeCheck_23922 73 = .ok (.return_, 1) := by decide +kernel
noncomputable def J7_rangeCheck_23922 (a0 : Int32) (a1 : Int32) (a2 : Int32) (w : Wd) : Option (Unit) :=
(if a1 ≤ a2 then
(if 0 ≤ a1 then
(if a2 ≤ a0 then
some ()
else
none)
else
none)
else
none)
set_option maxRecDepth 20000 in
set_option maxHeartbeats 1000000 in
theorem t_J7_rangeCheck_23922 {κ : Kx} (a0 : Int32) (a1 : Int32) (a2 : Int32) (w : Wd) (h : ok (J7_rangeCheck_23922  a0 a1 a2 w) (PV κ w)) : J κ RJ7 cJ7_rangeCheck_23922 3 none (rmk 0 0) 0 [(0, .int a0), (1, .int a1), (2, .int a2)] [] w := by
  unfold J7_rangeCheck_23922 at h
  refine j_iload_n 1 dJ7_rangeCheck_23922_0 rfl rfl ?_
  refine j_iload_n 2 dJ7_rangeCheck_23922_1 rfl rfl ?_
  refine j_ic_le 46 dJ7_rangeCheck_23922_2 (by decide) h (fun h => ?_) (fun h => ?_)
  · refine j_iload_n 1 dJ7_rangeCheck_23922_46 rfl rfl ?_
    refine j_if_ge 59 dJ7_rangeCheck_23922_47 (by decide) h (fun h => ?_) (fun h => ?_)
    · refine j_iload_n 2 dJ7_rangeCheck_23922_59 rfl rfl ?_
      refine j_iload_n 0 dJ7_rangeCheck_23922_60 rfl rfl ?_
      refine j_ic_le 73 dJ7_rangeCheck_23922_61 (by decide) h (fun h => ?_) (fun h => ?_)
      · have h := ok_s h
        exact j_vret dJ7_rangeCheck_23922_73 rfl h
      · exact ok_n h
    · exact ok_n h
  · exact ok_n h
theorem c_J7_rangeCheck_23922 (l : Launch) (γ : Gm) (A : Nat → Prop) (a0 : Int32) (a1 : Int32) (a2 : Int32) (w : Wd) (q : Unit) (e : J7_rangeCheck_23922  a0 a1 a2 w = some q) : MetG l γ A yJ7_rangeCheck_23922 cJ7_rangeCheck_23922 3 none (rmk 0 0) [.int a0, .int a1, .int a2] w none w := by
  refine met_of pn_RJ7 (Nat.le_of_ble_eq_true rfl) ?_
  intro κ hl hγ hA hρ
  subst hl; subst hγ; subst hA
  exact t_J7_rangeCheck_23922   a0 a1 a2 w ⟨q, e, pV hρ rfl rfl⟩
theorem dJ7_fill_bad5a_0 : decode cJ7_fill_bad5a 0 = .ok (.aload_n 0, 1) := by decide +kernel
theorem dJ7_fill_bad5a_1 : decode cJ7_fill_bad5a 1 = .ok (.arraylength, 1) := by decide +kernel
theorem dJ7_fill_bad5a_2 : decode cJ7_fill_bad5a 2 = .ok (.iload_n 1, 1) := by decide +kernel
theorem dJ7_fill_bad5a_3 : decode cJ7_fill_bad5a 3 = .ok (.iload_n 2, 1) := by decide +kernel
theorem dJ7_fill_bad5a_4 : decode cJ7_fill_bad5a 4 = .ok (.invokestatic 13, 3) := by decide +kernel
theorem dJ7_fill_bad5a_7 : decode cJ7_fill_bad5a 7 = .ok (.iload_n 1, 1) := by decide +kernel
theorem dJ7_fill_bad5a_8 : decode cJ7_fill_bad5a 8 = .ok (.istore 5, 2) := by decide +kernel
theorem dJ7_fill_bad5a_10 : decode cJ7_fill_bad5a 10 = .ok (.iload 5, 2) := by decide +kernel
theorem dJ7_fill_bad5a_12 : decode cJ7_fill_bad5a 12 = .ok (.iload_n 2, 1) := by decide +kernel
theorem dJ7_fill_bad5a_13 : decode cJ7_fill_bad5a 13 = .ok (.if_icmp .ge 14, 3) := by decide +kernel
theorem dJ7_fill_bad5a_16 : decode cJ7_fill_bad5a 16 = .ok (.aload_n 0, 1) := by decide +kernel
theorem dJ7_fill_bad5a_17 : decode cJ7_fill_bad5a 17 = .ok (.iload 5, 2) := by decide +kernel
theorem dJ7_fill_bad5a_19 : decode cJ7_fill_bad5a 19 = .ok (.lload_n 3, 1) := by decide +kernel
theorem dJ7_fill_bad5a_20 : decode cJ7_fill_bad5a 20 = .ok (.lastore, 1) := by decide +kernel
theorem dJ7_fill_bad5a_21 : decode cJ7_fill_bad5a 21 = .ok (.iinc 5 1, 3) := by decide +kernel
theorem dJ7_fill_bad5a_24 : decode cJ7_fill_bad5a 24 = .ok (.goto (-14), 3) := by decide +kernel
theorem dJ7_fill_bad5a_27 : decode cJ7_fill_bad5a 27 = .ok (.return_, 1) := by decide +kernel
noncomputable def J7_fill_bad5a_b10 (kv : Nat) (nv : Nat) (a2 : Int32) (a3 : Int64) (s : (Int32 × Wd)) : Option ((Int32 × Wd) ⊕ Wd) :=
(if a2 ≤ s.1 then
some (.inr s.2)
else
gd (vp_in s.1 nv) <|
(some (puJ s.2 kv (ix s.1) a3)).bind fun w3 =>
some (.inl ((s.1 + (1 : Int32)), w3)))
set_option maxRecDepth 20000 in
set_option maxHeartbeats 1000000 in
theorem t_J7_fill_bad5a_b10 {κ : Kx} (kv : Nat) (nv : Nat) (hkv : sh kv = (2, nv)) (a2 : Int32) (a3 : Int64) {P : Wd → Prop} (K0 : ∀ e, P e → J κ RJ7 cJ7_fill_bad5a 6 none (rmk 1 22) 27 [] [] e) (s : (Int32 × Wd)) (h : ok (lp (J7_fill_bad5a_b10 kv nv a2 a3) s) P) : J κ RJ7 cJ7_fill_bad5a 6 none (rmk 1 22) 10 [(0, .ref (ad (gm κ) kv)), (2, .int a2), (3, .long a3), (5, .int s.1)] [] s.2 := by
  refine lp_ind (fun s => J κ RJ7 cJ7_fill_bad5a 6 none (rmk 1 22) 10 [(0, .ref (ad (gm κ) kv)), (2, .int a2), (3, .long a3), (5, .int s.1)] [] s.2) (fun s h => ?_) s h
  unfold J7_fill_bad5a_b10 at h
  refine j_iload 3 dJ7_fill_bad5a_10 rfl ?_
  refine j_iload_n 1 dJ7_fill_bad5a_12 rfl rfl ?_
  refine j_ic_ge 27 dJ7_fill_bad5a_13 (by decide) h (fun h => ?_) (fun h => ?_)
  · refine j_loc [] [] rfl ?_
    have h := sel_r h
    have h := K0 _ h
    exact h
  · refine j_aload_n 0 dJ7_fill_bad5a_16 rfl rfl ?_
    refine j_iload 3 dJ7_fill_bad5a_17 rfl ?_
    refine j_lload_n 2 dJ7_fill_bad5a_19 rfl rfl ?_
    refine j_last hkv dJ7_fill_bad5a_20 h (fun h => ?_)
    refine j_lW h (fun w3 h => ?_)
    refine j_iinc (s.1 + (1 : Int32)) 3 [(5, .int (s.1 + (1 : Int32))), (0, .ref (ad (gm κ) kv)), (2, .int a2), (3, .long a3)] dJ7_fill_bad5a_21 rfl (by rw [kn_1]) (by decide) rfl ?_
    refine j_goto 10 dJ7_fill_bad5a_24 (by decide) ?_
    refine j_loc [(0, .ref (ad (gm κ) kv)), (2, .int a2), (3, .long a3), (5, .int (s.1 + (1 : Int32)))] [1, 2, 3, 0] rfl ?_
    have h := sel_l h
    exact h
noncomputable def J7_fill_bad5a (kv : Nat) (nv : Nat) (a1 : Int32) (a2 : Int32) (a3 : Int64) (w : Wd) : Option (Wd) :=
(J7_rangeCheck_23922 (Int32.ofNat nv) a1 a2 w).bind fun q1 =>
(lp (J7_fill_bad5a_b10 kv nv a2 a3) (a1, w)).bind fun e4 =>
some e4
set_option maxRecDepth 20000 in
set_option maxHeartbeats 1000000 in
theorem t_J7_fill_bad5a {κ : Kx} (kv : Nat) (nv : Nat) (hkv : sh kv = (2, nv)) (a1 : Int32) (a2 : Int32) (a3 : Int64) (w : Wd) (h : ok (J7_fill_bad5a kv nv a1 a2 a3 w) (PVw κ)) : J κ RJ7 cJ7_fill_bad5a 6 none (rmk 1 22) 0 [(0, .ref (ad (gm κ) kv)), (1, .int a1), (2, .int a2), (3, .long a3)] [] w := by
  unfold J7_fill_bad5a at h
  refine j_aload_n 0 dJ7_fill_bad5a_0 rfl rfl ?_
  refine j_alenJ (v := (Int32.ofNat nv)) hkv rfl dJ7_fill_bad5a_1 ?_
  refine j_iload_n 1 dJ7_fill_bad5a_2 rfl rfl ?_
  refine j_iload_n 2 dJ7_fill_bad5a_3 rfl rfl ?_
  obtain ⟨q1, e2, h⟩ := ok_b h
  refine j_callS (As := [.int (Int32.ofNat nv), .int a1, .int a2]) (st := []) [] (c_J7_rangeCheck_23922 (kl κ) (gm κ) (kA κ) (Int32.ofNat nv) a1 a2 w q1 e2) ck_RJ7_13 st_J7_rangeCheck_23922 ⟨rfl, rfl⟩ ⟨by decide, by decide⟩ rfl rfl (Nat.le_of_ble_eq_true rfl) dJ7_fill_bad5a_4 _ rfl ?_
  refine j_iload_n 1 dJ7_fill_bad5a_7 rfl rfl ?_
  refine j_istore [(5, .int a1), (0, .ref (ad (gm κ) kv)), (1, .int a1), (2, .int a2), (3, .long a3)] dJ7_fill_bad5a_8 (by decide) rfl ?_
  refine j_loc [(0, .ref (ad (gm κ) kv)), (2, .int a2), (3, .long a3), (5, .int a1)] [1, 3, 4, 0] rfl ?_
  refine t_J7_fill_bad5a_b10 kv nv hkv a2 a3 (fun e4 h => ?_) (a1, w) (ok_bb h)
  · have h := ok_s h
    exact j_vret dJ7_fill_bad5a_27 rfl h
theorem c_J7_fill_bad5a (l : Launch) (γ : Gm) (A : Nat → Prop) (kv : Nat) (nv : Nat) (hkv : sh kv = (2, nv)) (a1 : Int32) (a2 : Int32) (a3 : Int64) (w : Wd) (q : Wd) (e : J7_fill_bad5a kv nv a1 a2 a3 w = some q) : MetG l γ A yJ7_fill_bad5a cJ7_fill_bad5a 6 none (rmk 1 22) [.ref (ad (γ) kv), .int a1, .int a2, .long a3] w none q := by
  refine met_of pn_RJ7 (Nat.le_of_ble_eq_true rfl) ?_
  intro κ hl hγ hA hρ
  subst hl; subst hγ; subst hA
  exact t_J7_fill_bad5a kv nv hkv a1 a2 a3 w ⟨q, e, pVw hρ rfl rfl⟩
theorem dX9_lay_0 : decode cX9_lay 0 = .ok (.aload_n 0, 1) := by decide +kernel
theorem dX9_lay_1 : decode cX9_lay 1 = .ok (.getfield 15, 3) := by decide +kernel
theorem dX9_lay_4 : decode cX9_lay 4 = .ok (.iload_n 1, 1) := by decide +kernel
theorem dX9_lay_5 : decode cX9_lay 5 = .ok (.iload_n 2, 1) := by decide +kernel
theorem dX9_lay_6 : decode cX9_lay 6 = .ok (.iastore, 1) := by decide +kernel
theorem dX9_lay_7 : decode cX9_lay 7 = .ok (.aload_n 0, 1) := by decide +kernel
theorem dX9_lay_8 : decode cX9_lay 8 = .ok (.getfield 19, 3) := by decide +kernel
theorem dX9_lay_11 : decode cX9_lay 11 = .ok (.iload_n 1, 1) := by decide +kernel
theorem dX9_lay_12 : decode cX9_lay 12 = .ok (.iload_n 3, 1) := by decide +kernel
theorem dX9_lay_13 : decode cX9_lay 13 = .ok (.iastore, 1) := by decide +kernel
theorem dX9_lay_14 : decode cX9_lay 14 = .ok (.aload_n 0, 1) := by decide +kernel
theorem dX9_lay_15 : decode cX9_lay 15 = .ok (.getfield 11, 3) := by decide +kernel
theorem dX9_lay_18 : decode cX9_lay 18 = .ok (.iload_n 1, 1) := by decide +kernel
theorem dX9_lay_19 : decode cX9_lay 19 = .ok (.bipush 60, 2) := by decide +kernel
theorem dX9_lay_21 : decode cX9_lay 21 = .ok (.imul, 1) := by decide +kernel
theorem dX9_lay_22 : decode cX9_lay 22 = .ok (.iload_n 1, 1) := by decide +kernel
theorem dX9_lay_23 : decode cX9_lay 23 = .ok (.bipush 60, 2) := by decide +kernel
theorem dX9_lay_25 : decode cX9_lay 25 = .ok (.imul, 1) := by decide +kernel
theorem dX9_lay_26 : decode cX9_lay 26 = .ok (.iload_n 3, 1) := by decide +kernel
theorem dX9_lay_27 : decode cX9_lay 27 = .ok (.iadd, 1) := by decide +kernel
theorem dX9_lay_28 : decode cX9_lay 28 = .ok (.lconst 0, 1) := by decide +kernel
theorem dX9_lay_29 : decode cX9_lay 29 = .ok (.invokestatic 39, 3) := by decide +kernel
theorem dX9_lay_32 : decode cX9_lay 32 = .ok (.return_, 1) := by decide +kernel
noncomputable def X9_lay (a1 : Int32) (a2 : Int32) (a3 : Int32) (w : Wd) : Option (Wd) :=
gd (vp_in a1 4) <|
(some (puI w 3 (ix a1) a2)).bind fun w1 =>
gd (vp_in a1 4) <|
(some (puI w1 4 (ix a1) a3)).bind fun w2 =>
(J7_fill_bad5a 2 240 (a1 * (60 : Int32)) ((a1 * (60 : Int32)) + a3) (0 : Int64) w2).bind fun q3 =>
some q3
set_option maxRecDepth 20000 in
set_option maxHeartbeats 1000000 in
theorem t_X9_lay {κ : Kx} (a1 : Int32) (a2 : Int32) (a3 : Int32) (w : Wd) (h : ok (X9_lay  a1 a2 a3 w) (PVw κ)) : J κ RX9 cX9_lay 4 none (rmk 2 47) 0 [(0, .ref (ad (gm κ) 1)), (1, .int a1), (2, .int a2), (3, .int a3)] [] w := by
  unfold X9_lay at h
  refine j_aload_n 0 dX9_lay_0 rfl rfl ?_
  refine j_getA 3 fl_RX9_15 sh_1 fk_1_1 (by decide) dX9_lay_1 ?_
  refine j_iload_n 1 dX9_lay_4 rfl rfl ?_
  refine j_iload_n 2 dX9_lay_5 rfl rfl ?_
  refine j_iast sh_3 dX9_lay_6 h (fun h => ?_)
  refine j_lW h (fun w1 h => ?_)
  refine j_aload_n 0 dX9_lay_7 rfl rfl ?_
  refine j_getA 4 fl_RX9_19 sh_1 fk_1_2 (by decide) dX9_lay_8 ?_
  refine j_iload_n 1 dX9_lay_11 rfl rfl ?_
  refine j_iload_n 3 dX9_lay_12 rfl rfl ?_
  refine j_iast sh_4 dX9_lay_13 h (fun h => ?_)
  refine j_lW h (fun w2 h => ?_)
  refine j_aload_n 0 dX9_lay_14 rfl rfl ?_
  refine j_getA 2 fl_RX9_11 sh_1 fk_1_0 (by decide) dX9_lay_15 ?_
  refine j_iload_n 1 dX9_lay_18 rfl rfl ?_
  refine j_bipush (60 : Int32) dX9_lay_19 kb_60 ?_
  refine j_imul dX9_lay_21 ?_
  refine j_iload_n 1 dX9_lay_22 rfl rfl ?_
  refine j_bipush (60 : Int32) dX9_lay_23 kb_60 ?_
  refine j_imul dX9_lay_25 ?_
  refine j_iload_n 3 dX9_lay_26 rfl rfl ?_
  refine j_iadd dX9_lay_27 ?_
  refine j_lconst (0 : Int64) dX9_lay_28 (by decide) ?_
  obtain ⟨q3, e4, h⟩ := ok_b h
  refine j_callS (As := [.ref (ad (gm κ) 2), .int (a1 * (60 : Int32)), .int ((a1 * (60 : Int32)) + a3), .long (0 : Int64)]) (st := []) [] (c_J7_fill_bad5a (kl κ) (gm κ) (kA κ) 2 240 sh_2 (a1 * (60 : Int32)) ((a1 * (60 : Int32)) + a3) (0 : Int64) w2 q3 e4) ck_RX9_39 st_J7_fill_bad5a ⟨rfl, rfl⟩ ⟨by decide, by decide⟩ rfl rfl (Nat.le_of_ble_eq_true rfl) dX9_lay_29 _ rfl ?_
  have h := ok_s h
  exact j_vret dX9_lay_32 rfl h
theorem c_X9_lay (l : Launch) (γ : Gm) (A : Nat → Prop) (a1 : Int32) (a2 : Int32) (a3 : Int32) (w : Wd) (q : Wd) (e : X9_lay  a1 a2 a3 w = some q) : MetG l γ A yX9_lay cX9_lay 4 none (rmk 2 47) [.ref (ad (γ) 1), .int a1, .int a2, .int a3] w none q := by
  refine met_of pn_RX9 (Nat.le_of_ble_eq_true rfl) ?_
  intro κ hl hγ hA hρ
  subst hl; subst hγ; subst hA
  exact t_X9_lay   a1 a2 a3 w ⟨q, e, pVw hρ rfl rfl⟩
theorem dX9_cut_0 : decode cX9_cut 0 = .ok (.iload_n 2, 1) := by decide +kernel
theorem dX9_cut_1 : decode cX9_cut 1 = .ok (.tableswitch 41 0 2 #[27, 32, 37], 27) := by decide +kernel
theorem dX9_cut_28 : decode cX9_cut 28 = .ok (.lload_n 0, 1) := by decide +kernel
theorem dX9_cut_29 : decode cX9_cut 29 = .ok (.l2i, 1) := by decide +kernel
theorem dX9_cut_30 : decode cX9_cut 30 = .ok (.i2b, 1) := by decide +kernel
theorem dX9_cut_31 : decode cX9_cut 31 = .ok (.i2l, 1) := by decide +kernel
theorem dX9_cut_32 : decode cX9_cut 32 = .ok (.lreturn, 1) := by decide +kernel
theorem dX9_cut_33 : decode cX9_cut 33 = .ok (.lload_n 0, 1) := by decide +kernel
theorem dX9_cut_34 : decode cX9_cut 34 = .ok (.l2i, 1) := by decide +kernel
theorem dX9_cut_35 : decode cX9_cut 35 = .ok (.i2s, 1) := by decide +kernel
theorem dX9_cut_36 : decode cX9_cut 36 = .ok (.i2l, 1) := by decide +kernel
theorem dX9_cut_37 : decode cX9_cut 37 = .ok (.lreturn, 1) := by decide +kernel
theorem dX9_cut_38 : decode cX9_cut 38 = .ok (.lload_n 0, 1) := by decide +kernel
theorem dX9_cut_39 : decode cX9_cut 39 = .ok (.l2i, 1) := by decide +kernel
theorem dX9_cut_40 : decode cX9_cut 40 = .ok (.i2l, 1) := by decide +kernel
theorem dX9_cut_41 : decode cX9_cut 41 = .ok (.lreturn, 1) := by decide +kernel
theorem dX9_cut_42 : decode cX9_cut 42 = .ok (.lload_n 0, 1) := by decide +kernel
theorem dX9_cut_43 : decode cX9_cut 43 = .ok (.lreturn, 1) := by decide +kernel
noncomputable def X9_cutO (a0 : Int64) (a2 : Int32) (w : Wd) : Option (Int64) :=
(if a2 = (0 : Int32) then
some (Int32.toInt64 (Int32.toInt8 (Int64.toInt32 a0)).toInt32)
else
(if a2 = (1 : Int32) then
some (Int32.toInt64 (Int32.toInt16 (Int64.toInt32 a0)).toInt32)
else
(if a2 = (2 : Int32) then
some (Int32.toInt64 (Int64.toInt32 a0))
else
some a0)))
set_option maxRecDepth 20000 in
set_option maxHeartbeats 1000000 in
theorem t_X9_cut {κ : Kx} (a0 : Int64) (a2 : Int32) (w : Wd) (h : ok (X9_cutO  a0 a2 w) (PJ κ w)) : J κ RX9 cX9_cut 3 (some .long) (rmk 0 0) 0 [(0, .long a0), (2, .int a2)] [] w := by
  unfold X9_cutO at h
  refine j_iload_n 1 dX9_cut_0 rfl rfl ?_
  refine j_cs (0 : Int32) h (fun h => ?_) (fun n0 h => ?_)
  · refine j_tab 28 dX9_cut_1 (by decide) (by decide) rfl (by decide) ?_
    refine j_lload_n 0 dX9_cut_28 rfl rfl ?_
    refine j_l2i dX9_cut_29 ?_
    refine j_i2b dX9_cut_30 ?_
    refine j_i2l dX9_cut_31 ?_
    have h := ok_s h
    exact j_lret dX9_cut_32 rfl h
  refine j_cs (1 : Int32) h (fun h => ?_) (fun n1 h => ?_)
  · refine j_tab 33 dX9_cut_1 (by decide) (by decide) rfl (by decide) ?_
    refine j_lload_n 0 dX9_cut_33 rfl rfl ?_
    refine j_l2i dX9_cut_34 ?_
    refine j_i2s dX9_cut_35 ?_
    refine j_i2l dX9_cut_36 ?_
    have h := ok_s h
    exact j_lret dX9_cut_37 rfl h
  refine j_cs (2 : Int32) h (fun h => ?_) (fun n2 h => ?_)
  · refine j_tab 38 dX9_cut_1 (by decide) (by decide) rfl (by decide) ?_
    refine j_lload_n 0 dX9_cut_38 rfl rfl ?_
    refine j_l2i dX9_cut_39 ?_
    refine j_i2l dX9_cut_40 ?_
    have h := ok_s h
    exact j_lret dX9_cut_41 rfl h
  replace n0 := lv_neT n0 (show ((0 : Int32)).toInt = 0 by decide)
  replace n1 := lv_neT n1 (show ((1 : Int32)).toInt = 1 by decide)
  replace n2 := lv_neT n2 (show ((2 : Int32)).toInt = 2 by decide)
  refine j_tabD 42 dX9_cut_1 (by omega) (by decide) ?_
  refine j_lload_n 0 dX9_cut_42 rfl rfl ?_
  have h := ok_s h
  exact j_lret dX9_cut_43 rfl h
noncomputable def X9_cut (a0 : Int64) (a2 : Int32) (w : Wd) : Int64 := (X9_cutO  a0 a2 w).getD 0
theorem X9_cut_eq (a0 : Int64) (a2 : Int32) (w : Wd) : X9_cutO  a0 a2 w = some (X9_cut  a0 a2 w) := by
  unfold X9_cut X9_cutO
  repeat (first | rfl | split)
theorem c_X9_cut (l : Launch) (γ : Gm) (A : Nat → Prop) (a0 : Int64) (a2 : Int32) (w : Wd) : MetG l γ A yX9_cut cX9_cut 3 (some .long) (rmk 0 0) [.long a0, .int a2] w (some (.long (X9_cut  a0 a2 w))) w := by
  refine met_of pn_RX9 (Nat.le_of_ble_eq_true rfl) ?_
  intro κ hl hγ hA hρ
  subst hl; subst hγ; subst hA
  exact t_X9_cut   a0 a2 w ⟨_, X9_cut_eq  a0 a2 w, pJ hρ rfl rfl⟩
theorem dX9_put_0 : decode cX9_put 0 = .ok (.aload_n 0, 1) := by decide +kernel
theorem dX9_put_1 : decode cX9_put 1 = .ok (.getfield 11, 3) := by decide +kernel
theorem dX9_put_4 : decode cX9_put 4 = .ok (.iload_n 1, 1) := by decide +kernel
theorem dX9_put_5 : decode cX9_put 5 = .ok (.bipush 60, 2) := by decide +kernel
theorem dX9_put_7 : decode cX9_put 7 = .ok (.imul, 1) := by decide +kernel
theorem dX9_put_8 : decode cX9_put 8 = .ok (.iload_n 2, 1) := by decide +kernel
theorem dX9_put_9 : decode cX9_put 9 = .ok (.iadd, 1) := by decide +kernel
theorem dX9_put_10 : decode cX9_put 10 = .ok (.lload_n 3, 1) := by decide +kernel
theorem dX9_put_11 : decode cX9_put 11 = .ok (.aload_n 0, 1) := by decide +kernel
theorem dX9_put_12 : decode cX9_put 12 = .ok (.getfield 15, 3) := by decide +kernel
theorem dX9_put_15 : decode cX9_put 15 = .ok (.iload_n 1, 1) := by decide +kernel
theorem dX9_put_16 : decode cX9_put 16 = .ok (.iaload, 1) := by decide +kernel
theorem dX9_put_17 : decode cX9_put 17 = .ok (.invokestatic 42, 3) := by decide +kernel
theorem dX9_put_20 : decode cX9_put 20 = .ok (.lastore, 1) := by decide +kernel
theorem dX9_put_21 : decode cX9_put 21 = .ok (.return_, 1) := by decide +kernel
noncomputable def X9_put (a1 : Int32) (a2 : Int32) (a3 : Int64) (w : Wd) : Option (Wd) :=
gd (vp_in a1 4) <|
gd (vp_in ((a1 * (60 : Int32)) + a2) 240) <|
(some (puJ w 2 (ix ((a1 * (60 : Int32)) + a2)) (X9_cut a3 (w.1 3 (ix a1)) w))).bind fun w1 =>
some w1
set_option maxRecDepth 20000 in
set_option maxHeartbeats 1000000 in
theorem t_X9_put {κ : Kx} (a1 : Int32) (a2 : Int32) (a3 : Int64) (w : Wd) (h : ok (X9_put  a1 a2 a3 w) (PVw κ)) : J κ RX9 cX9_put 5 none (rmk 1 22) 0 [(0, .ref (ad (gm κ) 1)), (1, .int a1), (2, .int a2), (3, .long a3)] [] w := by
  unfold X9_put at h
  refine j_aload_n 0 dX9_put_0 rfl rfl ?_
  refine j_getA 2 fl_RX9_11 sh_1 fk_1_0 (by decide) dX9_put_1 ?_
  refine j_iload_n 1 dX9_put_4 rfl rfl ?_
  refine j_bipush (60 : Int32) dX9_put_5 kb_60 ?_
  refine j_imul dX9_put_7 ?_
  refine j_iload_n 2 dX9_put_8 rfl rfl ?_
  refine j_iadd dX9_put_9 ?_
  refine j_lload_n 3 dX9_put_10 rfl rfl ?_
  refine j_aload_n 0 dX9_put_11 rfl rfl ?_
  refine j_getA 3 fl_RX9_15 sh_1 fk_1_1 (by decide) dX9_put_12 ?_
  refine j_iload_n 1 dX9_put_15 rfl rfl ?_
  refine j_iald sh_3 dX9_put_16 h (fun h => ?_)
  refine j_callS (As := [.long a3, .int (w.1 3 (ix a1))]) (st := [.int ((a1 * (60 : Int32)) + a2), .ref (ad (gm κ) 2)]) [.long (X9_cut a3 (w.1 3 (ix a1)) w), .int ((a1 * (60 : Int32)) + a2), .ref (ad (gm κ) 2)] (c_X9_cut (kl κ) (gm κ) (kA κ) a3 (w.1 3 (ix a1)) w) ck_RX9_42 st_X9_cut ⟨rfl, rfl⟩ ⟨by decide, by decide⟩ rfl rfl (Nat.le_of_ble_eq_true rfl) dX9_put_17 _ rfl ?_
  refine j_last sh_2 dX9_put_20 h (fun h => ?_)
  refine j_lW h (fun w1 h => ?_)
  have h := ok_s h
  exact j_vret dX9_put_21 rfl h
theorem c_X9_put (l : Launch) (γ : Gm) (A : Nat → Prop) (a1 : Int32) (a2 : Int32) (a3 : Int64) (w : Wd) (q : Wd) (e : X9_put  a1 a2 a3 w = some q) : MetG l γ A yX9_put cX9_put 5 none (rmk 1 22) [.ref (ad (γ) 1), .int a1, .int a2, .long a3] w none q := by
  refine met_of pn_RX9 (Nat.le_of_ble_eq_true rfl) ?_
  intro κ hl hγ hA hρ
  subst hl; subst hγ; subst hA
  exact t_X9_put   a1 a2 a3 w ⟨q, e, pVw hρ rfl rfl⟩
theorem dX9_at_0 : decode cX9_at 0 = .ok (.aload_n 0, 1) := by decide +kernel
theorem dX9_at_1 : decode cX9_at 1 = .ok (.getfield 11, 3) := by decide +kernel
theorem dX9_at_4 : decode cX9_at 4 = .ok (.iload_n 1, 1) := by decide +kernel
theorem dX9_at_5 : decode cX9_at 5 = .ok (.bipush 60, 2) := by decide +kernel
theorem dX9_at_7 : decode cX9_at 7 = .ok (.imul, 1) := by decide +kernel
theorem dX9_at_8 : decode cX9_at 8 = .ok (.iload_n 2, 1) := by decide +kernel
theorem dX9_at_9 : decode cX9_at 9 = .ok (.iadd, 1) := by decide +kernel
theorem dX9_at_10 : decode cX9_at 10 = .ok (.laload, 1) := by decide +kernel
theorem dX9_at_11 : decode cX9_at 11 = .ok (.lreturn, 1) := by decide +kernel
noncomputable def X9_at (a1 : Int32) (a2 : Int32) (w : Wd) : Option (Int64) :=
gd (vp_in ((a1 * (60 : Int32)) + a2) 240) <|
some (w.2 2 (ix ((a1 * (60 : Int32)) + a2)))
set_option maxRecDepth 20000 in
set_option maxHeartbeats 1000000 in
theorem t_X9_at {κ : Kx} (a1 : Int32) (a2 : Int32) (w : Wd) (h : ok (X9_at  a1 a2 w) (PJ κ w)) : J κ RX9 cX9_at 3 (some .long) (rmk 0 0) 0 [(0, .ref (ad (gm κ) 1)), (1, .int a1), (2, .int a2)] [] w := by
  unfold X9_at at h
  refine j_aload_n 0 dX9_at_0 rfl rfl ?_
  refine j_getA 2 fl_RX9_11 sh_1 fk_1_0 (by decide) dX9_at_1 ?_
  refine j_iload_n 1 dX9_at_4 rfl rfl ?_
  refine j_bipush (60 : Int32) dX9_at_5 kb_60 ?_
  refine j_imul dX9_at_7 ?_
  refine j_iload_n 2 dX9_at_8 rfl rfl ?_
  refine j_iadd dX9_at_9 ?_
  refine j_lald sh_2 dX9_at_10 h (fun h => ?_)
  have h := ok_s h
  exact j_lret dX9_at_11 rfl h
theorem c_X9_at (l : Launch) (γ : Gm) (A : Nat → Prop) (a1 : Int32) (a2 : Int32) (w : Wd) (q : Int64) (e : X9_at  a1 a2 w = some q) : MetG l γ A yX9_at cX9_at 3 (some .long) (rmk 0 0) [.ref (ad (γ) 1), .int a1, .int a2] w (some (.long q)) w := by
  refine met_of pn_RX9 (Nat.le_of_ble_eq_true rfl) ?_
  intro κ hl hγ hA hρ
  subst hl; subst hγ; subst hA
  exact t_X9_at   a1 a2 w ⟨q, e, pJ hρ rfl rfl⟩
theorem dX9_carry_0 : decode cX9_carry 0 = .ok (.aload_n 0, 1) := by decide +kernel
theorem dX9_carry_1 : decode cX9_carry 1 = .ok (.getfield 11, 3) := by decide +kernel
theorem dX9_carry_4 : decode cX9_carry 4 = .ok (.iload_n 1, 1) := by decide +kernel
theorem dX9_carry_5 : decode cX9_carry 5 = .ok (.bipush 60, 2) := by decide +kernel
theorem dX9_carry_7 : decode cX9_carry 7 = .ok (.imul, 1) := by decide +kernel
theorem dX9_carry_8 : decode cX9_carry 8 = .ok (.iload_n 2, 1) := by decide +kernel
theorem dX9_carry_9 : decode cX9_carry 9 = .ok (.iadd, 1) := by decide +kernel
theorem dX9_carry_10 : decode cX9_carry 10 = .ok (.aload_n 0, 1) := by decide +kernel
theorem dX9_carry_11 : decode cX9_carry 11 = .ok (.getfield 11, 3) := by decide +kernel
theorem dX9_carry_14 : decode cX9_carry 14 = .ok (.iload_n 3, 1) := by decide +kernel
theorem dX9_carry_15 : decode cX9_carry 15 = .ok (.bipush 60, 2) := by decide +kernel
theorem dX9_carry_17 : decode cX9_carry 17 = .ok (.imul, 1) := by decide +kernel
theorem dX9_carry_18 : decode cX9_carry 18 = .ok (.iload 4, 2) := by decide +kernel
theorem dX9_carry_20 : decode cX9_carry 20 = .ok (.iadd, 1) := by decide +kernel
theorem dX9_carry_21 : decode cX9_carry 21 = .ok (.iload 5, 2) := by decide +kernel
theorem dX9_carry_23 : decode cX9_carry 23 = .ok (.invokestatic 46, 3) := by decide +kernel
theorem dX9_carry_26 : decode cX9_carry 26 = .ok (.return_, 1) := by decide +kernel
noncomputable def X9_carry (a1 : Int32) (a2 : Int32) (a3 : Int32) (a4 : Int32) (a5 : Int32) (w : Wd) : Option (Wd) :=
gd (cpok ((a1 * (60 : Int32)) + a2) ((a3 * (60 : Int32)) + a4) a5 240 240) <|
(some (seJ w 2 (va_cpy (w.2 2) (w.2 2) (ix ((a1 * (60 : Int32)) + a2)) (ix ((a3 * (60 : Int32)) + a4)) (ix a5)))).bind fun w1 =>
some w1
set_option maxRecDepth 20000 in
set_option maxHeartbeats 1000000 in
theorem t_X9_carry {κ : Kx} (a1 : Int32) (a2 : Int32) (a3 : Int32) (a4 : Int32) (a5 : Int32) (w : Wd) (h : ok (X9_carry  a1 a2 a3 a4 a5 w) (PVw κ)) : J κ RX9 cX9_carry 6 none (rmk 1 26) 0 [(0, .ref (ad (gm κ) 1)), (1, .int a1), (2, .int a2), (3, .int a3), (4, .int a4), (5, .int a5)] [] w := by
  unfold X9_carry at h
  refine j_aload_n 0 dX9_carry_0 rfl rfl ?_
  refine j_getA 2 fl_RX9_11 sh_1 fk_1_0 (by decide) dX9_carry_1 ?_
  refine j_iload_n 1 dX9_carry_4 rfl rfl ?_
  refine j_bipush (60 : Int32) dX9_carry_5 kb_60 ?_
  refine j_imul dX9_carry_7 ?_
  refine j_iload_n 2 dX9_carry_8 rfl rfl ?_
  refine j_iadd dX9_carry_9 ?_
  refine j_aload_n 0 dX9_carry_10 rfl rfl ?_
  refine j_getA 2 fl_RX9_11 sh_1 fk_1_0 (by decide) dX9_carry_11 ?_
  refine j_iload_n 3 dX9_carry_14 rfl rfl ?_
  refine j_bipush (60 : Int32) dX9_carry_15 kb_60 ?_
  refine j_imul dX9_carry_17 ?_
  refine j_iload 4 dX9_carry_18 rfl ?_
  refine j_iadd dX9_carry_20 ?_
  refine j_iload 5 dX9_carry_21 rfl ?_
  refine j_copyJ cp_RX9_46 sh_2 sh_2 (by decide) (Nat.le_of_ble_eq_true rfl) dX9_carry_23 h (fun h => ?_)
  refine j_lW h (fun w1 h => ?_)
  have h := ok_s h
  exact j_vret dX9_carry_26 rfl h
theorem c_X9_carry (l : Launch) (γ : Gm) (A : Nat → Prop) (a1 : Int32) (a2 : Int32) (a3 : Int32) (a4 : Int32) (a5 : Int32) (w : Wd) (q : Wd) (e : X9_carry  a1 a2 a3 a4 a5 w = some q) : MetG l γ A yX9_carry cX9_carry 6 none (rmk 1 26) [.ref (ad (γ) 1), .int a1, .int a2, .int a3, .int a4, .int a5] w none q := by
  refine met_of pn_RX9 (Nat.le_of_ble_eq_true rfl) ?_
  intro κ hl hγ hA hρ
  subst hl; subst hγ; subst hA
  exact t_X9_carry   a1 a2 a3 a4 a5 w ⟨q, e, pVw hρ rfl rfl⟩
theorem dX9_startsWithUnlike_0 : decode cX9_startsWithUnlike 0 = .ok (.lconst 0, 1) := by decide +kernel
theorem dX9_startsWithUnlike_1 : decode cX9_startsWithUnlike 1 = .ok (.lstore 4, 2) := by decide +kernel
theorem dX9_startsWithUnlike_3 : decode cX9_startsWithUnlike 3 = .ok (.iconst 0, 1) := by decide +kernel
theorem dX9_startsWithUnlike_4 : decode cX9_startsWithUnlike 4 = .ok (.istore 6, 2) := by decide +kernel
theorem dX9_startsWithUnlike_6 : decode cX9_startsWithUnlike 6 = .ok (.iload 6, 2) := by decide +kernel
theorem dX9_startsWithUnlike_8 : decode cX9_startsWithUnlike 8 = .ok (.iload_n 2, 1) := by decide +kernel
theorem dX9_startsWithUnlike_9 : decode cX9_startsWithUnlike 9 = .ok (.if_icmp .ge 58, 3) := by decide +kernel
theorem dX9_startsWithUnlike_12 : decode cX9_startsWithUnlike 12 = .ok (.aload_n 0, 1) := by decide +kernel
theorem dX9_startsWithUnlike_13 : decode cX9_startsWithUnlike 13 = .ok (.iload_n 1, 1) := by decide +kernel
theorem dX9_startsWithUnlike_14 : decode cX9_startsWithUnlike 14 = .ok (.iload 6, 2) := by decide +kernel
theorem dX9_startsWithUnlike_16 : decode cX9_startsWithUnlike 16 = .ok (.invokevirtual 52, 3) := by decide +kernel
theorem dX9_startsWithUnlike_19 : decode cX9_startsWithUnlike 19 = .ok (.lstore 7, 2) := by decide +kernel
theorem dX9_startsWithUnlike_21 : decode cX9_startsWithUnlike 21 = .ok (.lload 7, 2) := by decide +kernel
theorem dX9_startsWithUnlike_23 : decode cX9_startsWithUnlike 23 = .ok (.lconst 0, 1) := by decide +kernel
theorem dX9_startsWithUnlike_24 : decode cX9_startsWithUnlike 24 = .ok (.lcmp, 1) := by decide +kernel
theorem dX9_startsWithUnlike_25 : decode cX9_startsWithUnlike 25 = .ok (.ifCond .lt 24, 3) := by decide +kernel
theorem dX9_startsWithUnlike_28 : decode cX9_startsWithUnlike 28 = .ok (.lload 7, 2) := by decide +kernel
theorem dX9_startsWithUnlike_30 : decode cX9_startsWithUnlike 30 = .ok (.iload_n 3, 1) := by decide +kernel
theorem dX9_startsWithUnlike_31 : decode cX9_startsWithUnlike 31 = .ok (.i2l, 1) := by decide +kernel
theorem dX9_startsWithUnlike_32 : decode cX9_startsWithUnlike 32 = .ok (.lcmp, 1) := by decide +kernel
theorem dX9_startsWithUnlike_33 : decode cX9_startsWithUnlike 33 = .ok (.ifCond .ge 16, 3) := by decide +kernel
theorem dX9_startsWithUnlike_36 : decode cX9_startsWithUnlike 36 = .ok (.lload 4, 2) := by decide +kernel
theorem dX9_startsWithUnlike_38 : decode cX9_startsWithUnlike 38 = .ok (.lload 7, 2) := by decide +kernel
theorem dX9_startsWithUnlike_40 : decode cX9_startsWithUnlike 40 = .ok (.l2i, 1) := by decide +kernel
theorem dX9_startsWithUnlike_41 : decode cX9_startsWithUnlike 41 = .ok (.lshr, 1) := by decide +kernel
theorem dX9_startsWithUnlike_42 : decode cX9_startsWithUnlike 42 = .ok (.lconst 1, 1) := by decide +kernel
theorem dX9_startsWithUnlike_43 : decode cX9_startsWithUnlike 43 = .ok (.land, 1) := by decide +kernel
theorem dX9_startsWithUnlike_44 : decode cX9_startsWithUnlike 44 = .ok (.lconst 0, 1) := by decide +kernel
theorem dX9_startsWithUnlike_45 : decode cX9_startsWithUnlike 45 = .ok (.lcmp, 1) := by decide +kernel
theorem dX9_startsWithUnlike_46 : decode cX9_startsWithUnlike 46 = .ok (.ifCond .eq 5, 3) := by decide +kernel
theorem dX9_startsWithUnlike_49 : decode cX9_startsWithUnlike 49 = .ok (.iconst 0, 1) := by decide +kernel
theorem dX9_startsWithUnlike_50 : decode cX9_startsWithUnlike 50 = .ok (.ireturn, 1) := by decide +kernel
theorem dX9_startsWithUnlike_51 : decode cX9_startsWithUnlike 51 = .ok (.lload 4, 2) := by decide +kernel
theorem dX9_startsWithUnlike_53 : decode cX9_startsWithUnlike 53 = .ok (.lconst 1, 1) := by decide +kernel
theorem dX9_startsWithUnlike_54 : decode cX9_startsWithUnlike 54 = .ok (.lload 7, 2) := by decide +kernel
theorem dX9_startsWithUnlike_56 : decode cX9_startsWithUnlike 56 = .ok (.l2i, 1) := by decide +kernel
theorem dX9_startsWithUnlike_57 : decode cX9_startsWithUnlike 57 = .ok (.lshl, 1) := by decide +kernel
theorem dX9_startsWithUnlike_58 : decode cX9_startsWithUnlike 58 = .ok (.lor, 1) := by decide +kernel
theorem dX9_startsWithUnlike_59 : decode cX9_startsWithUnlike 59 = .ok (.lstore 4, 2) := by decide +kernel
theorem dX9_startsWithUnlike_61 : decode cX9_startsWithUnlike 61 = .ok (.iinc 6 1, 3) := by decide +kernel
theorem dX9_startsWithUnlike_64 : decode cX9_startsWithUnlike 64 = .ok (.goto (-58), 3) := by decide +kernel
theorem dX9_startsWithUnlike_67 : decode cX9_startsWithUnlike 67 = .ok (.iconst 1, 1) := by decide +kernel
theorem dX9_startsWithUnlike_68 : decode cX9_startsWithUnlike 68 = .ok (.ireturn, 1) := by decide +kernel
noncomputable def X9_startsWithUnlike_b6 (a1 : Int32) (a2 : Int32) (a3 : Int32) (w : Wd) (s : (Int64 × Int32)) : Option ((Int64 × Int32) ⊕ (Unit ⊕ Unit)) :=
(if a2 ≤ s.2 then
some (.inr (.inr ()))
else
(X9_at a1 s.2 w).bind fun q1 =>
(if (lg_cmp q1 (0 : Int64)) < 0 then
some (.inr (.inl ()))
else
(if 0 ≤ (lg_cmp q1 (Int32.toInt64 a3)) then
some (.inr (.inl ()))
else
(if (lg_cmp ((s.1 >>> (Int32.toInt64 (Int64.toInt32 q1) &&& 63)) &&& (1 : Int64)) (0 : Int64)) = 0 then
(some (s.1 ||| ((1 : Int64) <<< (Int32.toInt64 (Int64.toInt32 q1) &&& 63)))).bind fun z3 =>
some (.inl (z3, (s.2 + (1 : Int32))))
else
some (.inr (.inl ()))))))
set_option maxRecDepth 20000 in
set_option maxHeartbeats 1000000 in
theorem t_X9_startsWithUnlike_b6 {κ : Kx} (a1 : Int32) (a2 : Int32) (a3 : Int32) (w : Wd) {P : (Unit ⊕ Unit) → Prop} (K0 : ∀ e, P (.inl e) → J κ RX9 cX9_startsWithUnlike 9 (some .boolean) (rmk 1 22) 49 [] [] w) (K1 : ∀ e, P (.inr e) → J κ RX9 cX9_startsWithUnlike 9 (some .boolean) (rmk 1 22) 67 [] [] w) (s : (Int64 × Int32)) (h : ok (lp (X9_startsWithUnlike_b6  a1 a2 a3 w) s) P) : J κ RX9 cX9_startsWithUnlike 9 (some .boolean) (rmk 1 22) 6 [(0, .ref (ad (gm κ) 1)), (1, .int a1), (2, .int a2), (3, .int a3), (4, .long s.1), (6, .int s.2)] [] w := by
  refine lp_ind (fun s => J κ RX9 cX9_startsWithUnlike 9 (some .boolean) (rmk 1 22) 6 [(0, .ref (ad (gm κ) 1)), (1, .int a1), (2, .int a2), (3, .int a3), (4, .long s.1), (6, .int s.2)] [] w) (fun s h => ?_) s h
  unfold X9_startsWithUnlike_b6 at h
  refine j_iload 5 dX9_startsWithUnlike_6 rfl ?_
  refine j_iload_n 2 dX9_startsWithUnlike_8 rfl rfl ?_
  refine j_ic_ge 67 dX9_startsWithUnlike_9 (by decide) h (fun h => ?_) (fun h => ?_)
  · refine j_loc [] [] rfl ?_
    have h := sel_r h
    have h := K1 _ h
    exact h
  · refine j_aload_n 0 dX9_startsWithUnlike_12 rfl rfl ?_
    refine j_iload_n 1 dX9_startsWithUnlike_13 rfl rfl ?_
    refine j_iload 5 dX9_startsWithUnlike_14 rfl ?_
    obtain ⟨q1, e2, h⟩ := ok_b h
    refine j_callV (As := [.int a1, .int s.2]) (st := []) [.long q1] (c_X9_at (kl κ) (gm κ) (kA κ) a1 s.2 w q1 e2) ck_RX9_52 im_X9_at se_X9_at sh_1 cx_9 ⟨rfl, rfl⟩ ⟨by decide, by decide⟩ rfl rfl (Nat.le_of_ble_eq_true rfl) dX9_startsWithUnlike_16 _ rfl ?_
    refine j_lstore [(7, .long q1), (0, .ref (ad (gm κ) 1)), (1, .int a1), (2, .int a2), (3, .int a3), (4, .long s.1), (6, .int s.2)] dX9_startsWithUnlike_19 (by decide) rfl ?_
    refine j_lload 0 dX9_startsWithUnlike_21 rfl ?_
    refine j_lconst (0 : Int64) dX9_startsWithUnlike_23 (by decide) ?_
    refine j_lcmp dX9_startsWithUnlike_24 ?_
    refine j_if_lt 49 dX9_startsWithUnlike_25 (by decide) h (fun h => ?_) (fun h => ?_)
    · refine j_loc [] [] rfl ?_
      have h := sel_r h
      have h := K0 _ h
      exact h
    · refine j_lload 0 dX9_startsWithUnlike_28 rfl ?_
      refine j_iload_n 4 dX9_startsWithUnlike_30 rfl rfl ?_
      refine j_i2l dX9_startsWithUnlike_31 ?_
      refine j_lcmp dX9_startsWithUnlike_32 ?_
      refine j_if_ge 49 dX9_startsWithUnlike_33 (by decide) h (fun h => ?_) (fun h => ?_)
      · refine j_loc [] [] rfl ?_
        have h := sel_r h
        have h := K0 _ h
        exact h
      · refine j_lload 5 dX9_startsWithUnlike_36 rfl ?_
        refine j_lload 0 dX9_startsWithUnlike_38 rfl ?_
        refine j_l2i dX9_startsWithUnlike_40 ?_
        refine j_lshr dX9_startsWithUnlike_41 ?_
        refine j_lconst (1 : Int64) dX9_startsWithUnlike_42 (by decide) ?_
        refine j_land dX9_startsWithUnlike_43 ?_
        refine j_lconst (0 : Int64) dX9_startsWithUnlike_44 (by decide) ?_
        refine j_lcmp dX9_startsWithUnlike_45 ?_
        refine j_if_eq 51 dX9_startsWithUnlike_46 (by decide) h (fun h => ?_) (fun h => ?_)
        · refine j_lload 5 dX9_startsWithUnlike_51 rfl ?_
          refine j_lconst (1 : Int64) dX9_startsWithUnlike_53 (by decide) ?_
          refine j_lload 0 dX9_startsWithUnlike_54 rfl ?_
          refine j_l2i dX9_startsWithUnlike_56 ?_
          refine j_lshl dX9_startsWithUnlike_57 ?_
          refine j_lor dX9_startsWithUnlike_58 ?_
          refine j_lJ h (fun z3 h => ?_)
          refine j_lstore [(4, .long z3), (7, .long q1), (0, .ref (ad (gm κ) 1)), (1, .int a1), (2, .int a2), (3, .int a3), (6, .int s.2)] dX9_startsWithUnlike_59 (by decide) rfl ?_
          refine j_iinc (s.2 + (1 : Int32)) 6 [(6, .int (s.2 + (1 : Int32))), (4, .long z3), (7, .long q1), (0, .ref (ad (gm κ) 1)), (1, .int a1), (2, .int a2), (3, .int a3)] dX9_startsWithUnlike_61 rfl (by rw [kn_1]) (by decide) rfl ?_
          refine j_goto 6 dX9_startsWithUnlike_64 (by decide) ?_
          refine j_loc [(0, .ref (ad (gm κ) 1)), (1, .int a1), (2, .int a2), (3, .int a3), (4, .long z3), (6, .int (s.2 + (1 : Int32)))] [3, 4, 5, 6, 1, 0] rfl ?_
          have h := sel_l h
          exact h
        · refine j_loc [] [] rfl ?_
          have h := sel_r h
          have h := K0 _ h
          exact h
noncomputable def X9_startsWithUnlike (a1 : Int32) (a2 : Int32) (a3 : Int32) (w : Wd) : Option (Int32) :=
(lp (X9_startsWithUnlike_b6 a1 a2 a3 w) ((0 : Int64), (0 : Int32))).bind fun e4 => match e4 with
| (.inl e5) => (some (0 : Int32))
| (.inr e6) => (some (1 : Int32))
set_option maxRecDepth 20000 in
set_option maxHeartbeats 1000000 in
theorem t_X9_startsWithUnlike {κ : Kx} (a1 : Int32) (a2 : Int32) (a3 : Int32) (w : Wd) (h : ok (X9_startsWithUnlike  a1 a2 a3 w) (PI κ w)) : J κ RX9 cX9_startsWithUnlike 9 (some .boolean) (rmk 1 22) 0 [(0, .ref (ad (gm κ) 1)), (1, .int a1), (2, .int a2), (3, .int a3)] [] w := by
  unfold X9_startsWithUnlike at h
  refine j_lconst (0 : Int64) dX9_startsWithUnlike_0 (by decide) ?_
  refine j_lstore [(4, .long (0 : Int64)), (0, .ref (ad (gm κ) 1)), (1, .int a1), (2, .int a2), (3, .int a3)] dX9_startsWithUnlike_1 (by decide) rfl ?_
  refine j_iconst (0 : Int32) dX9_startsWithUnlike_3 ki_0 ?_
  refine j_istore [(6, .int (0 : Int32)), (4, .long (0 : Int64)), (0, .ref (ad (gm κ) 1)), (1, .int a1), (2, .int a2), (3, .int a3)] dX9_startsWithUnlike_4 (by decide) rfl ?_
  refine j_loc [(0, .ref (ad (gm κ) 1)), (1, .int a1), (2, .int a2), (3, .int a3), (4, .long (0 : Int64)), (6, .int (0 : Int32))] [2, 3, 4, 5, 1, 0] rfl ?_
  refine t_X9_startsWithUnlike_b6 a1 a2 a3 w (fun e5 h => ?_) (fun e6 h => ?_) ((0 : Int64), (0 : Int32)) (ok_bb h)
  · refine j_iconst (0 : Int32) dX9_startsWithUnlike_49 ki_0 ?_
    have h := ok_s h
    exact j_iret dX9_startsWithUnlike_50 rfl (by decide) h
  · refine j_iconst (1 : Int32) dX9_startsWithUnlike_67 ki_1 ?_
    have h := ok_s h
    exact j_iret dX9_startsWithUnlike_68 rfl (by decide) h
theorem c_X9_startsWithUnlike (l : Launch) (γ : Gm) (A : Nat → Prop) (a1 : Int32) (a2 : Int32) (a3 : Int32) (w : Wd) (q : Int32) (e : X9_startsWithUnlike  a1 a2 a3 w = some q) : MetG l γ A yX9_startsWithUnlike cX9_startsWithUnlike 9 (some .boolean) (rmk 1 22) [.ref (ad (γ) 1), .int a1, .int a2, .int a3] w (some (.int q)) w := by
  refine met_of pn_RX9 (Nat.le_of_ble_eq_true rfl) ?_
  intro κ hl hγ hA hρ
  subst hl; subst hγ; subst hA
  exact t_X9_startsWithUnlike   a1 a2 a3 w ⟨q, e, pI hρ rfl rfl⟩
theorem dX10_relive_0 : decode cX10_relive 0 = .ok (.aload_n 0, 1) := by decide +kernel
theorem dX10_relive_1 : decode cX10_relive 1 = .ok (.aload_n 0, 1) := by decide +kernel
theorem dX10_relive_2 : decode cX10_relive 2 = .ok (.getfield 51, 3) := by decide +kernel
theorem dX10_relive_5 : decode cX10_relive 5 = .ok (.iload_n 1, 1) := by decide +kernel
theorem dX10_relive_6 : decode cX10_relive 6 = .ok (.invokestatic 55, 3) := by decide +kernel
theorem dX10_relive_9 : decode cX10_relive 9 = .ok (.putfield 51, 3) := by decide +kernel
theorem dX10_relive_12 : decode cX10_relive 12 = .ok (.return_, 1) := by decide +kernel
noncomputable def X10_relive (a1 : Int32) (w : Wd) : Option (Wd) :=
(some (puI w 73 4 (mnI (w.1 73 4) a1))).bind fun w1 =>
some w1
set_option maxRecDepth 20000 in
set_option maxHeartbeats 1000000 in
theorem t_X10_relive {κ : Kx} (a1 : Int32) (w : Wd) (h : ok (X10_relive  a1 w) (PVw κ)) : J κ RX10 cX10_relive 2 none (rmk 1 23) 0 [(0, .ref (ad (gm κ) 73)), (1, .int a1)] [] w := by
  unfold X10_relive at h
  refine j_aload_n 0 dX10_relive_0 rfl rfl ?_
  refine j_aload_n 0 dX10_relive_1 rfl rfl ?_
  refine j_getI fl_RX10_51 sh_73 fk_73_4 dX10_relive_2 ?_
  refine j_iload_n 1 dX10_relive_5 rfl rfl ?_
  refine j_mnI mt_RX10_55 (by decide) (Nat.le_of_ble_eq_true rfl) dX10_relive_6 ?_
  refine j_putI fp_RX10_51 sh_73 fk_73_4 dX10_relive_9 ?_
  refine j_lW h (fun w1 h => ?_)
  have h := ok_s h
  exact j_vret dX10_relive_12 rfl h
theorem c_X10_relive (l : Launch) (γ : Gm) (A : Nat → Prop) (a1 : Int32) (w : Wd) (q : Wd) (e : X10_relive  a1 w = some q) : MetG l γ A yX10_relive cX10_relive 2 none (rmk 1 23) [.ref (ad (γ) 73), .int a1] w none q := by
  refine met_of pn_RX10 (Nat.le_of_ble_eq_true rfl) ?_
  intro κ hl hγ hA hρ
  subst hl; subst hγ; subst hA
  exact t_X10_relive   a1 w ⟨q, e, pVw hρ rfl rfl⟩
theorem dX10_cell_0 : decode cX10_cell 0 = .ok (.iload_n 1, 1) := by decide +kernel
theorem dX10_cell_1 : decode cX10_cell 1 = .ok (.bipush 40, 2) := by decide +kernel
theorem dX10_cell_3 : decode cX10_cell 3 = .ok (.imul, 1) := by decide +kernel
theorem dX10_cell_4 : decode cX10_cell 4 = .ok (.iload_n 0, 1) := by decide +kernel
theorem dX10_cell_5 : decode cX10_cell 5 = .ok (.iadd, 1) := by decide +kernel
theorem dX10_cell_6 : decode cX10_cell 6 = .ok (.ireturn, 1) := by decide +kernel
noncomputable def X10_cellO (a0 : Int32) (a1 : Int32) (w : Wd) : Option (Int32) :=
some ((a1 * (40 : Int32)) + a0)
set_option maxRecDepth 20000 in
set_option maxHeartbeats 1000000 in
theorem t_X10_cell {κ : Kx} (a0 : Int32) (a1 : Int32) (w : Wd) (h : ok (X10_cellO  a0 a1 w) (PI κ w)) : J κ RX10 cX10_cell 2 (some .int) (rmk 0 0) 0 [(0, .int a0), (1, .int a1)] [] w := by
  unfold X10_cellO at h
  refine j_iload_n 1 dX10_cell_0 rfl rfl ?_
  refine j_bipush (40 : Int32) dX10_cell_1 kb_40 ?_
  refine j_imul dX10_cell_3 ?_
  refine j_iload_n 0 dX10_cell_4 rfl rfl ?_
  refine j_iadd dX10_cell_5 ?_
  have h := ok_s h
  exact j_iret dX10_cell_6 rfl rfl h
noncomputable def X10_cell (a0 : Int32) (a1 : Int32) (w : Wd) : Int32 := (X10_cellO  a0 a1 w).getD 0
theorem X10_cell_eq (a0 : Int32) (a1 : Int32) (w : Wd) : X10_cellO  a0 a1 w = some (X10_cell  a0 a1 w) := by
  unfold X10_cell X10_cellO
  repeat (first | rfl | split)
theorem c_X10_cell (l : Launch) (γ : Gm) (A : Nat → Prop) (a0 : Int32) (a1 : Int32) (w : Wd) : MetG l γ A yX10_cell cX10_cell 2 (some .int) (rmk 0 0) [.int a0, .int a1] w (some (.int (X10_cell  a0 a1 w))) w := by
  refine met_of pn_RX10 (Nat.le_of_ble_eq_true rfl) ?_
  intro κ hl hγ hA hρ
  subst hl; subst hγ; subst hA
  exact t_X10_cell   a0 a1 w ⟨_, X10_cell_eq  a0 a1 w, pI hρ rfl rfl⟩
theorem dX10_doneBehind_0 : decode cX10_doneBehind 0 = .ok (.aload_n 0, 1) := by decide +kernel
theorem dX10_doneBehind_1 : decode cX10_doneBehind 1 = .ok (.getfield 47, 3) := by decide +kernel
theorem dX10_doneBehind_4 : decode cX10_doneBehind 4 = .ok (.aload_n 0, 1) := by decide +kernel
theorem dX10_doneBehind_5 : decode cX10_doneBehind 5 = .ok (.getfield 16, 3) := by decide +kernel
theorem dX10_doneBehind_8 : decode cX10_doneBehind 8 = .ok (.iload_n 1, 1) := by decide +kernel
theorem dX10_doneBehind_9 : decode cX10_doneBehind 9 = .ok (.iload_n 2, 1) := by decide +kernel
theorem dX10_doneBehind_10 : decode cX10_doneBehind 10 = .ok (.invokestatic 65, 3) := by decide +kernel
theorem dX10_doneBehind_13 : decode cX10_doneBehind 13 = .ok (.bipush 15, 2) := by decide +kernel
theorem dX10_doneBehind_15 : decode cX10_doneBehind 15 = .ok (.imul, 1) := by decide +kernel
theorem dX10_doneBehind_16 : decode cX10_doneBehind 16 = .ok (.invokevirtual 68, 3) := by decide +kernel
theorem dX10_doneBehind_19 : decode cX10_doneBehind 19 = .ok (.ireturn, 1) := by decide +kernel
noncomputable def X10_doneBehind (a1 : Int32) (a2 : Int32) (w : Wd) : Option (Int32) :=
(X3_doneIn 75 36000 ((X10_cell a1 a2 w) * (15 : Int32)) w).bind fun q1 =>
some q1
set_option maxRecDepth 20000 in
set_option maxHeartbeats 1000000 in
theorem t_X10_doneBehind {κ : Kx} (a1 : Int32) (a2 : Int32) (w : Wd) (h : ok (X10_doneBehind  a1 a2 w) (PI κ w)) : J κ RX10 cX10_doneBehind 3 (some .int) (rmk 1 24) 0 [(0, .ref (ad (gm κ) 73)), (1, .int a1), (2, .int a2)] [] w := by
  unfold X10_doneBehind at h
  refine j_aload_n 0 dX10_doneBehind_0 rfl rfl ?_
  refine j_getA 69 fl_RX10_47 sh_73 fk_73_3 (by decide) dX10_doneBehind_1 ?_
  refine j_aload_n 0 dX10_doneBehind_4 rfl rfl ?_
  refine j_getA 75 fl_RX10_16 sh_73 fk_73_6 (by decide) dX10_doneBehind_5 ?_
  refine j_iload_n 1 dX10_doneBehind_8 rfl rfl ?_
  refine j_iload_n 2 dX10_doneBehind_9 rfl rfl ?_
  refine j_callS (As := [.int a1, .int a2]) (st := [.ref (ad (gm κ) 75), .ref (ad (gm κ) 69)]) [.int (X10_cell a1 a2 w), .ref (ad (gm κ) 75), .ref (ad (gm κ) 69)] (c_X10_cell (kl κ) (gm κ) (kA κ) a1 a2 w) ck_RX10_65 st_X10_cell ⟨rfl, rfl⟩ ⟨by decide, by decide⟩ rfl rfl (Nat.le_of_ble_eq_true rfl) dX10_doneBehind_10 _ rfl ?_
  refine j_bipush (15 : Int32) dX10_doneBehind_13 kb_15 ?_
  refine j_imul dX10_doneBehind_15 ?_
  obtain ⟨q1, e2, h⟩ := ok_b h
  refine j_callV (As := [.ref (ad (gm κ) 75), .int ((X10_cell a1 a2 w) * (15 : Int32))]) (st := []) [.int q1] (c_X3_doneIn (kl κ) (gm κ) (kA κ) 75 36000 sh_75 ((X10_cell a1 a2 w) * (15 : Int32)) w q1 e2) ck_RX10_68 im_X3_doneIn se_X3_doneIn sh_69 cx_3 ⟨rfl, rfl⟩ ⟨by decide, by decide⟩ rfl rfl (Nat.le_of_ble_eq_true rfl) dX10_doneBehind_16 _ rfl ?_
  have h := ok_s h
  exact j_iret dX10_doneBehind_19 rfl rfl h
theorem c_X10_doneBehind (l : Launch) (γ : Gm) (A : Nat → Prop) (a1 : Int32) (a2 : Int32) (w : Wd) (q : Int32) (e : X10_doneBehind  a1 a2 w = some q) : MetG l γ A yX10_doneBehind cX10_doneBehind 3 (some .int) (rmk 1 24) [.ref (ad (γ) 73), .int a1, .int a2] w (some (.int q)) w := by
  refine met_of pn_RX10 (Nat.le_of_ble_eq_true rfl) ?_
  intro κ hl hγ hA hρ
  subst hl; subst hγ; subst hA
  exact t_X10_doneBehind   a1 a2 w ⟨q, e, pI hρ rfl rfl⟩
theorem dX10_gatherFacts_0 : decode cX10_gatherFacts 0 = .ok (.aload_n 0, 1) := by decide +kernel
theorem dX10_gatherFacts_1 : decode cX10_gatherFacts 1 = .ok (.getfield 35, 3) := by decide +kernel
theorem dX10_gatherFacts_4 : decode cX10_gatherFacts 4 = .ok (.getfield 125, 3) := by decide +kernel
theorem dX10_gatherFacts_7 : decode cX10_gatherFacts 7 = .ok (.iload_n 2, 1) := by decide +kernel
theorem dX10_gatherFacts_8 : decode cX10_gatherFacts 8 = .ok (.iaload, 1) := by decide +kernel
theorem dX10_gatherFacts_9 : decode cX10_gatherFacts 9 = .ok (.istore 4, 2) := by decide +kernel
theorem dX10_gatherFacts_11 : decode cX10_gatherFacts 11 = .ok (.aload_n 0, 1) := by decide +kernel
theorem dX10_gatherFacts_12 : decode cX10_gatherFacts 12 = .ok (.getfield 35, 3) := by decide +kernel
theorem dX10_gatherFacts_15 : decode cX10_gatherFacts 15 = .ok (.getfield 156, 3) := by decide +kernel
theorem dX10_gatherFacts_18 : decode cX10_gatherFacts 18 = .ok (.aload_n 0, 1) := by decide +kernel
theorem dX10_gatherFacts_19 : decode cX10_gatherFacts 19 = .ok (.getfield 39, 3) := by decide +kernel
theorem dX10_gatherFacts_22 : decode cX10_gatherFacts 22 = .ok (.getfield 122, 3) := by decide +kernel
theorem dX10_gatherFacts_25 : decode cX10_gatherFacts 25 = .ok (.iload_n 2, 1) := by decide +kernel
theorem dX10_gatherFacts_26 : decode cX10_gatherFacts 26 = .ok (.iaload, 1) := by decide +kernel
theorem dX10_gatherFacts_27 : decode cX10_gatherFacts 27 = .ok (.iaload, 1) := by decide +kernel
theorem dX10_gatherFacts_28 : decode cX10_gatherFacts 28 = .ok (.istore 5, 2) := by decide +kernel
theorem dX10_gatherFacts_30 : decode cX10_gatherFacts 30 = .ok (.aload_n 0, 1) := by decide +kernel
theorem dX10_gatherFacts_31 : decode cX10_gatherFacts 31 = .ok (.getfield 24, 3) := by decide +kernel
theorem dX10_gatherFacts_34 : decode cX10_gatherFacts 34 = .ok (.iconst 0, 1) := by decide +kernel
theorem dX10_gatherFacts_35 : decode cX10_gatherFacts 35 = .ok (.aload_n 0, 1) := by decide +kernel
theorem dX10_gatherFacts_36 : decode cX10_gatherFacts 36 = .ok (.getfield 35, 3) := by decide +kernel
theorem dX10_gatherFacts_39 : decode cX10_gatherFacts 39 = .ok (.getfield 102, 3) := by decide +kernel
theorem dX10_gatherFacts_42 : decode cX10_gatherFacts 42 = .ok (.iload_n 1, 1) := by decide +kernel
theorem dX10_gatherFacts_43 : decode cX10_gatherFacts 43 = .ok (.iaload, 1) := by decide +kernel
theorem dX10_gatherFacts_44 : decode cX10_gatherFacts 44 = .ok (.i2l, 1) := by decide +kernel
theorem dX10_gatherFacts_45 : decode cX10_gatherFacts 45 = .ok (.lastore, 1) := by decide +kernel
theorem dX10_gatherFacts_46 : decode cX10_gatherFacts 46 = .ok (.aload_n 0, 1) := by decide +kernel
theorem dX10_gatherFacts_47 : decode cX10_gatherFacts 47 = .ok (.getfield 24, 3) := by decide +kernel
theorem dX10_gatherFacts_50 : decode cX10_gatherFacts 50 = .ok (.iconst 1, 1) := by decide +kernel
theorem dX10_gatherFacts_51 : decode cX10_gatherFacts 51 = .ok (.iload 5, 2) := by decide +kernel
theorem dX10_gatherFacts_53 : decode cX10_gatherFacts 53 = .ok (.aload_n 0, 1) := by decide +kernel
theorem dX10_gatherFacts_54 : decode cX10_gatherFacts 54 = .ok (.getfield 35, 3) := by decide +kernel
theorem dX10_gatherFacts_57 : decode cX10_gatherFacts 57 = .ok (.getfield 159, 3) := by decide +kernel
theorem dX10_gatherFacts_60 : decode cX10_gatherFacts 60 = .ok (.iload_n 1, 1) := by decide +kernel
theorem dX10_gatherFacts_61 : decode cX10_gatherFacts 61 = .ok (.iaload, 1) := by decide +kernel
theorem dX10_gatherFacts_62 : decode cX10_gatherFacts 62 = .ok (.ishr, 1) := by decide +kernel
theorem dX10_gatherFacts_63 : decode cX10_gatherFacts 63 = .ok (.iconst 1, 1) := by decide +kernel
theorem dX10_gatherFacts_64 : decode cX10_gatherFacts 64 = .ok (.iand, 1) := by decide +kernel
theorem dX10_gatherFacts_65 : decode cX10_gatherFacts 65 = .ok (.i2l, 1) := by decide +kernel
theorem dX10_gatherFacts_66 : decode cX10_gatherFacts 66 = .ok (.lastore, 1) := by decide +kernel
theorem dX10_gatherFacts_67 : decode cX10_gatherFacts 67 = .ok (.aload_n 0, 1) := by decide +kernel
theorem dX10_gatherFacts_68 : decode cX10_gatherFacts 68 = .ok (.getfield 24, 3) := by decide +kernel
theorem dX10_gatherFacts_71 : decode cX10_gatherFacts 71 = .ok (.iconst 2, 1) := by decide +kernel
theorem dX10_gatherFacts_72 : decode cX10_gatherFacts 72 = .ok (.aload_n 0, 1) := by decide +kernel
theorem dX10_gatherFacts_73 : decode cX10_gatherFacts 73 = .ok (.getfield 39, 3) := by decide +kernel
theorem dX10_gatherFacts_76 : decode cX10_gatherFacts 76 = .ok (.getfield 162, 3) := by decide +kernel
theorem dX10_gatherFacts_79 : decode cX10_gatherFacts 79 = .ok (.iload_n 2, 1) := by decide +kernel
theorem dX10_gatherFacts_80 : decode cX10_gatherFacts 80 = .ok (.iaload, 1) := by decide +kernel
theorem dX10_gatherFacts_81 : decode cX10_gatherFacts 81 = .ok (.i2l, 1) := by decide +kernel
theorem dX10_gatherFacts_82 : decode cX10_gatherFacts 82 = .ok (.lastore, 1) := by decide +kernel
theorem dX10_gatherFacts_83 : decode cX10_gatherFacts 83 = .ok (.aload_n 0, 1) := by decide +kernel
theorem dX10_gatherFacts_84 : decode cX10_gatherFacts 84 = .ok (.getfield 24, 3) := by decide +kernel
theorem dX10_gatherFacts_87 : decode cX10_gatherFacts 87 = .ok (.iconst 3, 1) := by decide +kernel
theorem dX10_gatherFacts_88 : decode cX10_gatherFacts 88 = .ok (.iload_n 3, 1) := by decide +kernel
theorem dX10_gatherFacts_89 : decode cX10_gatherFacts 89 = .ok (.i2l, 1) := by decide +kernel
theorem dX10_gatherFacts_90 : decode cX10_gatherFacts 90 = .ok (.lastore, 1) := by decide +kernel
theorem dX10_gatherFacts_91 : decode cX10_gatherFacts 91 = .ok (.aload_n 0, 1) := by decide +kernel
theorem dX10_gatherFacts_92 : decode cX10_gatherFacts 92 = .ok (.getfield 24, 3) := by decide +kernel
theorem dX10_gatherFacts_95 : decode cX10_gatherFacts 95 = .ok (.iconst 4, 1) := by decide +kernel
theorem dX10_gatherFacts_96 : decode cX10_gatherFacts 96 = .ok (.iload_n 3, 1) := by decide +kernel
theorem dX10_gatherFacts_97 : decode cX10_gatherFacts 97 = .ok (.ifCond .ne 7, 3) := by decide +kernel
theorem dX10_gatherFacts_100 : decode cX10_gatherFacts 100 = .ok (.lconst 0, 1) := by decide +kernel
theorem dX10_gatherFacts_101 : decode cX10_gatherFacts 101 = .ok (.goto 15, 3) := by decide +kernel
theorem dX10_gatherFacts_104 : decode cX10_gatherFacts 104 = .ok (.aload_n 0, 1) := by decide +kernel
theorem dX10_gatherFacts_105 : decode cX10_gatherFacts 105 = .ok (.iload_n 1, 1) := by decide +kernel
theorem dX10_gatherFacts_106 : decode cX10_gatherFacts 106 = .ok (.iload_n 3, 1) := by decide +kernel
theorem dX10_gatherFacts_107 : decode cX10_gatherFacts 107 = .ok (.iconst 1, 1) := by decide +kernel
theorem dX10_gatherFacts_108 : decode cX10_gatherFacts 108 = .ok (.isub, 1) := by decide +kernel
theorem dX10_gatherFacts_109 : decode cX10_gatherFacts 109 = .ok (.invokevirtual 165, 3) := by decide +kernel
theorem dX10_gatherFacts_112 : decode cX10_gatherFacts 112 = .ok (.invokestatic 168, 3) := by decide +kernel
theorem dX10_gatherFacts_115 : decode cX10_gatherFacts 115 = .ok (.i2l, 1) := by decide +kernel
theorem dX10_gatherFacts_116 : decode cX10_gatherFacts 116 = .ok (.lastore, 1) := by decide +kernel
theorem dX10_gatherFacts_117 : decode cX10_gatherFacts 117 = .ok (.aload_n 0, 1) := by decide +kernel
theorem dX10_gatherFacts_118 : decode cX10_gatherFacts 118 = .ok (.getfield 24, 3) := by decide +kernel
theorem dX10_gatherFacts_121 : decode cX10_gatherFacts 121 = .ok (.iconst 5, 1) := by decide +kernel
theorem dX10_gatherFacts_122 : decode cX10_gatherFacts 122 = .ok (.aload_n 0, 1) := by decide +kernel
theorem dX10_gatherFacts_123 : decode cX10_gatherFacts 123 = .ok (.getfield 35, 3) := by decide +kernel
theorem dX10_gatherFacts_126 : decode cX10_gatherFacts 126 = .ok (.iload 4, 2) := by decide +kernel
theorem dX10_gatherFacts_128 : decode cX10_gatherFacts 128 = .ok (.iload_n 3, 1) := by decide +kernel
theorem dX10_gatherFacts_129 : decode cX10_gatherFacts 129 = .ok (.invokevirtual 174, 3) := by decide +kernel
theorem dX10_gatherFacts_132 : decode cX10_gatherFacts 132 = .ok (.ifCond .eq 7, 3) := by decide +kernel
theorem dX10_gatherFacts_135 : decode cX10_gatherFacts 135 = .ok (.lconst 1, 1) := by decide +kernel
theorem dX10_gatherFacts_136 : decode cX10_gatherFacts 136 = .ok (.goto 4, 3) := by decide +kernel
theorem dX10_gatherFacts_139 : decode cX10_gatherFacts 139 = .ok (.lconst 0, 1) := by decide +kernel
theorem dX10_gatherFacts_140 : decode cX10_gatherFacts 140 = .ok (.lastore, 1) := by decide +kernel
theorem dX10_gatherFacts_141 : decode cX10_gatherFacts 141 = .ok (.aload_n 0, 1) := by decide +kernel
theorem dX10_gatherFacts_142 : decode cX10_gatherFacts 142 = .ok (.getfield 24, 3) := by decide +kernel
theorem dX10_gatherFacts_145 : decode cX10_gatherFacts 145 = .ok (.bipush 6, 2) := by decide +kernel
theorem dX10_gatherFacts_147 : decode cX10_gatherFacts 147 = .ok (.aload_n 0, 1) := by decide +kernel
theorem dX10_gatherFacts_148 : decode cX10_gatherFacts 148 = .ok (.getfield 35, 3) := by decide +kernel
theorem dX10_gatherFacts_151 : decode cX10_gatherFacts 151 = .ok (.getfield 128, 3) := by decide +kernel
theorem dX10_gatherFacts_154 : decode cX10_gatherFacts 154 = .ok (.iload 4, 2) := by decide +kernel
theorem dX10_gatherFacts_156 : decode cX10_gatherFacts 156 = .ok (.iaload, 1) := by decide +kernel
theorem dX10_gatherFacts_157 : decode cX10_gatherFacts 157 = .ok (.i2l, 1) := by decide +kernel
theorem dX10_gatherFacts_158 : decode cX10_gatherFacts 158 = .ok (.lastore, 1) := by decide +kernel
theorem dX10_gatherFacts_159 : decode cX10_gatherFacts 159 = .ok (.return_, 1) := by decide +kernel
noncomputable def X10_gatherFacts_j140 (a4 : Int32) (s0 : Int64) (s1 : Int32) (w : Wd) : Option (Wd) :=
gd (vp_in s1 7) <|
(some (puJ w 77 (ix s1) s0)).bind fun w11 =>
gd (vp_in a4 16) <|
gd (vp_in (6 : Int32) 7) <|
(some (puJ w11 77 (ix (6 : Int32)) (Int32.toInt64 (w11.1 6 (ix a4))))).bind fun w12 =>
some w12
set_option maxRecDepth 20000 in
set_option maxHeartbeats 1000000 in
theorem t_X10_gatherFacts_j140 {κ : Kx} (a4 : Int32) (s0 : Int64) (s1 : Int32) (w : Wd) (h : ok (X10_gatherFacts_j140  a4 s0 s1 w) (PVw κ)) : J κ RX10 cX10_gatherFacts 6 none (rmk 2 46) 140 [(0, .ref (ad (gm κ) 73)), (4, .int a4)] [.long s0, .int s1, .ref (ad (gm κ) 77)] w := by
  unfold X10_gatherFacts_j140 at h
  refine j_last sh_77 dX10_gatherFacts_140 h (fun h => ?_)
  refine j_lW h (fun w11 h => ?_)
  refine j_aload_n 0 dX10_gatherFacts_141 rfl rfl ?_
  refine j_getA 77 fl_RX10_24 sh_73 fk_73_8 (by decide) dX10_gatherFacts_142 ?_
  refine j_bipush (6 : Int32) dX10_gatherFacts_145 kb_6 ?_
  refine j_aload_n 0 dX10_gatherFacts_147 rfl rfl ?_
  refine j_getA 5 fl_RX10_35 sh_73 fk_73_0 (by decide) dX10_gatherFacts_148 ?_
  refine j_getA 6 fl_RX10_128 sh_5 fk_5_1 (by decide) dX10_gatherFacts_151 ?_
  refine j_iload 1 dX10_gatherFacts_154 rfl ?_
  refine j_iald sh_6 dX10_gatherFacts_156 h (fun h => ?_)
  refine j_i2l dX10_gatherFacts_157 ?_
  refine j_last sh_77 dX10_gatherFacts_158 h (fun h => ?_)
  refine j_lW h (fun w12 h => ?_)
  have h := ok_s h
  exact j_vret dX10_gatherFacts_159 rfl h
noncomputable def X10_gatherFacts_j116 (a3 : Int32) (a4 : Int32) (s0 : Int64) (s1 : Int32) (w : Wd) : Option (Wd) :=
gd (vp_in s1 7) <|
(some (puJ w 77 (ix s1) s0)).bind fun w8 =>
(X2_rainsIn a4 a3 w8).bind fun q9 =>
(if q9 = 0 then
X10_gatherFacts_j140 a4 (0 : Int64) (5 : Int32) w8
else
X10_gatherFacts_j140 a4 (1 : Int64) (5 : Int32) w8)
set_option maxRecDepth 20000 in
set_option maxHeartbeats 1000000 in
theorem t_X10_gatherFacts_j116 {κ : Kx} (a3 : Int32) (a4 : Int32) (s0 : Int64) (s1 : Int32) (w : Wd) (h : ok (X10_gatherFacts_j116  a3 a4 s0 s1 w) (PVw κ)) : J κ RX10 cX10_gatherFacts 6 none (rmk 2 46) 116 [(0, .ref (ad (gm κ) 73)), (3, .int a3), (4, .int a4)] [.long s0, .int s1, .ref (ad (gm κ) 77)] w := by
  unfold X10_gatherFacts_j116 at h
  refine j_last sh_77 dX10_gatherFacts_116 h (fun h => ?_)
  refine j_lW h (fun w8 h => ?_)
  refine j_aload_n 0 dX10_gatherFacts_117 rfl rfl ?_
  refine j_getA 77 fl_RX10_24 sh_73 fk_73_8 (by decide) dX10_gatherFacts_118 ?_
  refine j_iconst (5 : Int32) dX10_gatherFacts_121 ki_5 ?_
  refine j_aload_n 0 dX10_gatherFacts_122 rfl rfl ?_
  refine j_getA 5 fl_RX10_35 sh_73 fk_73_0 (by decide) dX10_gatherFacts_123 ?_
  refine j_iload 2 dX10_gatherFacts_126 rfl ?_
  refine j_iload_n 1 dX10_gatherFacts_128 rfl rfl ?_
  obtain ⟨q9, e10, h⟩ := ok_b h
  refine j_callV (As := [.int a4, .int a3]) (st := [.int (5 : Int32), .ref (ad (gm κ) 77)]) [.int q9, .int (5 : Int32), .ref (ad (gm κ) 77)] (c_X2_rainsIn (kl κ) (gm κ) (kA κ) a4 a3 w8 q9 e10) ck_RX10_174 im_X2_rainsIn se_X2_rainsIn sh_5 cx_2 ⟨rfl, rfl⟩ ⟨by decide, by decide⟩ rfl rfl (Nat.le_of_ble_eq_true rfl) dX10_gatherFacts_129 _ rfl ?_
  refine j_if_eq 139 dX10_gatherFacts_132 (by decide) h (fun h => ?_) (fun h => ?_)
  · refine j_lconst (0 : Int64) dX10_gatherFacts_139 (by decide) ?_
    refine j_loc [(0, .ref (ad (gm κ) 73)), (4, .int a4)] [0, 2] rfl ?_
    exact t_X10_gatherFacts_j140 a4 (0 : Int64) (5 : Int32) w8 h
  · refine j_lconst (1 : Int64) dX10_gatherFacts_135 (by decide) ?_
    refine j_goto 140 dX10_gatherFacts_136 (by decide) ?_
    refine j_loc [(0, .ref (ad (gm κ) 73)), (4, .int a4)] [0, 2] rfl ?_
    exact t_X10_gatherFacts_j140 a4 (1 : Int64) (5 : Int32) w8 h
noncomputable def X10_gatherFacts (a1 : Int32) (a2 : Int32) (a3 : Int32) (w : Wd) : Option (Wd) :=
gd (vp_in a2 12) <|
gd (vp_in a2 12) <|
gd (vp_in (w.1 28 (ix a2)) 20) <|
(some (w.1 15 (ix (w.1 28 (ix a2))))).bind fun z1 =>
gd (vp_in a1 40) <|
gd (vp_in (0 : Int32) 7) <|
(some (puJ w 77 (ix (0 : Int32)) (Int32.toInt64 (w.1 13 (ix a1))))).bind fun w2 =>
gd (vp_in a1 40) <|
gd (vp_in (1 : Int32) 7) <|
(some (puJ w2 77 (ix (1 : Int32)) (Int32.toInt64 ((z1 >>> ((w2.1 14 (ix a1)) &&& 31)) &&& (1 : Int32))))).bind fun w3 =>
gd (vp_in a2 12) <|
gd (vp_in (2 : Int32) 7) <|
(some (puJ w3 77 (ix (2 : Int32)) (Int32.toInt64 (w3.1 29 (ix a2))))).bind fun w4 =>
gd (vp_in (3 : Int32) 7) <|
(some (puJ w4 77 (ix (3 : Int32)) (Int32.toInt64 a3))).bind fun w5 =>
(if a3 = 0 then
X10_gatherFacts_j116 a3 (w.1 17 (ix a2)) (0 : Int64) (4 : Int32) w5
else
(X10_doneBehind a1 (a3 - (1 : Int32)) w5).bind fun q6 =>
X10_gatherFacts_j116 a3 (w.1 17 (ix a2)) (Int32.toInt64 (J6_bitCount_0f7a4 q6 w5)) (4 : Int32) w5)
set_option maxRecDepth 20000 in
set_option maxHeartbeats 1000000 in
theorem t_X10_gatherFacts {κ : Kx} (a1 : Int32) (a2 : Int32) (a3 : Int32) (w : Wd) (h : ok (X10_gatherFacts  a1 a2 a3 w) (PVw κ)) : J κ RX10 cX10_gatherFacts 6 none (rmk 2 46) 0 [(0, .ref (ad (gm κ) 73)), (1, .int a1), (2, .int a2), (3, .int a3)] [] w := by
  unfold X10_gatherFacts at h
  refine j_aload_n 0 dX10_gatherFacts_0 rfl rfl ?_
  refine j_getA 5 fl_RX10_35 sh_73 fk_73_0 (by decide) dX10_gatherFacts_1 ?_
  refine j_getA 17 fl_RX10_125 sh_5 fk_5_16 (by decide) dX10_gatherFacts_4 ?_
  refine j_iload_n 2 dX10_gatherFacts_7 rfl rfl ?_
  refine j_iald sh_17 dX10_gatherFacts_8 h (fun h => ?_)
  refine j_istore [(4, .int (w.1 17 (ix a2))), (0, .ref (ad (gm κ) 73)), (1, .int a1), (2, .int a2), (3, .int a3)] dX10_gatherFacts_9 (by decide) rfl ?_
  refine j_aload_n 1 dX10_gatherFacts_11 rfl rfl ?_
  refine j_getA 5 fl_RX10_35 sh_73 fk_73_0 (by decide) dX10_gatherFacts_12 ?_
  refine j_getA 15 fl_RX10_156 sh_5 fk_5_13 (by decide) dX10_gatherFacts_15 ?_
  refine j_aload_n 1 dX10_gatherFacts_18 rfl rfl ?_
  refine j_getA 19 fl_RX10_39 sh_73 fk_73_1 (by decide) dX10_gatherFacts_19 ?_
  refine j_getA 28 fl_RX10_122 sh_19 fk_19_11 (by decide) dX10_gatherFacts_22 ?_
  refine j_iload_n 3 dX10_gatherFacts_25 rfl rfl ?_
  refine j_iald sh_28 dX10_gatherFacts_26 h (fun h => ?_)
  refine j_iald sh_15 dX10_gatherFacts_27 h (fun h => ?_)
  refine j_lI h (fun z1 h => ?_)
  refine j_istore [(5, .int z1), (4, .int (w.1 17 (ix a2))), (0, .ref (ad (gm κ) 73)), (1, .int a1), (2, .int a2), (3, .int a3)] dX10_gatherFacts_28 (by decide) rfl ?_
  refine j_aload_n 2 dX10_gatherFacts_30 rfl rfl ?_
  refine j_getA 77 fl_RX10_24 sh_73 fk_73_8 (by decide) dX10_gatherFacts_31 ?_
  refine j_iconst (0 : Int32) dX10_gatherFacts_34 ki_0 ?_
  refine j_aload_n 2 dX10_gatherFacts_35 rfl rfl ?_
  refine j_getA 5 fl_RX10_35 sh_73 fk_73_0 (by decide) dX10_gatherFacts_36 ?_
  refine j_getA 13 fl_RX10_102 sh_5 fk_5_10 (by decide) dX10_gatherFacts_39 ?_
  refine j_iload_n 3 dX10_gatherFacts_42 rfl rfl ?_
  refine j_iald sh_13 dX10_gatherFacts_43 h (fun h => ?_)
  refine j_i2l dX10_gatherFacts_44 ?_
  refine j_last sh_77 dX10_gatherFacts_45 h (fun h => ?_)
  refine j_lW h (fun w2 h => ?_)
  refine j_aload_n 2 dX10_gatherFacts_46 rfl rfl ?_
  refine j_getA 77 fl_RX10_24 sh_73 fk_73_8 (by decide) dX10_gatherFacts_47 ?_
  refine j_iconst (1 : Int32) dX10_gatherFacts_50 ki_1 ?_
  refine j_iload 0 dX10_gatherFacts_51 rfl ?_
  refine j_aload_n 2 dX10_gatherFacts_53 rfl rfl ?_
  refine j_getA 5 fl_RX10_35 sh_73 fk_73_0 (by decide) dX10_gatherFacts_54 ?_
  refine j_getA 14 fl_RX10_159 sh_5 fk_5_11 (by decide) dX10_gatherFacts_57 ?_
  refine j_iload_n 3 dX10_gatherFacts_60 rfl rfl ?_
  refine j_iald sh_14 dX10_gatherFacts_61 h (fun h => ?_)
  refine j_ishr dX10_gatherFacts_62 ?_
  refine j_iconst (1 : Int32) dX10_gatherFacts_63 ki_1 ?_
  refine j_iand dX10_gatherFacts_64 ?_
  refine j_i2l dX10_gatherFacts_65 ?_
  refine j_last sh_77 dX10_gatherFacts_66 h (fun h => ?_)
  refine j_lW h (fun w3 h => ?_)
  refine j_aload_n 2 dX10_gatherFacts_67 rfl rfl ?_
  refine j_getA 77 fl_RX10_24 sh_73 fk_73_8 (by decide) dX10_gatherFacts_68 ?_
  refine j_iconst (2 : Int32) dX10_gatherFacts_71 ki_2 ?_
  refine j_aload_n 2 dX10_gatherFacts_72 rfl rfl ?_
  refine j_getA 19 fl_RX10_39 sh_73 fk_73_1 (by decide) dX10_gatherFacts_73 ?_
  refine j_getA 29 fl_RX10_162 sh_19 fk_19_12 (by decide) dX10_gatherFacts_76 ?_
  refine j_iload_n 4 dX10_gatherFacts_79 rfl rfl ?_
  refine j_iald sh_29 dX10_gatherFacts_80 h (fun h => ?_)
  refine j_i2l dX10_gatherFacts_81 ?_
  refine j_last sh_77 dX10_gatherFacts_82 h (fun h => ?_)
  refine j_lW h (fun w4 h => ?_)
  refine j_aload_n 2 dX10_gatherFacts_83 rfl rfl ?_
  refine j_getA 77 fl_RX10_24 sh_73 fk_73_8 (by decide) dX10_gatherFacts_84 ?_
  refine j_iconst (3 : Int32) dX10_gatherFacts_87 ki_3 ?_
  refine j_iload_n 5 dX10_gatherFacts_88 rfl rfl ?_
  refine j_i2l dX10_gatherFacts_89 ?_
  refine j_last sh_77 dX10_gatherFacts_90 h (fun h => ?_)
  refine j_lW h (fun w5 h => ?_)
  refine j_aload_n 2 dX10_gatherFacts_91 rfl rfl ?_
  refine j_getA 77 fl_RX10_24 sh_73 fk_73_8 (by decide) dX10_gatherFacts_92 ?_
  refine j_iconst (4 : Int32) dX10_gatherFacts_95 ki_4 ?_
  refine j_iload_n 5 dX10_gatherFacts_96 rfl rfl ?_
  refine j_if_ne 104 dX10_gatherFacts_97 (by decide) h (fun h => ?_) (fun h => ?_)
  · refine j_aload_n 2 dX10_gatherFacts_104 rfl rfl ?_
    refine j_iload_n 3 dX10_gatherFacts_105 rfl rfl ?_
    refine j_iload_n 5 dX10_gatherFacts_106 rfl rfl ?_
    refine j_iconst (1 : Int32) dX10_gatherFacts_107 ki_1 ?_
    refine j_isub dX10_gatherFacts_108 ?_
    obtain ⟨q6, e7, h⟩ := ok_b h
    refine j_callV (As := [.int a1, .int (a3 - (1 : Int32))]) (st := [.int (4 : Int32), .ref (ad (gm κ) 77)]) [.int q6, .int (4 : Int32), .ref (ad (gm κ) 77)] (c_X10_doneBehind (kl κ) (gm κ) (kA κ) a1 (a3 - (1 : Int32)) w5 q6 e7) ck_RX10_165 im_X10_doneBehind se_X10_doneBehind sh_73 cx_10 ⟨rfl, rfl⟩ ⟨by decide, by decide⟩ rfl rfl (Nat.le_of_ble_eq_true rfl) dX10_gatherFacts_109 _ rfl ?_
    refine j_callS (As := [.int q6]) (st := [.int (4 : Int32), .ref (ad (gm κ) 77)]) [.int (J6_bitCount_0f7a4 q6 w5), .int (4 : Int32), .ref (ad (gm κ) 77)] (c_J6_bitCount_0f7a4 (kl κ) (gm κ) (kA κ) q6 w5) ck_RX10_168 st_J6_bitCount_0f7a4 ⟨rfl, rfl⟩ ⟨by decide, by decide⟩ rfl rfl (Nat.le_of_ble_eq_true rfl) dX10_gatherFacts_112 _ rfl ?_
    refine j_i2l dX10_gatherFacts_115 ?_
    refine j_loc [(0, .ref (ad (gm κ) 73)), (3, .int a3), (4, .int (w.1 17 (ix a2)))] [2, 5, 1] rfl ?_
    exact t_X10_gatherFacts_j116 a3 (w.1 17 (ix a2)) (Int32.toInt64 (J6_bitCount_0f7a4 q6 w5)) (4 : Int32) w5 h
  · refine j_lconst (0 : Int64) dX10_gatherFacts_100 (by decide) ?_
    refine j_goto 116 dX10_gatherFacts_101 (by decide) ?_
    refine j_loc [(0, .ref (ad (gm κ) 73)), (3, .int a3), (4, .int (w.1 17 (ix a2)))] [2, 5, 1] rfl ?_
    exact t_X10_gatherFacts_j116 a3 (w.1 17 (ix a2)) (0 : Int64) (4 : Int32) w5 h
theorem c_X10_gatherFacts (l : Launch) (γ : Gm) (A : Nat → Prop) (a1 : Int32) (a2 : Int32) (a3 : Int32) (w : Wd) (q : Wd) (e : X10_gatherFacts  a1 a2 a3 w = some q) : MetG l γ A yX10_gatherFacts cX10_gatherFacts 6 none (rmk 2 46) [.ref (ad (γ) 73), .int a1, .int a2, .int a3] w none q := by
  refine met_of pn_RX10 (Nat.le_of_ble_eq_true rfl) ?_
  intro κ hl hγ hA hρ
  subst hl; subst hγ; subst hA
  exact t_X10_gatherFacts   a1 a2 a3 w ⟨q, e, pVw hρ rfl rfl⟩
