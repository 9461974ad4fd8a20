theorem dX12_where_0 : decode cX12_where 0 = .ok (.iload_n 1, 1) := by decide +kernel
theorem dX12_where_1 : decode cX12_where 1 = .ok (.ifCond .lt 38, 3) := by decide +kernel
theorem dX12_where_4 : decode cX12_where 4 = .ok (.iload_n 1, 1) := by decide +kernel
theorem dX12_where_5 : decode cX12_where 5 = .ok (.iconst 1, 1) := by decide +kernel
theorem dX12_where_6 : decode cX12_where 6 = .ok (.if_icmp .gt 33, 3) := by decide +kernel
theorem dX12_where_9 : decode cX12_where 9 = .ok (.iload_n 1, 1) := by decide +kernel
theorem dX12_where_10 : decode cX12_where 10 = .ok (.ifCond .ne 14, 3) := by decide +kernel
theorem dX12_where_13 : decode cX12_where 13 = .ok (.aload_n 0, 1) := by decide +kernel
theorem dX12_where_14 : decode cX12_where 14 = .ok (.iload_n 2, 1) := by decide +kernel
theorem dX12_where_15 : decode cX12_where 15 = .ok (.invokevirtual 336, 3) := by decide +kernel
theorem dX12_where_18 : decode cX12_where 18 = .ok (.ifCond .eq 21, 3) := by decide +kernel
theorem dX12_where_21 : decode cX12_where 21 = .ok (.goto 11, 3) := by decide +kernel
theorem dX12_where_24 : decode cX12_where 24 = .ok (.aload_n 0, 1) := by decide +kernel
theorem dX12_where_25 : decode cX12_where 25 = .ok (.iload_n 2, 1) := by decide +kernel
theorem dX12_where_26 : decode cX12_where 26 = .ok (.invokevirtual 339, 3) := by decide +kernel
theorem dX12_where_29 : decode cX12_where 29 = .ok (.ifCond .eq 10, 3) := by decide +kernel
theorem dX12_where_32 : decode cX12_where 32 = .ok (.iload_n 3, 1) := by decide +kernel
theorem dX12_where_33 : decode cX12_where 33 = .ok (.invokestatic 322, 3) := by decide +kernel
theorem dX12_where_36 : decode cX12_where 36 = .ok (.ifCond .ne 9, 3) := by decide +kernel
theorem dX12_where_39 : decode cX12_where 39 = .ok (.aload_n 0, 1) := by decide +kernel
theorem dX12_where_40 : decode cX12_where 40 = .ok (.iconst 1, 1) := by decide +kernel
theorem dX12_where_41 : decode cX12_where 41 = .ok (.invokevirtual 312, 3) := by decide +kernel
theorem dX12_where_44 : decode cX12_where 44 = .ok (.ireturn, 1) := by decide +kernel
theorem dX12_where_45 : decode cX12_where 45 = .ok (.aload_n 0, 1) := by decide +kernel
theorem dX12_where_46 : decode cX12_where 46 = .ok (.iload_n 1, 1) := by decide +kernel
theorem dX12_where_47 : decode cX12_where 47 = .ok (.iload_n 2, 1) := by decide +kernel
theorem dX12_where_48 : decode cX12_where 48 = .ok (.iload_n 3, 1) := by decide +kernel
theorem dX12_where_49 : decode cX12_where 49 = .ok (.invokevirtual 351, 3) := by decide +kernel
theorem dX12_where_52 : decode cX12_where 52 = .ok (.istore 4, 2) := by decide +kernel
theorem dX12_where_54 : decode cX12_where 54 = .ok (.iload 4, 2) := by decide +kernel
theorem dX12_where_56 : decode cX12_where 56 = .ok (.iconst (-1), 1) := by decide +kernel
theorem dX12_where_57 : decode cX12_where 57 = .ok (.if_icmp .ne 12, 3) := by decide +kernel
theorem dX12_where_60 : decode cX12_where 60 = .ok (.aload_n 0, 1) := by decide +kernel
theorem dX12_where_61 : decode cX12_where 61 = .ok (.bipush 6, 2) := by decide +kernel
theorem dX12_where_63 : decode cX12_where 63 = .ok (.invokevirtual 312, 3) := by decide +kernel
theorem dX12_where_66 : decode cX12_where 66 = .ok (.goto 9, 3) := by decide +kernel
theorem dX12_where_69 : decode cX12_where 69 = .ok (.aload_n 0, 1) := by decide +kernel
theorem dX12_where_70 : decode cX12_where 70 = .ok (.iload 4, 2) := by decide +kernel
theorem dX12_where_72 : decode cX12_where 72 = .ok (.invokevirtual 316, 3) := by decide +kernel
theorem dX12_where_75 : decode cX12_where 75 = .ok (.ireturn, 1) := by decide +kernel
noncomputable def X12_where_j39 (w : Wd) : Option (Int32 × Wd) :=
(X12_refuse (1 : Int32) w).bind fun q1 =>
some (q1.1, q1.2)
set_option maxRecDepth 20000 in
set_option maxHeartbeats 1000000 in
theorem t_X12_where_j39 {κ : Kx} (w : Wd) (h : ok (X12_where_j39  w) (PIw κ)) : J κ RX12 cX12_where 5 (some .int) (rmk 1 25) 39 [(0, .ref (ad (gm κ) 97))] [] w := by
  unfold X12_where_j39 at h
  refine j_aload_n 0 dX12_where_39 rfl rfl ?_
  refine j_iconst (1 : Int32) dX12_where_40 ki_1 ?_
  obtain ⟨q1, e2, h⟩ := ok_b h
  refine j_callV (As := [.int (1 : Int32)]) (st := []) [.int q1.1] (c_X12_refuse (kl κ) (gm κ) (kA κ) (1 : Int32) w q1 e2) ck_RX12_312 im_X12_refuse se_X12_refuse sh_97 cx_12 ⟨rfl, rfl⟩ ⟨by decide, by decide⟩ rfl rfl (Nat.le_of_ble_eq_true rfl) dX12_where_41 _ rfl ?_
  have h := ok_s h
  exact j_iret dX12_where_44 rfl rfl h
noncomputable def X12_where_j32 (a1 : Int32) (a2 : Int32) (a3 : Int32) (w : Wd) : Option (Int32 × Wd) :=
(if (X12_isWeek a3 w) = 0 then
X12_where_j39 w
else
(X12_lampOf a1 a2 a3 w).bind fun q3 =>
(if q3 = (-1 : Int32) then
(X12_refuse (6 : Int32) w).bind fun q7 =>
some (q7.1, q7.2)
else
(X12_gives q3 w).bind fun q5 =>
some (q5.1, q5.2)))
set_option maxRecDepth 20000 in
set_option maxHeartbeats 1000000 in
theorem t_X12_where_j32 {κ : Kx} (a1 : Int32) (a2 : Int32) (a3 : Int32) (w : Wd) (h : ok (X12_where_j32  a1 a2 a3 w) (PIw κ)) : J κ RX12 cX12_where 5 (some .int) (rmk 1 25) 32 [(0, .ref (ad (gm κ) 97)), (1, .int a1), (2, .int a2), (3, .int a3)] [] w := by
  unfold X12_where_j32 at h
  refine j_iload_n 3 dX12_where_32 rfl rfl ?_
  refine j_callS (As := [.int a3]) (st := []) [.int (X12_isWeek a3 w)] (c_X12_isWeek (kl κ) (gm κ) (kA κ) a3 w) ck_RX12_322 st_X12_isWeek ⟨rfl, rfl⟩ ⟨by decide, by decide⟩ rfl rfl (Nat.le_of_ble_eq_true rfl) dX12_where_33 _ rfl ?_
  refine j_if_ne 45 dX12_where_36 (by decide) h (fun h => ?_) (fun h => ?_)
  · refine j_aload_n 0 dX12_where_45 rfl rfl ?_
    refine j_iload_n 1 dX12_where_46 rfl rfl ?_
    refine j_iload_n 2 dX12_where_47 rfl rfl ?_
    refine j_iload_n 3 dX12_where_48 rfl rfl ?_
    obtain ⟨q3, e4, h⟩ := ok_b h
    refine j_callV (As := [.int a1, .int a2, .int a3]) (st := []) [.int q3] (c_X12_lampOf (kl κ) (gm κ) (kA κ) a1 a2 a3 w q3 e4) ck_RX12_351 im_X12_lampOf se_X12_lampOf sh_97 cx_12 ⟨rfl, rfl⟩ ⟨by decide, by decide⟩ rfl rfl (Nat.le_of_ble_eq_true rfl) dX12_where_49 _ rfl ?_
    refine j_istore [(4, .int q3), (0, .ref (ad (gm κ) 97)), (1, .int a1), (2, .int a2), (3, .int a3)] dX12_where_52 (by decide) rfl ?_
    refine j_iload 0 dX12_where_54 rfl ?_
    refine j_iconst (-1 : Int32) dX12_where_56 ki_m1 ?_
    refine j_ic_ne 69 dX12_where_57 (by decide) h (fun h => ?_) (fun h => ?_)
    · refine j_aload_n 1 dX12_where_69 rfl rfl ?_
      refine j_iload 0 dX12_where_70 rfl ?_
      obtain ⟨q5, e6, h⟩ := ok_b h
      refine j_callV (As := [.int q3]) (st := []) [.int q5.1] (c_X12_gives (kl κ) (gm κ) (kA κ) q3 w q5 e6) ck_RX12_316 im_X12_gives se_X12_gives sh_97 cx_12 ⟨rfl, rfl⟩ ⟨by decide, by decide⟩ rfl rfl (Nat.le_of_ble_eq_true rfl) dX12_where_72 _ rfl ?_
      have h := ok_s h
      exact j_iret dX12_where_75 rfl rfl h
    · refine j_aload_n 1 dX12_where_60 rfl rfl ?_
      refine j_bipush (6 : Int32) dX12_where_61 kb_6 ?_
      obtain ⟨q7, e8, h⟩ := ok_b h
      refine j_callV (As := [.int (6 : Int32)]) (st := []) [.int q7.1] (c_X12_refuse (kl κ) (gm κ) (kA κ) (6 : Int32) w q7 e8) ck_RX12_312 im_X12_refuse se_X12_refuse sh_97 cx_12 ⟨rfl, rfl⟩ ⟨by decide, by decide⟩ rfl rfl (Nat.le_of_ble_eq_true rfl) dX12_where_63 _ rfl ?_
      refine j_goto 75 dX12_where_66 (by decide) ?_
      have h := ok_s h
      exact j_iret dX12_where_75 rfl rfl h
  · refine j_loc [(0, .ref (ad (gm κ) 97))] [0] rfl ?_
    exact t_X12_where_j39 w h
noncomputable def X12_where (a1 : Int32) (a2 : Int32) (a3 : Int32) (w : Wd) : Option (Int32 × Wd) :=
(if a1 < 0 then
X12_where_j39 w
else
(if (1 : Int32) < a1 then
X12_where_j39 w
else
(if a1 = 0 then
(if (X12_isTeacher a2 w) = 0 then
X12_where_j39 w
else
X12_where_j32 a1 a2 a3 w)
else
(if (X12_isLearner a2 w) = 0 then
X12_where_j39 w
else
X12_where_j32 a1 a2 a3 w))))
set_option maxRecDepth 20000 in
set_option maxHeartbeats 1000000 in
theorem t_X12_where {κ : Kx} (a1 : Int32) (a2 : Int32) (a3 : Int32) (w : Wd) (h : ok (X12_where  a1 a2 a3 w) (PIw κ)) : J κ RX12 cX12_where 5 (some .int) (rmk 1 25) 0 [(0, .ref (ad (gm κ) 97)), (1, .int a1), (2, .int a2), (3, .int a3)] [] w := by
  unfold X12_where at h
  refine j_iload_n 1 dX12_where_0 rfl rfl ?_
  refine j_if_lt 39 dX12_where_1 (by decide) h (fun h => ?_) (fun h => ?_)
  · refine j_loc [(0, .ref (ad (gm κ) 97))] [0] rfl ?_
    exact t_X12_where_j39 w h
  · refine j_iload_n 1 dX12_where_4 rfl rfl ?_
    refine j_iconst (1 : Int32) dX12_where_5 ki_1 ?_
    refine j_ic_gt 39 dX12_where_6 (by decide) h (fun h => ?_) (fun h => ?_)
    · refine j_loc [(0, .ref (ad (gm κ) 97))] [0] rfl ?_
      exact t_X12_where_j39 w h
    · refine j_iload_n 1 dX12_where_9 rfl rfl ?_
      refine j_if_ne 24 dX12_where_10 (by decide) h (fun h => ?_) (fun h => ?_)
      · refine j_aload_n 0 dX12_where_24 rfl rfl ?_
        refine j_iload_n 2 dX12_where_25 rfl rfl ?_
        refine j_callV (As := [.int a2]) (st := []) [.int (X12_isLearner a2 w)] (c_X12_isLearner (kl κ) (gm κ) (kA κ) a2 w) ck_RX12_339 im_X12_isLearner se_X12_isLearner sh_97 cx_12 ⟨rfl, rfl⟩ ⟨by decide, by decide⟩ rfl rfl (Nat.le_of_ble_eq_true rfl) dX12_where_26 _ rfl ?_
        refine j_if_eq 39 dX12_where_29 (by decide) h (fun h => ?_) (fun h => ?_)
        · refine j_loc [(0, .ref (ad (gm κ) 97))] [0] rfl ?_
          exact t_X12_where_j39 w h
        · refine j_loc [(0, .ref (ad (gm κ) 97)), (1, .int a1), (2, .int a2), (3, .int a3)] [0, 1, 2, 3] rfl ?_
          exact t_X12_where_j32 a1 a2 a3 w h
      · refine j_aload_n 0 dX12_where_13 rfl rfl ?_
        refine j_iload_n 2 dX12_where_14 rfl rfl ?_
        refine j_callV (As := [.int a2]) (st := []) [.int (X12_isTeacher a2 w)] (c_X12_isTeacher (kl κ) (gm κ) (kA κ) a2 w) ck_RX12_336 im_X12_isTeacher se_X12_isTeacher sh_97 cx_12 ⟨rfl, rfl⟩ ⟨by decide, by decide⟩ rfl rfl (Nat.le_of_ble_eq_true rfl) dX12_where_15 _ rfl ?_
        refine j_if_eq 39 dX12_where_18 (by decide) h (fun h => ?_) (fun h => ?_)
        · refine j_loc [(0, .ref (ad (gm κ) 97))] [0] rfl ?_
          exact t_X12_where_j39 w h
        · refine j_goto 32 dX12_where_21 (by decide) ?_
          refine j_loc [(0, .ref (ad (gm κ) 97)), (1, .int a1), (2, .int a2), (3, .int a3)] [0, 1, 2, 3] rfl ?_
          exact t_X12_where_j32 a1 a2 a3 w h
theorem c_X12_where (l : Launch) (γ : Gm) (A : Nat → Prop) (a1 : Int32) (a2 : Int32) (a3 : Int32) (w : Wd) (q : Int32 × Wd) (e : X12_where  a1 a2 a3 w = some q) : MetG l γ A yX12_where cX12_where 5 (some .int) (rmk 1 25) [.ref (ad (γ) 97), .int a1, .int a2, .int a3] w (some (.int q.1)) q.2 := by
  refine met_of pn_RX12 (Nat.le_of_ble_eq_true rfl) ?_
  intro κ hl hγ hA hρ
  subst hl; subst hγ; subst hA
  exact t_X12_where   a1 a2 a3 w ⟨q, e, pIw hρ rfl rfl⟩
theorem dX12_teacherAt_0 : decode cX12_teacherAt 0 = .ok (.iconst 0, 1) := by decide +kernel
theorem dX12_teacherAt_1 : decode cX12_teacherAt 1 = .ok (.istore_n 3, 1) := by decide +kernel
theorem dX12_teacherAt_2 : decode cX12_teacherAt 2 = .ok (.iload_n 3, 1) := by decide +kernel
theorem dX12_teacherAt_3 : decode cX12_teacherAt 3 = .ok (.aload_n 0, 1) := by decide +kernel
theorem dX12_teacherAt_4 : decode cX12_teacherAt 4 = .ok (.getfield 303, 3) := by decide +kernel
theorem dX12_teacherAt_7 : decode cX12_teacherAt 7 = .ok (.if_icmp .ge 22, 3) := by decide +kernel
theorem dX12_teacherAt_10 : decode cX12_teacherAt 10 = .ok (.aload_n 0, 1) := by decide +kernel
theorem dX12_teacherAt_11 : decode cX12_teacherAt 11 = .ok (.iconst 0, 1) := by decide +kernel
theorem dX12_teacherAt_12 : decode cX12_teacherAt 12 = .ok (.iload_n 3, 1) := by decide +kernel
theorem dX12_teacherAt_13 : decode cX12_teacherAt 13 = .ok (.iload_n 2, 1) := by decide +kernel
theorem dX12_teacherAt_14 : decode cX12_teacherAt 14 = .ok (.invokevirtual 351, 3) := by decide +kernel
theorem dX12_teacherAt_17 : decode cX12_teacherAt 17 = .ok (.iload_n 1, 1) := by decide +kernel
theorem dX12_teacherAt_18 : decode cX12_teacherAt 18 = .ok (.if_icmp .ne 5, 3) := by decide +kernel
theorem dX12_teacherAt_21 : decode cX12_teacherAt 21 = .ok (.iload_n 3, 1) := by decide +kernel
theorem dX12_teacherAt_22 : decode cX12_teacherAt 22 = .ok (.ireturn, 1) := by decide +kernel
theorem dX12_teacherAt_23 : decode cX12_teacherAt 23 = .ok (.iinc 3 1, 3) := by decide +kernel
theorem dX12_teacherAt_26 : decode cX12_teacherAt 26 = .ok (.goto (-24), 3) := by decide +kernel
theorem dX12_teacherAt_29 : decode cX12_teacherAt 29 = .ok (.iconst (-1), 1) := by decide +kernel
theorem dX12_teacherAt_30 : decode cX12_teacherAt 30 = .ok (.ireturn, 1) := by decide +kernel
noncomputable def X12_teacherAt_b2 (a1 : Int32) (a2 : Int32) (w : Wd) (s : Int32) : Option (Int32 ⊕ (Int32 ⊕ Unit)) :=
(if (w.1 97 7) ≤ s then
some (.inr (.inr ()))
else
(X12_lampOf (0 : Int32) s a2 w).bind fun q1 =>
(if q1 = a1 then
some (.inr (.inl s))
else
some (.inl (s + (1 : Int32)))))
set_option maxRecDepth 20000 in
set_option maxHeartbeats 1000000 in
theorem t_X12_teacherAt_b2 {κ : Kx} (a1 : Int32) (a2 : Int32) (w : Wd) {P : (Int32 ⊕ Unit) → Prop} (K0 : ∀ e, P (.inl e) → J κ RX12 cX12_teacherAt 4 (some .int) (rmk 1 25) 21 [(3, .int e)] [] w) (K1 : ∀ e, P (.inr e) → J κ RX12 cX12_teacherAt 4 (some .int) (rmk 1 25) 29 [] [] w) (s : Int32) (h : ok (lp (X12_teacherAt_b2  a1 a2 w) s) P) : J κ RX12 cX12_teacherAt 4 (some .int) (rmk 1 25) 2 [(0, .ref (ad (gm κ) 97)), (1, .int a1), (2, .int a2), (3, .int s)] [] w := by
  refine lp_ind (fun s => J κ RX12 cX12_teacherAt 4 (some .int) (rmk 1 25) 2 [(0, .ref (ad (gm κ) 97)), (1, .int a1), (2, .int a2), (3, .int s)] [] w) (fun s h => ?_) s h
  unfold X12_teacherAt_b2 at h
  refine j_iload_n 3 dX12_teacherAt_2 rfl rfl ?_
  refine j_aload_n 0 dX12_teacherAt_3 rfl rfl ?_
  refine j_getI fl_RX12_303 sh_97 fk_97_7 dX12_teacherAt_4 ?_
  refine j_ic_ge 29 dX12_teacherAt_7 (by decide) h (fun h => ?_) (fun h => ?_)
  · refine j_loc [] [] rfl ?_
    have h := sel_r h
    have h := K1 _ h
    exact h
  · refine j_aload_n 0 dX12_teacherAt_10 rfl rfl ?_
    refine j_iconst (0 : Int32) dX12_teacherAt_11 ki_0 ?_
    refine j_iload_n 3 dX12_teacherAt_12 rfl rfl ?_
    refine j_iload_n 2 dX12_teacherAt_13 rfl rfl ?_
    obtain ⟨q1, e2, h⟩ := ok_b h
    refine j_callV (As := [.int (0 : Int32), .int s, .int a2]) (st := []) [.int q1] (c_X12_lampOf (kl κ) (gm κ) (kA κ) (0 : Int32) s a2 w q1 e2) ck_RX12_351 im_X12_lampOf se_X12_lampOf sh_97 cx_12 ⟨rfl, rfl⟩ ⟨by decide, by decide⟩ rfl rfl (Nat.le_of_ble_eq_true rfl) dX12_teacherAt_14 _ rfl ?_
    refine j_iload_n 1 dX12_teacherAt_17 rfl rfl ?_
    refine j_ic_ne 23 dX12_teacherAt_18 (by decide) h (fun h => ?_) (fun h => ?_)
    · refine j_iinc (s + (1 : Int32)) 3 [(3, .int (s + (1 : Int32))), (0, .ref (ad (gm κ) 97)), (1, .int a1), (2, .int a2)] dX12_teacherAt_23 rfl (by rw [kn_1]) (by decide) rfl ?_
      refine j_goto 2 dX12_teacherAt_26 (by decide) ?_
      refine j_loc [(0, .ref (ad (gm κ) 97)), (1, .int a1), (2, .int a2), (3, .int (s + (1 : Int32)))] [1, 2, 3, 0] rfl ?_
      have h := sel_l h
      exact h
    · refine j_loc [(3, .int s)] [3] rfl ?_
      have h := sel_r h
      have h := K0 _ h
      exact h
noncomputable def X12_teacherAt (a1 : Int32) (a2 : Int32) (w : Wd) : Option (Int32) :=
(lp (X12_teacherAt_b2 a1 a2 w) (0 : Int32)).bind fun e3 => match e3 with
| (.inl e4) => (some e4)
| (.inr e5) => (some (-1 : Int32))
set_option maxRecDepth 20000 in
set_option maxHeartbeats 1000000 in
theorem t_X12_teacherAt {κ : Kx} (a1 : Int32) (a2 : Int32) (w : Wd) (h : ok (X12_teacherAt  a1 a2 w) (PI κ w)) : J κ RX12 cX12_teacherAt 4 (some .int) (rmk 1 25) 0 [(0, .ref (ad (gm κ) 97)), (1, .int a1), (2, .int a2)] [] w := by
  unfold X12_teacherAt at h
  refine j_iconst (0 : Int32) dX12_teacherAt_0 ki_0 ?_
  refine j_istore_n [(3, .int (0 : Int32)), (0, .ref (ad (gm κ) 97)), (1, .int a1), (2, .int a2)] dX12_teacherAt_1 rfl (by decide) rfl ?_
  refine j_loc [(0, .ref (ad (gm κ) 97)), (1, .int a1), (2, .int a2), (3, .int (0 : Int32))] [1, 2, 3, 0] rfl ?_
  refine t_X12_teacherAt_b2 a1 a2 w (fun e4 h => ?_) (fun e5 h => ?_) (0 : Int32) (ok_bb h)
  · refine j_iload_n 0 dX12_teacherAt_21 rfl rfl ?_
    have h := ok_s h
    exact j_iret dX12_teacherAt_22 rfl rfl h
  · refine j_iconst (-1 : Int32) dX12_teacherAt_29 ki_m1 ?_
    have h := ok_s h
    exact j_iret dX12_teacherAt_30 rfl rfl h
theorem c_X12_teacherAt (l : Launch) (γ : Gm) (A : Nat → Prop) (a1 : Int32) (a2 : Int32) (w : Wd) (q : Int32) (e : X12_teacherAt  a1 a2 w = some q) : MetG l γ A yX12_teacherAt cX12_teacherAt 4 (some .int) (rmk 1 25) [.ref (ad (γ) 97), .int a1, .int a2] w (some (.int q)) w := by
  refine met_of pn_RX12 (Nat.le_of_ble_eq_true rfl) ?_
  intro κ hl hγ hA hρ
  subst hl; subst hγ; subst hA
  exact t_X12_teacherAt   a1 a2 w ⟨q, e, pI hρ rfl rfl⟩
theorem dX12_lit_0 : decode cX12_lit 0 = .ok (.aload_n 0, 1) := by decide +kernel
theorem dX12_lit_1 : decode cX12_lit 1 = .ok (.iload_n 1, 1) := by decide +kernel
theorem dX12_lit_2 : decode cX12_lit 2 = .ok (.invokevirtual 342, 3) := by decide +kernel
theorem dX12_lit_5 : decode cX12_lit 5 = .ok (.ifCond .eq 10, 3) := by decide +kernel
theorem dX12_lit_8 : decode cX12_lit 8 = .ok (.iload_n 2, 1) := by decide +kernel
theorem dX12_lit_9 : decode cX12_lit 9 = .ok (.invokestatic 322, 3) := by decide +kernel
theorem dX12_lit_12 : decode cX12_lit 12 = .ok (.ifCond .ne 9, 3) := by decide +kernel
theorem dX12_lit_15 : decode cX12_lit 15 = .ok (.aload_n 0, 1) := by decide +kernel
theorem dX12_lit_16 : decode cX12_lit 16 = .ok (.iconst 1, 1) := by decide +kernel
theorem dX12_lit_17 : decode cX12_lit 17 = .ok (.invokevirtual 312, 3) := by decide +kernel
theorem dX12_lit_20 : decode cX12_lit 20 = .ok (.ireturn, 1) := by decide +kernel
theorem dX12_lit_21 : decode cX12_lit 21 = .ok (.aload_n 0, 1) := by decide +kernel
theorem dX12_lit_22 : decode cX12_lit 22 = .ok (.iload_n 1, 1) := by decide +kernel
theorem dX12_lit_23 : decode cX12_lit 23 = .ok (.iload_n 2, 1) := by decide +kernel
theorem dX12_lit_24 : decode cX12_lit 24 = .ok (.invokevirtual 355, 3) := by decide +kernel
theorem dX12_lit_27 : decode cX12_lit 27 = .ok (.istore_n 3, 1) := by decide +kernel
theorem dX12_lit_28 : decode cX12_lit 28 = .ok (.iload_n 3, 1) := by decide +kernel
theorem dX12_lit_29 : decode cX12_lit 29 = .ok (.iconst (-1), 1) := by decide +kernel
theorem dX12_lit_30 : decode cX12_lit 30 = .ok (.if_icmp .ne 12, 3) := by decide +kernel
theorem dX12_lit_33 : decode cX12_lit 33 = .ok (.aload_n 0, 1) := by decide +kernel
theorem dX12_lit_34 : decode cX12_lit 34 = .ok (.bipush 6, 2) := by decide +kernel
theorem dX12_lit_36 : decode cX12_lit 36 = .ok (.invokevirtual 312, 3) := by decide +kernel
theorem dX12_lit_39 : decode cX12_lit 39 = .ok (.goto 8, 3) := by decide +kernel
theorem dX12_lit_42 : decode cX12_lit 42 = .ok (.aload_n 0, 1) := by decide +kernel
theorem dX12_lit_43 : decode cX12_lit 43 = .ok (.iload_n 3, 1) := by decide +kernel
theorem dX12_lit_44 : decode cX12_lit 44 = .ok (.invokevirtual 316, 3) := by decide +kernel
theorem dX12_lit_47 : decode cX12_lit 47 = .ok (.ireturn, 1) := by decide +kernel
noncomputable def X12_lit_j15 (w : Wd) : Option (Int32 × Wd) :=
(X12_refuse (1 : Int32) w).bind fun q1 =>
some (q1.1, q1.2)
set_option maxRecDepth 20000 in
set_option maxHeartbeats 1000000 in
theorem t_X12_lit_j15 {κ : Kx} (w : Wd) (h : ok (X12_lit_j15  w) (PIw κ)) : J κ RX12 cX12_lit 4 (some .int) (rmk 2 48) 15 [(0, .ref (ad (gm κ) 97))] [] w := by
  unfold X12_lit_j15 at h
  refine j_aload_n 0 dX12_lit_15 rfl rfl ?_
  refine j_iconst (1 : Int32) dX12_lit_16 ki_1 ?_
  obtain ⟨q1, e2, h⟩ := ok_b h
  refine j_callV (As := [.int (1 : Int32)]) (st := []) [.int q1.1] (c_X12_refuse (kl κ) (gm κ) (kA κ) (1 : Int32) w q1 e2) ck_RX12_312 im_X12_refuse se_X12_refuse sh_97 cx_12 ⟨rfl, rfl⟩ ⟨by decide, by decide⟩ rfl rfl (Nat.le_of_ble_eq_true rfl) dX12_lit_17 _ rfl ?_
  have h := ok_s h
  exact j_iret dX12_lit_20 rfl rfl h
noncomputable def X12_lit (a1 : Int32) (a2 : Int32) (w : Wd) : Option (Int32 × Wd) :=
(if (X12_isLamp a1 w) = 0 then
X12_lit_j15 w
else
(if (X12_isWeek a2 w) = 0 then
X12_lit_j15 w
else
(X12_teacherAt a1 a2 w).bind fun q3 =>
(if q3 = (-1 : Int32) then
(X12_refuse (6 : Int32) w).bind fun q7 =>
some (q7.1, q7.2)
else
(X12_gives q3 w).bind fun q5 =>
some (q5.1, q5.2))))
set_option maxRecDepth 20000 in
set_option maxHeartbeats 1000000 in
theorem t_X12_lit {κ : Kx} (a1 : Int32) (a2 : Int32) (w : Wd) (h : ok (X12_lit  a1 a2 w) (PIw κ)) : J κ RX12 cX12_lit 4 (some .int) (rmk 2 48) 0 [(0, .ref (ad (gm κ) 97)), (1, .int a1), (2, .int a2)] [] w := by
  unfold X12_lit at h
  refine j_aload_n 0 dX12_lit_0 rfl rfl ?_
  refine j_iload_n 1 dX12_lit_1 rfl rfl ?_
  refine j_callV (As := [.int a1]) (st := []) [.int (X12_isLamp a1 w)] (c_X12_isLamp (kl κ) (gm κ) (kA κ) a1 w) ck_RX12_342 im_X12_isLamp se_X12_isLamp sh_97 cx_12 ⟨rfl, rfl⟩ ⟨by decide, by decide⟩ rfl rfl (Nat.le_of_ble_eq_true rfl) dX12_lit_2 _ rfl ?_
  refine j_if_eq 15 dX12_lit_5 (by decide) h (fun h => ?_) (fun h => ?_)
  · refine j_loc [(0, .ref (ad (gm κ) 97))] [0] rfl ?_
    exact t_X12_lit_j15 w h
  · refine j_iload_n 2 dX12_lit_8 rfl rfl ?_
    refine j_callS (As := [.int a2]) (st := []) [.int (X12_isWeek a2 w)] (c_X12_isWeek (kl κ) (gm κ) (kA κ) a2 w) ck_RX12_322 st_X12_isWeek ⟨rfl, rfl⟩ ⟨by decide, by decide⟩ rfl rfl (Nat.le_of_ble_eq_true rfl) dX12_lit_9 _ rfl ?_
    refine j_if_ne 21 dX12_lit_12 (by decide) h (fun h => ?_) (fun h => ?_)
    · refine j_aload_n 0 dX12_lit_21 rfl rfl ?_
      refine j_iload_n 1 dX12_lit_22 rfl rfl ?_
      refine j_iload_n 2 dX12_lit_23 rfl rfl ?_
      obtain ⟨q3, e4, h⟩ := ok_b h
      refine j_callV (As := [.int a1, .int a2]) (st := []) [.int q3] (c_X12_teacherAt (kl κ) (gm κ) (kA κ) a1 a2 w q3 e4) ck_RX12_355 im_X12_teacherAt se_X12_teacherAt sh_97 cx_12 ⟨rfl, rfl⟩ ⟨by decide, by decide⟩ rfl rfl (Nat.le_of_ble_eq_true rfl) dX12_lit_24 _ rfl ?_
      refine j_istore_n [(3, .int q3), (0, .ref (ad (gm κ) 97)), (1, .int a1), (2, .int a2)] dX12_lit_27 rfl (by decide) rfl ?_
      refine j_iload_n 0 dX12_lit_28 rfl rfl ?_
      refine j_iconst (-1 : Int32) dX12_lit_29 ki_m1 ?_
      refine j_ic_ne 42 dX12_lit_30 (by decide) h (fun h => ?_) (fun h => ?_)
      · refine j_aload_n 1 dX12_lit_42 rfl rfl ?_
        refine j_iload_n 0 dX12_lit_43 rfl rfl ?_
        obtain ⟨q5, e6, h⟩ := ok_b h
        refine j_callV (As := [.int q3]) (st := []) [.int q5.1] (c_X12_gives (kl κ) (gm κ) (kA κ) q3 w q5 e6) ck_RX12_316 im_X12_gives se_X12_gives sh_97 cx_12 ⟨rfl, rfl⟩ ⟨by decide, by decide⟩ rfl rfl (Nat.le_of_ble_eq_true rfl) dX12_lit_44 _ rfl ?_
        have h := ok_s h
        exact j_iret dX12_lit_47 rfl rfl h
      · refine j_aload_n 1 dX12_lit_33 rfl rfl ?_
        refine j_bipush (6 : Int32) dX12_lit_34 kb_6 ?_
        obtain ⟨q7, e8, h⟩ := ok_b h
        refine j_callV (As := [.int (6 : Int32)]) (st := []) [.int q7.1] (c_X12_refuse (kl κ) (gm κ) (kA κ) (6 : Int32) w q7 e8) ck_RX12_312 im_X12_refuse se_X12_refuse sh_97 cx_12 ⟨rfl, rfl⟩ ⟨by decide, by decide⟩ rfl rfl (Nat.le_of_ble_eq_true rfl) dX12_lit_36 _ rfl ?_
        refine j_goto 47 dX12_lit_39 (by decide) ?_
        have h := ok_s h
        exact j_iret dX12_lit_47 rfl rfl h
    · refine j_loc [(0, .ref (ad (gm κ) 97))] [0] rfl ?_
      exact t_X12_lit_j15 w h
theorem c_X12_lit (l : Launch) (γ : Gm) (A : Nat → Prop) (a1 : Int32) (a2 : Int32) (w : Wd) (q : Int32 × Wd) (e : X12_lit  a1 a2 w = some q) : MetG l γ A yX12_lit cX12_lit 4 (some .int) (rmk 2 48) [.ref (ad (γ) 97), .int a1, .int a2] w (some (.int q.1)) q.2 := by
  refine met_of pn_RX12 (Nat.le_of_ble_eq_true rfl) ?_
  intro κ hl hγ hA hρ
  subst hl; subst hγ; subst hA
  exact t_X12_lit   a1 a2 w ⟨q, e, pIw hρ rfl rfl⟩
theorem dX12_four_0 : decode cX12_four 0 = .ok (.bipush 24, 2) := by decide +kernel
theorem dX12_four_2 : decode cX12_four 2 = .ok (.istore_n 2, 1) := by decide +kernel
theorem dX12_four_3 : decode cX12_four 3 = .ok (.iload_n 2, 1) := by decide +kernel
theorem dX12_four_4 : decode cX12_four 4 = .ok (.ifCond .lt 32, 3) := by decide +kernel
theorem dX12_four_7 : decode cX12_four 7 = .ok (.aload_n 0, 1) := by decide +kernel
theorem dX12_four_8 : decode cX12_four 8 = .ok (.getfield 81, 3) := by decide +kernel
theorem dX12_four_11 : decode cX12_four 11 = .ok (.aload_n 0, 1) := by decide +kernel
theorem dX12_four_12 : decode cX12_four 12 = .ok (.getfield 358, 3) := by decide +kernel
theorem dX12_four_15 : decode cX12_four 15 = .ok (.iload_n 1, 1) := by decide +kernel
theorem dX12_four_16 : decode cX12_four 16 = .ok (.iload_n 2, 1) := by decide +kernel
theorem dX12_four_17 : decode cX12_four 17 = .ok (.ishr, 1) := by decide +kernel
theorem dX12_four_18 : decode cX12_four 18 = .ok (.i2b, 1) := by decide +kernel
theorem dX12_four_19 : decode cX12_four 19 = .ok (.bastore, 1) := by decide +kernel
theorem dX12_four_20 : decode cX12_four 20 = .ok (.aload_n 0, 1) := by decide +kernel
theorem dX12_four_21 : decode cX12_four 21 = .ok (.dup, 1) := by decide +kernel
theorem dX12_four_22 : decode cX12_four 22 = .ok (.getfield 358, 3) := by decide +kernel
theorem dX12_four_25 : decode cX12_four 25 = .ok (.iconst 1, 1) := by decide +kernel
theorem dX12_four_26 : decode cX12_four 26 = .ok (.iadd, 1) := by decide +kernel
theorem dX12_four_27 : decode cX12_four 27 = .ok (.putfield 358, 3) := by decide +kernel
theorem dX12_four_30 : decode cX12_four 30 = .ok (.iinc 2 (-8), 3) := by decide +kernel
theorem dX12_four_33 : decode cX12_four 33 = .ok (.goto (-30), 3) := by decide +kernel
theorem dX12_four_36 : decode cX12_four 36 = .ok (.return_, 1) := by decide +kernel
noncomputable def X12_four_b3 (a1 : Int32) (s : (Int32 × Wd)) : Option ((Int32 × Wd) ⊕ Wd) :=
(if s.1 < 0 then
some (.inr s.2)
else
gd (vp_in (s.2.1 97 33) 600) <|
(some (puI s.2 120 (ix (s.2.1 97 33)) (vp_nar .byte (Int32.toInt8 (a1 >>> (s.1 &&& 31))).toInt32))).bind fun w1 =>
(some (puI w1 97 33 ((w1.1 97 33) + (1 : Int32)))).bind fun w2 =>
some (.inl ((s.1 + (-8 : Int32)), w2)))
set_option maxRecDepth 20000 in
set_option maxHeartbeats 1000000 in
theorem t_X12_four_b3 {κ : Kx} (a1 : Int32) {P : Wd → Prop} (K0 : ∀ e, P e → J κ RX12 cX12_four 3 none (rmk 0 0) 36 [] [] e) (s : (Int32 × Wd)) (h : ok (lp (X12_four_b3  a1) s) P) : J κ RX12 cX12_four 3 none (rmk 0 0) 3 [(0, .ref (ad (gm κ) 97)), (1, .int a1), (2, .int s.1)] [] s.2 := by
  refine lp_ind (fun s => J κ RX12 cX12_four 3 none (rmk 0 0) 3 [(0, .ref (ad (gm κ) 97)), (1, .int a1), (2, .int s.1)] [] s.2) (fun s h => ?_) s h
  unfold X12_four_b3 at h
  refine j_iload_n 2 dX12_four_3 rfl rfl ?_
  refine j_if_lt 36 dX12_four_4 (by decide) h (fun h => ?_) (fun h => ?_)
  · refine j_loc [] [] rfl ?_
    have h := sel_r h
    have h := K0 _ h
    exact h
  · refine j_aload_n 0 dX12_four_7 rfl rfl ?_
    refine j_getA 120 fl_RX12_81 sh_97 fk_97_31 (by decide) dX12_four_8 ?_
    refine j_aload_n 0 dX12_four_11 rfl rfl ?_
    refine j_getI fl_RX12_358 sh_97 fk_97_33 dX12_four_12 ?_
    refine j_iload_n 1 dX12_four_15 rfl rfl ?_
    refine j_iload_n 2 dX12_four_16 rfl rfl ?_
    refine j_ishr dX12_four_17 ?_
    refine j_i2b dX12_four_18 ?_
    refine j_bast sh_120 dX12_four_19 h (fun h => ?_)
    refine j_lW h (fun w1 h => ?_)
    refine j_aload_n 0 dX12_four_20 rfl rfl ?_
    refine j_dup dX12_four_21 rfl ?_
    refine j_getI fl_RX12_358 sh_97 fk_97_33 dX12_four_22 ?_
    refine j_iconst (1 : Int32) dX12_four_25 ki_1 ?_
    refine j_iadd dX12_four_26 ?_
    refine j_putI fp_RX12_358 sh_97 fk_97_33 dX12_four_27 ?_
    refine j_lW h (fun w2 h => ?_)
    refine j_iinc (s.1 + (-8 : Int32)) 2 [(2, .int (s.1 + (-8 : Int32))), (0, .ref (ad (gm κ) 97)), (1, .int a1)] dX12_four_30 rfl (by rw [kn_m8]) (by decide) rfl ?_
    refine j_goto 3 dX12_four_33 (by decide) ?_
    refine j_loc [(0, .ref (ad (gm κ) 97)), (1, .int a1), (2, .int (s.1 + (-8 : Int32)))] [1, 2, 0] rfl ?_
    have h := sel_l h
    exact h
noncomputable def X12_four (a1 : Int32) (w : Wd) : Option (Wd) :=
(lp (X12_four_b3 a1) ((24 : Int32), w)).bind fun e3 =>
some e3
set_option maxRecDepth 20000 in
set_option maxHeartbeats 1000000 in
theorem t_X12_four {κ : Kx} (a1 : Int32) (w : Wd) (h : ok (X12_four  a1 w) (PVw κ)) : J κ RX12 cX12_four 3 none (rmk 0 0) 0 [(0, .ref (ad (gm κ) 97)), (1, .int a1)] [] w := by
  unfold X12_four at h
  refine j_bipush (24 : Int32) dX12_four_0 kb_24 ?_
  refine j_istore_n [(2, .int (24 : Int32)), (0, .ref (ad (gm κ) 97)), (1, .int a1)] dX12_four_2 rfl (by decide) rfl ?_
  refine j_loc [(0, .ref (ad (gm κ) 97)), (1, .int a1), (2, .int (24 : Int32))] [1, 2, 0] rfl ?_
  refine t_X12_four_b3 a1 (fun e3 h => ?_) ((24 : Int32), w) (ok_bb h)
  · have h := ok_s h
    exact j_vret dX12_four_36 rfl h
theorem c_X12_four (l : Launch) (γ : Gm) (A : Nat → Prop) (a1 : Int32) (w : Wd) (q : Wd) (e : X12_four  a1 w = some q) : MetG l γ A yX12_four cX12_four 3 none (rmk 0 0) [.ref (ad (γ) 97), .int a1] w none q := by
  refine met_of pn_RX12 (Nat.le_of_ble_eq_true rfl) ?_
  intro κ hl hγ hA hρ
  subst hl; subst hγ; subst hA
  exact t_X12_four   a1 w ⟨q, e, pVw hρ rfl rfl⟩
theorem dX12_feed_0 : decode cX12_feed 0 = .ok (.aload_n 0, 1) := by decide +kernel
theorem dX12_feed_1 : decode cX12_feed 1 = .ok (.getfield 358, 3) := by decide +kernel
theorem dX12_feed_4 : decode cX12_feed 4 = .ok (.bipush 20, 2) := by decide +kernel
theorem dX12_feed_6 : decode cX12_feed 6 = .ok (.iadd, 1) := by decide +kernel
theorem dX12_feed_7 : decode cX12_feed 7 = .ok (.sipush 600, 3) := by decide +kernel
theorem dX12_feed_10 : decode cX12_feed 10 = .ok (.if_icmp .le 5, 3) := by decide +kernel
theorem dX12_feed_13 : decode cX12_feed 13 = .ok (.iconst (-1), 1) := by decide +kernel
theorem dX12_feed_14 : decode cX12_feed 14 = .ok (.ireturn, 1) := by decide +kernel
theorem dX12_feed_15 : decode cX12_feed 15 = .ok (.aload_n 0, 1) := by decide +kernel
theorem dX12_feed_16 : decode cX12_feed 16 = .ok (.iload_n 1, 1) := by decide +kernel
theorem dX12_feed_17 : decode cX12_feed 17 = .ok (.invokevirtual 361, 3) := by decide +kernel
theorem dX12_feed_20 : decode cX12_feed 20 = .ok (.aload_n 0, 1) := by decide +kernel
theorem dX12_feed_21 : decode cX12_feed 21 = .ok (.iload_n 2, 1) := by decide +kernel
theorem dX12_feed_22 : decode cX12_feed 22 = .ok (.invokevirtual 361, 3) := by decide +kernel
theorem dX12_feed_25 : decode cX12_feed 25 = .ok (.aload_n 0, 1) := by decide +kernel
theorem dX12_feed_26 : decode cX12_feed 26 = .ok (.iload_n 3, 1) := by decide +kernel
theorem dX12_feed_27 : decode cX12_feed 27 = .ok (.invokevirtual 361, 3) := by decide +kernel
theorem dX12_feed_30 : decode cX12_feed 30 = .ok (.aload_n 0, 1) := by decide +kernel
theorem dX12_feed_31 : decode cX12_feed 31 = .ok (.iload 4, 2) := by decide +kernel
theorem dX12_feed_33 : decode cX12_feed 33 = .ok (.invokevirtual 361, 3) := by decide +kernel
theorem dX12_feed_36 : decode cX12_feed 36 = .ok (.aload_n 0, 1) := by decide +kernel
theorem dX12_feed_37 : decode cX12_feed 37 = .ok (.iload 5, 2) := by decide +kernel
theorem dX12_feed_39 : decode cX12_feed 39 = .ok (.invokevirtual 361, 3) := by decide +kernel
theorem dX12_feed_42 : decode cX12_feed 42 = .ok (.aload_n 0, 1) := by decide +kernel
theorem dX12_feed_43 : decode cX12_feed 43 = .ok (.getfield 358, 3) := by decide +kernel
theorem dX12_feed_46 : decode cX12_feed 46 = .ok (.ireturn, 1) := by decide +kernel
noncomputable def X12_feed (a1 : Int32) (a2 : Int32) (a3 : Int32) (a4 : Int32) (a5 : Int32) (w : Wd) : Option (Int32 × Wd) :=
(if ((w.1 97 33) + (20 : Int32)) ≤ (600 : Int32) then
(X12_four a1 w).bind fun q1 =>
(X12_four a2 q1).bind fun q3 =>
(X12_four a3 q3).bind fun q5 =>
(X12_four a4 q5).bind fun q7 =>
(X12_four a5 q7).bind fun q9 =>
some ((q9.1 97 33), q9)
else
some ((-1 : Int32), w))
set_option maxRecDepth 20000 in
set_option maxHeartbeats 1000000 in
theorem t_X12_feed {κ : Kx} (a1 : Int32) (a2 : Int32) (a3 : Int32) (a4 : Int32) (a5 : Int32) (w : Wd) (h : ok (X12_feed  a1 a2 a3 a4 a5 w) (PIw κ)) : J κ RX12 cX12_feed 6 (some .int) (rmk 1 22) 0 [(0, .ref (ad (gm κ) 97)), (1, .int a1), (2, .int a2), (3, .int a3), (4, .int a4), (5, .int a5)] [] w := by
  unfold X12_feed at h
  refine j_aload_n 0 dX12_feed_0 rfl rfl ?_
  refine j_getI fl_RX12_358 sh_97 fk_97_33 dX12_feed_1 ?_
  refine j_bipush (20 : Int32) dX12_feed_4 kb_20 ?_
  refine j_iadd dX12_feed_6 ?_
  refine j_sipush (600 : Int32) dX12_feed_7 ks_600 ?_
  refine j_ic_le 15 dX12_feed_10 (by decide) h (fun h => ?_) (fun h => ?_)
  · refine j_aload_n 0 dX12_feed_15 rfl rfl ?_
    refine j_iload_n 1 dX12_feed_16 rfl rfl ?_
    obtain ⟨q1, e2, h⟩ := ok_b h
    refine j_callV (As := [.int a1]) (st := []) [] (c_X12_four (kl κ) (gm κ) (kA κ) a1 w q1 e2) ck_RX12_361 im_X12_four se_X12_four sh_97 cx_12 ⟨rfl, rfl⟩ ⟨by decide, by decide⟩ rfl rfl (Nat.le_of_ble_eq_true rfl) dX12_feed_17 _ rfl ?_
    refine j_aload_n 0 dX12_feed_20 rfl rfl ?_
    refine j_iload_n 2 dX12_feed_21 rfl rfl ?_
    obtain ⟨q3, e4, h⟩ := ok_b h
    refine j_callV (As := [.int a2]) (st := []) [] (c_X12_four (kl κ) (gm κ) (kA κ) a2 q1 q3 e4) ck_RX12_361 im_X12_four se_X12_four sh_97 cx_12 ⟨rfl, rfl⟩ ⟨by decide, by decide⟩ rfl rfl (Nat.le_of_ble_eq_true rfl) dX12_feed_22 _ rfl ?_
    refine j_aload_n 0 dX12_feed_25 rfl rfl ?_
    refine j_iload_n 3 dX12_feed_26 rfl rfl ?_
    obtain ⟨q5, e6, h⟩ := ok_b h
    refine j_callV (As := [.int a3]) (st := []) [] (c_X12_four (kl κ) (gm κ) (kA κ) a3 q3 q5 e6) ck_RX12_361 im_X12_four se_X12_four sh_97 cx_12 ⟨rfl, rfl⟩ ⟨by decide, by decide⟩ rfl rfl (Nat.le_of_ble_eq_true rfl) dX12_feed_27 _ rfl ?_
    refine j_aload_n 0 dX12_feed_30 rfl rfl ?_
    refine j_iload 4 dX12_feed_31 rfl ?_
    obtain ⟨q7, e8, h⟩ := ok_b h
    refine j_callV (As := [.int a4]) (st := []) [] (c_X12_four (kl κ) (gm κ) (kA κ) a4 q5 q7 e8) ck_RX12_361 im_X12_four se_X12_four sh_97 cx_12 ⟨rfl, rfl⟩ ⟨by decide, by decide⟩ rfl rfl (Nat.le_of_ble_eq_true rfl) dX12_feed_33 _ rfl ?_
    refine j_aload_n 0 dX12_feed_36 rfl rfl ?_
    refine j_iload 5 dX12_feed_37 rfl ?_
    obtain ⟨q9, e10, h⟩ := ok_b h
    refine j_callV (As := [.int a5]) (st := []) [] (c_X12_four (kl κ) (gm κ) (kA κ) a5 q7 q9 e10) ck_RX12_361 im_X12_four se_X12_four sh_97 cx_12 ⟨rfl, rfl⟩ ⟨by decide, by decide⟩ rfl rfl (Nat.le_of_ble_eq_true rfl) dX12_feed_39 _ rfl ?_
    refine j_aload_n 0 dX12_feed_42 rfl rfl ?_
    refine j_getI fl_RX12_358 sh_97 fk_97_33 dX12_feed_43 ?_
    have h := ok_s h
    exact j_iret dX12_feed_46 rfl rfl h
  · refine j_iconst (-1 : Int32) dX12_feed_13 ki_m1 ?_
    have h := ok_s h
    exact j_iret dX12_feed_14 rfl rfl h
theorem c_X12_feed (l : Launch) (γ : Gm) (A : Nat → Prop) (a1 : Int32) (a2 : Int32) (a3 : Int32) (a4 : Int32) (a5 : Int32) (w : Wd) (q : Int32 × Wd) (e : X12_feed  a1 a2 a3 a4 a5 w = some q) : MetG l γ A yX12_feed cX12_feed 6 (some .int) (rmk 1 22) [.ref (ad (γ) 97), .int a1, .int a2, .int a3, .int a4, .int a5] w (some (.int q.1)) q.2 := by
  refine met_of pn_RX12 (Nat.le_of_ble_eq_true rfl) ?_
  intro κ hl hγ hA hρ
  subst hl; subst hγ; subst hA
  exact t_X12_feed   a1 a2 a3 a4 a5 w ⟨q, e, pIw hρ rfl rfl⟩
theorem dX12_at_0 : decode cX12_at 0 = .ok (.iload_n 1, 1) := by decide +kernel
theorem dX12_at_1 : decode cX12_at 1 = .ok (.aload_n 0, 1) := by decide +kernel
theorem dX12_at_2 : decode cX12_at 2 = .ok (.getfield 365, 3) := by decide +kernel
theorem dX12_at_5 : decode cX12_at 5 = .ok (.if_icmp .ge 16, 3) := by decide +kernel
theorem dX12_at_8 : decode cX12_at 8 = .ok (.aload_n 0, 1) := by decide +kernel
theorem dX12_at_9 : decode cX12_at 9 = .ok (.getfield 85, 3) := by decide +kernel
theorem dX12_at_12 : decode cX12_at 12 = .ok (.iload_n 1, 1) := by decide +kernel
theorem dX12_at_13 : decode cX12_at 13 = .ok (.baload, 1) := by decide +kernel
theorem dX12_at_14 : decode cX12_at 14 = .ok (.sipush 255, 3) := by decide +kernel
theorem dX12_at_17 : decode cX12_at 17 = .ok (.iand, 1) := by decide +kernel
theorem dX12_at_18 : decode cX12_at 18 = .ok (.goto 4, 3) := by decide +kernel
theorem dX12_at_21 : decode cX12_at 21 = .ok (.iconst (-1), 1) := by decide +kernel
theorem dX12_at_22 : decode cX12_at 22 = .ok (.ireturn, 1) := by decide +kernel
noncomputable def X12_at (a1 : Int32) (w : Wd) : Option (Int32) :=
(if (w.1 97 34) ≤ a1 then
some (-1 : Int32)
else
gd (vp_in a1 600) <|
some ((w.1 121 (ix a1)) &&& (255 : Int32)))
set_option maxRecDepth 20000 in
set_option maxHeartbeats 1000000 in
theorem t_X12_at {κ : Kx} (a1 : Int32) (w : Wd) (h : ok (X12_at  a1 w) (PI κ w)) : J κ RX12 cX12_at 2 (some .int) (rmk 0 0) 0 [(0, .ref (ad (gm κ) 97)), (1, .int a1)] [] w := by
  unfold X12_at at h
  refine j_iload_n 1 dX12_at_0 rfl rfl ?_
  refine j_aload_n 0 dX12_at_1 rfl rfl ?_
  refine j_getI fl_RX12_365 sh_97 fk_97_34 dX12_at_2 ?_
  refine j_ic_ge 21 dX12_at_5 (by decide) h (fun h => ?_) (fun h => ?_)
  · refine j_iconst (-1 : Int32) dX12_at_21 ki_m1 ?_
    have h := ok_s h
    exact j_iret dX12_at_22 rfl rfl h
  · refine j_aload_n 0 dX12_at_8 rfl rfl ?_
    refine j_getA 121 fl_RX12_85 sh_97 fk_97_32 (by decide) dX12_at_9 ?_
    refine j_iload_n 1 dX12_at_12 rfl rfl ?_
    refine j_bald sh_121 dX12_at_13 h (fun h => ?_)
    refine j_sipush (255 : Int32) dX12_at_14 ks_255 ?_
    refine j_iand dX12_at_17 ?_
    refine j_goto 22 dX12_at_18 (by decide) ?_
    have h := ok_s h
    exact j_iret dX12_at_22 rfl rfl h
theorem c_X12_at (l : Launch) (γ : Gm) (A : Nat → Prop) (a1 : Int32) (w : Wd) (q : Int32) (e : X12_at  a1 w = some q) : MetG l γ A yX12_at cX12_at 2 (some .int) (rmk 0 0) [.ref (ad (γ) 97), .int a1] w (some (.int q)) w := by
  refine met_of pn_RX12 (Nat.le_of_ble_eq_true rfl) ?_
  intro κ hl hγ hA hρ
  subst hl; subst hγ; subst hA
  exact t_X12_at   a1 w ⟨q, e, pI hρ rfl rfl⟩
theorem dX12_isSmall_0 : decode cX12_isSmall 0 = .ok (.iload_n 0, 1) := by decide +kernel
theorem dX12_isSmall_1 : decode cX12_isSmall 1 = .ok (.bipush 97, 2) := by decide +kernel
theorem dX12_isSmall_3 : decode cX12_isSmall 3 = .ok (.if_icmp .lt 13, 3) := by decide +kernel
theorem dX12_isSmall_6 : decode cX12_isSmall 6 = .ok (.iload_n 0, 1) := by decide +kernel
theorem dX12_isSmall_7 : decode cX12_isSmall 7 = .ok (.bipush 122, 2) := by decide +kernel
theorem dX12_isSmall_9 : decode cX12_isSmall 9 = .ok (.if_icmp .gt 7, 3) := by decide +kernel
theorem dX12_isSmall_12 : decode cX12_isSmall 12 = .ok (.iconst 1, 1) := by decide +kernel
theorem dX12_isSmall_13 : decode cX12_isSmall 13 = .ok (.goto 4, 3) := by decide +kernel
theorem dX12_isSmall_16 : decode cX12_isSmall 16 = .ok (.iconst 0, 1) := by decide +kernel
theorem dX12_isSmall_17 : decode cX12_isSmall 17 = .ok (.ireturn, 1) := by decide +kernel
noncomputable def X12_isSmallO (a0 : Int32) (w : Wd) : Option (Int32) :=
(if a0 < (97 : Int32) then
some (0 : Int32)
else
(if (122 : Int32) < a0 then
some (0 : Int32)
else
some (1 : Int32)))
set_option maxRecDepth 20000 in
set_option maxHeartbeats 1000000 in
theorem t_X12_isSmall {κ : Kx} (a0 : Int32) (w : Wd) (h : ok (X12_isSmallO  a0 w) (PI κ w)) : J κ RX12 cX12_isSmall 1 (some .boolean) (rmk 0 0) 0 [(0, .int a0)] [] w := by
  unfold X12_isSmallO at h
  refine j_iload_n 0 dX12_isSmall_0 rfl rfl ?_
  refine j_bipush (97 : Int32) dX12_isSmall_1 kb_97 ?_
  refine j_ic_lt 16 dX12_isSmall_3 (by decide) h (fun h => ?_) (fun h => ?_)
  · refine j_iconst (0 : Int32) dX12_isSmall_16 ki_0 ?_
    have h := ok_s h
    exact j_iret dX12_isSmall_17 rfl (by decide) h
  · refine j_iload_n 0 dX12_isSmall_6 rfl rfl ?_
    refine j_bipush (122 : Int32) dX12_isSmall_7 kb_122 ?_
    refine j_ic_gt 16 dX12_isSmall_9 (by decide) h (fun h => ?_) (fun h => ?_)
    · refine j_iconst (0 : Int32) dX12_isSmall_16 ki_0 ?_
      have h := ok_s h
      exact j_iret dX12_isSmall_17 rfl (by decide) h
    · refine j_iconst (1 : Int32) dX12_isSmall_12 ki_1 ?_
      refine j_goto 17 dX12_isSmall_13 (by decide) ?_
      have h := ok_s h
      exact j_iret dX12_isSmall_17 rfl (by decide) h
noncomputable def X12_isSmall (a0 : Int32) (w : Wd) : Int32 := (X12_isSmallO  a0 w).getD 0
theorem X12_isSmall_eq (a0 : Int32) (w : Wd) : X12_isSmallO  a0 w = some (X12_isSmall  a0 w) := by
  unfold X12_isSmall X12_isSmallO
  repeat (first | rfl | split)
theorem nz_X12_isSmall (a0 : Int32) (w : Wd) : narrow .boolean (.int (X12_isSmall  a0 w)) = .int (X12_isSmall  a0 w) := by
  unfold X12_isSmall X12_isSmallO
  repeat (first | rfl | split)
theorem c_X12_isSmall (l : Launch) (γ : Gm) (A : Nat → Prop) (a0 : Int32) (w : Wd) : MetG l γ A yX12_isSmall cX12_isSmall 1 (some .boolean) (rmk 0 0) [.int a0] w (some (.int (X12_isSmall  a0 w))) w := by
  refine met_of pn_RX12 (Nat.le_of_ble_eq_true rfl) ?_
  intro κ hl hγ hA hρ
  subst hl; subst hγ; subst hA
  exact t_X12_isSmall   a0 w ⟨_, X12_isSmall_eq  a0 w, pI hρ rfl rfl⟩
theorem dX12_isDigit_0 : decode cX12_isDigit 0 = .ok (.iload_n 0, 1) := by decide +kernel
theorem dX12_isDigit_1 : decode cX12_isDigit 1 = .ok (.bipush 48, 2) := by decide +kernel
theorem dX12_isDigit_3 : decode cX12_isDigit 3 = .ok (.if_icmp .lt 13, 3) := by decide +kernel
theorem dX12_isDigit_6 : decode cX12_isDigit 6 = .ok (.iload_n 0, 1) := by decide +kernel
theorem dX12_isDigit_7 : decode cX12_isDigit 7 = .ok (.bipush 57, 2) := by decide +kernel
theorem dX12_isDigit_9 : decode cX12_isDigit 9 = .ok (.if_icmp .gt 7, 3) := by decide +kernel
theorem dX12_isDigit_12 : decode cX12_isDigit 12 = .ok (.iconst 1, 1) := by decide +kernel
theorem dX12_isDigit_13 : decode cX12_isDigit 13 = .ok (.goto 4, 3) := by decide +kernel
theorem dX12_isDigit_16 : decode cX12_isDigit 16 = .ok (.iconst 0, 1) := by decide +kernel
theorem dX12_isDigit_17 : decode cX12_isDigit 17 = .ok (.ireturn, 1) := by decide +kernel
noncomputable def X12_isDigitO (a0 : Int32) (w : Wd) : Option (Int32) :=
(if a0 < (48 : Int32) then
some (0 : Int32)
else
(if (57 : Int32) < a0 then
some (0 : Int32)
else
some (1 : Int32)))
set_option maxRecDepth 20000 in
set_option maxHeartbeats 1000000 in
theorem t_X12_isDigit {κ : Kx} (a0 : Int32) (w : Wd) (h : ok (X12_isDigitO  a0 w) (PI κ w)) : J κ RX12 cX12_isDigit 1 (some .boolean) (rmk 0 0) 0 [(0, .int a0)] [] w := by
  unfold X12_isDigitO at h
  refine j_iload_n 0 dX12_isDigit_0 rfl rfl ?_
  refine j_bipush (48 : Int32) dX12_isDigit_1 kb_48 ?_
  refine j_ic_lt 16 dX12_isDigit_3 (by decide) h (fun h => ?_) (fun h => ?_)
  · refine j_iconst (0 : Int32) dX12_isDigit_16 ki_0 ?_
    have h := ok_s h
    exact j_iret dX12_isDigit_17 rfl (by decide) h
  · refine j_iload_n 0 dX12_isDigit_6 rfl rfl ?_
    refine j_bipush (57 : Int32) dX12_isDigit_7 kb_57 ?_
    refine j_ic_gt 16 dX12_isDigit_9 (by decide) h (fun h => ?_) (fun h => ?_)
    · refine j_iconst (0 : Int32) dX12_isDigit_16 ki_0 ?_
      have h := ok_s h
      exact j_iret dX12_isDigit_17 rfl (by decide) h
    · refine j_iconst (1 : Int32) dX12_isDigit_12 ki_1 ?_
      refine j_goto 17 dX12_isDigit_13 (by decide) ?_
      have h := ok_s h
      exact j_iret dX12_isDigit_17 rfl (by decide) h
noncomputable def X12_isDigit (a0 : Int32) (w : Wd) : Int32 := (X12_isDigitO  a0 w).getD 0
theorem X12_isDigit_eq (a0 : Int32) (w : Wd) : X12_isDigitO  a0 w = some (X12_isDigit  a0 w) := by
  unfold X12_isDigit X12_isDigitO
  repeat (first | rfl | split)
theorem nz_X12_isDigit (a0 : Int32) (w : Wd) : narrow .boolean (.int (X12_isDigit  a0 w)) = .int (X12_isDigit  a0 w) := by
  unfold X12_isDigit X12_isDigitO
  repeat (first | rfl | split)
theorem c_X12_isDigit (l : Launch) (γ : Gm) (A : Nat → Prop) (a0 : Int32) (w : Wd) : MetG l γ A yX12_isDigit cX12_isDigit 1 (some .boolean) (rmk 0 0) [.int a0] w (some (.int (X12_isDigit  a0 w))) w := by
  refine met_of pn_RX12 (Nat.le_of_ble_eq_true rfl) ?_
  intro κ hl hγ hA hρ
  subst hl; subst hγ; subst hA
  exact t_X12_isDigit   a0 w ⟨_, X12_isDigit_eq  a0 w, pI hρ rfl rfl⟩
