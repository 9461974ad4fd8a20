theorem dX1_hasChance_0 : decode cX1_hasChance 0 = .ok (.lconst 0, 1) := by decide +kernel
theorem dX1_hasChance_1 : decode cX1_hasChance 1 = .ok (.lstore 6, 2) := by decide +kernel
theorem dX1_hasChance_3 : decode cX1_hasChance 3 = .ok (.iload 4, 2) := by decide +kernel
theorem dX1_hasChance_5 : decode cX1_hasChance 5 = .ok (.istore 8, 2) := by decide +kernel
theorem dX1_hasChance_7 : decode cX1_hasChance 7 = .ok (.iload 8, 2) := by decide +kernel
theorem dX1_hasChance_9 : decode cX1_hasChance 9 = .ok (.iload 5, 2) := by decide +kernel
theorem dX1_hasChance_11 : decode cX1_hasChance 11 = .ok (.if_icmp .gt 33, 3) := by decide +kernel
theorem dX1_hasChance_14 : decode cX1_hasChance 14 = .ok (.lload 6, 2) := by decide +kernel
theorem dX1_hasChance_16 : decode cX1_hasChance 16 = .ok (.aload_n 0, 1) := by decide +kernel
theorem dX1_hasChance_17 : decode cX1_hasChance 17 = .ok (.iload_n 2, 1) := by decide +kernel
theorem dX1_hasChance_18 : decode cX1_hasChance 18 = .ok (.iload 8, 2) := by decide +kernel
theorem dX1_hasChance_20 : decode cX1_hasChance 20 = .ok (.invokevirtual 15, 3) := by decide +kernel
theorem dX1_hasChance_23 : decode cX1_hasChance 23 = .ok (.aload_n 0, 1) := by decide +kernel
theorem dX1_hasChance_24 : decode cX1_hasChance 24 = .ok (.iload_n 1, 1) := by decide +kernel
theorem dX1_hasChance_25 : decode cX1_hasChance 25 = .ok (.iload_n 2, 1) := by decide +kernel
theorem dX1_hasChance_26 : decode cX1_hasChance 26 = .ok (.isub, 1) := by decide +kernel
theorem dX1_hasChance_27 : decode cX1_hasChance 27 = .ok (.iload_n 3, 1) := by decide +kernel
theorem dX1_hasChance_28 : decode cX1_hasChance 28 = .ok (.iload 8, 2) := by decide +kernel
theorem dX1_hasChance_30 : decode cX1_hasChance 30 = .ok (.isub, 1) := by decide +kernel
theorem dX1_hasChance_31 : decode cX1_hasChance 31 = .ok (.invokevirtual 15, 3) := by decide +kernel
theorem dX1_hasChance_34 : decode cX1_hasChance 34 = .ok (.lmul, 1) := by decide +kernel
theorem dX1_hasChance_35 : decode cX1_hasChance 35 = .ok (.ladd, 1) := by decide +kernel
theorem dX1_hasChance_36 : decode cX1_hasChance 36 = .ok (.lstore 6, 2) := by decide +kernel
theorem dX1_hasChance_38 : decode cX1_hasChance 38 = .ok (.iinc 8 1, 3) := by decide +kernel
theorem dX1_hasChance_41 : decode cX1_hasChance 41 = .ok (.goto (-34), 3) := by decide +kernel
theorem dX1_hasChance_44 : decode cX1_hasChance 44 = .ok (.ldc2_w 19, 3) := by decide +kernel
theorem dX1_hasChance_47 : decode cX1_hasChance 47 = .ok (.lload 6, 2) := by decide +kernel
theorem dX1_hasChance_49 : decode cX1_hasChance 49 = .ok (.lmul, 1) := by decide +kernel
theorem dX1_hasChance_50 : decode cX1_hasChance 50 = .ok (.aload_n 0, 1) := by decide +kernel
theorem dX1_hasChance_51 : decode cX1_hasChance 51 = .ok (.iload_n 1, 1) := by decide +kernel
theorem dX1_hasChance_52 : decode cX1_hasChance 52 = .ok (.iload_n 3, 1) := by decide +kernel
theorem dX1_hasChance_53 : decode cX1_hasChance 53 = .ok (.invokevirtual 15, 3) := by decide +kernel
theorem dX1_hasChance_56 : decode cX1_hasChance 56 = .ok (.lcmp, 1) := by decide +kernel
theorem dX1_hasChance_57 : decode cX1_hasChance 57 = .ok (.ifCond .le 7, 3) := by decide +kernel
theorem dX1_hasChance_60 : decode cX1_hasChance 60 = .ok (.iconst 1, 1) := by decide +kernel
theorem dX1_hasChance_61 : decode cX1_hasChance 61 = .ok (.goto 4, 3) := by decide +kernel
theorem dX1_hasChance_64 : decode cX1_hasChance 64 = .ok (.iconst 0, 1) := by decide +kernel
theorem dX1_hasChance_65 : decode cX1_hasChance 65 = .ok (.ireturn, 1) := by decide +kernel
noncomputable def X1_hasChance_b7 (a1 : Int32) (a2 : Int32) (a3 : Int32) (a5 : Int32) (w : Wd) (s : (Int64 × Int32)) : Option ((Int64 × Int32) ⊕ Int64) :=
(if a5 < s.2 then
some (.inr s.1)
else
(X1_choose a2 s.2 w).bind fun q1 =>
(X1_choose (a1 - a2) (a3 - s.2) w).bind fun q3 =>
some (.inl ((s.1 + (q1 * q3)), (s.2 + (1 : Int32)))))
set_option maxRecDepth 20000 in
set_option maxHeartbeats 1000000 in
theorem t_X1_hasChance_b7 {κ : Kx} (a1 : Int32) (a2 : Int32) (a3 : Int32) (a5 : Int32) (w : Wd) {P : Int64 → Prop} (K0 : ∀ e, P e → J κ RX1 cX1_hasChance 9 (some .boolean) (rmk 1 22) 44 [(0, .ref (ad (gm κ) 95)), (1, .int a1), (3, .int a3), (6, .long e)] [] w) (s : (Int64 × Int32)) (h : ok (lp (X1_hasChance_b7  a1 a2 a3 a5 w) s) P) : J κ RX1 cX1_hasChance 9 (some .boolean) (rmk 1 22) 7 [(0, .ref (ad (gm κ) 95)), (1, .int a1), (2, .int a2), (3, .int a3), (5, .int a5), (6, .long s.1), (8, .int s.2)] [] w := by
  refine lp_ind (fun s => J κ RX1 cX1_hasChance 9 (some .boolean) (rmk 1 22) 7 [(0, .ref (ad (gm κ) 95)), (1, .int a1), (2, .int a2), (3, .int a3), (5, .int a5), (6, .long s.1), (8, .int s.2)] [] w) (fun s h => ?_) s h
  unfold X1_hasChance_b7 at h
  refine j_iload 6 dX1_hasChance_7 rfl ?_
  refine j_iload 4 dX1_hasChance_9 rfl ?_
  refine j_ic_gt 44 dX1_hasChance_11 (by decide) h (fun h => ?_) (fun h => ?_)
  · refine j_loc [(0, .ref (ad (gm κ) 95)), (1, .int a1), (3, .int a3), (6, .long s.1)] [0, 1, 3, 5] rfl ?_
    have h := sel_r h
    have h := K0 _ h
    exact h
  · refine j_lload 5 dX1_hasChance_14 rfl ?_
    refine j_aload_n 0 dX1_hasChance_16 rfl rfl ?_
    refine j_iload_n 2 dX1_hasChance_17 rfl rfl ?_
    refine j_iload 6 dX1_hasChance_18 rfl ?_
    obtain ⟨q1, e2, h⟩ := ok_b h
    refine j_callV (As := [.int a2, .int s.2]) (st := [.long s.1]) [.long q1, .long s.1] (c_X1_choose (kl κ) (gm κ) (kA κ) a2 s.2 w q1 e2) ck_RX1_15 im_X1_choose se_X1_choose sh_95 cx_1 ⟨rfl, rfl⟩ ⟨by decide, by decide⟩ rfl rfl (Nat.le_of_ble_eq_true rfl) dX1_hasChance_20 _ rfl ?_
    refine j_aload_n 0 dX1_hasChance_23 rfl rfl ?_
    refine j_iload_n 1 dX1_hasChance_24 rfl rfl ?_
    refine j_iload_n 2 dX1_hasChance_25 rfl rfl ?_
    refine j_isub dX1_hasChance_26 ?_
    refine j_iload_n 3 dX1_hasChance_27 rfl rfl ?_
    refine j_iload 6 dX1_hasChance_28 rfl ?_
    refine j_isub dX1_hasChance_30 ?_
    obtain ⟨q3, e4, h⟩ := ok_b h
    refine j_callV (As := [.int (a1 - a2), .int (a3 - s.2)]) (st := [.long q1, .long s.1]) [.long q3, .long q1, .long s.1] (c_X1_choose (kl κ) (gm κ) (kA κ) (a1 - a2) (a3 - s.2) w q3 e4) ck_RX1_15 im_X1_choose se_X1_choose sh_95 cx_1 ⟨rfl, rfl⟩ ⟨by decide, by decide⟩ rfl rfl (Nat.le_of_ble_eq_true rfl) dX1_hasChance_31 _ rfl ?_
    refine j_lmul dX1_hasChance_34 ?_
    refine j_ladd dX1_hasChance_35 ?_
    refine j_lstore [(6, .long (s.1 + (q1 * q3))), (0, .ref (ad (gm κ) 95)), (1, .int a1), (2, .int a2), (3, .int a3), (5, .int a5), (8, .int s.2)] dX1_hasChance_36 (by decide) rfl ?_
    refine j_iinc (s.2 + (1 : Int32)) 6 [(8, .int (s.2 + (1 : Int32))), (6, .long (s.1 + (q1 * q3))), (0, .ref (ad (gm κ) 95)), (1, .int a1), (2, .int a2), (3, .int a3), (5, .int a5)] dX1_hasChance_38 rfl (by rw [kn_1]) (by decide) rfl ?_
    refine j_goto 7 dX1_hasChance_41 (by decide) ?_
    refine j_loc [(0, .ref (ad (gm κ) 95)), (1, .int a1), (2, .int a2), (3, .int a3), (5, .int a5), (6, .long (s.1 + (q1 * q3))), (8, .int (s.2 + (1 : Int32)))] [2, 3, 4, 5, 6, 1, 0] rfl ?_
    have h := sel_l h
    exact h
noncomputable def X1_hasChance (a1 : Int32) (a2 : Int32) (a3 : Int32) (a4 : Int32) (a5 : Int32) (w : Wd) : Option (Int32) :=
(lp (X1_hasChance_b7 a1 a2 a3 a5 w) ((0 : Int64), a4)).bind fun e5 =>
(X1_choose a1 a3 w).bind fun q6 =>
(if (lg_cmp ((20 : Int64) * e5) q6) ≤ 0 then
some (0 : Int32)
else
some (1 : Int32))
set_option maxRecDepth 20000 in
set_option maxHeartbeats 1000000 in
theorem t_X1_hasChance {κ : Kx} (a1 : Int32) (a2 : Int32) (a3 : Int32) (a4 : Int32) (a5 : Int32) (w : Wd) (h : ok (X1_hasChance  a1 a2 a3 a4 a5 w) (PI κ w)) : J κ RX1 cX1_hasChance 9 (some .boolean) (rmk 1 22) 0 [(0, .ref (ad (gm κ) 95)), (1, .int a1), (2, .int a2), (3, .int a3), (4, .int a4), (5, .int a5)] [] w := by
  unfold X1_hasChance at h
  refine j_lconst (0 : Int64) dX1_hasChance_0 (by decide) ?_
  refine j_lstore [(6, .long (0 : Int64)), (0, .ref (ad (gm κ) 95)), (1, .int a1), (2, .int a2), (3, .int a3), (4, .int a4), (5, .int a5)] dX1_hasChance_1 (by decide) rfl ?_
  refine j_iload 5 dX1_hasChance_3 rfl ?_
  refine j_istore [(8, .int a4), (6, .long (0 : Int64)), (0, .ref (ad (gm κ) 95)), (1, .int a1), (2, .int a2), (3, .int a3), (4, .int a4), (5, .int a5)] dX1_hasChance_5 (by decide) rfl ?_
  refine j_loc [(0, .ref (ad (gm κ) 95)), (1, .int a1), (2, .int a2), (3, .int a3), (5, .int a5), (6, .long (0 : Int64)), (8, .int a4)] [2, 3, 4, 5, 7, 1, 0] rfl ?_
  refine t_X1_hasChance_b7 a1 a2 a3 a5 w (fun e5 h => ?_) ((0 : Int64), a4) (ok_bb h)
  · refine j_ldc2 cl_RX1_19 dX1_hasChance_44 ?_
    refine j_lload 3 dX1_hasChance_47 rfl ?_
    refine j_lmul dX1_hasChance_49 ?_
    refine j_aload_n 0 dX1_hasChance_50 rfl rfl ?_
    refine j_iload_n 1 dX1_hasChance_51 rfl rfl ?_
    refine j_iload_n 2 dX1_hasChance_52 rfl rfl ?_
    obtain ⟨q6, e7, h⟩ := ok_b h
    refine j_callV (As := [.int a1, .int a3]) (st := [.long ((20 : Int64) * e5)]) [.long q6, .long ((20 : Int64) * e5)] (c_X1_choose (kl κ) (gm κ) (kA κ) a1 a3 w q6 e7) ck_RX1_15 im_X1_choose se_X1_choose sh_95 cx_1 ⟨rfl, rfl⟩ ⟨by decide, by decide⟩ rfl rfl (Nat.le_of_ble_eq_true rfl) dX1_hasChance_53 _ rfl ?_
    refine j_lcmp dX1_hasChance_56 ?_
    refine j_if_le 64 dX1_hasChance_57 (by decide) h (fun h => ?_) (fun h => ?_)
    · refine j_iconst (0 : Int32) dX1_hasChance_64 ki_0 ?_
      have h := ok_s h
      exact j_iret dX1_hasChance_65 rfl (by decide) h
    · refine j_iconst (1 : Int32) dX1_hasChance_60 ki_1 ?_
      refine j_goto 65 dX1_hasChance_61 (by decide) ?_
      have h := ok_s h
      exact j_iret dX1_hasChance_65 rfl (by decide) h
theorem c_X1_hasChance (l : Launch) (γ : Gm) (A : Nat → Prop) (a1 : Int32) (a2 : Int32) (a3 : Int32) (a4 : Int32) (a5 : Int32) (w : Wd) (q : Int32) (e : X1_hasChance  a1 a2 a3 a4 a5 w = some q) : MetG l γ A yX1_hasChance cX1_hasChance 9 (some .boolean) (rmk 1 22) [.ref (ad (γ) 95), .int a1, .int a2, .int a3, .int a4, .int a5] w (some (.int q)) w := by
  refine met_of pn_RX1 (Nat.le_of_ble_eq_true rfl) ?_
  intro κ hl hγ hA hρ
  subst hl; subst hγ; subst hA
  exact t_X1_hasChance   a1 a2 a3 a4 a5 w ⟨q, e, pI hρ rfl rfl⟩
theorem dX1_low_0 : decode cX1_low 0 = .ok (.iconst 0, 1) := by decide +kernel
theorem dX1_low_1 : decode cX1_low 1 = .ok (.istore 4, 2) := by decide +kernel
theorem dX1_low_3 : decode cX1_low 3 = .ok (.iload 4, 2) := by decide +kernel
theorem dX1_low_5 : decode cX1_low 5 = .ok (.iload_n 1, 1) := by decide +kernel
theorem dX1_low_6 : decode cX1_low 6 = .ok (.if_icmp .ge 22, 3) := by decide +kernel
theorem dX1_low_9 : decode cX1_low 9 = .ok (.aload_n 0, 1) := by decide +kernel
theorem dX1_low_10 : decode cX1_low 10 = .ok (.iload_n 1, 1) := by decide +kernel
theorem dX1_low_11 : decode cX1_low 11 = .ok (.iload 4, 2) := by decide +kernel
theorem dX1_low_13 : decode cX1_low 13 = .ok (.iload_n 2, 1) := by decide +kernel
theorem dX1_low_14 : decode cX1_low 14 = .ok (.iload_n 3, 1) := by decide +kernel
theorem dX1_low_15 : decode cX1_low 15 = .ok (.iload_n 2, 1) := by decide +kernel
theorem dX1_low_16 : decode cX1_low 16 = .ok (.invokevirtual 21, 3) := by decide +kernel
theorem dX1_low_19 : decode cX1_low 19 = .ok (.ifCond .ne 9, 3) := by decide +kernel
theorem dX1_low_22 : decode cX1_low 22 = .ok (.iinc 4 1, 3) := by decide +kernel
theorem dX1_low_25 : decode cX1_low 25 = .ok (.goto (-22), 3) := by decide +kernel
theorem dX1_low_28 : decode cX1_low 28 = .ok (.iload 4, 2) := by decide +kernel
theorem dX1_low_30 : decode cX1_low 30 = .ok (.ireturn, 1) := by decide +kernel
noncomputable def X1_low_b3 (a1 : Int32) (a2 : Int32) (a3 : Int32) (w : Wd) (s : Int32) : Option (Int32 ⊕ Int32) :=
(if a1 ≤ s then
some (.inr s)
else
(X1_hasChance a1 s a2 a3 a2 w).bind fun q1 =>
(if q1 = 0 then
some (.inl (s + (1 : Int32)))
else
some (.inr s)))
set_option maxRecDepth 20000 in
set_option maxHeartbeats 1000000 in
theorem t_X1_low_b3 {κ : Kx} (a1 : Int32) (a2 : Int32) (a3 : Int32) (w : Wd) {P : Int32 → Prop} (K0 : ∀ e, P e → J κ RX1 cX1_low 5 (some .int) (rmk 2 50) 28 [(4, .int e)] [] w) (s : Int32) (h : ok (lp (X1_low_b3  a1 a2 a3 w) s) P) : J κ RX1 cX1_low 5 (some .int) (rmk 2 50) 3 [(0, .ref (ad (gm κ) 95)), (1, .int a1), (2, .int a2), (3, .int a3), (4, .int s)] [] w := by
  refine lp_ind (fun s => J κ RX1 cX1_low 5 (some .int) (rmk 2 50) 3 [(0, .ref (ad (gm κ) 95)), (1, .int a1), (2, .int a2), (3, .int a3), (4, .int s)] [] w) (fun s h => ?_) s h
  unfold X1_low_b3 at h
  refine j_iload 4 dX1_low_3 rfl ?_
  refine j_iload_n 1 dX1_low_5 rfl rfl ?_
  refine j_ic_ge 28 dX1_low_6 (by decide) h (fun h => ?_) (fun h => ?_)
  · refine j_loc [(4, .int s)] [4] rfl ?_
    have h := sel_r h
    have h := K0 _ h
    exact h
  · refine j_aload_n 0 dX1_low_9 rfl rfl ?_
    refine j_iload_n 1 dX1_low_10 rfl rfl ?_
    refine j_iload 4 dX1_low_11 rfl ?_
    refine j_iload_n 2 dX1_low_13 rfl rfl ?_
    refine j_iload_n 3 dX1_low_14 rfl rfl ?_
    refine j_iload_n 2 dX1_low_15 rfl rfl ?_
    obtain ⟨q1, e2, h⟩ := ok_b h
    refine j_callV (As := [.int a1, .int s, .int a2, .int a3, .int a2]) (st := []) [.int q1] (c_X1_hasChance (kl κ) (gm κ) (kA κ) a1 s a2 a3 a2 w q1 e2) ck_RX1_21 im_X1_hasChance se_X1_hasChance sh_95 cx_1 ⟨rfl, rfl⟩ ⟨by decide, by decide⟩ rfl rfl (Nat.le_of_ble_eq_true rfl) dX1_low_16 _ rfl ?_
    refine j_if_ne 28 dX1_low_19 (by decide) h (fun h => ?_) (fun h => ?_)
    · refine j_loc [(4, .int s)] [4] rfl ?_
      have h := sel_r h
      have h := K0 _ h
      exact h
    · refine j_iinc (s + (1 : Int32)) 4 [(4, .int (s + (1 : Int32))), (0, .ref (ad (gm κ) 95)), (1, .int a1), (2, .int a2), (3, .int a3)] dX1_low_22 rfl (by rw [kn_1]) (by decide) rfl ?_
      refine j_goto 3 dX1_low_25 (by decide) ?_
      refine j_loc [(0, .ref (ad (gm κ) 95)), (1, .int a1), (2, .int a2), (3, .int a3), (4, .int (s + (1 : Int32)))] [1, 2, 3, 4, 0] rfl ?_
      have h := sel_l h
      exact h
noncomputable def X1_low (a1 : Int32) (a2 : Int32) (a3 : Int32) (w : Wd) : Option (Int32) :=
(lp (X1_low_b3 a1 a2 a3 w) (0 : Int32)).bind fun e3 =>
some e3
set_option maxRecDepth 20000 in
set_option maxHeartbeats 1000000 in
theorem t_X1_low {κ : Kx} (a1 : Int32) (a2 : Int32) (a3 : Int32) (w : Wd) (h : ok (X1_low  a1 a2 a3 w) (PI κ w)) : J κ RX1 cX1_low 5 (some .int) (rmk 2 50) 0 [(0, .ref (ad (gm κ) 95)), (1, .int a1), (2, .int a2), (3, .int a3)] [] w := by
  unfold X1_low at h
  refine j_iconst (0 : Int32) dX1_low_0 ki_0 ?_
  refine j_istore [(4, .int (0 : Int32)), (0, .ref (ad (gm κ) 95)), (1, .int a1), (2, .int a2), (3, .int a3)] dX1_low_1 (by decide) rfl ?_
  refine j_loc [(0, .ref (ad (gm κ) 95)), (1, .int a1), (2, .int a2), (3, .int a3), (4, .int (0 : Int32))] [1, 2, 3, 4, 0] rfl ?_
  refine t_X1_low_b3 a1 a2 a3 w (fun e3 h => ?_) (0 : Int32) (ok_bb h)
  · refine j_iload 0 dX1_low_28 rfl ?_
    have h := ok_s h
    exact j_iret dX1_low_30 rfl rfl h
theorem c_X1_low (l : Launch) (γ : Gm) (A : Nat → Prop) (a1 : Int32) (a2 : Int32) (a3 : Int32) (w : Wd) (q : Int32) (e : X1_low  a1 a2 a3 w = some q) : MetG l γ A yX1_low cX1_low 5 (some .int) (rmk 2 50) [.ref (ad (γ) 95), .int a1, .int a2, .int a3] w (some (.int q)) w := by
  refine met_of pn_RX1 (Nat.le_of_ble_eq_true rfl) ?_
  intro κ hl hγ hA hρ
  subst hl; subst hγ; subst hA
  exact t_X1_low   a1 a2 a3 w ⟨q, e, pI hρ rfl rfl⟩
theorem dX1_high_0 : decode cX1_high 0 = .ok (.iload_n 1, 1) := by decide +kernel
theorem dX1_high_1 : decode cX1_high 1 = .ok (.istore 4, 2) := by decide +kernel
theorem dX1_high_3 : decode cX1_high 3 = .ok (.iload 4, 2) := by decide +kernel
theorem dX1_high_5 : decode cX1_high 5 = .ok (.ifCond .le 22, 3) := by decide +kernel
theorem dX1_high_8 : decode cX1_high 8 = .ok (.aload_n 0, 1) := by decide +kernel
theorem dX1_high_9 : decode cX1_high 9 = .ok (.iload_n 1, 1) := by decide +kernel
theorem dX1_high_10 : decode cX1_high 10 = .ok (.iload 4, 2) := by decide +kernel
theorem dX1_high_12 : decode cX1_high 12 = .ok (.iload_n 2, 1) := by decide +kernel
theorem dX1_high_13 : decode cX1_high 13 = .ok (.iconst 0, 1) := by decide +kernel
theorem dX1_high_14 : decode cX1_high 14 = .ok (.iload_n 3, 1) := by decide +kernel
theorem dX1_high_15 : decode cX1_high 15 = .ok (.invokevirtual 21, 3) := by decide +kernel
theorem dX1_high_18 : decode cX1_high 18 = .ok (.ifCond .ne 9, 3) := by decide +kernel
theorem dX1_high_21 : decode cX1_high 21 = .ok (.iinc 4 (-1), 3) := by decide +kernel
theorem dX1_high_24 : decode cX1_high 24 = .ok (.goto (-21), 3) := by decide +kernel
theorem dX1_high_27 : decode cX1_high 27 = .ok (.iload 4, 2) := by decide +kernel
theorem dX1_high_29 : decode cX1_high 29 = .ok (.ireturn, 1) := by decide +kernel
noncomputable def X1_high_b3 (a1 : Int32) (a2 : Int32) (a3 : Int32) (w : Wd) (s : Int32) : Option (Int32 ⊕ Int32) :=
(if s ≤ 0 then
some (.inr s)
else
(X1_hasChance a1 s a2 (0 : Int32) a3 w).bind fun q1 =>
(if q1 = 0 then
some (.inl (s + (-1 : Int32)))
else
some (.inr s)))
set_option maxRecDepth 20000 in
set_option maxHeartbeats 1000000 in
theorem t_X1_high_b3 {κ : Kx} (a1 : Int32) (a2 : Int32) (a3 : Int32) (w : Wd) {P : Int32 → Prop} (K0 : ∀ e, P e → J κ RX1 cX1_high 5 (some .int) (rmk 2 50) 27 [(4, .int e)] [] w) (s : Int32) (h : ok (lp (X1_high_b3  a1 a2 a3 w) s) P) : J κ RX1 cX1_high 5 (some .int) (rmk 2 50) 3 [(0, .ref (ad (gm κ) 95)), (1, .int a1), (2, .int a2), (3, .int a3), (4, .int s)] [] w := by
  refine lp_ind (fun s => J κ RX1 cX1_high 5 (some .int) (rmk 2 50) 3 [(0, .ref (ad (gm κ) 95)), (1, .int a1), (2, .int a2), (3, .int a3), (4, .int s)] [] w) (fun s h => ?_) s h
  unfold X1_high_b3 at h
  refine j_iload 4 dX1_high_3 rfl ?_
  refine j_if_le 27 dX1_high_5 (by decide) h (fun h => ?_) (fun h => ?_)
  · refine j_loc [(4, .int s)] [4] rfl ?_
    have h := sel_r h
    have h := K0 _ h
    exact h
  · refine j_aload_n 0 dX1_high_8 rfl rfl ?_
    refine j_iload_n 1 dX1_high_9 rfl rfl ?_
    refine j_iload 4 dX1_high_10 rfl ?_
    refine j_iload_n 2 dX1_high_12 rfl rfl ?_
    refine j_iconst (0 : Int32) dX1_high_13 ki_0 ?_
    refine j_iload_n 3 dX1_high_14 rfl rfl ?_
    obtain ⟨q1, e2, h⟩ := ok_b h
    refine j_callV (As := [.int a1, .int s, .int a2, .int (0 : Int32), .int a3]) (st := []) [.int q1] (c_X1_hasChance (kl κ) (gm κ) (kA κ) a1 s a2 (0 : Int32) a3 w q1 e2) ck_RX1_21 im_X1_hasChance se_X1_hasChance sh_95 cx_1 ⟨rfl, rfl⟩ ⟨by decide, by decide⟩ rfl rfl (Nat.le_of_ble_eq_true rfl) dX1_high_15 _ rfl ?_
    refine j_if_ne 27 dX1_high_18 (by decide) h (fun h => ?_) (fun h => ?_)
    · refine j_loc [(4, .int s)] [4] rfl ?_
      have h := sel_r h
      have h := K0 _ h
      exact h
    · refine j_iinc (s + (-1 : Int32)) 4 [(4, .int (s + (-1 : Int32))), (0, .ref (ad (gm κ) 95)), (1, .int a1), (2, .int a2), (3, .int a3)] dX1_high_21 rfl (by rw [kn_m1]) (by decide) rfl ?_
      refine j_goto 3 dX1_high_24 (by decide) ?_
      refine j_loc [(0, .ref (ad (gm κ) 95)), (1, .int a1), (2, .int a2), (3, .int a3), (4, .int (s + (-1 : Int32)))] [1, 2, 3, 4, 0] rfl ?_
      have h := sel_l h
      exact h
noncomputable def X1_high (a1 : Int32) (a2 : Int32) (a3 : Int32) (w : Wd) : Option (Int32) :=
(lp (X1_high_b3 a1 a2 a3 w) a1).bind fun e3 =>
some e3
set_option maxRecDepth 20000 in
set_option maxHeartbeats 1000000 in
theorem t_X1_high {κ : Kx} (a1 : Int32) (a2 : Int32) (a3 : Int32) (w : Wd) (h : ok (X1_high  a1 a2 a3 w) (PI κ w)) : J κ RX1 cX1_high 5 (some .int) (rmk 2 50) 0 [(0, .ref (ad (gm κ) 95)), (1, .int a1), (2, .int a2), (3, .int a3)] [] w := by
  unfold X1_high at h
  refine j_iload_n 1 dX1_high_0 rfl rfl ?_
  refine j_istore [(4, .int a1), (0, .ref (ad (gm κ) 95)), (1, .int a1), (2, .int a2), (3, .int a3)] dX1_high_1 (by decide) rfl ?_
  refine j_loc [(0, .ref (ad (gm κ) 95)), (1, .int a1), (2, .int a2), (3, .int a3), (4, .int a1)] [1, 2, 3, 4, 0] rfl ?_
  refine t_X1_high_b3 a1 a2 a3 w (fun e3 h => ?_) a1 (ok_bb h)
  · refine j_iload 0 dX1_high_27 rfl ?_
    have h := ok_s h
    exact j_iret dX1_high_29 rfl rfl h
theorem c_X1_high (l : Launch) (γ : Gm) (A : Nat → Prop) (a1 : Int32) (a2 : Int32) (a3 : Int32) (w : Wd) (q : Int32) (e : X1_high  a1 a2 a3 w = some q) : MetG l γ A yX1_high cX1_high 5 (some .int) (rmk 2 50) [.ref (ad (γ) 95), .int a1, .int a2, .int a3] w (some (.int q)) w := by
  refine met_of pn_RX1 (Nat.le_of_ble_eq_true rfl) ?_
  intro κ hl hγ hA hρ
  subst hl; subst hγ; subst hA
  exact t_X1_high   a1 a2 a3 w ⟨q, e, pI hρ rfl rfl⟩
theorem dX11_within_0 : decode cX11_within 0 = .ok (.iload_n 0, 1) := by decide +kernel
theorem dX11_within_1 : decode cX11_within 1 = .ok (.iload_n 1, 1) := by decide +kernel
theorem dX11_within_2 : decode cX11_within 2 = .ok (.if_icmp .lt 12, 3) := by decide +kernel
theorem dX11_within_5 : decode cX11_within 5 = .ok (.iload_n 0, 1) := by decide +kernel
theorem dX11_within_6 : decode cX11_within 6 = .ok (.iload_n 2, 1) := by decide +kernel
theorem dX11_within_7 : decode cX11_within 7 = .ok (.if_icmp .gt 7, 3) := by decide +kernel
theorem dX11_within_10 : decode cX11_within 10 = .ok (.iconst 1, 1) := by decide +kernel
theorem dX11_within_11 : decode cX11_within 11 = .ok (.goto 4, 3) := by decide +kernel
theorem dX11_within_14 : decode cX11_within 14 = .ok (.iconst 0, 1) := by decide +kernel
theorem dX11_within_15 : decode cX11_within 15 = .ok (.ireturn, 1) := by decide +kernel
noncomputable def X11_withinO (a0 : Int32) (a1 : Int32) (a2 : Int32) (w : Wd) : Option (Int32) :=
(if a0 < a1 then
some (0 : Int32)
else
(if a2 < a0 then
some (0 : Int32)
else
some (1 : Int32)))
set_option maxRecDepth 20000 in
set_option maxHeartbeats 1000000 in
theorem t_X11_within {κ : Kx} (a0 : Int32) (a1 : Int32) (a2 : Int32) (w : Wd) (h : ok (X11_withinO  a0 a1 a2 w) (PI κ w)) : J κ RX11 cX11_within 3 (some .boolean) (rmk 0 0) 0 [(0, .int a0), (1, .int a1), (2, .int a2)] [] w := by
  unfold X11_withinO at h
  refine j_iload_n 0 dX11_within_0 rfl rfl ?_
  refine j_iload_n 1 dX11_within_1 rfl rfl ?_
  refine j_ic_lt 14 dX11_within_2 (by decide) h (fun h => ?_) (fun h => ?_)
  · refine j_iconst (0 : Int32) dX11_within_14 ki_0 ?_
    have h := ok_s h
    exact j_iret dX11_within_15 rfl (by decide) h
  · refine j_iload_n 0 dX11_within_5 rfl rfl ?_
    refine j_iload_n 2 dX11_within_6 rfl rfl ?_
    refine j_ic_gt 14 dX11_within_7 (by decide) h (fun h => ?_) (fun h => ?_)
    · refine j_iconst (0 : Int32) dX11_within_14 ki_0 ?_
      have h := ok_s h
      exact j_iret dX11_within_15 rfl (by decide) h
    · refine j_iconst (1 : Int32) dX11_within_10 ki_1 ?_
      refine j_goto 15 dX11_within_11 (by decide) ?_
      have h := ok_s h
      exact j_iret dX11_within_15 rfl (by decide) h
noncomputable def X11_within (a0 : Int32) (a1 : Int32) (a2 : Int32) (w : Wd) : Int32 := (X11_withinO  a0 a1 a2 w).getD 0
theorem X11_within_eq (a0 : Int32) (a1 : Int32) (a2 : Int32) (w : Wd) : X11_withinO  a0 a1 a2 w = some (X11_within  a0 a1 a2 w) := by
  unfold X11_within X11_withinO
  repeat (first | rfl | split)
theorem nz_X11_within (a0 : Int32) (a1 : Int32) (a2 : Int32) (w : Wd) : narrow .boolean (.int (X11_within  a0 a1 a2 w)) = .int (X11_within  a0 a1 a2 w) := by
  unfold X11_within X11_withinO
  repeat (first | rfl | split)
theorem c_X11_within (l : Launch) (γ : Gm) (A : Nat → Prop) (a0 : Int32) (a1 : Int32) (a2 : Int32) (w : Wd) : MetG l γ A yX11_within cX11_within 3 (some .boolean) (rmk 0 0) [.int a0, .int a1, .int a2] w (some (.int (X11_within  a0 a1 a2 w))) w := by
  refine met_of pn_RX11 (Nat.le_of_ble_eq_true rfl) ?_
  intro κ hl hγ hA hρ
  subst hl; subst hγ; subst hA
  exact t_X11_within   a0 a1 a2 w ⟨_, X11_within_eq  a0 a1 a2 w, pI hρ rfl rfl⟩
theorem dX2_isPlace_0 : decode cX2_isPlace 0 = .ok (.iload_n 1, 1) := by decide +kernel
theorem dX2_isPlace_1 : decode cX2_isPlace 1 = .ok (.iconst 0, 1) := by decide +kernel
theorem dX2_isPlace_2 : decode cX2_isPlace 2 = .ok (.aload_n 0, 1) := by decide +kernel
theorem dX2_isPlace_3 : decode cX2_isPlace 3 = .ok (.getfield 51, 3) := by decide +kernel
theorem dX2_isPlace_6 : decode cX2_isPlace 6 = .ok (.iconst 1, 1) := by decide +kernel
theorem dX2_isPlace_7 : decode cX2_isPlace 7 = .ok (.isub, 1) := by decide +kernel
theorem dX2_isPlace_8 : decode cX2_isPlace 8 = .ok (.invokestatic 55, 3) := by decide +kernel
theorem dX2_isPlace_11 : decode cX2_isPlace 11 = .ok (.ireturn, 1) := by decide +kernel
noncomputable def X2_isPlaceO (a1 : Int32) (w : Wd) : Option (Int32) :=
some (X11_within a1 (0 : Int32) ((w.1 5 0) - (1 : Int32)) w)
set_option maxRecDepth 20000 in
set_option maxHeartbeats 1000000 in
theorem t_X2_isPlace {κ : Kx} (a1 : Int32) (w : Wd) (h : ok (X2_isPlaceO  a1 w) (PI κ w)) : J κ RX2 cX2_isPlace 2 (some .boolean) (rmk 1 22) 0 [(0, .ref (ad (gm κ) 5)), (1, .int a1)] [] w := by
  unfold X2_isPlaceO at h
  refine j_iload_n 1 dX2_isPlace_0 rfl rfl ?_
  refine j_iconst (0 : Int32) dX2_isPlace_1 ki_0 ?_
  refine j_aload_n 0 dX2_isPlace_2 rfl rfl ?_
  refine j_getI fl_RX2_51 sh_5 fk_5_0 dX2_isPlace_3 ?_
  refine j_iconst (1 : Int32) dX2_isPlace_6 ki_1 ?_
  refine j_isub dX2_isPlace_7 ?_
  refine j_callS (As := [.int a1, .int (0 : Int32), .int ((w.1 5 0) - (1 : Int32))]) (st := []) [.int (X11_within a1 (0 : Int32) ((w.1 5 0) - (1 : Int32)) w)] (c_X11_within (kl κ) (gm κ) (kA κ) a1 (0 : Int32) ((w.1 5 0) - (1 : Int32)) w) ck_RX2_55 st_X11_within ⟨rfl, rfl⟩ ⟨by decide, by decide⟩ rfl rfl (Nat.le_of_ble_eq_true rfl) dX2_isPlace_8 _ rfl ?_
  have h := ok_s h
  exact j_iret dX2_isPlace_11 rfl (nz_X11_within _ _ _ _) h
noncomputable def X2_isPlace (a1 : Int32) (w : Wd) : Int32 := (X2_isPlaceO  a1 w).getD 0
theorem X2_isPlace_eq (a1 : Int32) (w : Wd) : X2_isPlaceO  a1 w = some (X2_isPlace  a1 w) := by
  unfold X2_isPlace X2_isPlaceO
  repeat (first | rfl | split)
theorem nz_X2_isPlace (a1 : Int32) (w : Wd) : narrow .boolean (.int (X2_isPlace  a1 w)) = .int (X2_isPlace  a1 w) := by
  unfold X2_isPlace X2_isPlaceO
  repeat (first | rfl | split | exact nz_X11_within _ _ _ _)
theorem c_X2_isPlace (l : Launch) (γ : Gm) (A : Nat → Prop) (a1 : Int32) (w : Wd) : MetG l γ A yX2_isPlace cX2_isPlace 2 (some .boolean) (rmk 1 22) [.ref (ad (γ) 5), .int a1] w (some (.int (X2_isPlace  a1 w))) w := by
  refine met_of pn_RX2 (Nat.le_of_ble_eq_true rfl) ?_
  intro κ hl hγ hA hρ
  subst hl; subst hγ; subst hA
  exact t_X2_isPlace   a1 w ⟨_, X2_isPlace_eq  a1 w, pI hρ rfl rfl⟩
theorem dX2_isLearner_0 : decode cX2_isLearner 0 = .ok (.iload_n 1, 1) := by decide +kernel
theorem dX2_isLearner_1 : decode cX2_isLearner 1 = .ok (.iconst 0, 1) := by decide +kernel
theorem dX2_isLearner_2 : decode cX2_isLearner 2 = .ok (.aload_n 0, 1) := by decide +kernel
theorem dX2_isLearner_3 : decode cX2_isLearner 3 = .ok (.getfield 59, 3) := by decide +kernel
theorem dX2_isLearner_6 : decode cX2_isLearner 6 = .ok (.iconst 1, 1) := by decide +kernel
theorem dX2_isLearner_7 : decode cX2_isLearner 7 = .ok (.isub, 1) := by decide +kernel
theorem dX2_isLearner_8 : decode cX2_isLearner 8 = .ok (.invokestatic 55, 3) := by decide +kernel
theorem dX2_isLearner_11 : decode cX2_isLearner 11 = .ok (.ireturn, 1) := by decide +kernel
noncomputable def X2_isLearnerO (a1 : Int32) (w : Wd) : Option (Int32) :=
some (X11_within a1 (0 : Int32) ((w.1 5 8) - (1 : Int32)) w)
set_option maxRecDepth 20000 in
set_option maxHeartbeats 1000000 in
theorem t_X2_isLearner {κ : Kx} (a1 : Int32) (w : Wd) (h : ok (X2_isLearnerO  a1 w) (PI κ w)) : J κ RX2 cX2_isLearner 2 (some .boolean) (rmk 1 22) 0 [(0, .ref (ad (gm κ) 5)), (1, .int a1)] [] w := by
  unfold X2_isLearnerO at h
  refine j_iload_n 1 dX2_isLearner_0 rfl rfl ?_
  refine j_iconst (0 : Int32) dX2_isLearner_1 ki_0 ?_
  refine j_aload_n 0 dX2_isLearner_2 rfl rfl ?_
  refine j_getI fl_RX2_59 sh_5 fk_5_8 dX2_isLearner_3 ?_
  refine j_iconst (1 : Int32) dX2_isLearner_6 ki_1 ?_
  refine j_isub dX2_isLearner_7 ?_
  refine j_callS (As := [.int a1, .int (0 : Int32), .int ((w.1 5 8) - (1 : Int32))]) (st := []) [.int (X11_within a1 (0 : Int32) ((w.1 5 8) - (1 : Int32)) w)] (c_X11_within (kl κ) (gm κ) (kA κ) a1 (0 : Int32) ((w.1 5 8) - (1 : Int32)) w) ck_RX2_55 st_X11_within ⟨rfl, rfl⟩ ⟨by decide, by decide⟩ rfl rfl (Nat.le_of_ble_eq_true rfl) dX2_isLearner_8 _ rfl ?_
  have h := ok_s h
  exact j_iret dX2_isLearner_11 rfl (nz_X11_within _ _ _ _) h
noncomputable def X2_isLearner (a1 : Int32) (w : Wd) : Int32 := (X2_isLearnerO  a1 w).getD 0
theorem X2_isLearner_eq (a1 : Int32) (w : Wd) : X2_isLearnerO  a1 w = some (X2_isLearner  a1 w) := by
  unfold X2_isLearner X2_isLearnerO
  repeat (first | rfl | split)
theorem nz_X2_isLearner (a1 : Int32) (w : Wd) : narrow .boolean (.int (X2_isLearner  a1 w)) = .int (X2_isLearner  a1 w) := by
  unfold X2_isLearner X2_isLearnerO
  repeat (first | rfl | split | exact nz_X11_within _ _ _ _)
theorem c_X2_isLearner (l : Launch) (γ : Gm) (A : Nat → Prop) (a1 : Int32) (w : Wd) : MetG l γ A yX2_isLearner cX2_isLearner 2 (some .boolean) (rmk 1 22) [.ref (ad (γ) 5), .int a1] w (some (.int (X2_isLearner  a1 w))) w := by
  refine met_of pn_RX2 (Nat.le_of_ble_eq_true rfl) ?_
  intro κ hl hγ hA hρ
  subst hl; subst hγ; subst hA
  exact t_X2_isLearner   a1 w ⟨_, X2_isLearner_eq  a1 w, pI hρ rfl rfl⟩
theorem dX2_isTeacher_0 : decode cX2_isTeacher 0 = .ok (.iload_n 1, 1) := by decide +kernel
theorem dX2_isTeacher_1 : decode cX2_isTeacher 1 = .ok (.iconst 0, 1) := by decide +kernel
theorem dX2_isTeacher_2 : decode cX2_isTeacher 2 = .ok (.aload_n 0, 1) := by decide +kernel
theorem dX2_isTeacher_3 : decode cX2_isTeacher 3 = .ok (.getfield 62, 3) := by decide +kernel
theorem dX2_isTeacher_6 : decode cX2_isTeacher 6 = .ok (.iconst 1, 1) := by decide +kernel
theorem dX2_isTeacher_7 : decode cX2_isTeacher 7 = .ok (.isub, 1) := by decide +kernel
theorem dX2_isTeacher_8 : decode cX2_isTeacher 8 = .ok (.invokestatic 55, 3) := by decide +kernel
theorem dX2_isTeacher_11 : decode cX2_isTeacher 11 = .ok (.ireturn, 1) := by decide +kernel
noncomputable def X2_isTeacherO (a1 : Int32) (w : Wd) : Option (Int32) :=
some (X11_within a1 (0 : Int32) ((w.1 5 12) - (1 : Int32)) w)
set_option maxRecDepth 20000 in
set_option maxHeartbeats 1000000 in
theorem t_X2_isTeacher {κ : Kx} (a1 : Int32) (w : Wd) (h : ok (X2_isTeacherO  a1 w) (PI κ w)) : J κ RX2 cX2_isTeacher 2 (some .boolean) (rmk 1 22) 0 [(0, .ref (ad (gm κ) 5)), (1, .int a1)] [] w := by
  unfold X2_isTeacherO at h
  refine j_iload_n 1 dX2_isTeacher_0 rfl rfl ?_
  refine j_iconst (0 : Int32) dX2_isTeacher_1 ki_0 ?_
  refine j_aload_n 0 dX2_isTeacher_2 rfl rfl ?_
  refine j_getI fl_RX2_62 sh_5 fk_5_12 dX2_isTeacher_3 ?_
  refine j_iconst (1 : Int32) dX2_isTeacher_6 ki_1 ?_
  refine j_isub dX2_isTeacher_7 ?_
  refine j_callS (As := [.int a1, .int (0 : Int32), .int ((w.1 5 12) - (1 : Int32))]) (st := []) [.int (X11_within a1 (0 : Int32) ((w.1 5 12) - (1 : Int32)) w)] (c_X11_within (kl κ) (gm κ) (kA κ) a1 (0 : Int32) ((w.1 5 12) - (1 : Int32)) w) ck_RX2_55 st_X11_within ⟨rfl, rfl⟩ ⟨by decide, by decide⟩ rfl rfl (Nat.le_of_ble_eq_true rfl) dX2_isTeacher_8 _ rfl ?_
  have h := ok_s h
  exact j_iret dX2_isTeacher_11 rfl (nz_X11_within _ _ _ _) h
noncomputable def X2_isTeacher (a1 : Int32) (w : Wd) : Int32 := (X2_isTeacherO  a1 w).getD 0
theorem X2_isTeacher_eq (a1 : Int32) (w : Wd) : X2_isTeacherO  a1 w = some (X2_isTeacher  a1 w) := by
  unfold X2_isTeacher X2_isTeacherO
  repeat (first | rfl | split)
theorem nz_X2_isTeacher (a1 : Int32) (w : Wd) : narrow .boolean (.int (X2_isTeacher  a1 w)) = .int (X2_isTeacher  a1 w) := by
  unfold X2_isTeacher X2_isTeacherO
  repeat (first | rfl | split | exact nz_X11_within _ _ _ _)
theorem c_X2_isTeacher (l : Launch) (γ : Gm) (A : Nat → Prop) (a1 : Int32) (w : Wd) : MetG l γ A yX2_isTeacher cX2_isTeacher 2 (some .boolean) (rmk 1 22) [.ref (ad (γ) 5), .int a1] w (some (.int (X2_isTeacher  a1 w))) w := by
  refine met_of pn_RX2 (Nat.le_of_ble_eq_true rfl) ?_
  intro κ hl hγ hA hρ
  subst hl; subst hγ; subst hA
  exact t_X2_isTeacher   a1 w ⟨_, X2_isTeacher_eq  a1 w, pI hρ rfl rfl⟩
theorem dX2_isLamp_0 : decode cX2_isLamp 0 = .ok (.iload_n 1, 1) := by decide +kernel
theorem dX2_isLamp_1 : decode cX2_isLamp 1 = .ok (.iconst 0, 1) := by decide +kernel
theorem dX2_isLamp_2 : decode cX2_isLamp 2 = .ok (.aload_n 0, 1) := by decide +kernel
theorem dX2_isLamp_3 : decode cX2_isLamp 3 = .ok (.getfield 65, 3) := by decide +kernel
theorem dX2_isLamp_6 : decode cX2_isLamp 6 = .ok (.iconst 1, 1) := by decide +kernel
theorem dX2_isLamp_7 : decode cX2_isLamp 7 = .ok (.isub, 1) := by decide +kernel
theorem dX2_isLamp_8 : decode cX2_isLamp 8 = .ok (.invokestatic 55, 3) := by decide +kernel
theorem dX2_isLamp_11 : decode cX2_isLamp 11 = .ok (.ireturn, 1) := by decide +kernel
noncomputable def X2_isLampO (a1 : Int32) (w : Wd) : Option (Int32) :=
some (X11_within a1 (0 : Int32) ((w.1 5 15) - (1 : Int32)) w)
set_option maxRecDepth 20000 in
set_option maxHeartbeats 1000000 in
theorem t_X2_isLamp {κ : Kx} (a1 : Int32) (w : Wd) (h : ok (X2_isLampO  a1 w) (PI κ w)) : J κ RX2 cX2_isLamp 2 (some .boolean) (rmk 1 22) 0 [(0, .ref (ad (gm κ) 5)), (1, .int a1)] [] w := by
  unfold X2_isLampO at h
  refine j_iload_n 1 dX2_isLamp_0 rfl rfl ?_
  refine j_iconst (0 : Int32) dX2_isLamp_1 ki_0 ?_
  refine j_aload_n 0 dX2_isLamp_2 rfl rfl ?_
  refine j_getI fl_RX2_65 sh_5 fk_5_15 dX2_isLamp_3 ?_
  refine j_iconst (1 : Int32) dX2_isLamp_6 ki_1 ?_
  refine j_isub dX2_isLamp_7 ?_
  refine j_callS (As := [.int a1, .int (0 : Int32), .int ((w.1 5 15) - (1 : Int32))]) (st := []) [.int (X11_within a1 (0 : Int32) ((w.1 5 15) - (1 : Int32)) w)] (c_X11_within (kl κ) (gm κ) (kA κ) a1 (0 : Int32) ((w.1 5 15) - (1 : Int32)) w) ck_RX2_55 st_X11_within ⟨rfl, rfl⟩ ⟨by decide, by decide⟩ rfl rfl (Nat.le_of_ble_eq_true rfl) dX2_isLamp_8 _ rfl ?_
  have h := ok_s h
  exact j_iret dX2_isLamp_11 rfl (nz_X11_within _ _ _ _) h
noncomputable def X2_isLamp (a1 : Int32) (w : Wd) : Int32 := (X2_isLampO  a1 w).getD 0
theorem X2_isLamp_eq (a1 : Int32) (w : Wd) : X2_isLampO  a1 w = some (X2_isLamp  a1 w) := by
  unfold X2_isLamp X2_isLampO
  repeat (first | rfl | split)
theorem nz_X2_isLamp (a1 : Int32) (w : Wd) : narrow .boolean (.int (X2_isLamp  a1 w)) = .int (X2_isLamp  a1 w) := by
  unfold X2_isLamp X2_isLampO
  repeat (first | rfl | split | exact nz_X11_within _ _ _ _)
theorem c_X2_isLamp (l : Launch) (γ : Gm) (A : Nat → Prop) (a1 : Int32) (w : Wd) : MetG l γ A yX2_isLamp cX2_isLamp 2 (some .boolean) (rmk 1 22) [.ref (ad (γ) 5), .int a1] w (some (.int (X2_isLamp  a1 w))) w := by
  refine met_of pn_RX2 (Nat.le_of_ble_eq_true rfl) ?_
  intro κ hl hγ hA hρ
  subst hl; subst hγ; subst hA
  exact t_X2_isLamp   a1 w ⟨_, X2_isLamp_eq  a1 w, pI hρ rfl rfl⟩
theorem dX2_addPlace_0 : decode cX2_addPlace 0 = .ok (.aload_n 0, 1) := by decide +kernel
theorem dX2_addPlace_1 : decode cX2_addPlace 1 = .ok (.getfield 9, 3) := by decide +kernel
theorem dX2_addPlace_4 : decode cX2_addPlace 4 = .ok (.aload_n 0, 1) := by decide +kernel
theorem dX2_addPlace_5 : decode cX2_addPlace 5 = .ok (.getfield 51, 3) := by decide +kernel
theorem dX2_addPlace_8 : decode cX2_addPlace 8 = .ok (.iload_n 1, 1) := by decide +kernel
theorem dX2_addPlace_9 : decode cX2_addPlace 9 = .ok (.iastore, 1) := by decide +kernel
theorem dX2_addPlace_10 : decode cX2_addPlace 10 = .ok (.aload_n 0, 1) := by decide +kernel
theorem dX2_addPlace_11 : decode cX2_addPlace 11 = .ok (.dup, 1) := by decide +kernel
theorem dX2_addPlace_12 : decode cX2_addPlace 12 = .ok (.getfield 51, 3) := by decide +kernel
theorem dX2_addPlace_15 : decode cX2_addPlace 15 = .ok (.dup_x1, 1) := by decide +kernel
theorem dX2_addPlace_16 : decode cX2_addPlace 16 = .ok (.iconst 1, 1) := by decide +kernel
theorem dX2_addPlace_17 : decode cX2_addPlace 17 = .ok (.iadd, 1) := by decide +kernel
theorem dX2_addPlace_18 : decode cX2_addPlace 18 = .ok (.putfield 51, 3) := by decide +kernel
theorem dX2_addPlace_21 : decode cX2_addPlace 21 = .ok (.ireturn, 1) := by decide +kernel
noncomputable def X2_addPlace (a1 : Int32) (w : Wd) : Option (Int32 × Wd) :=
gd (vp_in (w.1 5 0) 16) <|
(some (puI w 6 (ix (w.1 5 0)) a1)).bind fun w1 =>
(some (puI w1 5 0 ((w1.1 5 0) + (1 : Int32)))).bind fun w2 =>
some ((w1.1 5 0), w2)
set_option maxRecDepth 20000 in
set_option maxHeartbeats 1000000 in
theorem t_X2_addPlace {κ : Kx} (a1 : Int32) (w : Wd) (h : ok (X2_addPlace  a1 w) (PIw κ)) : J κ RX2 cX2_addPlace 2 (some .int) (rmk 0 0) 0 [(0, .ref (ad (gm κ) 5)), (1, .int a1)] [] w := by
  unfold X2_addPlace at h
  refine j_aload_n 0 dX2_addPlace_0 rfl rfl ?_
  refine j_getA 6 fl_RX2_9 sh_5 fk_5_1 (by decide) dX2_addPlace_1 ?_
  refine j_aload_n 0 dX2_addPlace_4 rfl rfl ?_
  refine j_getI fl_RX2_51 sh_5 fk_5_0 dX2_addPlace_5 ?_
  refine j_iload_n 1 dX2_addPlace_8 rfl rfl ?_
  refine j_iast sh_6 dX2_addPlace_9 h (fun h => ?_)
  refine j_lW h (fun w1 h => ?_)
  refine j_aload_n 0 dX2_addPlace_10 rfl rfl ?_
  refine j_dup dX2_addPlace_11 rfl ?_
  refine j_getI fl_RX2_51 sh_5 fk_5_0 dX2_addPlace_12 ?_
  refine j_dup_x1 dX2_addPlace_15 rfl rfl ?_
  refine j_iconst (1 : Int32) dX2_addPlace_16 ki_1 ?_
  refine j_iadd dX2_addPlace_17 ?_
  refine j_putI fp_RX2_51 sh_5 fk_5_0 dX2_addPlace_18 ?_
  refine j_lW h (fun w2 h => ?_)
  have h := ok_s h
  exact j_iret dX2_addPlace_21 rfl rfl h
theorem c_X2_addPlace (l : Launch) (γ : Gm) (A : Nat → Prop) (a1 : Int32) (w : Wd) (q : Int32 × Wd) (e : X2_addPlace  a1 w = some q) : MetG l γ A yX2_addPlace cX2_addPlace 2 (some .int) (rmk 0 0) [.ref (ad (γ) 5), .int a1] w (some (.int q.1)) q.2 := by
  refine met_of pn_RX2 (Nat.le_of_ble_eq_true rfl) ?_
  intro κ hl hγ hA hρ
  subst hl; subst hγ; subst hA
  exact t_X2_addPlace   a1 w ⟨q, e, pIw hρ rfl rfl⟩
theorem dX2_addWay_0 : decode cX2_addWay 0 = .ok (.aload_n 0, 1) := by decide +kernel
theorem dX2_addWay_1 : decode cX2_addWay 1 = .ok (.getfield 15, 3) := by decide +kernel
theorem dX2_addWay_4 : decode cX2_addWay 4 = .ok (.aload_n 0, 1) := by decide +kernel
theorem dX2_addWay_5 : decode cX2_addWay 5 = .ok (.getfield 68, 3) := by decide +kernel
theorem dX2_addWay_8 : decode cX2_addWay 8 = .ok (.iload_n 1, 1) := by decide +kernel
theorem dX2_addWay_9 : decode cX2_addWay 9 = .ok (.iastore, 1) := by decide +kernel
theorem dX2_addWay_10 : decode cX2_addWay 10 = .ok (.aload_n 0, 1) := by decide +kernel
theorem dX2_addWay_11 : decode cX2_addWay 11 = .ok (.getfield 18, 3) := by decide +kernel
theorem dX2_addWay_14 : decode cX2_addWay 14 = .ok (.aload_n 0, 1) := by decide +kernel
theorem dX2_addWay_15 : decode cX2_addWay 15 = .ok (.getfield 68, 3) := by decide +kernel
theorem dX2_addWay_18 : decode cX2_addWay 18 = .ok (.iload_n 2, 1) := by decide +kernel
theorem dX2_addWay_19 : decode cX2_addWay 19 = .ok (.iastore, 1) := by decide +kernel
theorem dX2_addWay_20 : decode cX2_addWay 20 = .ok (.aload_n 0, 1) := by decide +kernel
theorem dX2_addWay_21 : decode cX2_addWay 21 = .ok (.getfield 21, 3) := by decide +kernel
theorem dX2_addWay_24 : decode cX2_addWay 24 = .ok (.aload_n 0, 1) := by decide +kernel
theorem dX2_addWay_25 : decode cX2_addWay 25 = .ok (.getfield 68, 3) := by decide +kernel
theorem dX2_addWay_28 : decode cX2_addWay 28 = .ok (.iload_n 3, 1) := by decide +kernel
theorem dX2_addWay_29 : decode cX2_addWay 29 = .ok (.iastore, 1) := by decide +kernel
theorem dX2_addWay_30 : decode cX2_addWay 30 = .ok (.aload_n 0, 1) := by decide +kernel
theorem dX2_addWay_31 : decode cX2_addWay 31 = .ok (.getfield 24, 3) := by decide +kernel
theorem dX2_addWay_34 : decode cX2_addWay 34 = .ok (.aload_n 0, 1) := by decide +kernel
theorem dX2_addWay_35 : decode cX2_addWay 35 = .ok (.getfield 68, 3) := by decide +kernel
theorem dX2_addWay_38 : decode cX2_addWay 38 = .ok (.iload 4, 2) := by decide +kernel
theorem dX2_addWay_40 : decode cX2_addWay 40 = .ok (.iastore, 1) := by decide +kernel
theorem dX2_addWay_41 : decode cX2_addWay 41 = .ok (.aload_n 0, 1) := by decide +kernel
theorem dX2_addWay_42 : decode cX2_addWay 42 = .ok (.getfield 27, 3) := by decide +kernel
theorem dX2_addWay_45 : decode cX2_addWay 45 = .ok (.aload_n 0, 1) := by decide +kernel
theorem dX2_addWay_46 : decode cX2_addWay 46 = .ok (.getfield 68, 3) := by decide +kernel
theorem dX2_addWay_49 : decode cX2_addWay 49 = .ok (.iload 5, 2) := by decide +kernel
theorem dX2_addWay_51 : decode cX2_addWay 51 = .ok (.iastore, 1) := by decide +kernel
theorem dX2_addWay_52 : decode cX2_addWay 52 = .ok (.aload_n 0, 1) := by decide +kernel
theorem dX2_addWay_53 : decode cX2_addWay 53 = .ok (.dup, 1) := by decide +kernel
theorem dX2_addWay_54 : decode cX2_addWay 54 = .ok (.getfield 68, 3) := by decide +kernel
theorem dX2_addWay_57 : decode cX2_addWay 57 = .ok (.dup_x1, 1) := by decide +kernel
theorem dX2_addWay_58 : decode cX2_addWay 58 = .ok (.iconst 1, 1) := by decide +kernel
theorem dX2_addWay_59 : decode cX2_addWay 59 = .ok (.iadd, 1) := by decide +kernel
theorem dX2_addWay_60 : decode cX2_addWay 60 = .ok (.putfield 68, 3) := by decide +kernel
theorem dX2_addWay_63 : decode cX2_addWay 63 = .ok (.ireturn, 1) := by decide +kernel
noncomputable def X2_addWay (a1 : Int32) (a2 : Int32) (a3 : Int32) (a4 : Int32) (a5 : Int32) (w : Wd) : Option (Int32 × Wd) :=
gd (vp_in (w.1 5 2) 30) <|
(some (puI w 7 (ix (w.1 5 2)) a1)).bind fun w1 =>
gd (vp_in (w1.1 5 2) 30) <|
(some (puI w1 8 (ix (w1.1 5 2)) a2)).bind fun w2 =>
gd (vp_in (w2.1 5 2) 30) <|
(some (puI w2 9 (ix (w2.1 5 2)) a3)).bind fun w3 =>
gd (vp_in (w3.1 5 2) 30) <|
(some (puI w3 10 (ix (w3.1 5 2)) a4)).bind fun w4 =>
gd (vp_in (w4.1 5 2) 30) <|
(some (puI w4 11 (ix (w4.1 5 2)) a5)).bind fun w5 =>
(some (puI w5 5 2 ((w5.1 5 2) + (1 : Int32)))).bind fun w6 =>
some ((w5.1 5 2), w6)
set_option maxRecDepth 20000 in
set_option maxHeartbeats 1000000 in
theorem t_X2_addWay {κ : Kx} (a1 : Int32) (a2 : Int32) (a3 : Int32) (a4 : Int32) (a5 : Int32) (w : Wd) (h : ok (X2_addWay  a1 a2 a3 a4 a5 w) (PIw κ)) : J κ RX2 cX2_addWay 6 (some .int) (rmk 0 0) 0 [(0, .ref (ad (gm κ) 5)), (1, .int a1), (2, .int a2), (3, .int a3), (4, .int a4), (5, .int a5)] [] w := by
  unfold X2_addWay at h
  refine j_aload_n 0 dX2_addWay_0 rfl rfl ?_
  refine j_getA 7 fl_RX2_15 sh_5 fk_5_3 (by decide) dX2_addWay_1 ?_
  refine j_aload_n 0 dX2_addWay_4 rfl rfl ?_
  refine j_getI fl_RX2_68 sh_5 fk_5_2 dX2_addWay_5 ?_
  refine j_iload_n 1 dX2_addWay_8 rfl rfl ?_
  refine j_iast sh_7 dX2_addWay_9 h (fun h => ?_)
  refine j_lW h (fun w1 h => ?_)
  refine j_aload_n 0 dX2_addWay_10 rfl rfl ?_
  refine j_getA 8 fl_RX2_18 sh_5 fk_5_4 (by decide) dX2_addWay_11 ?_
  refine j_aload_n 0 dX2_addWay_14 rfl rfl ?_
  refine j_getI fl_RX2_68 sh_5 fk_5_2 dX2_addWay_15 ?_
  refine j_iload_n 2 dX2_addWay_18 rfl rfl ?_
  refine j_iast sh_8 dX2_addWay_19 h (fun h => ?_)
  refine j_lW h (fun w2 h => ?_)
  refine j_aload_n 0 dX2_addWay_20 rfl rfl ?_
  refine j_getA 9 fl_RX2_21 sh_5 fk_5_5 (by decide) dX2_addWay_21 ?_
  refine j_aload_n 0 dX2_addWay_24 rfl rfl ?_
  refine j_getI fl_RX2_68 sh_5 fk_5_2 dX2_addWay_25 ?_
  refine j_iload_n 3 dX2_addWay_28 rfl rfl ?_
  refine j_iast sh_9 dX2_addWay_29 h (fun h => ?_)
  refine j_lW h (fun w3 h => ?_)
  refine j_aload_n 0 dX2_addWay_30 rfl rfl ?_
  refine j_getA 10 fl_RX2_24 sh_5 fk_5_6 (by decide) dX2_addWay_31 ?_
  refine j_aload_n 0 dX2_addWay_34 rfl rfl ?_
  refine j_getI fl_RX2_68 sh_5 fk_5_2 dX2_addWay_35 ?_
  refine j_iload 4 dX2_addWay_38 rfl ?_
  refine j_iast sh_10 dX2_addWay_40 h (fun h => ?_)
  refine j_lW h (fun w4 h => ?_)
  refine j_aload_n 0 dX2_addWay_41 rfl rfl ?_
  refine j_getA 11 fl_RX2_27 sh_5 fk_5_7 (by decide) dX2_addWay_42 ?_
  refine j_aload_n 0 dX2_addWay_45 rfl rfl ?_
  refine j_getI fl_RX2_68 sh_5 fk_5_2 dX2_addWay_46 ?_
  refine j_iload 5 dX2_addWay_49 rfl ?_
  refine j_iast sh_11 dX2_addWay_51 h (fun h => ?_)
  refine j_lW h (fun w5 h => ?_)
  refine j_aload_n 0 dX2_addWay_52 rfl rfl ?_
  refine j_dup dX2_addWay_53 rfl ?_
  refine j_getI fl_RX2_68 sh_5 fk_5_2 dX2_addWay_54 ?_
  refine j_dup_x1 dX2_addWay_57 rfl rfl ?_
  refine j_iconst (1 : Int32) dX2_addWay_58 ki_1 ?_
  refine j_iadd dX2_addWay_59 ?_
  refine j_putI fp_RX2_68 sh_5 fk_5_2 dX2_addWay_60 ?_
  refine j_lW h (fun w6 h => ?_)
  have h := ok_s h
  exact j_iret dX2_addWay_63 rfl rfl h
theorem c_X2_addWay (l : Launch) (γ : Gm) (A : Nat → Prop) (a1 : Int32) (a2 : Int32) (a3 : Int32) (a4 : Int32) (a5 : Int32) (w : Wd) (q : Int32 × Wd) (e : X2_addWay  a1 a2 a3 a4 a5 w = some q) : MetG l γ A yX2_addWay cX2_addWay 6 (some .int) (rmk 0 0) [.ref (ad (γ) 5), .int a1, .int a2, .int a3, .int a4, .int a5] w (some (.int q.1)) q.2 := by
  refine met_of pn_RX2 (Nat.le_of_ble_eq_true rfl) ?_
  intro κ hl hγ hA hρ
  subst hl; subst hγ; subst hA
  exact t_X2_addWay   a1 a2 a3 a4 a5 w ⟨q, e, pIw hρ rfl rfl⟩
theorem dX2_addLearner_0 : decode cX2_addLearner 0 = .ok (.aload_n 0, 1) := by decide +kernel
theorem dX2_addLearner_1 : decode cX2_addLearner 1 = .ok (.getfield 30, 3) := by decide +kernel
theorem dX2_addLearner_4 : decode cX2_addLearner 4 = .ok (.aload_n 0, 1) := by decide +kernel
theorem dX2_addLearner_5 : decode cX2_addLearner 5 = .ok (.getfield 59, 3) := by decide +kernel
theorem dX2_addLearner_8 : decode cX2_addLearner 8 = .ok (.iload_n 1, 1) := by decide +kernel
theorem dX2_addLearner_9 : decode cX2_addLearner 9 = .ok (.iastore, 1) := by decide +kernel
theorem dX2_addLearner_10 : decode cX2_addLearner 10 = .ok (.aload_n 0, 1) := by decide +kernel
theorem dX2_addLearner_11 : decode cX2_addLearner 11 = .ok (.getfield 33, 3) := by decide +kernel
theorem dX2_addLearner_14 : decode cX2_addLearner 14 = .ok (.aload_n 0, 1) := by decide +kernel
theorem dX2_addLearner_15 : decode cX2_addLearner 15 = .ok (.getfield 59, 3) := by decide +kernel
theorem dX2_addLearner_18 : decode cX2_addLearner 18 = .ok (.iload_n 2, 1) := by decide +kernel
theorem dX2_addLearner_19 : decode cX2_addLearner 19 = .ok (.iastore, 1) := by decide +kernel
theorem dX2_addLearner_20 : decode cX2_addLearner 20 = .ok (.aload_n 0, 1) := by decide +kernel
theorem dX2_addLearner_21 : decode cX2_addLearner 21 = .ok (.getfield 36, 3) := by decide +kernel
theorem dX2_addLearner_24 : decode cX2_addLearner 24 = .ok (.aload_n 0, 1) := by decide +kernel
theorem dX2_addLearner_25 : decode cX2_addLearner 25 = .ok (.getfield 59, 3) := by decide +kernel
theorem dX2_addLearner_28 : decode cX2_addLearner 28 = .ok (.iload_n 3, 1) := by decide +kernel
theorem dX2_addLearner_29 : decode cX2_addLearner 29 = .ok (.iastore, 1) := by decide +kernel
theorem dX2_addLearner_30 : decode cX2_addLearner 30 = .ok (.aload_n 0, 1) := by decide +kernel
theorem dX2_addLearner_31 : decode cX2_addLearner 31 = .ok (.dup, 1) := by decide +kernel
theorem dX2_addLearner_32 : decode cX2_addLearner 32 = .ok (.getfield 59, 3) := by decide +kernel
theorem dX2_addLearner_35 : decode cX2_addLearner 35 = .ok (.dup_x1, 1) := by decide +kernel
theorem dX2_addLearner_36 : decode cX2_addLearner 36 = .ok (.iconst 1, 1) := by decide +kernel
theorem dX2_addLearner_37 : decode cX2_addLearner 37 = .ok (.iadd, 1) := by decide +kernel
theorem dX2_addLearner_38 : decode cX2_addLearner 38 = .ok (.putfield 59, 3) := by decide +kernel
theorem dX2_addLearner_41 : decode cX2_addLearner 41 = .ok (.ireturn, 1) := by decide +kernel
noncomputable def X2_addLearner (a1 : Int32) (a2 : Int32) (a3 : Int32) (w : Wd) : Option (Int32 × Wd) :=
gd (vp_in (w.1 5 8) 40) <|
(some (puI w 12 (ix (w.1 5 8)) a1)).bind fun w1 =>
gd (vp_in (w1.1 5 8) 40) <|
(some (puI w1 13 (ix (w1.1 5 8)) a2)).bind fun w2 =>
gd (vp_in (w2.1 5 8) 40) <|
(some (puI w2 14 (ix (w2.1 5 8)) a3)).bind fun w3 =>
(some (puI w3 5 8 ((w3.1 5 8) + (1 : Int32)))).bind fun w4 =>
some ((w3.1 5 8), w4)
set_option maxRecDepth 20000 in
set_option maxHeartbeats 1000000 in
theorem t_X2_addLearner {κ : Kx} (a1 : Int32) (a2 : Int32) (a3 : Int32) (w : Wd) (h : ok (X2_addLearner  a1 a2 a3 w) (PIw κ)) : J κ RX2 cX2_addLearner 4 (some .int) (rmk 0 0) 0 [(0, .ref (ad (gm κ) 5)), (1, .int a1), (2, .int a2), (3, .int a3)] [] w := by
  unfold X2_addLearner at h
  refine j_aload_n 0 dX2_addLearner_0 rfl rfl ?_
  refine j_getA 12 fl_RX2_30 sh_5 fk_5_9 (by decide) dX2_addLearner_1 ?_
  refine j_aload_n 0 dX2_addLearner_4 rfl rfl ?_
  refine j_getI fl_RX2_59 sh_5 fk_5_8 dX2_addLearner_5 ?_
  refine j_iload_n 1 dX2_addLearner_8 rfl rfl ?_
  refine j_iast sh_12 dX2_addLearner_9 h (fun h => ?_)
  refine j_lW h (fun w1 h => ?_)
  refine j_aload_n 0 dX2_addLearner_10 rfl rfl ?_
  refine j_getA 13 fl_RX2_33 sh_5 fk_5_10 (by decide) dX2_addLearner_11 ?_
  refine j_aload_n 0 dX2_addLearner_14 rfl rfl ?_
  refine j_getI fl_RX2_59 sh_5 fk_5_8 dX2_addLearner_15 ?_
  refine j_iload_n 2 dX2_addLearner_18 rfl rfl ?_
  refine j_iast sh_13 dX2_addLearner_19 h (fun h => ?_)
  refine j_lW h (fun w2 h => ?_)
  refine j_aload_n 0 dX2_addLearner_20 rfl rfl ?_
  refine j_getA 14 fl_RX2_36 sh_5 fk_5_11 (by decide) dX2_addLearner_21 ?_
  refine j_aload_n 0 dX2_addLearner_24 rfl rfl ?_
  refine j_getI fl_RX2_59 sh_5 fk_5_8 dX2_addLearner_25 ?_
  refine j_iload_n 3 dX2_addLearner_28 rfl rfl ?_
  refine j_iast sh_14 dX2_addLearner_29 h (fun h => ?_)
  refine j_lW h (fun w3 h => ?_)
  refine j_aload_n 0 dX2_addLearner_30 rfl rfl ?_
  refine j_dup dX2_addLearner_31 rfl ?_
  refine j_getI fl_RX2_59 sh_5 fk_5_8 dX2_addLearner_32 ?_
  refine j_dup_x1 dX2_addLearner_35 rfl rfl ?_
  refine j_iconst (1 : Int32) dX2_addLearner_36 ki_1 ?_
  refine j_iadd dX2_addLearner_37 ?_
  refine j_putI fp_RX2_59 sh_5 fk_5_8 dX2_addLearner_38 ?_
  refine j_lW h (fun w4 h => ?_)
  have h := ok_s h
  exact j_iret dX2_addLearner_41 rfl rfl h
theorem c_X2_addLearner (l : Launch) (γ : Gm) (A : Nat → Prop) (a1 : Int32) (a2 : Int32) (a3 : Int32) (w : Wd) (q : Int32 × Wd) (e : X2_addLearner  a1 a2 a3 w = some q) : MetG l γ A yX2_addLearner cX2_addLearner 4 (some .int) (rmk 0 0) [.ref (ad (γ) 5), .int a1, .int a2, .int a3] w (some (.int q.1)) q.2 := by
  refine met_of pn_RX2 (Nat.le_of_ble_eq_true rfl) ?_
  intro κ hl hγ hA hρ
  subst hl; subst hγ; subst hA
  exact t_X2_addLearner   a1 a2 a3 w ⟨q, e, pIw hρ rfl rfl⟩
theorem dX2_addTeacher_0 : decode cX2_addTeacher 0 = .ok (.aload_n 0, 1) := by decide +kernel
theorem dX2_addTeacher_1 : decode cX2_addTeacher 1 = .ok (.getfield 39, 3) := by decide +kernel
theorem dX2_addTeacher_4 : decode cX2_addTeacher 4 = .ok (.aload_n 0, 1) := by decide +kernel
theorem dX2_addTeacher_5 : decode cX2_addTeacher 5 = .ok (.getfield 62, 3) := by decide +kernel
theorem dX2_addTeacher_8 : decode cX2_addTeacher 8 = .ok (.iload_n 1, 1) := by decide +kernel
theorem dX2_addTeacher_9 : decode cX2_addTeacher 9 = .ok (.iastore, 1) := by decide +kernel
theorem dX2_addTeacher_10 : decode cX2_addTeacher 10 = .ok (.aload_n 0, 1) := by decide +kernel
theorem dX2_addTeacher_11 : decode cX2_addTeacher 11 = .ok (.getfield 42, 3) := by decide +kernel
theorem dX2_addTeacher_14 : decode cX2_addTeacher 14 = .ok (.aload_n 0, 1) := by decide +kernel
theorem dX2_addTeacher_15 : decode cX2_addTeacher 15 = .ok (.getfield 62, 3) := by decide +kernel
theorem dX2_addTeacher_18 : decode cX2_addTeacher 18 = .ok (.iload_n 2, 1) := by decide +kernel
theorem dX2_addTeacher_19 : decode cX2_addTeacher 19 = .ok (.iastore, 1) := by decide +kernel
theorem dX2_addTeacher_20 : decode cX2_addTeacher 20 = .ok (.aload_n 0, 1) := by decide +kernel
theorem dX2_addTeacher_21 : decode cX2_addTeacher 21 = .ok (.dup, 1) := by decide +kernel
theorem dX2_addTeacher_22 : decode cX2_addTeacher 22 = .ok (.getfield 62, 3) := by decide +kernel
theorem dX2_addTeacher_25 : decode cX2_addTeacher 25 = .ok (.dup_x1, 1) := by decide +kernel
theorem dX2_addTeacher_26 : decode cX2_addTeacher 26 = .ok (.iconst 1, 1) := by decide +kernel
theorem dX2_addTeacher_27 : decode cX2_addTeacher 27 = .ok (.iadd, 1) := by decide +kernel
theorem dX2_addTeacher_28 : decode cX2_addTeacher 28 = .ok (.putfield 62, 3) := by decide +kernel
theorem dX2_addTeacher_31 : decode cX2_addTeacher 31 = .ok (.ireturn, 1) := by decide +kernel
noncomputable def X2_addTeacher (a1 : Int32) (a2 : Int32) (w : Wd) : Option (Int32 × Wd) :=
gd (vp_in (w.1 5 12) 20) <|
(some (puI w 15 (ix (w.1 5 12)) a1)).bind fun w1 =>
gd (vp_in (w1.1 5 12) 20) <|
(some (puI w1 16 (ix (w1.1 5 12)) a2)).bind fun w2 =>
(some (puI w2 5 12 ((w2.1 5 12) + (1 : Int32)))).bind fun w3 =>
some ((w2.1 5 12), w3)
set_option maxRecDepth 20000 in
set_option maxHeartbeats 1000000 in
theorem t_X2_addTeacher {κ : Kx} (a1 : Int32) (a2 : Int32) (w : Wd) (h : ok (X2_addTeacher  a1 a2 w) (PIw κ)) : J κ RX2 cX2_addTeacher 3 (some .int) (rmk 0 0) 0 [(0, .ref (ad (gm κ) 5)), (1, .int a1), (2, .int a2)] [] w := by
  unfold X2_addTeacher at h
  refine j_aload_n 0 dX2_addTeacher_0 rfl rfl ?_
  refine j_getA 15 fl_RX2_39 sh_5 fk_5_13 (by decide) dX2_addTeacher_1 ?_
  refine j_aload_n 0 dX2_addTeacher_4 rfl rfl ?_
  refine j_getI fl_RX2_62 sh_5 fk_5_12 dX2_addTeacher_5 ?_
  refine j_iload_n 1 dX2_addTeacher_8 rfl rfl ?_
  refine j_iast sh_15 dX2_addTeacher_9 h (fun h => ?_)
  refine j_lW h (fun w1 h => ?_)
  refine j_aload_n 0 dX2_addTeacher_10 rfl rfl ?_
  refine j_getA 16 fl_RX2_42 sh_5 fk_5_14 (by decide) dX2_addTeacher_11 ?_
  refine j_aload_n 0 dX2_addTeacher_14 rfl rfl ?_
  refine j_getI fl_RX2_62 sh_5 fk_5_12 dX2_addTeacher_15 ?_
  refine j_iload_n 2 dX2_addTeacher_18 rfl rfl ?_
  refine j_iast sh_16 dX2_addTeacher_19 h (fun h => ?_)
  refine j_lW h (fun w2 h => ?_)
  refine j_aload_n 0 dX2_addTeacher_20 rfl rfl ?_
  refine j_dup dX2_addTeacher_21 rfl ?_
  refine j_getI fl_RX2_62 sh_5 fk_5_12 dX2_addTeacher_22 ?_
  refine j_dup_x1 dX2_addTeacher_25 rfl rfl ?_
  refine j_iconst (1 : Int32) dX2_addTeacher_26 ki_1 ?_
  refine j_iadd dX2_addTeacher_27 ?_
  refine j_putI fp_RX2_62 sh_5 fk_5_12 dX2_addTeacher_28 ?_
  refine j_lW h (fun w3 h => ?_)
  have h := ok_s h
  exact j_iret dX2_addTeacher_31 rfl rfl h
theorem c_X2_addTeacher (l : Launch) (γ : Gm) (A : Nat → Prop) (a1 : Int32) (a2 : Int32) (w : Wd) (q : Int32 × Wd) (e : X2_addTeacher  a1 a2 w = some q) : MetG l γ A yX2_addTeacher cX2_addTeacher 3 (some .int) (rmk 0 0) [.ref (ad (γ) 5), .int a1, .int a2] w (some (.int q.1)) q.2 := by
  refine met_of pn_RX2 (Nat.le_of_ble_eq_true rfl) ?_
  intro κ hl hγ hA hρ
  subst hl; subst hγ; subst hA
  exact t_X2_addTeacher   a1 a2 w ⟨q, e, pIw hρ rfl rfl⟩
theorem dX2_addLamp_0 : decode cX2_addLamp 0 = .ok (.aload_n 0, 1) := by decide +kernel
theorem dX2_addLamp_1 : decode cX2_addLamp 1 = .ok (.getfield 45, 3) := by decide +kernel
theorem dX2_addLamp_4 : decode cX2_addLamp 4 = .ok (.aload_n 0, 1) := by decide +kernel
theorem dX2_addLamp_5 : decode cX2_addLamp 5 = .ok (.getfield 65, 3) := by decide +kernel
theorem dX2_addLamp_8 : decode cX2_addLamp 8 = .ok (.iload_n 1, 1) := by decide +kernel
theorem dX2_addLamp_9 : decode cX2_addLamp 9 = .ok (.iastore, 1) := by decide +kernel
theorem dX2_addLamp_10 : decode cX2_addLamp 10 = .ok (.aload_n 0, 1) := by decide +kernel
theorem dX2_addLamp_11 : decode cX2_addLamp 11 = .ok (.dup, 1) := by decide +kernel
theorem dX2_addLamp_12 : decode cX2_addLamp 12 = .ok (.getfield 65, 3) := by decide +kernel
theorem dX2_addLamp_15 : decode cX2_addLamp 15 = .ok (.dup_x1, 1) := by decide +kernel
theorem dX2_addLamp_16 : decode cX2_addLamp 16 = .ok (.iconst 1, 1) := by decide +kernel
theorem dX2_addLamp_17 : decode cX2_addLamp 17 = .ok (.iadd, 1) := by decide +kernel
theorem dX2_addLamp_18 : decode cX2_addLamp 18 = .ok (.putfield 65, 3) := by decide +kernel
theorem dX2_addLamp_21 : decode cX2_addLamp 21 = .ok (.ireturn, 1) := by decide +kernel
noncomputable def X2_addLamp (a1 : Int32) (w : Wd) : Option (Int32 × Wd) :=
gd (vp_in (w.1 5 15) 12) <|
(some (puI w 17 (ix (w.1 5 15)) a1)).bind fun w1 =>
(some (puI w1 5 15 ((w1.1 5 15) + (1 : Int32)))).bind fun w2 =>
some ((w1.1 5 15), w2)
set_option maxRecDepth 20000 in
set_option maxHeartbeats 1000000 in
theorem t_X2_addLamp {κ : Kx} (a1 : Int32) (w : Wd) (h : ok (X2_addLamp  a1 w) (PIw κ)) : J κ RX2 cX2_addLamp 2 (some .int) (rmk 0 0) 0 [(0, .ref (ad (gm κ) 5)), (1, .int a1)] [] w := by
  unfold X2_addLamp at h
  refine j_aload_n 0 dX2_addLamp_0 rfl rfl ?_
  refine j_getA 17 fl_RX2_45 sh_5 fk_5_16 (by decide) dX2_addLamp_1 ?_
  refine j_aload_n 0 dX2_addLamp_4 rfl rfl ?_
  refine j_getI fl_RX2_65 sh_5 fk_5_15 dX2_addLamp_5 ?_
  refine j_iload_n 1 dX2_addLamp_8 rfl rfl ?_
  refine j_iast sh_17 dX2_addLamp_9 h (fun h => ?_)
  refine j_lW h (fun w1 h => ?_)
  refine j_aload_n 0 dX2_addLamp_10 rfl rfl ?_
  refine j_dup dX2_addLamp_11 rfl ?_
  refine j_getI fl_RX2_65 sh_5 fk_5_15 dX2_addLamp_12 ?_
  refine j_dup_x1 dX2_addLamp_15 rfl rfl ?_
  refine j_iconst (1 : Int32) dX2_addLamp_16 ki_1 ?_
  refine j_iadd dX2_addLamp_17 ?_
  refine j_putI fp_RX2_65 sh_5 fk_5_15 dX2_addLamp_18 ?_
  refine j_lW h (fun w2 h => ?_)
  have h := ok_s h
  exact j_iret dX2_addLamp_21 rfl rfl h
theorem c_X2_addLamp (l : Launch) (γ : Gm) (A : Nat → Prop) (a1 : Int32) (w : Wd) (q : Int32 × Wd) (e : X2_addLamp  a1 w = some q) : MetG l γ A yX2_addLamp cX2_addLamp 2 (some .int) (rmk 0 0) [.ref (ad (γ) 5), .int a1] w (some (.int q.1)) q.2 := by
  refine met_of pn_RX2 (Nat.le_of_ble_eq_true rfl) ?_
  intro κ hl hγ hA hρ
  subst hl; subst hγ; subst hA
  exact t_X2_addLamp   a1 w ⟨q, e, pIw hρ rfl rfl⟩
theorem dX2_areJoined_0 : decode cX2_areJoined 0 = .ok (.iconst 0, 1) := by decide +kernel
theorem dX2_areJoined_1 : decode cX2_areJoined 1 = .ok (.istore_n 3, 1) := by decide +kernel
theorem dX2_areJoined_2 : decode cX2_areJoined 2 = .ok (.iload_n 3, 1) := by decide +kernel
theorem dX2_areJoined_3 : decode cX2_areJoined 3 = .ok (.aload_n 0, 1) := by decide +kernel
theorem dX2_areJoined_4 : decode cX2_areJoined 4 = .ok (.getfield 68, 3) := by decide +kernel
theorem dX2_areJoined_7 : decode cX2_areJoined 7 = .ok (.if_icmp .ge 51, 3) := by decide +kernel
theorem dX2_areJoined_10 : decode cX2_areJoined 10 = .ok (.aload_n 0, 1) := by decide +kernel
theorem dX2_areJoined_11 : decode cX2_areJoined 11 = .ok (.getfield 15, 3) := by decide +kernel
theorem dX2_areJoined_14 : decode cX2_areJoined 14 = .ok (.iload_n 3, 1) := by decide +kernel
theorem dX2_areJoined_15 : decode cX2_areJoined 15 = .ok (.iaload, 1) := by decide +kernel
theorem dX2_areJoined_16 : decode cX2_areJoined 16 = .ok (.iload_n 1, 1) := by decide +kernel
theorem dX2_areJoined_17 : decode cX2_areJoined 17 = .ok (.if_icmp .ne 13, 3) := by decide +kernel
theorem dX2_areJoined_20 : decode cX2_areJoined 20 = .ok (.aload_n 0, 1) := by decide +kernel
theorem dX2_areJoined_21 : decode cX2_areJoined 21 = .ok (.getfield 18, 3) := by decide +kernel
theorem dX2_areJoined_24 : decode cX2_areJoined 24 = .ok (.iload_n 3, 1) := by decide +kernel
theorem dX2_areJoined_25 : decode cX2_areJoined 25 = .ok (.iaload, 1) := by decide +kernel
theorem dX2_areJoined_26 : decode cX2_areJoined 26 = .ok (.iload_n 2, 1) := by decide +kernel
theorem dX2_areJoined_27 : decode cX2_areJoined 27 = .ok (.if_icmp .eq 23, 3) := by decide +kernel
theorem dX2_areJoined_30 : decode cX2_areJoined 30 = .ok (.aload_n 0, 1) := by decide +kernel
theorem dX2_areJoined_31 : decode cX2_areJoined 31 = .ok (.getfield 15, 3) := by decide +kernel
theorem dX2_areJoined_34 : decode cX2_areJoined 34 = .ok (.iload_n 3, 1) := by decide +kernel
theorem dX2_areJoined_35 : decode cX2_areJoined 35 = .ok (.iaload, 1) := by decide +kernel
theorem dX2_areJoined_36 : decode cX2_areJoined 36 = .ok (.iload_n 2, 1) := by decide +kernel
theorem dX2_areJoined_37 : decode cX2_areJoined 37 = .ok (.if_icmp .ne 15, 3) := by decide +kernel
theorem dX2_areJoined_40 : decode cX2_areJoined 40 = .ok (.aload_n 0, 1) := by decide +kernel
theorem dX2_areJoined_41 : decode cX2_areJoined 41 = .ok (.getfield 18, 3) := by decide +kernel
theorem dX2_areJoined_44 : decode cX2_areJoined 44 = .ok (.iload_n 3, 1) := by decide +kernel
theorem dX2_areJoined_45 : decode cX2_areJoined 45 = .ok (.iaload, 1) := by decide +kernel
theorem dX2_areJoined_46 : decode cX2_areJoined 46 = .ok (.iload_n 1, 1) := by decide +kernel
theorem dX2_areJoined_47 : decode cX2_areJoined 47 = .ok (.if_icmp .ne 5, 3) := by decide +kernel
theorem dX2_areJoined_50 : decode cX2_areJoined 50 = .ok (.iconst 1, 1) := by decide +kernel
theorem dX2_areJoined_51 : decode cX2_areJoined 51 = .ok (.ireturn, 1) := by decide +kernel
theorem dX2_areJoined_52 : decode cX2_areJoined 52 = .ok (.iinc 3 1, 3) := by decide +kernel
theorem dX2_areJoined_55 : decode cX2_areJoined 55 = .ok (.goto (-53), 3) := by decide +kernel
theorem dX2_areJoined_58 : decode cX2_areJoined 58 = .ok (.iconst 0, 1) := by decide +kernel
theorem dX2_areJoined_59 : decode cX2_areJoined 59 = .ok (.ireturn, 1) := by decide +kernel
noncomputable def X2_areJoined_j52 (a1 : Int32) (a2 : Int32) (a3 : Int32) (w : Wd) : Option (Int32 ⊕ (Unit ⊕ Unit)) :=
some (.inl (a3 + (1 : Int32)))
set_option maxRecDepth 20000 in
set_option maxHeartbeats 1000000 in
theorem t_X2_areJoined_j52 {κ : Kx} (a1 : Int32) (a2 : Int32) (a3 : Int32) (w : Wd) {G : Int32 → Prop} {P : (Unit ⊕ Unit) → Prop} (KG : ∀ s, G s → J κ RX2 cX2_areJoined 4 (some .boolean) (rmk 0 0) 2 [(0, .ref (ad (gm κ) 5)), (1, .int a1), (2, .int a2), (3, .int s)] [] w) (K0 : ∀ e, P (.inl e) → J κ RX2 cX2_areJoined 4 (some .boolean) (rmk 0 0) 50 [] [] w) (K1 : ∀ e, P (.inr e) → J κ RX2 cX2_areJoined 4 (some .boolean) (rmk 0 0) 58 [] [] w) (h : ok (X2_areJoined_j52  a1 a2 a3 w) (sel G P)) : J κ RX2 cX2_areJoined 4 (some .boolean) (rmk 0 0) 52 [(0, .ref (ad (gm κ) 5)), (1, .int a1), (2, .int a2), (3, .int a3)] [] w := by
  unfold X2_areJoined_j52 at h
  refine j_iinc (a3 + (1 : Int32)) 3 [(3, .int (a3 + (1 : Int32))), (0, .ref (ad (gm κ) 5)), (1, .int a1), (2, .int a2)] dX2_areJoined_52 rfl (by rw [kn_1]) (by decide) rfl ?_
  refine j_goto 2 dX2_areJoined_55 (by decide) ?_
  refine j_loc [(0, .ref (ad (gm κ) 5)), (1, .int a1), (2, .int a2), (3, .int (a3 + (1 : Int32)))] [1, 2, 3, 0] rfl ?_
  have h := sel_l h
  have h := KG _ h
  exact h
noncomputable def X2_areJoined_j30 (a1 : Int32) (a2 : Int32) (a3 : Int32) (w : Wd) : Option (Int32 ⊕ (Unit ⊕ Unit)) :=
gd (vp_in a3 30) <|
(if (w.1 7 (ix a3)) = a2 then
gd (vp_in a3 30) <|
(if (w.1 8 (ix a3)) = a1 then
some (.inr (.inl ()))
else
X2_areJoined_j52 a1 a2 a3 w)
else
X2_areJoined_j52 a1 a2 a3 w)
set_option maxRecDepth 20000 in
set_option maxHeartbeats 1000000 in
theorem t_X2_areJoined_j30 {κ : Kx} (a1 : Int32) (a2 : Int32) (a3 : Int32) (w : Wd) {G : Int32 → Prop} {P : (Unit ⊕ Unit) → Prop} (KG : ∀ s, G s → J κ RX2 cX2_areJoined 4 (some .boolean) (rmk 0 0) 2 [(0, .ref (ad (gm κ) 5)), (1, .int a1), (2, .int a2), (3, .int s)] [] w) (K0 : ∀ e, P (.inl e) → J κ RX2 cX2_areJoined 4 (some .boolean) (rmk 0 0) 50 [] [] w) (K1 : ∀ e, P (.inr e) → J κ RX2 cX2_areJoined 4 (some .boolean) (rmk 0 0) 58 [] [] w) (h : ok (X2_areJoined_j30  a1 a2 a3 w) (sel G P)) : J κ RX2 cX2_areJoined 4 (some .boolean) (rmk 0 0) 30 [(0, .ref (ad (gm κ) 5)), (1, .int a1), (2, .int a2), (3, .int a3)] [] w := by
  unfold X2_areJoined_j30 at h
  refine j_aload_n 0 dX2_areJoined_30 rfl rfl ?_
  refine j_getA 7 fl_RX2_15 sh_5 fk_5_3 (by decide) dX2_areJoined_31 ?_
  refine j_iload_n 3 dX2_areJoined_34 rfl rfl ?_
  refine j_iald sh_7 dX2_areJoined_35 h (fun h => ?_)
  refine j_iload_n 2 dX2_areJoined_36 rfl rfl ?_
  refine j_ic_ne 52 dX2_areJoined_37 (by decide) h (fun h => ?_) (fun h => ?_)
  · refine j_loc [(0, .ref (ad (gm κ) 5)), (1, .int a1), (2, .int a2), (3, .int a3)] [0, 1, 2, 3] rfl ?_
    exact t_X2_areJoined_j52 a1 a2 a3 w KG K0 K1 h
  · refine j_aload_n 0 dX2_areJoined_40 rfl rfl ?_
    refine j_getA 8 fl_RX2_18 sh_5 fk_5_4 (by decide) dX2_areJoined_41 ?_
    refine j_iload_n 3 dX2_areJoined_44 rfl rfl ?_
    refine j_iald sh_8 dX2_areJoined_45 h (fun h => ?_)
    refine j_iload_n 1 dX2_areJoined_46 rfl rfl ?_
    refine j_ic_ne 52 dX2_areJoined_47 (by decide) h (fun h => ?_) (fun h => ?_)
    · refine j_loc [(0, .ref (ad (gm κ) 5)), (1, .int a1), (2, .int a2), (3, .int a3)] [0, 1, 2, 3] rfl ?_
      exact t_X2_areJoined_j52 a1 a2 a3 w KG K0 K1 h
    · refine j_loc [] [] rfl ?_
      have h := sel_r h
      have h := K0 _ h
      exact h
noncomputable def X2_areJoined_b2 (a1 : Int32) (a2 : Int32) (w : Wd) (s : Int32) : Option (Int32 ⊕ (Unit ⊕ Unit)) :=
(if (w.1 5 2) ≤ s then
some (.inr (.inr ()))
else
gd (vp_in s 30) <|
(if (w.1 7 (ix s)) = a1 then
gd (vp_in s 30) <|
(if (w.1 8 (ix s)) = a2 then
some (.inr (.inl ()))
else
X2_areJoined_j30 a1 a2 s w)
else
X2_areJoined_j30 a1 a2 s w))
set_option maxRecDepth 20000 in
set_option maxHeartbeats 1000000 in
theorem t_X2_areJoined_b2 {κ : Kx} (a1 : Int32) (a2 : Int32) (w : Wd) {P : (Unit ⊕ Unit) → Prop} (K0 : ∀ e, P (.inl e) → J κ RX2 cX2_areJoined 4 (some .boolean) (rmk 0 0) 50 [] [] w) (K1 : ∀ e, P (.inr e) → J κ RX2 cX2_areJoined 4 (some .boolean) (rmk 0 0) 58 [] [] w) (s : Int32) (h : ok (lp (X2_areJoined_b2  a1 a2 w) s) P) : J κ RX2 cX2_areJoined 4 (some .boolean) (rmk 0 0) 2 [(0, .ref (ad (gm κ) 5)), (1, .int a1), (2, .int a2), (3, .int s)] [] w := by
  refine lp_ind (fun s => J κ RX2 cX2_areJoined 4 (some .boolean) (rmk 0 0) 2 [(0, .ref (ad (gm κ) 5)), (1, .int a1), (2, .int a2), (3, .int s)] [] w) (fun s h => ?_) s h
  unfold X2_areJoined_b2 at h
  refine j_iload_n 3 dX2_areJoined_2 rfl rfl ?_
  refine j_aload_n 0 dX2_areJoined_3 rfl rfl ?_
  refine j_getI fl_RX2_68 sh_5 fk_5_2 dX2_areJoined_4 ?_
  refine j_ic_ge 58 dX2_areJoined_7 (by decide) h (fun h => ?_) (fun h => ?_)
  · refine j_loc [] [] rfl ?_
    have h := sel_r h
    have h := K1 _ h
    exact h
  · refine j_aload_n 0 dX2_areJoined_10 rfl rfl ?_
    refine j_getA 7 fl_RX2_15 sh_5 fk_5_3 (by decide) dX2_areJoined_11 ?_
    refine j_iload_n 3 dX2_areJoined_14 rfl rfl ?_
    refine j_iald sh_7 dX2_areJoined_15 h (fun h => ?_)
    refine j_iload_n 1 dX2_areJoined_16 rfl rfl ?_
    refine j_ic_ne 30 dX2_areJoined_17 (by decide) h (fun h => ?_) (fun h => ?_)
    · refine j_loc [(0, .ref (ad (gm κ) 5)), (1, .int a1), (2, .int a2), (3, .int s)] [0, 1, 2, 3] rfl ?_
      exact t_X2_areJoined_j30 a1 a2 s w (fun _ h => h) K0 K1 h
    · refine j_aload_n 0 dX2_areJoined_20 rfl rfl ?_
      refine j_getA 8 fl_RX2_18 sh_5 fk_5_4 (by decide) dX2_areJoined_21 ?_
      refine j_iload_n 3 dX2_areJoined_24 rfl rfl ?_
      refine j_iald sh_8 dX2_areJoined_25 h (fun h => ?_)
      refine j_iload_n 2 dX2_areJoined_26 rfl rfl ?_
      refine j_ic_eq 50 dX2_areJoined_27 (by decide) h (fun h => ?_) (fun h => ?_)
      · refine j_loc [] [] rfl ?_
        have h := sel_r h
        have h := K0 _ h
        exact h
      · refine j_loc [(0, .ref (ad (gm κ) 5)), (1, .int a1), (2, .int a2), (3, .int s)] [0, 1, 2, 3] rfl ?_
        exact t_X2_areJoined_j30 a1 a2 s w (fun _ h => h) K0 K1 h
noncomputable def X2_areJoined (a1 : Int32) (a2 : Int32) (w : Wd) : Option (Int32) :=
(lp (X2_areJoined_b2 a1 a2 w) (0 : Int32)).bind fun e1 => match e1 with
| (.inl e2) => (some (1 : Int32))
| (.inr e3) => (some (0 : Int32))
set_option maxRecDepth 20000 in
set_option maxHeartbeats 1000000 in
theorem t_X2_areJoined {κ : Kx} (a1 : Int32) (a2 : Int32) (w : Wd) (h : ok (X2_areJoined  a1 a2 w) (PI κ w)) : J κ RX2 cX2_areJoined 4 (some .boolean) (rmk 0 0) 0 [(0, .ref (ad (gm κ) 5)), (1, .int a1), (2, .int a2)] [] w := by
  unfold X2_areJoined at h
  refine j_iconst (0 : Int32) dX2_areJoined_0 ki_0 ?_
  refine j_istore_n [(3, .int (0 : Int32)), (0, .ref (ad (gm κ) 5)), (1, .int a1), (2, .int a2)] dX2_areJoined_1 rfl (by decide) rfl ?_
  refine j_loc [(0, .ref (ad (gm κ) 5)), (1, .int a1), (2, .int a2), (3, .int (0 : Int32))] [1, 2, 3, 0] rfl ?_
  refine t_X2_areJoined_b2 a1 a2 w (fun e2 h => ?_) (fun e3 h => ?_) (0 : Int32) (ok_bb h)
  · refine j_iconst (1 : Int32) dX2_areJoined_50 ki_1 ?_
    have h := ok_s h
    exact j_iret dX2_areJoined_51 rfl (by decide) h
  · refine j_iconst (0 : Int32) dX2_areJoined_58 ki_0 ?_
    have h := ok_s h
    exact j_iret dX2_areJoined_59 rfl (by decide) h
theorem c_X2_areJoined (l : Launch) (γ : Gm) (A : Nat → Prop) (a1 : Int32) (a2 : Int32) (w : Wd) (q : Int32) (e : X2_areJoined  a1 a2 w = some q) : MetG l γ A yX2_areJoined cX2_areJoined 4 (some .boolean) (rmk 0 0) [.ref (ad (γ) 5), .int a1, .int a2] w (some (.int q)) w := by
  refine met_of pn_RX2 (Nat.le_of_ble_eq_true rfl) ?_
  intro κ hl hγ hA hρ
  subst hl; subst hγ; subst hA
  exact t_X2_areJoined   a1 a2 w ⟨q, e, pI hρ rfl rfl⟩
theorem dX2_isShut_0 : decode cX2_isShut 0 = .ok (.aload_n 0, 1) := by decide +kernel
theorem dX2_isShut_1 : decode cX2_isShut 1 = .ok (.getfield 24, 3) := by decide +kernel
theorem dX2_isShut_4 : decode cX2_isShut 4 = .ok (.iload_n 1, 1) := by decide +kernel
theorem dX2_isShut_5 : decode cX2_isShut 5 = .ok (.iaload, 1) := by decide +kernel
theorem dX2_isShut_6 : decode cX2_isShut 6 = .ok (.iload_n 2, 1) := by decide +kernel
theorem dX2_isShut_7 : decode cX2_isShut 7 = .ok (.if_icmp .gt 17, 3) := by decide +kernel
theorem dX2_isShut_10 : decode cX2_isShut 10 = .ok (.iload_n 2, 1) := by decide +kernel
theorem dX2_isShut_11 : decode cX2_isShut 11 = .ok (.aload_n 0, 1) := by decide +kernel
theorem dX2_isShut_12 : decode cX2_isShut 12 = .ok (.getfield 27, 3) := by decide +kernel
theorem dX2_isShut_15 : decode cX2_isShut 15 = .ok (.iload_n 1, 1) := by decide +kernel
theorem dX2_isShut_16 : decode cX2_isShut 16 = .ok (.iaload, 1) := by decide +kernel
theorem dX2_isShut_17 : decode cX2_isShut 17 = .ok (.if_icmp .gt 7, 3) := by decide +kernel
theorem dX2_isShut_20 : decode cX2_isShut 20 = .ok (.iconst 1, 1) := by decide +kernel
theorem dX2_isShut_21 : decode cX2_isShut 21 = .ok (.goto 4, 3) := by decide +kernel
theorem dX2_isShut_24 : decode cX2_isShut 24 = .ok (.iconst 0, 1) := by decide +kernel
theorem dX2_isShut_25 : decode cX2_isShut 25 = .ok (.ireturn, 1) := by decide +kernel
noncomputable def X2_isShut (a1 : Int32) (a2 : Int32) (w : Wd) : Option (Int32) :=
gd (vp_in a1 30) <|
(if a2 < (w.1 10 (ix a1)) then
some (0 : Int32)
else
gd (vp_in a1 30) <|
(if (w.1 11 (ix a1)) < a2 then
some (0 : Int32)
else
some (1 : Int32)))
set_option maxRecDepth 20000 in
set_option maxHeartbeats 1000000 in
theorem t_X2_isShut {κ : Kx} (a1 : Int32) (a2 : Int32) (w : Wd) (h : ok (X2_isShut  a1 a2 w) (PI κ w)) : J κ RX2 cX2_isShut 3 (some .boolean) (rmk 0 0) 0 [(0, .ref (ad (gm κ) 5)), (1, .int a1), (2, .int a2)] [] w := by
  unfold X2_isShut at h
  refine j_aload_n 0 dX2_isShut_0 rfl rfl ?_
  refine j_getA 10 fl_RX2_24 sh_5 fk_5_6 (by decide) dX2_isShut_1 ?_
  refine j_iload_n 1 dX2_isShut_4 rfl rfl ?_
  refine j_iald sh_10 dX2_isShut_5 h (fun h => ?_)
  refine j_iload_n 2 dX2_isShut_6 rfl rfl ?_
  refine j_ic_gt 24 dX2_isShut_7 (by decide) h (fun h => ?_) (fun h => ?_)
  · refine j_iconst (0 : Int32) dX2_isShut_24 ki_0 ?_
    have h := ok_s h
    exact j_iret dX2_isShut_25 rfl (by decide) h
  · refine j_iload_n 2 dX2_isShut_10 rfl rfl ?_
    refine j_aload_n 0 dX2_isShut_11 rfl rfl ?_
    refine j_getA 11 fl_RX2_27 sh_5 fk_5_7 (by decide) dX2_isShut_12 ?_
    refine j_iload_n 1 dX2_isShut_15 rfl rfl ?_
    refine j_iald sh_11 dX2_isShut_16 h (fun h => ?_)
    refine j_ic_gt 24 dX2_isShut_17 (by decide) h (fun h => ?_) (fun h => ?_)
    · refine j_iconst (0 : Int32) dX2_isShut_24 ki_0 ?_
      have h := ok_s h
      exact j_iret dX2_isShut_25 rfl (by decide) h
    · refine j_iconst (1 : Int32) dX2_isShut_20 ki_1 ?_
      refine j_goto 25 dX2_isShut_21 (by decide) ?_
      have h := ok_s h
      exact j_iret dX2_isShut_25 rfl (by decide) h
theorem c_X2_isShut (l : Launch) (γ : Gm) (A : Nat → Prop) (a1 : Int32) (a2 : Int32) (w : Wd) (q : Int32) (e : X2_isShut  a1 a2 w = some q) : MetG l γ A yX2_isShut cX2_isShut 3 (some .boolean) (rmk 0 0) [.ref (ad (γ) 5), .int a1, .int a2] w (some (.int q)) w := by
  refine met_of pn_RX2 (Nat.le_of_ble_eq_true rfl) ?_
  intro κ hl hγ hA hρ
  subst hl; subst hγ; subst hA
  exact t_X2_isShut   a1 a2 w ⟨q, e, pI hρ rfl rfl⟩
theorem dX2_rainsIn_0 : decode cX2_rainsIn 0 = .ok (.iconst 0, 1) := by decide +kernel
theorem dX2_rainsIn_1 : decode cX2_rainsIn 1 = .ok (.istore_n 3, 1) := by decide +kernel
theorem dX2_rainsIn_2 : decode cX2_rainsIn 2 = .ok (.iconst 0, 1) := by decide +kernel
theorem dX2_rainsIn_3 : decode cX2_rainsIn 3 = .ok (.istore 4, 2) := by decide +kernel
theorem dX2_rainsIn_5 : decode cX2_rainsIn 5 = .ok (.iload 4, 2) := by decide +kernel
theorem dX2_rainsIn_7 : decode cX2_rainsIn 7 = .ok (.aload_n 0, 1) := by decide +kernel
theorem dX2_rainsIn_8 : decode cX2_rainsIn 8 = .ok (.getfield 68, 3) := by decide +kernel
theorem dX2_rainsIn_11 : decode cX2_rainsIn 11 = .ok (.if_icmp .ge 45, 3) := by decide +kernel
theorem dX2_rainsIn_14 : decode cX2_rainsIn 14 = .ok (.aload_n 0, 1) := by decide +kernel
theorem dX2_rainsIn_15 : decode cX2_rainsIn 15 = .ok (.getfield 15, 3) := by decide +kernel
theorem dX2_rainsIn_18 : decode cX2_rainsIn 18 = .ok (.iload 4, 2) := by decide +kernel
theorem dX2_rainsIn_20 : decode cX2_rainsIn 20 = .ok (.iaload, 1) := by decide +kernel
theorem dX2_rainsIn_21 : decode cX2_rainsIn 21 = .ok (.iload_n 1, 1) := by decide +kernel
theorem dX2_rainsIn_22 : decode cX2_rainsIn 22 = .ok (.if_icmp .eq 14, 3) := by decide +kernel
theorem dX2_rainsIn_25 : decode cX2_rainsIn 25 = .ok (.aload_n 0, 1) := by decide +kernel
theorem dX2_rainsIn_26 : decode cX2_rainsIn 26 = .ok (.getfield 18, 3) := by decide +kernel
theorem dX2_rainsIn_29 : decode cX2_rainsIn 29 = .ok (.iload 4, 2) := by decide +kernel
theorem dX2_rainsIn_31 : decode cX2_rainsIn 31 = .ok (.iaload, 1) := by decide +kernel
theorem dX2_rainsIn_32 : decode cX2_rainsIn 32 = .ok (.iload_n 1, 1) := by decide +kernel
theorem dX2_rainsIn_33 : decode cX2_rainsIn 33 = .ok (.if_icmp .ne 17, 3) := by decide +kernel
theorem dX2_rainsIn_36 : decode cX2_rainsIn 36 = .ok (.aload_n 0, 1) := by decide +kernel
theorem dX2_rainsIn_37 : decode cX2_rainsIn 37 = .ok (.iload 4, 2) := by decide +kernel
theorem dX2_rainsIn_39 : decode cX2_rainsIn 39 = .ok (.iload_n 2, 1) := by decide +kernel
theorem dX2_rainsIn_40 : decode cX2_rainsIn 40 = .ok (.invokevirtual 71, 3) := by decide +kernel
theorem dX2_rainsIn_43 : decode cX2_rainsIn 43 = .ok (.ifCond .ne 5, 3) := by decide +kernel
theorem dX2_rainsIn_46 : decode cX2_rainsIn 46 = .ok (.iconst 0, 1) := by decide +kernel
theorem dX2_rainsIn_47 : decode cX2_rainsIn 47 = .ok (.ireturn, 1) := by decide +kernel
theorem dX2_rainsIn_48 : decode cX2_rainsIn 48 = .ok (.iconst 1, 1) := by decide +kernel
theorem dX2_rainsIn_49 : decode cX2_rainsIn 49 = .ok (.istore_n 3, 1) := by decide +kernel
theorem dX2_rainsIn_50 : decode cX2_rainsIn 50 = .ok (.iinc 4 1, 3) := by decide +kernel
theorem dX2_rainsIn_53 : decode cX2_rainsIn 53 = .ok (.goto (-48), 3) := by decide +kernel
theorem dX2_rainsIn_56 : decode cX2_rainsIn 56 = .ok (.iload_n 3, 1) := by decide +kernel
theorem dX2_rainsIn_57 : decode cX2_rainsIn 57 = .ok (.ireturn, 1) := by decide +kernel
noncomputable def X2_rainsIn_j50 (a1 : Int32) (a2 : Int32) (a3 : Int32) (a4 : Int32) (w : Wd) : Option ((Int32 × Int32) ⊕ (Unit ⊕ Int32)) :=
some (.inl (a3, (a4 + (1 : Int32))))
set_option maxRecDepth 20000 in
set_option maxHeartbeats 1000000 in
theorem t_X2_rainsIn_j50 {κ : Kx} (a1 : Int32) (a2 : Int32) (a3 : Int32) (a4 : Int32) (w : Wd) {G : (Int32 × Int32) → Prop} {P : (Unit ⊕ Int32) → Prop} (KG : ∀ s, G s → J κ RX2 cX2_rainsIn 5 (some .boolean) (rmk 1 22) 5 [(0, .ref (ad (gm κ) 5)), (1, .int a1), (2, .int a2), (3, .int s.1), (4, .int s.2)] [] w) (K0 : ∀ e, P (.inl e) → J κ RX2 cX2_rainsIn 5 (some .boolean) (rmk 1 22) 46 [] [] w) (K1 : ∀ e, P (.inr e) → J κ RX2 cX2_rainsIn 5 (some .boolean) (rmk 1 22) 56 [(3, .int e)] [] w) (h : ok (X2_rainsIn_j50  a1 a2 a3 a4 w) (sel G P)) : J κ RX2 cX2_rainsIn 5 (some .boolean) (rmk 1 22) 50 [(0, .ref (ad (gm κ) 5)), (1, .int a1), (2, .int a2), (3, .int a3), (4, .int a4)] [] w := by
  unfold X2_rainsIn_j50 at h
  refine j_iinc (a4 + (1 : Int32)) 4 [(4, .int (a4 + (1 : Int32))), (0, .ref (ad (gm κ) 5)), (1, .int a1), (2, .int a2), (3, .int a3)] dX2_rainsIn_50 rfl (by rw [kn_1]) (by decide) rfl ?_
  refine j_goto 5 dX2_rainsIn_53 (by decide) ?_
  refine j_loc [(0, .ref (ad (gm κ) 5)), (1, .int a1), (2, .int a2), (3, .int a3), (4, .int (a4 + (1 : Int32)))] [1, 2, 3, 4, 0] rfl ?_
  have h := sel_l h
  have h := KG _ h
  exact h
noncomputable def X2_rainsIn_j36 (a1 : Int32) (a2 : Int32) (a4 : Int32) (w : Wd) : Option ((Int32 × Int32) ⊕ (Unit ⊕ Int32)) :=
(X2_isShut a4 a2 w).bind fun q1 =>
(if q1 = 0 then
some (.inr (.inl ()))
else
X2_rainsIn_j50 a1 a2 (1 : Int32) a4 w)
set_option maxRecDepth 20000 in
set_option maxHeartbeats 1000000 in
theorem t_X2_rainsIn_j36 {κ : Kx} (a1 : Int32) (a2 : Int32) (a4 : Int32) (w : Wd) {G : (Int32 × Int32) → Prop} {P : (Unit ⊕ Int32) → Prop} (KG : ∀ s, G s → J κ RX2 cX2_rainsIn 5 (some .boolean) (rmk 1 22) 5 [(0, .ref (ad (gm κ) 5)), (1, .int a1), (2, .int a2), (3, .int s.1), (4, .int s.2)] [] w) (K0 : ∀ e, P (.inl e) → J κ RX2 cX2_rainsIn 5 (some .boolean) (rmk 1 22) 46 [] [] w) (K1 : ∀ e, P (.inr e) → J κ RX2 cX2_rainsIn 5 (some .boolean) (rmk 1 22) 56 [(3, .int e)] [] w) (h : ok (X2_rainsIn_j36  a1 a2 a4 w) (sel G P)) : J κ RX2 cX2_rainsIn 5 (some .boolean) (rmk 1 22) 36 [(0, .ref (ad (gm κ) 5)), (1, .int a1), (2, .int a2), (4, .int a4)] [] w := by
  unfold X2_rainsIn_j36 at h
  refine j_aload_n 0 dX2_rainsIn_36 rfl rfl ?_
  refine j_iload 3 dX2_rainsIn_37 rfl ?_
  refine j_iload_n 2 dX2_rainsIn_39 rfl rfl ?_
  obtain ⟨q1, e2, h⟩ := ok_b h
  refine j_callV (As := [.int a4, .int a2]) (st := []) [.int q1] (c_X2_isShut (kl κ) (gm κ) (kA κ) a4 a2 w q1 e2) ck_RX2_71 im_X2_isShut se_X2_isShut sh_5 cx_2 ⟨rfl, rfl⟩ ⟨by decide, by decide⟩ rfl rfl (Nat.le_of_ble_eq_true rfl) dX2_rainsIn_40 _ rfl ?_
  refine j_if_ne 48 dX2_rainsIn_43 (by decide) h (fun h => ?_) (fun h => ?_)
  · refine j_iconst (1 : Int32) dX2_rainsIn_48 ki_1 ?_
    refine j_istore_n [(3, .int (1 : Int32)), (0, .ref (ad (gm κ) 5)), (1, .int a1), (2, .int a2), (4, .int a4)] dX2_rainsIn_49 rfl (by decide) rfl ?_
    refine j_loc [(0, .ref (ad (gm κ) 5)), (1, .int a1), (2, .int a2), (3, .int (1 : Int32)), (4, .int a4)] [1, 2, 3, 0, 4] rfl ?_
    exact t_X2_rainsIn_j50 a1 a2 (1 : Int32) a4 w KG K0 K1 h
  · refine j_loc [] [] rfl ?_
    have h := sel_r h
    have h := K0 _ h
    exact h
noncomputable def X2_rainsIn_b5 (a1 : Int32) (a2 : Int32) (w : Wd) (s : (Int32 × Int32)) : Option ((Int32 × Int32) ⊕ (Unit ⊕ Int32)) :=
(if (w.1 5 2) ≤ s.2 then
some (.inr (.inr s.1))
else
gd (vp_in s.2 30) <|
(if (w.1 7 (ix s.2)) = a1 then
X2_rainsIn_j36 a1 a2 s.2 w
else
gd (vp_in s.2 30) <|
(if (w.1 8 (ix s.2)) = a1 then
X2_rainsIn_j36 a1 a2 s.2 w
else
X2_rainsIn_j50 a1 a2 s.1 s.2 w)))
set_option maxRecDepth 20000 in
set_option maxHeartbeats 1000000 in
theorem t_X2_rainsIn_b5 {κ : Kx} (a1 : Int32) (a2 : Int32) (w : Wd) {P : (Unit ⊕ Int32) → Prop} (K0 : ∀ e, P (.inl e) → J κ RX2 cX2_rainsIn 5 (some .boolean) (rmk 1 22) 46 [] [] w) (K1 : ∀ e, P (.inr e) → J κ RX2 cX2_rainsIn 5 (some .boolean) (rmk 1 22) 56 [(3, .int e)] [] w) (s : (Int32 × Int32)) (h : ok (lp (X2_rainsIn_b5  a1 a2 w) s) P) : J κ RX2 cX2_rainsIn 5 (some .boolean) (rmk 1 22) 5 [(0, .ref (ad (gm κ) 5)), (1, .int a1), (2, .int a2), (3, .int s.1), (4, .int s.2)] [] w := by
  refine lp_ind (fun s => J κ RX2 cX2_rainsIn 5 (some .boolean) (rmk 1 22) 5 [(0, .ref (ad (gm κ) 5)), (1, .int a1), (2, .int a2), (3, .int s.1), (4, .int s.2)] [] w) (fun s h => ?_) s h
  unfold X2_rainsIn_b5 at h
  refine j_iload 4 dX2_rainsIn_5 rfl ?_
  refine j_aload_n 0 dX2_rainsIn_7 rfl rfl ?_
  refine j_getI fl_RX2_68 sh_5 fk_5_2 dX2_rainsIn_8 ?_
  refine j_ic_ge 56 dX2_rainsIn_11 (by decide) h (fun h => ?_) (fun h => ?_)
  · refine j_loc [(3, .int s.1)] [3] rfl ?_
    have h := sel_r h
    have h := K1 _ h
    exact h
  · refine j_aload_n 0 dX2_rainsIn_14 rfl rfl ?_
    refine j_getA 7 fl_RX2_15 sh_5 fk_5_3 (by decide) dX2_rainsIn_15 ?_
    refine j_iload 4 dX2_rainsIn_18 rfl ?_
    refine j_iald sh_7 dX2_rainsIn_20 h (fun h => ?_)
    refine j_iload_n 1 dX2_rainsIn_21 rfl rfl ?_
    refine j_ic_eq 36 dX2_rainsIn_22 (by decide) h (fun h => ?_) (fun h => ?_)
    · refine j_loc [(0, .ref (ad (gm κ) 5)), (1, .int a1), (2, .int a2), (4, .int s.2)] [0, 1, 2, 4] rfl ?_
      exact t_X2_rainsIn_j36 a1 a2 s.2 w (fun _ h => h) K0 K1 h
    · refine j_aload_n 0 dX2_rainsIn_25 rfl rfl ?_
      refine j_getA 8 fl_RX2_18 sh_5 fk_5_4 (by decide) dX2_rainsIn_26 ?_
      refine j_iload 4 dX2_rainsIn_29 rfl ?_
      refine j_iald sh_8 dX2_rainsIn_31 h (fun h => ?_)
      refine j_iload_n 1 dX2_rainsIn_32 rfl rfl ?_
      refine j_ic_ne 50 dX2_rainsIn_33 (by decide) h (fun h => ?_) (fun h => ?_)
      · refine j_loc [(0, .ref (ad (gm κ) 5)), (1, .int a1), (2, .int a2), (3, .int s.1), (4, .int s.2)] [0, 1, 2, 3, 4] rfl ?_
        exact t_X2_rainsIn_j50 a1 a2 s.1 s.2 w (fun _ h => h) K0 K1 h
      · refine j_loc [(0, .ref (ad (gm κ) 5)), (1, .int a1), (2, .int a2), (4, .int s.2)] [0, 1, 2, 4] rfl ?_
        exact t_X2_rainsIn_j36 a1 a2 s.2 w (fun _ h => h) K0 K1 h
noncomputable def X2_rainsIn (a1 : Int32) (a2 : Int32) (w : Wd) : Option (Int32) :=
(lp (X2_rainsIn_b5 a1 a2 w) ((0 : Int32), (0 : Int32))).bind fun e3 => match e3 with
| (.inl e4) => (some (0 : Int32))
| (.inr e5) => (gd (narrow .boolean (.int e5) = .int e5) <|
some e5)
set_option maxRecDepth 20000 in
set_option maxHeartbeats 1000000 in
theorem t_X2_rainsIn {κ : Kx} (a1 : Int32) (a2 : Int32) (w : Wd) (h : ok (X2_rainsIn  a1 a2 w) (PI κ w)) : J κ RX2 cX2_rainsIn 5 (some .boolean) (rmk 1 22) 0 [(0, .ref (ad (gm κ) 5)), (1, .int a1), (2, .int a2)] [] w := by
  unfold X2_rainsIn at h
  refine j_iconst (0 : Int32) dX2_rainsIn_0 ki_0 ?_
  refine j_istore_n [(3, .int (0 : Int32)), (0, .ref (ad (gm κ) 5)), (1, .int a1), (2, .int a2)] dX2_rainsIn_1 rfl (by decide) rfl ?_
  refine j_iconst (0 : Int32) dX2_rainsIn_2 ki_0 ?_
  refine j_istore [(4, .int (0 : Int32)), (3, .int (0 : Int32)), (0, .ref (ad (gm κ) 5)), (1, .int a1), (2, .int a2)] dX2_rainsIn_3 (by decide) rfl ?_
  refine j_loc [(0, .ref (ad (gm κ) 5)), (1, .int a1), (2, .int a2), (3, .int (0 : Int32)), (4, .int (0 : Int32))] [2, 3, 4, 1, 0] rfl ?_
  refine t_X2_rainsIn_b5 a1 a2 w (fun e4 h => ?_) (fun e5 h => ?_) ((0 : Int32), (0 : Int32)) (ok_bb h)
  · refine j_iconst (0 : Int32) dX2_rainsIn_46 ki_0 ?_
    have h := ok_s h
    exact j_iret dX2_rainsIn_47 rfl (by decide) h
  · refine j_iload_n 0 dX2_rainsIn_56 rfl rfl ?_
    obtain ⟨hz, h⟩ := ok_g h
    have h := ok_s h
    exact j_iret dX2_rainsIn_57 rfl hz h
theorem c_X2_rainsIn (l : Launch) (γ : Gm) (A : Nat → Prop) (a1 : Int32) (a2 : Int32) (w : Wd) (q : Int32) (e : X2_rainsIn  a1 a2 w = some q) : MetG l γ A yX2_rainsIn cX2_rainsIn 5 (some .boolean) (rmk 1 22) [.ref (ad (γ) 5), .int a1, .int a2] w (some (.int q)) w := by
  refine met_of pn_RX2 (Nat.le_of_ble_eq_true rfl) ?_
  intro κ hl hγ hA hρ
  subst hl; subst hγ; subst hA
  exact t_X2_rainsIn   a1 a2 w ⟨q, e, pI hρ rfl rfl⟩
theorem dJ7_fill_53178_0 : decode cJ7_fill_53178 0 = .ok (.iconst 0, 1) := by decide +kernel
theorem dJ7_fill_53178_1 : decode cJ7_fill_53178 1 = .ok (.istore_n 2, 1) := by decide +kernel
theorem dJ7_fill_53178_2 : decode cJ7_fill_53178 2 = .ok (.aload_n 0, 1) := by decide +kernel
theorem dJ7_fill_53178_3 : decode cJ7_fill_53178 3 = .ok (.arraylength, 1) := by decide +kernel
theorem dJ7_fill_53178_4 : decode cJ7_fill_53178 4 = .ok (.istore_n 3, 1) := by decide +kernel
theorem dJ7_fill_53178_5 : decode cJ7_fill_53178 5 = .ok (.iload_n 2, 1) := by decide +kernel
theorem dJ7_fill_53178_6 : decode cJ7_fill_53178 6 = .ok (.iload_n 3, 1) := by decide +kernel
theorem dJ7_fill_53178_7 : decode cJ7_fill_53178 7 = .ok (.if_icmp .ge 13, 3) := by decide +kernel
theorem dJ7_fill_53178_10 : decode cJ7_fill_53178 10 = .ok (.aload_n 0, 1) := by decide +kernel
theorem dJ7_fill_53178_11 : decode cJ7_fill_53178 11 = .ok (.iload_n 2, 1) := by decide +kernel
theorem dJ7_fill_53178_12 : decode cJ7_fill_53178 12 = .ok (.iload_n 1, 1) := by decide +kernel
theorem dJ7_fill_53178_13 : decode cJ7_fill_53178 13 = .ok (.iastore, 1) := by decide +kernel
theorem dJ7_fill_53178_14 : decode cJ7_fill_53178 14 = .ok (.iinc 2 1, 3) := by decide +kernel
theorem dJ7_fill_53178_17 : decode cJ7_fill_53178 17 = .ok (.goto (-12), 3) := by decide +kernel
theorem dJ7_fill_53178_20 : decode cJ7_fill_53178 20 = .ok (.return_, 1) := by decide +kernel
noncomputable def J7_fill_53178_b5 (kv : Nat) (nv : Nat) (a1 : Int32) (a3 : Int32) (s : (Int32 × Wd)) : Option ((Int32 × Wd) ⊕ Wd) :=
(if a3 ≤ s.1 then
some (.inr s.2)
else
gd (vp_in s.1 nv) <|
(some (puI s.2 kv (ix s.1) a1)).bind fun w1 =>
some (.inl ((s.1 + (1 : Int32)), w1)))
set_option maxRecDepth 20000 in
set_option maxHeartbeats 1000000 in
theorem t_J7_fill_53178_b5 {κ : Kx} (kv : Nat) (nv : Nat) (hkv : sh kv = (0, nv)) (a1 : Int32) (a3 : Int32) {P : Wd → Prop} (K0 : ∀ e, P e → J κ RJ7 cJ7_fill_53178 4 none (rmk 0 0) 20 [] [] e) (s : (Int32 × Wd)) (h : ok (lp (J7_fill_53178_b5 kv nv a1 a3) s) P) : J κ RJ7 cJ7_fill_53178 4 none (rmk 0 0) 5 [(0, .ref (ad (gm κ) kv)), (1, .int a1), (2, .int s.1), (3, .int a3)] [] s.2 := by
  refine lp_ind (fun s => J κ RJ7 cJ7_fill_53178 4 none (rmk 0 0) 5 [(0, .ref (ad (gm κ) kv)), (1, .int a1), (2, .int s.1), (3, .int a3)] [] s.2) (fun s h => ?_) s h
  unfold J7_fill_53178_b5 at h
  refine j_iload_n 2 dJ7_fill_53178_5 rfl rfl ?_
  refine j_iload_n 3 dJ7_fill_53178_6 rfl rfl ?_
  refine j_ic_ge 20 dJ7_fill_53178_7 (by decide) h (fun h => ?_) (fun h => ?_)
  · refine j_loc [] [] rfl ?_
    have h := sel_r h
    have h := K0 _ h
    exact h
  · refine j_aload_n 0 dJ7_fill_53178_10 rfl rfl ?_
    refine j_iload_n 2 dJ7_fill_53178_11 rfl rfl ?_
    refine j_iload_n 1 dJ7_fill_53178_12 rfl rfl ?_
    refine j_iast hkv dJ7_fill_53178_13 h (fun h => ?_)
    refine j_lW h (fun w1 h => ?_)
    refine j_iinc (s.1 + (1 : Int32)) 2 [(2, .int (s.1 + (1 : Int32))), (0, .ref (ad (gm κ) kv)), (1, .int a1), (3, .int a3)] dJ7_fill_53178_14 rfl (by rw [kn_1]) (by decide) rfl ?_
    refine j_goto 5 dJ7_fill_53178_17 (by decide) ?_
    refine j_loc [(0, .ref (ad (gm κ) kv)), (1, .int a1), (2, .int (s.1 + (1 : Int32))), (3, .int a3)] [1, 2, 0, 3] rfl ?_
    have h := sel_l h
    exact h
noncomputable def J7_fill_53178 (kv : Nat) (nv : Nat) (a1 : Int32) (w : Wd) : Option (Wd) :=
(lp (J7_fill_53178_b5 kv nv a1 (Int32.ofNat nv)) ((0 : Int32), w)).bind fun e2 =>
some e2
set_option maxRecDepth 20000 in
set_option maxHeartbeats 1000000 in
theorem t_J7_fill_53178 {κ : Kx} (kv : Nat) (nv : Nat) (hkv : sh kv = (0, nv)) (a1 : Int32) (w : Wd) (h : ok (J7_fill_53178 kv nv a1 w) (PVw κ)) : J κ RJ7 cJ7_fill_53178 4 none (rmk 0 0) 0 [(0, .ref (ad (gm κ) kv)), (1, .int a1)] [] w := by
  unfold J7_fill_53178 at h
  refine j_iconst (0 : Int32) dJ7_fill_53178_0 ki_0 ?_
  refine j_istore_n [(2, .int (0 : Int32)), (0, .ref (ad (gm κ) kv)), (1, .int a1)] dJ7_fill_53178_1 rfl (by decide) rfl ?_
  refine j_aload_n 1 dJ7_fill_53178_2 rfl rfl ?_
  refine j_alenI (v := (Int32.ofNat nv)) hkv (by decide) rfl dJ7_fill_53178_3 ?_
  refine j_istore_n [(3, .int (Int32.ofNat nv)), (2, .int (0 : Int32)), (0, .ref (ad (gm κ) kv)), (1, .int a1)] dJ7_fill_53178_4 rfl (by decide) rfl ?_
  refine j_loc [(0, .ref (ad (gm κ) kv)), (1, .int a1), (2, .int (0 : Int32)), (3, .int (Int32.ofNat nv))] [2, 3, 1, 0] rfl ?_
  refine t_J7_fill_53178_b5 kv nv hkv a1 (Int32.ofNat nv) (fun e2 h => ?_) ((0 : Int32), w) (ok_bb h)
  · have h := ok_s h
    exact j_vret dJ7_fill_53178_20 rfl h
theorem c_J7_fill_53178 (l : Launch) (γ : Gm) (A : Nat → Prop) (kv : Nat) (nv : Nat) (hkv : sh kv = (0, nv)) (a1 : Int32) (w : Wd) (q : Wd) (e : J7_fill_53178 kv nv a1 w = some q) : MetG l γ A yJ7_fill_53178 cJ7_fill_53178 4 none (rmk 0 0) [.ref (ad (γ) kv), .int a1] w none q := by
  refine met_of pn_RJ7 (Nat.le_of_ble_eq_true rfl) ?_
  intro κ hl hγ hA hρ
  subst hl; subst hγ; subst hA
  exact t_J7_fill_53178 kv nv hkv a1 w ⟨q, e, pVw hρ rfl rfl⟩
