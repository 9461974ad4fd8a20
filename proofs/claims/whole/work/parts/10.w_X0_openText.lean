theorem dX0_openText_0 : decode cX0_openText 0 = .ok (.aload_n 0, 1) := by decide +kernel
theorem dX0_openText_1 : decode cX0_openText 1 = .ok (.iconst 0, 1) := by decide +kernel
theorem dX0_openText_2 : decode cX0_openText 2 = .ok (.putfield 59, 3) := by decide +kernel
theorem dX0_openText_5 : decode cX0_openText 5 = .ok (.aload_n 0, 1) := by decide +kernel
theorem dX0_openText_6 : decode cX0_openText 6 = .ok (.aload_n 0, 1) := by decide +kernel
theorem dX0_openText_7 : decode cX0_openText 7 = .ok (.getfield 63, 3) := by decide +kernel
theorem dX0_openText_10 : decode cX0_openText 10 = .ok (.putfield 66, 3) := by decide +kernel
theorem dX0_openText_13 : decode cX0_openText 13 = .ok (.return_, 1) := by decide +kernel
noncomputable def X0_openText (w : Wd) : Option (Wd) :=
(some (puI w 30 14 (0 : Int32))).bind fun w1 =>
(some (puI w1 30 15 (w1.1 30 13))).bind fun w2 =>
some w2
set_option maxRecDepth 20000 in
set_option maxHeartbeats 1000000 in
theorem t_X0_openText {κ : Kx} (w : Wd) (h : ok (X0_openText   w) (PVw κ)) : J κ RX0 cX0_openText 1 none (rmk 0 0) 0 [(0, .ref (ad (gm κ) 30))] [] w := by
  unfold X0_openText at h
  refine j_aload_n 0 dX0_openText_0 rfl rfl ?_
  refine j_iconst (0 : Int32) dX0_openText_1 ki_0 ?_
  refine j_putI fp_RX0_59 sh_30 fk_30_14 dX0_openText_2 ?_
  refine j_lW h (fun w1 h => ?_)
  refine j_aload_n 0 dX0_openText_5 rfl rfl ?_
  refine j_aload_n 0 dX0_openText_6 rfl rfl ?_
  refine j_getI fl_RX0_63 sh_30 fk_30_13 dX0_openText_7 ?_
  refine j_putI fp_RX0_66 sh_30 fk_30_15 dX0_openText_10 ?_
  refine j_lW h (fun w2 h => ?_)
  have h := ok_s h
  exact j_vret dX0_openText_13 rfl h
theorem c_X0_openText (l : Launch) (γ : Gm) (A : Nat → Prop) (w : Wd) (q : Wd) (e : X0_openText   w = some q) : MetG l γ A yX0_openText cX0_openText 1 none (rmk 0 0) [.ref (ad (γ) 30)] w none q := by
  refine met_of pn_RX0 (Nat.le_of_ble_eq_true rfl) ?_
  intro κ hl hγ hA hρ
  subst hl; subst hγ; subst hA
  exact t_X0_openText    w ⟨q, e, pVw hρ rfl rfl⟩
theorem dX0_isFull_0 : decode cX0_isFull 0 = .ok (.aload_n 0, 1) := by decide +kernel
theorem dX0_isFull_1 : decode cX0_isFull 1 = .ok (.getfield 59, 3) := by decide +kernel
theorem dX0_isFull_4 : decode cX0_isFull 4 = .ok (.bipush 20, 2) := by decide +kernel
theorem dX0_isFull_6 : decode cX0_isFull 6 = .ok (.if_icmp .ge 11, 3) := by decide +kernel
theorem dX0_isFull_9 : decode cX0_isFull 9 = .ok (.aload_n 0, 1) := by decide +kernel
theorem dX0_isFull_10 : decode cX0_isFull 10 = .ok (.getfield 69, 3) := by decide +kernel
theorem dX0_isFull_13 : decode cX0_isFull 13 = .ok (.iconst 5, 1) := by decide +kernel
theorem dX0_isFull_14 : decode cX0_isFull 14 = .ok (.if_icmp .lt 7, 3) := by decide +kernel
theorem dX0_isFull_17 : decode cX0_isFull 17 = .ok (.iconst 1, 1) := by decide +kernel
theorem dX0_isFull_18 : decode cX0_isFull 18 = .ok (.goto 4, 3) := by decide +kernel
theorem dX0_isFull_21 : decode cX0_isFull 21 = .ok (.iconst 0, 1) := by decide +kernel
theorem dX0_isFull_22 : decode cX0_isFull 22 = .ok (.ireturn, 1) := by decide +kernel
noncomputable def X0_isFullO (w : Wd) : Option (Int32) :=
(if (20 : Int32) ≤ (w.1 30 14) then
some (1 : Int32)
else
(if (w.1 30 0) < (5 : Int32) then
some (0 : Int32)
else
some (1 : Int32)))
set_option maxRecDepth 20000 in
set_option maxHeartbeats 1000000 in
theorem t_X0_isFull {κ : Kx} (w : Wd) (h : ok (X0_isFullO   w) (PI κ w)) : J κ RX0 cX0_isFull 1 (some .boolean) (rmk 0 0) 0 [(0, .ref (ad (gm κ) 30))] [] w := by
  unfold X0_isFullO at h
  refine j_aload_n 0 dX0_isFull_0 rfl rfl ?_
  refine j_getI fl_RX0_59 sh_30 fk_30_14 dX0_isFull_1 ?_
  refine j_bipush (20 : Int32) dX0_isFull_4 kb_20 ?_
  refine j_ic_ge 17 dX0_isFull_6 (by decide) h (fun h => ?_) (fun h => ?_)
  · refine j_iconst (1 : Int32) dX0_isFull_17 ki_1 ?_
    refine j_goto 22 dX0_isFull_18 (by decide) ?_
    have h := ok_s h
    exact j_iret dX0_isFull_22 rfl (by decide) h
  · refine j_aload_n 0 dX0_isFull_9 rfl rfl ?_
    refine j_getI fl_RX0_69 sh_30 fk_30_0 dX0_isFull_10 ?_
    refine j_iconst (5 : Int32) dX0_isFull_13 ki_5 ?_
    refine j_ic_lt 21 dX0_isFull_14 (by decide) h (fun h => ?_) (fun h => ?_)
    · refine j_iconst (0 : Int32) dX0_isFull_21 ki_0 ?_
      have h := ok_s h
      exact j_iret dX0_isFull_22 rfl (by decide) h
    · refine j_iconst (1 : Int32) dX0_isFull_17 ki_1 ?_
      refine j_goto 22 dX0_isFull_18 (by decide) ?_
      have h := ok_s h
      exact j_iret dX0_isFull_22 rfl (by decide) h
noncomputable def X0_isFull (w : Wd) : Int32 := (X0_isFullO   w).getD 0
theorem X0_isFull_eq (w : Wd) : X0_isFullO   w = some (X0_isFull   w) := by
  unfold X0_isFull X0_isFullO
  repeat (first | rfl | split)
theorem nz_X0_isFull (w : Wd) : narrow .boolean (.int (X0_isFull   w)) = .int (X0_isFull   w) := by
  unfold X0_isFull X0_isFullO
  repeat (first | rfl | split)
theorem c_X0_isFull (l : Launch) (γ : Gm) (A : Nat → Prop) (w : Wd) : MetG l γ A yX0_isFull cX0_isFull 1 (some .boolean) (rmk 0 0) [.ref (ad (γ) 30)] w (some (.int (X0_isFull   w))) w := by
  refine met_of pn_RX0 (Nat.le_of_ble_eq_true rfl) ?_
  intro κ hl hγ hA hρ
  subst hl; subst hγ; subst hA
  exact t_X0_isFull    w ⟨_, X0_isFull_eq   w, pI hρ rfl rfl⟩
theorem dX0_hasDraft_0 : decode cX0_hasDraft 0 = .ok (.aload_n 0, 1) := by decide +kernel
theorem dX0_hasDraft_1 : decode cX0_hasDraft 1 = .ok (.getfield 18, 3) := by decide +kernel
theorem dX0_hasDraft_4 : decode cX0_hasDraft 4 = .ok (.aload_n 0, 1) := by decide +kernel
theorem dX0_hasDraft_5 : decode cX0_hasDraft 5 = .ok (.getfield 69, 3) := by decide +kernel
theorem dX0_hasDraft_8 : decode cX0_hasDraft 8 = .ok (.iaload, 1) := by decide +kernel
theorem dX0_hasDraft_9 : decode cX0_hasDraft 9 = .ok (.istore_n 3, 1) := by decide +kernel
theorem dX0_hasDraft_10 : decode cX0_hasDraft 10 = .ok (.iload_n 3, 1) := by decide +kernel
theorem dX0_hasDraft_11 : decode cX0_hasDraft 11 = .ok (.istore 4, 2) := by decide +kernel
theorem dX0_hasDraft_13 : decode cX0_hasDraft 13 = .ok (.iload 4, 2) := by decide +kernel
theorem dX0_hasDraft_15 : decode cX0_hasDraft 15 = .ok (.iload_n 3, 1) := by decide +kernel
theorem dX0_hasDraft_16 : decode cX0_hasDraft 16 = .ok (.aload_n 0, 1) := by decide +kernel
theorem dX0_hasDraft_17 : decode cX0_hasDraft 17 = .ok (.getfield 59, 3) := by decide +kernel
theorem dX0_hasDraft_20 : decode cX0_hasDraft 20 = .ok (.iadd, 1) := by decide +kernel
theorem dX0_hasDraft_21 : decode cX0_hasDraft 21 = .ok (.if_icmp .ge 23, 3) := by decide +kernel
theorem dX0_hasDraft_24 : decode cX0_hasDraft 24 = .ok (.aload_n 0, 1) := by decide +kernel
theorem dX0_hasDraft_25 : decode cX0_hasDraft 25 = .ok (.getfield 24, 3) := by decide +kernel
theorem dX0_hasDraft_28 : decode cX0_hasDraft 28 = .ok (.iload 4, 2) := by decide +kernel
theorem dX0_hasDraft_30 : decode cX0_hasDraft 30 = .ok (.laload, 1) := by decide +kernel
theorem dX0_hasDraft_31 : decode cX0_hasDraft 31 = .ok (.lload_n 1, 1) := by decide +kernel
theorem dX0_hasDraft_32 : decode cX0_hasDraft 32 = .ok (.lcmp, 1) := by decide +kernel
theorem dX0_hasDraft_33 : decode cX0_hasDraft 33 = .ok (.ifCond .ne 5, 3) := by decide +kernel
theorem dX0_hasDraft_36 : decode cX0_hasDraft 36 = .ok (.iconst 1, 1) := by decide +kernel
theorem dX0_hasDraft_37 : decode cX0_hasDraft 37 = .ok (.ireturn, 1) := by decide +kernel
theorem dX0_hasDraft_38 : decode cX0_hasDraft 38 = .ok (.iinc 4 1, 3) := by decide +kernel
theorem dX0_hasDraft_41 : decode cX0_hasDraft 41 = .ok (.goto (-28), 3) := by decide +kernel
theorem dX0_hasDraft_44 : decode cX0_hasDraft 44 = .ok (.iconst 0, 1) := by decide +kernel
theorem dX0_hasDraft_45 : decode cX0_hasDraft 45 = .ok (.ireturn, 1) := by decide +kernel
noncomputable def X0_hasDraft_b13 (a1 : Int64) (a3 : Int32) (w : Wd) (s : Int32) : Option (Int32 ⊕ (Unit ⊕ Unit)) :=
(if (a3 + (w.1 30 14)) ≤ s then
some (.inr (.inr ()))
else
gd (vp_in s 100) <|
(if (lg_cmp (w.2 35 (ix s)) a1) = 0 then
some (.inr (.inl ()))
else
some (.inl (s + (1 : Int32)))))
set_option maxRecDepth 20000 in
set_option maxHeartbeats 1000000 in
theorem t_X0_hasDraft_b13 {κ : Kx} (a1 : Int64) (a3 : Int32) (w : Wd) {P : (Unit ⊕ Unit) → Prop} (K0 : ∀ e, P (.inl e) → J κ RX0 cX0_hasDraft 5 (some .boolean) (rmk 0 0) 36 [] [] w) (K1 : ∀ e, P (.inr e) → J κ RX0 cX0_hasDraft 5 (some .boolean) (rmk 0 0) 44 [] [] w) (s : Int32) (h : ok (lp (X0_hasDraft_b13  a1 a3 w) s) P) : J κ RX0 cX0_hasDraft 5 (some .boolean) (rmk 0 0) 13 [(0, .ref (ad (gm κ) 30)), (1, .long a1), (3, .int a3), (4, .int s)] [] w := by
  refine lp_ind (fun s => J κ RX0 cX0_hasDraft 5 (some .boolean) (rmk 0 0) 13 [(0, .ref (ad (gm κ) 30)), (1, .long a1), (3, .int a3), (4, .int s)] [] w) (fun s h => ?_) s h
  unfold X0_hasDraft_b13 at h
  refine j_iload 3 dX0_hasDraft_13 rfl ?_
  refine j_iload_n 2 dX0_hasDraft_15 rfl rfl ?_
  refine j_aload_n 0 dX0_hasDraft_16 rfl rfl ?_
  refine j_getI fl_RX0_59 sh_30 fk_30_14 dX0_hasDraft_17 ?_
  refine j_iadd dX0_hasDraft_20 ?_
  refine j_ic_ge 44 dX0_hasDraft_21 (by decide) h (fun h => ?_) (fun h => ?_)
  · refine j_loc [] [] rfl ?_
    have h := sel_r h
    have h := K1 _ h
    exact h
  · refine j_aload_n 0 dX0_hasDraft_24 rfl rfl ?_
    refine j_getA 35 fl_RX0_24 sh_30 fk_30_5 (by decide) dX0_hasDraft_25 ?_
    refine j_iload 3 dX0_hasDraft_28 rfl ?_
    refine j_lald sh_35 dX0_hasDraft_30 h (fun h => ?_)
    refine j_lload_n 1 dX0_hasDraft_31 rfl rfl ?_
    refine j_lcmp dX0_hasDraft_32 ?_
    refine j_if_ne 38 dX0_hasDraft_33 (by decide) h (fun h => ?_) (fun h => ?_)
    · refine j_iinc (s + (1 : Int32)) 3 [(4, .int (s + (1 : Int32))), (0, .ref (ad (gm κ) 30)), (1, .long a1), (3, .int a3)] dX0_hasDraft_38 rfl (by rw [kn_1]) (by decide) rfl ?_
      refine j_goto 13 dX0_hasDraft_41 (by decide) ?_
      refine j_loc [(0, .ref (ad (gm κ) 30)), (1, .long a1), (3, .int a3), (4, .int (s + (1 : Int32)))] [1, 2, 3, 0] rfl ?_
      have h := sel_l h
      exact h
    · refine j_loc [] [] rfl ?_
      have h := sel_r h
      have h := K0 _ h
      exact h
noncomputable def X0_hasDraft (a1 : Int64) (w : Wd) : Option (Int32) :=
gd (vp_in (w.1 30 0) 6) <|
(lp (X0_hasDraft_b13 a1 (w.1 33 (ix (w.1 30 0))) w) (w.1 33 (ix (w.1 30 0)))).bind fun e1 => match e1 with
| (.inl e2) => (some (1 : Int32))
| (.inr e3) => (some (0 : Int32))
set_option maxRecDepth 20000 in
set_option maxHeartbeats 1000000 in
theorem t_X0_hasDraft {κ : Kx} (a1 : Int64) (w : Wd) (h : ok (X0_hasDraft  a1 w) (PI κ w)) : J κ RX0 cX0_hasDraft 5 (some .boolean) (rmk 0 0) 0 [(0, .ref (ad (gm κ) 30)), (1, .long a1)] [] w := by
  unfold X0_hasDraft at h
  refine j_aload_n 0 dX0_hasDraft_0 rfl rfl ?_
  refine j_getA 33 fl_RX0_18 sh_30 fk_30_3 (by decide) dX0_hasDraft_1 ?_
  refine j_aload_n 0 dX0_hasDraft_4 rfl rfl ?_
  refine j_getI fl_RX0_69 sh_30 fk_30_0 dX0_hasDraft_5 ?_
  refine j_iald sh_33 dX0_hasDraft_8 h (fun h => ?_)
  refine j_istore_n [(3, .int (w.1 33 (ix (w.1 30 0)))), (0, .ref (ad (gm κ) 30)), (1, .long a1)] dX0_hasDraft_9 rfl (by decide) rfl ?_
  refine j_iload_n 0 dX0_hasDraft_10 rfl rfl ?_
  refine j_istore [(4, .int (w.1 33 (ix (w.1 30 0)))), (3, .int (w.1 33 (ix (w.1 30 0)))), (0, .ref (ad (gm κ) 30)), (1, .long a1)] dX0_hasDraft_11 (by decide) rfl ?_
  refine j_loc [(0, .ref (ad (gm κ) 30)), (1, .long a1), (3, .int (w.1 33 (ix (w.1 30 0)))), (4, .int (w.1 33 (ix (w.1 30 0))))] [2, 3, 1, 0] rfl ?_
  refine t_X0_hasDraft_b13 a1 (w.1 33 (ix (w.1 30 0))) w (fun e2 h => ?_) (fun e3 h => ?_) (w.1 33 (ix (w.1 30 0))) (ok_bb h)
  · refine j_iconst (1 : Int32) dX0_hasDraft_36 ki_1 ?_
    have h := ok_s h
    exact j_iret dX0_hasDraft_37 rfl (by decide) h
  · refine j_iconst (0 : Int32) dX0_hasDraft_44 ki_0 ?_
    have h := ok_s h
    exact j_iret dX0_hasDraft_45 rfl (by decide) h
theorem c_X0_hasDraft (l : Launch) (γ : Gm) (A : Nat → Prop) (a1 : Int64) (w : Wd) (q : Int32) (e : X0_hasDraft  a1 w = some q) : MetG l γ A yX0_hasDraft cX0_hasDraft 5 (some .boolean) (rmk 0 0) [.ref (ad (γ) 30), .long a1] w (some (.int q)) w := by
  refine met_of pn_RX0 (Nat.le_of_ble_eq_true rfl) ?_
  intro κ hl hγ hA hρ
  subst hl; subst hγ; subst hA
  exact t_X0_hasDraft   a1 w ⟨q, e, pI hρ rfl rfl⟩
theorem dX0_openRule_0 : decode cX0_openRule 0 = .ok (.aload_n 0, 1) := by decide +kernel
theorem dX0_openRule_1 : decode cX0_openRule 1 = .ok (.getfield 18, 3) := by decide +kernel
theorem dX0_openRule_4 : decode cX0_openRule 4 = .ok (.aload_n 0, 1) := by decide +kernel
theorem dX0_openRule_5 : decode cX0_openRule 5 = .ok (.getfield 69, 3) := by decide +kernel
theorem dX0_openRule_8 : decode cX0_openRule 8 = .ok (.iaload, 1) := by decide +kernel
theorem dX0_openRule_9 : decode cX0_openRule 9 = .ok (.aload_n 0, 1) := by decide +kernel
theorem dX0_openRule_10 : decode cX0_openRule 10 = .ok (.getfield 59, 3) := by decide +kernel
theorem dX0_openRule_13 : decode cX0_openRule 13 = .ok (.iadd, 1) := by decide +kernel
theorem dX0_openRule_14 : decode cX0_openRule 14 = .ok (.istore_n 3, 1) := by decide +kernel
theorem dX0_openRule_15 : decode cX0_openRule 15 = .ok (.aload_n 0, 1) := by decide +kernel
theorem dX0_openRule_16 : decode cX0_openRule 16 = .ok (.getfield 24, 3) := by decide +kernel
theorem dX0_openRule_19 : decode cX0_openRule 19 = .ok (.iload_n 3, 1) := by decide +kernel
theorem dX0_openRule_20 : decode cX0_openRule 20 = .ok (.lload_n 1, 1) := by decide +kernel
theorem dX0_openRule_21 : decode cX0_openRule 21 = .ok (.lastore, 1) := by decide +kernel
theorem dX0_openRule_22 : decode cX0_openRule 22 = .ok (.aload_n 0, 1) := by decide +kernel
theorem dX0_openRule_23 : decode cX0_openRule 23 = .ok (.getfield 28, 3) := by decide +kernel
theorem dX0_openRule_26 : decode cX0_openRule 26 = .ok (.iload_n 3, 1) := by decide +kernel
theorem dX0_openRule_27 : decode cX0_openRule 27 = .ok (.ldc2_w 72, 3) := by decide +kernel
theorem dX0_openRule_30 : decode cX0_openRule 30 = .ok (.lastore, 1) := by decide +kernel
theorem dX0_openRule_31 : decode cX0_openRule 31 = .ok (.aload_n 0, 1) := by decide +kernel
theorem dX0_openRule_32 : decode cX0_openRule 32 = .ok (.getfield 31, 3) := by decide +kernel
theorem dX0_openRule_35 : decode cX0_openRule 35 = .ok (.iload_n 3, 1) := by decide +kernel
theorem dX0_openRule_36 : decode cX0_openRule 36 = .ok (.iconst 0, 1) := by decide +kernel
theorem dX0_openRule_37 : decode cX0_openRule 37 = .ok (.iastore, 1) := by decide +kernel
theorem dX0_openRule_38 : decode cX0_openRule 38 = .ok (.aload_n 0, 1) := by decide +kernel
theorem dX0_openRule_39 : decode cX0_openRule 39 = .ok (.getfield 34, 3) := by decide +kernel
theorem dX0_openRule_42 : decode cX0_openRule 42 = .ok (.iload_n 3, 1) := by decide +kernel
theorem dX0_openRule_43 : decode cX0_openRule 43 = .ok (.iconst 0, 1) := by decide +kernel
theorem dX0_openRule_44 : decode cX0_openRule 44 = .ok (.iastore, 1) := by decide +kernel
theorem dX0_openRule_45 : decode cX0_openRule 45 = .ok (.aload_n 0, 1) := by decide +kernel
theorem dX0_openRule_46 : decode cX0_openRule 46 = .ok (.getfield 37, 3) := by decide +kernel
theorem dX0_openRule_49 : decode cX0_openRule 49 = .ok (.iload_n 3, 1) := by decide +kernel
theorem dX0_openRule_50 : decode cX0_openRule 50 = .ok (.aload_n 0, 1) := by decide +kernel
theorem dX0_openRule_51 : decode cX0_openRule 51 = .ok (.getfield 66, 3) := by decide +kernel
theorem dX0_openRule_54 : decode cX0_openRule 54 = .ok (.iastore, 1) := by decide +kernel
theorem dX0_openRule_55 : decode cX0_openRule 55 = .ok (.aload_n 0, 1) := by decide +kernel
theorem dX0_openRule_56 : decode cX0_openRule 56 = .ok (.getfield 40, 3) := by decide +kernel
theorem dX0_openRule_59 : decode cX0_openRule 59 = .ok (.iload_n 3, 1) := by decide +kernel
theorem dX0_openRule_60 : decode cX0_openRule 60 = .ok (.iconst (-1), 1) := by decide +kernel
theorem dX0_openRule_61 : decode cX0_openRule 61 = .ok (.iastore, 1) := by decide +kernel
theorem dX0_openRule_62 : decode cX0_openRule 62 = .ok (.aload_n 0, 1) := by decide +kernel
theorem dX0_openRule_63 : decode cX0_openRule 63 = .ok (.getfield 43, 3) := by decide +kernel
theorem dX0_openRule_66 : decode cX0_openRule 66 = .ok (.iload_n 3, 1) := by decide +kernel
theorem dX0_openRule_67 : decode cX0_openRule 67 = .ok (.aload_n 0, 1) := by decide +kernel
theorem dX0_openRule_68 : decode cX0_openRule 68 = .ok (.getfield 66, 3) := by decide +kernel
theorem dX0_openRule_71 : decode cX0_openRule 71 = .ok (.iastore, 1) := by decide +kernel
theorem dX0_openRule_72 : decode cX0_openRule 72 = .ok (.aload_n 0, 1) := by decide +kernel
theorem dX0_openRule_73 : decode cX0_openRule 73 = .ok (.dup, 1) := by decide +kernel
theorem dX0_openRule_74 : decode cX0_openRule 74 = .ok (.getfield 59, 3) := by decide +kernel
theorem dX0_openRule_77 : decode cX0_openRule 77 = .ok (.iconst 1, 1) := by decide +kernel
theorem dX0_openRule_78 : decode cX0_openRule 78 = .ok (.iadd, 1) := by decide +kernel
theorem dX0_openRule_79 : decode cX0_openRule 79 = .ok (.putfield 59, 3) := by decide +kernel
theorem dX0_openRule_82 : decode cX0_openRule 82 = .ok (.return_, 1) := by decide +kernel
noncomputable def X0_openRule (a1 : Int64) (w : Wd) : Option (Wd) :=
gd (vp_in (w.1 30 0) 6) <|
(some ((w.1 33 (ix (w.1 30 0))) + (w.1 30 14))).bind fun z1 =>
gd (vp_in z1 100) <|
(some (puJ w 35 (ix z1) a1)).bind fun w2 =>
gd (vp_in z1 100) <|
(some (puJ w2 36 (ix z1) (-1 : Int64))).bind fun w3 =>
gd (vp_in z1 100) <|
(some (puI w3 37 (ix z1) (0 : Int32))).bind fun w4 =>
gd (vp_in z1 100) <|
(some (puI w4 38 (ix z1) (0 : Int32))).bind fun w5 =>
gd (vp_in z1 100) <|
(some (puI w5 39 (ix z1) (w5.1 30 15))).bind fun w6 =>
gd (vp_in z1 100) <|
(some (puI w6 40 (ix z1) (-1 : Int32))).bind fun w7 =>
gd (vp_in z1 100) <|
(some (puI w7 41 (ix z1) (w7.1 30 15))).bind fun w8 =>
(some (puI w8 30 14 ((w8.1 30 14) + (1 : Int32)))).bind fun w9 =>
some w9
set_option maxRecDepth 20000 in
set_option maxHeartbeats 1000000 in
theorem t_X0_openRule {κ : Kx} (a1 : Int64) (w : Wd) (h : ok (X0_openRule  a1 w) (PVw κ)) : J κ RX0 cX0_openRule 4 none (rmk 0 0) 0 [(0, .ref (ad (gm κ) 30)), (1, .long a1)] [] w := by
  unfold X0_openRule at h
  refine j_aload_n 0 dX0_openRule_0 rfl rfl ?_
  refine j_getA 33 fl_RX0_18 sh_30 fk_30_3 (by decide) dX0_openRule_1 ?_
  refine j_aload_n 0 dX0_openRule_4 rfl rfl ?_
  refine j_getI fl_RX0_69 sh_30 fk_30_0 dX0_openRule_5 ?_
  refine j_iald sh_33 dX0_openRule_8 h (fun h => ?_)
  refine j_aload_n 0 dX0_openRule_9 rfl rfl ?_
  refine j_getI fl_RX0_59 sh_30 fk_30_14 dX0_openRule_10 ?_
  refine j_iadd dX0_openRule_13 ?_
  refine j_lI h (fun z1 h => ?_)
  refine j_istore_n [(3, .int z1), (0, .ref (ad (gm κ) 30)), (1, .long a1)] dX0_openRule_14 rfl (by decide) rfl ?_
  refine j_aload_n 1 dX0_openRule_15 rfl rfl ?_
  refine j_getA 35 fl_RX0_24 sh_30 fk_30_5 (by decide) dX0_openRule_16 ?_
  refine j_iload_n 0 dX0_openRule_19 rfl rfl ?_
  refine j_lload_n 2 dX0_openRule_20 rfl rfl ?_
  refine j_last sh_35 dX0_openRule_21 h (fun h => ?_)
  refine j_lW h (fun w2 h => ?_)
  refine j_aload_n 1 dX0_openRule_22 rfl rfl ?_
  refine j_getA 36 fl_RX0_28 sh_30 fk_30_6 (by decide) dX0_openRule_23 ?_
  refine j_iload_n 0 dX0_openRule_26 rfl rfl ?_
  refine j_ldc2 cl_RX0_72 dX0_openRule_27 ?_
  refine j_last sh_36 dX0_openRule_30 h (fun h => ?_)
  refine j_lW h (fun w3 h => ?_)
  refine j_aload_n 1 dX0_openRule_31 rfl rfl ?_
  refine j_getA 37 fl_RX0_31 sh_30 fk_30_7 (by decide) dX0_openRule_32 ?_
  refine j_iload_n 0 dX0_openRule_35 rfl rfl ?_
  refine j_iconst (0 : Int32) dX0_openRule_36 ki_0 ?_
  refine j_iast sh_37 dX0_openRule_37 h (fun h => ?_)
  refine j_lW h (fun w4 h => ?_)
  refine j_aload_n 1 dX0_openRule_38 rfl rfl ?_
  refine j_getA 38 fl_RX0_34 sh_30 fk_30_8 (by decide) dX0_openRule_39 ?_
  refine j_iload_n 0 dX0_openRule_42 rfl rfl ?_
  refine j_iconst (0 : Int32) dX0_openRule_43 ki_0 ?_
  refine j_iast sh_38 dX0_openRule_44 h (fun h => ?_)
  refine j_lW h (fun w5 h => ?_)
  refine j_aload_n 1 dX0_openRule_45 rfl rfl ?_
  refine j_getA 39 fl_RX0_37 sh_30 fk_30_9 (by decide) dX0_openRule_46 ?_
  refine j_iload_n 0 dX0_openRule_49 rfl rfl ?_
  refine j_aload_n 1 dX0_openRule_50 rfl rfl ?_
  refine j_getI fl_RX0_66 sh_30 fk_30_15 dX0_openRule_51 ?_
  refine j_iast sh_39 dX0_openRule_54 h (fun h => ?_)
  refine j_lW h (fun w6 h => ?_)
  refine j_aload_n 1 dX0_openRule_55 rfl rfl ?_
  refine j_getA 40 fl_RX0_40 sh_30 fk_30_10 (by decide) dX0_openRule_56 ?_
  refine j_iload_n 0 dX0_openRule_59 rfl rfl ?_
  refine j_iconst (-1 : Int32) dX0_openRule_60 ki_m1 ?_
  refine j_iast sh_40 dX0_openRule_61 h (fun h => ?_)
  refine j_lW h (fun w7 h => ?_)
  refine j_aload_n 1 dX0_openRule_62 rfl rfl ?_
  refine j_getA 41 fl_RX0_43 sh_30 fk_30_11 (by decide) dX0_openRule_63 ?_
  refine j_iload_n 0 dX0_openRule_66 rfl rfl ?_
  refine j_aload_n 1 dX0_openRule_67 rfl rfl ?_
  refine j_getI fl_RX0_66 sh_30 fk_30_15 dX0_openRule_68 ?_
  refine j_iast sh_41 dX0_openRule_71 h (fun h => ?_)
  refine j_lW h (fun w8 h => ?_)
  refine j_aload_n 1 dX0_openRule_72 rfl rfl ?_
  refine j_dup dX0_openRule_73 rfl ?_
  refine j_getI fl_RX0_59 sh_30 fk_30_14 dX0_openRule_74 ?_
  refine j_iconst (1 : Int32) dX0_openRule_77 ki_1 ?_
  refine j_iadd dX0_openRule_78 ?_
  refine j_putI fp_RX0_59 sh_30 fk_30_14 dX0_openRule_79 ?_
  refine j_lW h (fun w9 h => ?_)
  have h := ok_s h
  exact j_vret dX0_openRule_82 rfl h
theorem c_X0_openRule (l : Launch) (γ : Gm) (A : Nat → Prop) (a1 : Int64) (w : Wd) (q : Wd) (e : X0_openRule  a1 w = some q) : MetG l γ A yX0_openRule cX0_openRule 4 none (rmk 0 0) [.ref (ad (γ) 30), .long a1] w none q := by
  refine met_of pn_RX0 (Nat.le_of_ble_eq_true rfl) ?_
  intro κ hl hγ hA hρ
  subst hl; subst hγ; subst hA
  exact t_X0_openRule   a1 w ⟨q, e, pVw hρ rfl rfl⟩
theorem dX0_draft_0 : decode cX0_draft 0 = .ok (.iconst 0, 1) := by decide +kernel
theorem dX0_draft_1 : decode cX0_draft 1 = .ok (.aload_n 0, 1) := by decide +kernel
theorem dX0_draft_2 : decode cX0_draft 2 = .ok (.getfield 18, 3) := by decide +kernel
theorem dX0_draft_5 : decode cX0_draft 5 = .ok (.aload_n 0, 1) := by decide +kernel
theorem dX0_draft_6 : decode cX0_draft 6 = .ok (.getfield 69, 3) := by decide +kernel
theorem dX0_draft_9 : decode cX0_draft 9 = .ok (.iaload, 1) := by decide +kernel
theorem dX0_draft_10 : decode cX0_draft 10 = .ok (.aload_n 0, 1) := by decide +kernel
theorem dX0_draft_11 : decode cX0_draft 11 = .ok (.getfield 59, 3) := by decide +kernel
theorem dX0_draft_14 : decode cX0_draft 14 = .ok (.iadd, 1) := by decide +kernel
theorem dX0_draft_15 : decode cX0_draft 15 = .ok (.iconst 1, 1) := by decide +kernel
theorem dX0_draft_16 : decode cX0_draft 16 = .ok (.isub, 1) := by decide +kernel
theorem dX0_draft_17 : decode cX0_draft 17 = .ok (.invokestatic 74, 3) := by decide +kernel
theorem dX0_draft_20 : decode cX0_draft 20 = .ok (.ireturn, 1) := by decide +kernel
noncomputable def X0_draft (w : Wd) : Option (Int32) :=
gd (vp_in (w.1 30 0) 6) <|
some (mxI (0 : Int32) (((w.1 33 (ix (w.1 30 0))) + (w.1 30 14)) - (1 : Int32)))
set_option maxRecDepth 20000 in
set_option maxHeartbeats 1000000 in
theorem t_X0_draft {κ : Kx} (w : Wd) (h : ok (X0_draft   w) (PI κ w)) : J κ RX0 cX0_draft 1 (some .int) (rmk 1 23) 0 [(0, .ref (ad (gm κ) 30))] [] w := by
  unfold X0_draft at h
  refine j_iconst (0 : Int32) dX0_draft_0 ki_0 ?_
  refine j_aload_n 0 dX0_draft_1 rfl rfl ?_
  refine j_getA 33 fl_RX0_18 sh_30 fk_30_3 (by decide) dX0_draft_2 ?_
  refine j_aload_n 0 dX0_draft_5 rfl rfl ?_
  refine j_getI fl_RX0_69 sh_30 fk_30_0 dX0_draft_6 ?_
  refine j_iald sh_33 dX0_draft_9 h (fun h => ?_)
  refine j_aload_n 0 dX0_draft_10 rfl rfl ?_
  refine j_getI fl_RX0_59 sh_30 fk_30_14 dX0_draft_11 ?_
  refine j_iadd dX0_draft_14 ?_
  refine j_iconst (1 : Int32) dX0_draft_15 ki_1 ?_
  refine j_isub dX0_draft_16 ?_
  refine j_mxI mt_RX0_74 (by decide) (Nat.le_of_ble_eq_true rfl) dX0_draft_17 ?_
  have h := ok_s h
  exact j_iret dX0_draft_20 rfl rfl h
theorem c_X0_draft (l : Launch) (γ : Gm) (A : Nat → Prop) (w : Wd) (q : Int32) (e : X0_draft   w = some q) : MetG l γ A yX0_draft cX0_draft 1 (some .int) (rmk 1 23) [.ref (ad (γ) 30)] w (some (.int q)) w := by
  refine met_of pn_RX0 (Nat.le_of_ble_eq_true rfl) ?_
  intro κ hl hγ hA hρ
  subst hl; subst hγ; subst hA
  exact t_X0_draft    w ⟨q, e, pI hρ rfl rfl⟩
theorem dX0_draftStrikes_0 : decode cX0_draftStrikes 0 = .ok (.aload_n 0, 1) := by decide +kernel
theorem dX0_draftStrikes_1 : decode cX0_draftStrikes 1 = .ok (.getfield 28, 3) := by decide +kernel
theorem dX0_draftStrikes_4 : decode cX0_draftStrikes 4 = .ok (.aload_n 0, 1) := by decide +kernel
theorem dX0_draftStrikes_5 : decode cX0_draftStrikes 5 = .ok (.invokevirtual 80, 3) := by decide +kernel
theorem dX0_draftStrikes_8 : decode cX0_draftStrikes 8 = .ok (.lload_n 1, 1) := by decide +kernel
theorem dX0_draftStrikes_9 : decode cX0_draftStrikes 9 = .ok (.lastore, 1) := by decide +kernel
theorem dX0_draftStrikes_10 : decode cX0_draftStrikes 10 = .ok (.return_, 1) := by decide +kernel
noncomputable def X0_draftStrikes (a1 : Int64) (w : Wd) : Option (Wd) :=
(X0_draft w).bind fun q1 =>
gd (vp_in q1 100) <|
(some (puJ w 36 (ix q1) a1)).bind fun w3 =>
some w3
set_option maxRecDepth 20000 in
set_option maxHeartbeats 1000000 in
theorem t_X0_draftStrikes {κ : Kx} (a1 : Int64) (w : Wd) (h : ok (X0_draftStrikes  a1 w) (PVw κ)) : J κ RX0 cX0_draftStrikes 3 none (rmk 2 43) 0 [(0, .ref (ad (gm κ) 30)), (1, .long a1)] [] w := by
  unfold X0_draftStrikes at h
  refine j_aload_n 0 dX0_draftStrikes_0 rfl rfl ?_
  refine j_getA 36 fl_RX0_28 sh_30 fk_30_6 (by decide) dX0_draftStrikes_1 ?_
  refine j_aload_n 0 dX0_draftStrikes_4 rfl rfl ?_
  obtain ⟨q1, e2, h⟩ := ok_b h
  refine j_callV (As := []) (st := [.ref (ad (gm κ) 36)]) [.int q1, .ref (ad (gm κ) 36)] (c_X0_draft (kl κ) (gm κ) (kA κ) w q1 e2) ck_RX0_80 im_X0_draft se_X0_draft sh_30 cx_0 ⟨rfl, rfl⟩ ⟨by decide, by decide⟩ rfl rfl (Nat.le_of_ble_eq_true rfl) dX0_draftStrikes_5 _ rfl ?_
  refine j_lload_n 1 dX0_draftStrikes_8 rfl rfl ?_
  refine j_last sh_36 dX0_draftStrikes_9 h (fun h => ?_)
  refine j_lW h (fun w3 h => ?_)
  have h := ok_s h
  exact j_vret dX0_draftStrikes_10 rfl h
theorem c_X0_draftStrikes (l : Launch) (γ : Gm) (A : Nat → Prop) (a1 : Int64) (w : Wd) (q : Wd) (e : X0_draftStrikes  a1 w = some q) : MetG l γ A yX0_draftStrikes cX0_draftStrikes 3 none (rmk 2 43) [.ref (ad (γ) 30), .long a1] w none q := by
  refine met_of pn_RX0 (Nat.le_of_ble_eq_true rfl) ?_
  intro κ hl hγ hA hρ
  subst hl; subst hγ; subst hA
  exact t_X0_draftStrikes   a1 w ⟨q, e, pVw hρ rfl rfl⟩
theorem dX0_draftDoes_0 : decode cX0_draftDoes 0 = .ok (.aload_n 0, 1) := by decide +kernel
theorem dX0_draftDoes_1 : decode cX0_draftDoes 1 = .ok (.getfield 31, 3) := by decide +kernel
theorem dX0_draftDoes_4 : decode cX0_draftDoes 4 = .ok (.aload_n 0, 1) := by decide +kernel
theorem dX0_draftDoes_5 : decode cX0_draftDoes 5 = .ok (.invokevirtual 80, 3) := by decide +kernel
theorem dX0_draftDoes_8 : decode cX0_draftDoes 8 = .ok (.iload_n 1, 1) := by decide +kernel
theorem dX0_draftDoes_9 : decode cX0_draftDoes 9 = .ok (.iastore, 1) := by decide +kernel
theorem dX0_draftDoes_10 : decode cX0_draftDoes 10 = .ok (.return_, 1) := by decide +kernel
noncomputable def X0_draftDoes (a1 : Int32) (w : Wd) : Option (Wd) :=
(X0_draft w).bind fun q1 =>
gd (vp_in q1 100) <|
(some (puI w 37 (ix q1) a1)).bind fun w3 =>
some w3
set_option maxRecDepth 20000 in
set_option maxHeartbeats 1000000 in
theorem t_X0_draftDoes {κ : Kx} (a1 : Int32) (w : Wd) (h : ok (X0_draftDoes  a1 w) (PVw κ)) : J κ RX0 cX0_draftDoes 2 none (rmk 2 43) 0 [(0, .ref (ad (gm κ) 30)), (1, .int a1)] [] w := by
  unfold X0_draftDoes at h
  refine j_aload_n 0 dX0_draftDoes_0 rfl rfl ?_
  refine j_getA 37 fl_RX0_31 sh_30 fk_30_7 (by decide) dX0_draftDoes_1 ?_
  refine j_aload_n 0 dX0_draftDoes_4 rfl rfl ?_
  obtain ⟨q1, e2, h⟩ := ok_b h
  refine j_callV (As := []) (st := [.ref (ad (gm κ) 37)]) [.int q1, .ref (ad (gm κ) 37)] (c_X0_draft (kl κ) (gm κ) (kA κ) w q1 e2) ck_RX0_80 im_X0_draft se_X0_draft sh_30 cx_0 ⟨rfl, rfl⟩ ⟨by decide, by decide⟩ rfl rfl (Nat.le_of_ble_eq_true rfl) dX0_draftDoes_5 _ rfl ?_
  refine j_iload_n 1 dX0_draftDoes_8 rfl rfl ?_
  refine j_iast sh_37 dX0_draftDoes_9 h (fun h => ?_)
  refine j_lW h (fun w3 h => ?_)
  have h := ok_s h
  exact j_vret dX0_draftDoes_10 rfl h
theorem c_X0_draftDoes (l : Launch) (γ : Gm) (A : Nat → Prop) (a1 : Int32) (w : Wd) (q : Wd) (e : X0_draftDoes  a1 w = some q) : MetG l γ A yX0_draftDoes cX0_draftDoes 2 none (rmk 2 43) [.ref (ad (γ) 30), .int a1] w none q := by
  refine met_of pn_RX0 (Nat.le_of_ble_eq_true rfl) ?_
  intro κ hl hγ hA hρ
  subst hl; subst hγ; subst hA
  exact t_X0_draftDoes   a1 w ⟨q, e, pVw hρ rfl rfl⟩
theorem dX0_draftLimit_0 : decode cX0_draftLimit 0 = .ok (.aload_n 0, 1) := by decide +kernel
theorem dX0_draftLimit_1 : decode cX0_draftLimit 1 = .ok (.getfield 34, 3) := by decide +kernel
theorem dX0_draftLimit_4 : decode cX0_draftLimit 4 = .ok (.aload_n 0, 1) := by decide +kernel
theorem dX0_draftLimit_5 : decode cX0_draftLimit 5 = .ok (.invokevirtual 80, 3) := by decide +kernel
theorem dX0_draftLimit_8 : decode cX0_draftLimit 8 = .ok (.iload_n 1, 1) := by decide +kernel
theorem dX0_draftLimit_9 : decode cX0_draftLimit 9 = .ok (.iastore, 1) := by decide +kernel
theorem dX0_draftLimit_10 : decode cX0_draftLimit 10 = .ok (.return_, 1) := by decide +kernel
noncomputable def X0_draftLimit (a1 : Int32) (w : Wd) : Option (Wd) :=
(X0_draft w).bind fun q1 =>
gd (vp_in q1 100) <|
(some (puI w 38 (ix q1) a1)).bind fun w3 =>
some w3
set_option maxRecDepth 20000 in
set_option maxHeartbeats 1000000 in
theorem t_X0_draftLimit {κ : Kx} (a1 : Int32) (w : Wd) (h : ok (X0_draftLimit  a1 w) (PVw κ)) : J κ RX0 cX0_draftLimit 2 none (rmk 2 43) 0 [(0, .ref (ad (gm κ) 30)), (1, .int a1)] [] w := by
  unfold X0_draftLimit at h
  refine j_aload_n 0 dX0_draftLimit_0 rfl rfl ?_
  refine j_getA 38 fl_RX0_34 sh_30 fk_30_8 (by decide) dX0_draftLimit_1 ?_
  refine j_aload_n 0 dX0_draftLimit_4 rfl rfl ?_
  obtain ⟨q1, e2, h⟩ := ok_b h
  refine j_callV (As := []) (st := [.ref (ad (gm κ) 38)]) [.int q1, .ref (ad (gm κ) 38)] (c_X0_draft (kl κ) (gm κ) (kA κ) w q1 e2) ck_RX0_80 im_X0_draft se_X0_draft sh_30 cx_0 ⟨rfl, rfl⟩ ⟨by decide, by decide⟩ rfl rfl (Nat.le_of_ble_eq_true rfl) dX0_draftLimit_5 _ rfl ?_
  refine j_iload_n 1 dX0_draftLimit_8 rfl rfl ?_
  refine j_iast sh_38 dX0_draftLimit_9 h (fun h => ?_)
  refine j_lW h (fun w3 h => ?_)
  have h := ok_s h
  exact j_vret dX0_draftLimit_10 rfl h
theorem c_X0_draftLimit (l : Launch) (γ : Gm) (A : Nat → Prop) (a1 : Int32) (w : Wd) (q : Wd) (e : X0_draftLimit  a1 w = some q) : MetG l γ A yX0_draftLimit cX0_draftLimit 2 none (rmk 2 43) [.ref (ad (γ) 30), .int a1] w none q := by
  refine met_of pn_RX0 (Nat.le_of_ble_eq_true rfl) ?_
  intro κ hl hγ hA hρ
  subst hl; subst hγ; subst hA
  exact t_X0_draftLimit   a1 w ⟨q, e, pVw hρ rfl rfl⟩
theorem dX0_draftUnless_0 : decode cX0_draftUnless 0 = .ok (.aload_n 0, 1) := by decide +kernel
theorem dX0_draftUnless_1 : decode cX0_draftUnless 1 = .ok (.getfield 40, 3) := by decide +kernel
theorem dX0_draftUnless_4 : decode cX0_draftUnless 4 = .ok (.aload_n 0, 1) := by decide +kernel
theorem dX0_draftUnless_5 : decode cX0_draftUnless 5 = .ok (.invokevirtual 80, 3) := by decide +kernel
theorem dX0_draftUnless_8 : decode cX0_draftUnless 8 = .ok (.aload_n 0, 1) := by decide +kernel
theorem dX0_draftUnless_9 : decode cX0_draftUnless 9 = .ok (.getfield 66, 3) := by decide +kernel
theorem dX0_draftUnless_12 : decode cX0_draftUnless 12 = .ok (.iastore, 1) := by decide +kernel
theorem dX0_draftUnless_13 : decode cX0_draftUnless 13 = .ok (.return_, 1) := by decide +kernel
noncomputable def X0_draftUnless (w : Wd) : Option (Wd) :=
(X0_draft w).bind fun q1 =>
gd (vp_in q1 100) <|
(some (puI w 40 (ix q1) (w.1 30 15))).bind fun w3 =>
some w3
set_option maxRecDepth 20000 in
set_option maxHeartbeats 1000000 in
theorem t_X0_draftUnless {κ : Kx} (w : Wd) (h : ok (X0_draftUnless   w) (PVw κ)) : J κ RX0 cX0_draftUnless 1 none (rmk 2 43) 0 [(0, .ref (ad (gm κ) 30))] [] w := by
  unfold X0_draftUnless at h
  refine j_aload_n 0 dX0_draftUnless_0 rfl rfl ?_
  refine j_getA 40 fl_RX0_40 sh_30 fk_30_10 (by decide) dX0_draftUnless_1 ?_
  refine j_aload_n 0 dX0_draftUnless_4 rfl rfl ?_
  obtain ⟨q1, e2, h⟩ := ok_b h
  refine j_callV (As := []) (st := [.ref (ad (gm κ) 40)]) [.int q1, .ref (ad (gm κ) 40)] (c_X0_draft (kl κ) (gm κ) (kA κ) w q1 e2) ck_RX0_80 im_X0_draft se_X0_draft sh_30 cx_0 ⟨rfl, rfl⟩ ⟨by decide, by decide⟩ rfl rfl (Nat.le_of_ble_eq_true rfl) dX0_draftUnless_5 _ rfl ?_
  refine j_aload_n 0 dX0_draftUnless_8 rfl rfl ?_
  refine j_getI fl_RX0_66 sh_30 fk_30_15 dX0_draftUnless_9 ?_
  refine j_iast sh_40 dX0_draftUnless_12 h (fun h => ?_)
  refine j_lW h (fun w3 h => ?_)
  have h := ok_s h
  exact j_vret dX0_draftUnless_13 rfl h
theorem c_X0_draftUnless (l : Launch) (γ : Gm) (A : Nat → Prop) (w : Wd) (q : Wd) (e : X0_draftUnless   w = some q) : MetG l γ A yX0_draftUnless cX0_draftUnless 1 none (rmk 2 43) [.ref (ad (γ) 30)] w none q := by
  refine met_of pn_RX0 (Nat.le_of_ble_eq_true rfl) ?_
  intro κ hl hγ hA hρ
  subst hl; subst hγ; subst hA
  exact t_X0_draftUnless    w ⟨q, e, pVw hρ rfl rfl⟩
theorem dX0_hasUnless_0 : decode cX0_hasUnless 0 = .ok (.aload_n 0, 1) := by decide +kernel
theorem dX0_hasUnless_1 : decode cX0_hasUnless 1 = .ok (.getfield 40, 3) := by decide +kernel
theorem dX0_hasUnless_4 : decode cX0_hasUnless 4 = .ok (.aload_n 0, 1) := by decide +kernel
theorem dX0_hasUnless_5 : decode cX0_hasUnless 5 = .ok (.invokevirtual 80, 3) := by decide +kernel
theorem dX0_hasUnless_8 : decode cX0_hasUnless 8 = .ok (.iaload, 1) := by decide +kernel
theorem dX0_hasUnless_9 : decode cX0_hasUnless 9 = .ok (.iconst (-1), 1) := by decide +kernel
theorem dX0_hasUnless_10 : decode cX0_hasUnless 10 = .ok (.if_icmp .eq 7, 3) := by decide +kernel
theorem dX0_hasUnless_13 : decode cX0_hasUnless 13 = .ok (.iconst 1, 1) := by decide +kernel
theorem dX0_hasUnless_14 : decode cX0_hasUnless 14 = .ok (.goto 4, 3) := by decide +kernel
theorem dX0_hasUnless_17 : decode cX0_hasUnless 17 = .ok (.iconst 0, 1) := by decide +kernel
theorem dX0_hasUnless_18 : decode cX0_hasUnless 18 = .ok (.ireturn, 1) := by decide +kernel
noncomputable def X0_hasUnless (w : Wd) : Option (Int32) :=
(X0_draft w).bind fun q1 =>
gd (vp_in q1 100) <|
(if (w.1 40 (ix q1)) = (-1 : Int32) then
some (0 : Int32)
else
some (1 : Int32))
set_option maxRecDepth 20000 in
set_option maxHeartbeats 1000000 in
theorem t_X0_hasUnless {κ : Kx} (w : Wd) (h : ok (X0_hasUnless   w) (PI κ w)) : J κ RX0 cX0_hasUnless 1 (some .boolean) (rmk 2 43) 0 [(0, .ref (ad (gm κ) 30))] [] w := by
  unfold X0_hasUnless at h
  refine j_aload_n 0 dX0_hasUnless_0 rfl rfl ?_
  refine j_getA 40 fl_RX0_40 sh_30 fk_30_10 (by decide) dX0_hasUnless_1 ?_
  refine j_aload_n 0 dX0_hasUnless_4 rfl rfl ?_
  obtain ⟨q1, e2, h⟩ := ok_b h
  refine j_callV (As := []) (st := [.ref (ad (gm κ) 40)]) [.int q1, .ref (ad (gm κ) 40)] (c_X0_draft (kl κ) (gm κ) (kA κ) w q1 e2) ck_RX0_80 im_X0_draft se_X0_draft sh_30 cx_0 ⟨rfl, rfl⟩ ⟨by decide, by decide⟩ rfl rfl (Nat.le_of_ble_eq_true rfl) dX0_hasUnless_5 _ rfl ?_
  refine j_iald sh_40 dX0_hasUnless_8 h (fun h => ?_)
  refine j_iconst (-1 : Int32) dX0_hasUnless_9 ki_m1 ?_
  refine j_ic_eq 17 dX0_hasUnless_10 (by decide) h (fun h => ?_) (fun h => ?_)
  · refine j_iconst (0 : Int32) dX0_hasUnless_17 ki_0 ?_
    have h := ok_s h
    exact j_iret dX0_hasUnless_18 rfl (by decide) h
  · refine j_iconst (1 : Int32) dX0_hasUnless_13 ki_1 ?_
    refine j_goto 18 dX0_hasUnless_14 (by decide) ?_
    have h := ok_s h
    exact j_iret dX0_hasUnless_18 rfl (by decide) h
theorem c_X0_hasUnless (l : Launch) (γ : Gm) (A : Nat → Prop) (w : Wd) (q : Int32) (e : X0_hasUnless   w = some q) : MetG l γ A yX0_hasUnless cX0_hasUnless 1 (some .boolean) (rmk 2 43) [.ref (ad (γ) 30)] w (some (.int q)) w := by
  refine met_of pn_RX0 (Nat.le_of_ble_eq_true rfl) ?_
  intro κ hl hγ hA hρ
  subst hl; subst hγ; subst hA
  exact t_X0_hasUnless    w ⟨q, e, pI hρ rfl rfl⟩
theorem dX0_closeRule_0 : decode cX0_closeRule 0 = .ok (.aload_n 0, 1) := by decide +kernel
theorem dX0_closeRule_1 : decode cX0_closeRule 1 = .ok (.invokevirtual 80, 3) := by decide +kernel
theorem dX0_closeRule_4 : decode cX0_closeRule 4 = .ok (.istore_n 1, 1) := by decide +kernel
theorem dX0_closeRule_5 : decode cX0_closeRule 5 = .ok (.aload_n 0, 1) := by decide +kernel
theorem dX0_closeRule_6 : decode cX0_closeRule 6 = .ok (.getfield 43, 3) := by decide +kernel
theorem dX0_closeRule_9 : decode cX0_closeRule 9 = .ok (.iload_n 1, 1) := by decide +kernel
theorem dX0_closeRule_10 : decode cX0_closeRule 10 = .ok (.aload_n 0, 1) := by decide +kernel
theorem dX0_closeRule_11 : decode cX0_closeRule 11 = .ok (.getfield 66, 3) := by decide +kernel
theorem dX0_closeRule_14 : decode cX0_closeRule 14 = .ok (.iastore, 1) := by decide +kernel
theorem dX0_closeRule_15 : decode cX0_closeRule 15 = .ok (.aload_n 0, 1) := by decide +kernel
theorem dX0_closeRule_16 : decode cX0_closeRule 16 = .ok (.getfield 40, 3) := by decide +kernel
theorem dX0_closeRule_19 : decode cX0_closeRule 19 = .ok (.iload_n 1, 1) := by decide +kernel
theorem dX0_closeRule_20 : decode cX0_closeRule 20 = .ok (.iaload, 1) := by decide +kernel
theorem dX0_closeRule_21 : decode cX0_closeRule 21 = .ok (.iconst (-1), 1) := by decide +kernel
theorem dX0_closeRule_22 : decode cX0_closeRule 22 = .ok (.if_icmp .ne 13, 3) := by decide +kernel
theorem dX0_closeRule_25 : decode cX0_closeRule 25 = .ok (.aload_n 0, 1) := by decide +kernel
theorem dX0_closeRule_26 : decode cX0_closeRule 26 = .ok (.getfield 40, 3) := by decide +kernel
theorem dX0_closeRule_29 : decode cX0_closeRule 29 = .ok (.iload_n 1, 1) := by decide +kernel
theorem dX0_closeRule_30 : decode cX0_closeRule 30 = .ok (.aload_n 0, 1) := by decide +kernel
theorem dX0_closeRule_31 : decode cX0_closeRule 31 = .ok (.getfield 66, 3) := by decide +kernel
theorem dX0_closeRule_34 : decode cX0_closeRule 34 = .ok (.iastore, 1) := by decide +kernel
theorem dX0_closeRule_35 : decode cX0_closeRule 35 = .ok (.return_, 1) := by decide +kernel
noncomputable def X0_closeRule (w : Wd) : Option (Wd) :=
(X0_draft w).bind fun q1 =>
gd (vp_in q1 100) <|
(some (puI w 41 (ix q1) (w.1 30 15))).bind fun w3 =>
gd (vp_in q1 100) <|
(if (w3.1 40 (ix q1)) = (-1 : Int32) then
gd (vp_in q1 100) <|
(some (puI w3 40 (ix q1) (w3.1 30 15))).bind fun w4 =>
some w4
else
some w3)
set_option maxRecDepth 20000 in
set_option maxHeartbeats 1000000 in
theorem t_X0_closeRule {κ : Kx} (w : Wd) (h : ok (X0_closeRule   w) (PVw κ)) : J κ RX0 cX0_closeRule 2 none (rmk 2 43) 0 [(0, .ref (ad (gm κ) 30))] [] w := by
  unfold X0_closeRule at h
  refine j_aload_n 0 dX0_closeRule_0 rfl rfl ?_
  obtain ⟨q1, e2, h⟩ := ok_b h
  refine j_callV (As := []) (st := []) [.int q1] (c_X0_draft (kl κ) (gm κ) (kA κ) w q1 e2) ck_RX0_80 im_X0_draft se_X0_draft sh_30 cx_0 ⟨rfl, rfl⟩ ⟨by decide, by decide⟩ rfl rfl (Nat.le_of_ble_eq_true rfl) dX0_closeRule_1 _ rfl ?_
  refine j_istore_n [(1, .int q1), (0, .ref (ad (gm κ) 30))] dX0_closeRule_4 rfl (by decide) rfl ?_
  refine j_aload_n 1 dX0_closeRule_5 rfl rfl ?_
  refine j_getA 41 fl_RX0_43 sh_30 fk_30_11 (by decide) dX0_closeRule_6 ?_
  refine j_iload_n 0 dX0_closeRule_9 rfl rfl ?_
  refine j_aload_n 1 dX0_closeRule_10 rfl rfl ?_
  refine j_getI fl_RX0_66 sh_30 fk_30_15 dX0_closeRule_11 ?_
  refine j_iast sh_41 dX0_closeRule_14 h (fun h => ?_)
  refine j_lW h (fun w3 h => ?_)
  refine j_aload_n 1 dX0_closeRule_15 rfl rfl ?_
  refine j_getA 40 fl_RX0_40 sh_30 fk_30_10 (by decide) dX0_closeRule_16 ?_
  refine j_iload_n 0 dX0_closeRule_19 rfl rfl ?_
  refine j_iald sh_40 dX0_closeRule_20 h (fun h => ?_)
  refine j_iconst (-1 : Int32) dX0_closeRule_21 ki_m1 ?_
  refine j_ic_ne 35 dX0_closeRule_22 (by decide) h (fun h => ?_) (fun h => ?_)
  · have h := ok_s h
    exact j_vret dX0_closeRule_35 rfl h
  · refine j_aload_n 1 dX0_closeRule_25 rfl rfl ?_
    refine j_getA 40 fl_RX0_40 sh_30 fk_30_10 (by decide) dX0_closeRule_26 ?_
    refine j_iload_n 0 dX0_closeRule_29 rfl rfl ?_
    refine j_aload_n 1 dX0_closeRule_30 rfl rfl ?_
    refine j_getI fl_RX0_66 sh_30 fk_30_15 dX0_closeRule_31 ?_
    refine j_iast sh_40 dX0_closeRule_34 h (fun h => ?_)
    refine j_lW h (fun w4 h => ?_)
    have h := ok_s h
    exact j_vret dX0_closeRule_35 rfl h
theorem c_X0_closeRule (l : Launch) (γ : Gm) (A : Nat → Prop) (w : Wd) (q : Wd) (e : X0_closeRule   w = some q) : MetG l γ A yX0_closeRule cX0_closeRule 2 none (rmk 2 43) [.ref (ad (γ) 30)] w none q := by
  refine met_of pn_RX0 (Nat.le_of_ble_eq_true rfl) ?_
  intro κ hl hγ hA hρ
  subst hl; subst hγ; subst hA
  exact t_X0_closeRule    w ⟨q, e, pVw hρ rfl rfl⟩
theorem dX0_addCode_0 : decode cX0_addCode 0 = .ok (.aload_n 0, 1) := by decide +kernel
theorem dX0_addCode_1 : decode cX0_addCode 1 = .ok (.getfield 66, 3) := by decide +kernel
theorem dX0_addCode_4 : decode cX0_addCode 4 = .ok (.aload_n 0, 1) := by decide +kernel
theorem dX0_addCode_5 : decode cX0_addCode 5 = .ok (.getfield 46, 3) := by decide +kernel
theorem dX0_addCode_8 : decode cX0_addCode 8 = .ok (.arraylength, 1) := by decide +kernel
theorem dX0_addCode_9 : decode cX0_addCode 9 = .ok (.if_icmp .ge 23, 3) := by decide +kernel
theorem dX0_addCode_12 : decode cX0_addCode 12 = .ok (.aload_n 0, 1) := by decide +kernel
theorem dX0_addCode_13 : decode cX0_addCode 13 = .ok (.getfield 46, 3) := by decide +kernel
theorem dX0_addCode_16 : decode cX0_addCode 16 = .ok (.aload_n 0, 1) := by decide +kernel
theorem dX0_addCode_17 : decode cX0_addCode 17 = .ok (.getfield 66, 3) := by decide +kernel
theorem dX0_addCode_20 : decode cX0_addCode 20 = .ok (.iload_n 1, 1) := by decide +kernel
theorem dX0_addCode_21 : decode cX0_addCode 21 = .ok (.iastore, 1) := by decide +kernel
theorem dX0_addCode_22 : decode cX0_addCode 22 = .ok (.aload_n 0, 1) := by decide +kernel
theorem dX0_addCode_23 : decode cX0_addCode 23 = .ok (.dup, 1) := by decide +kernel
theorem dX0_addCode_24 : decode cX0_addCode 24 = .ok (.getfield 66, 3) := by decide +kernel
theorem dX0_addCode_27 : decode cX0_addCode 27 = .ok (.iconst 1, 1) := by decide +kernel
theorem dX0_addCode_28 : decode cX0_addCode 28 = .ok (.iadd, 1) := by decide +kernel
theorem dX0_addCode_29 : decode cX0_addCode 29 = .ok (.putfield 66, 3) := by decide +kernel
theorem dX0_addCode_32 : decode cX0_addCode 32 = .ok (.return_, 1) := by decide +kernel
noncomputable def X0_addCode (a1 : Int32) (w : Wd) : Option (Wd) :=
(if (3000 : Int32) ≤ (w.1 30 15) then
some w
else
gd (vp_in (w.1 30 15) 3000) <|
(some (puI w 42 (ix (w.1 30 15)) a1)).bind fun w1 =>
(some (puI w1 30 15 ((w1.1 30 15) + (1 : Int32)))).bind fun w2 =>
some w2)
set_option maxRecDepth 20000 in
set_option maxHeartbeats 1000000 in
theorem t_X0_addCode {κ : Kx} (a1 : Int32) (w : Wd) (h : ok (X0_addCode  a1 w) (PVw κ)) : J κ RX0 cX0_addCode 2 none (rmk 0 0) 0 [(0, .ref (ad (gm κ) 30)), (1, .int a1)] [] w := by
  unfold X0_addCode at h
  refine j_aload_n 0 dX0_addCode_0 rfl rfl ?_
  refine j_getI fl_RX0_66 sh_30 fk_30_15 dX0_addCode_1 ?_
  refine j_aload_n 0 dX0_addCode_4 rfl rfl ?_
  refine j_getA 42 fl_RX0_46 sh_30 fk_30_12 (by decide) dX0_addCode_5 ?_
  refine j_alenI (v := (3000 : Int32)) sh_42 (by decide) (by decide) dX0_addCode_8 ?_
  refine j_ic_ge 32 dX0_addCode_9 (by decide) h (fun h => ?_) (fun h => ?_)
  · have h := ok_s h
    exact j_vret dX0_addCode_32 rfl h
  · refine j_aload_n 0 dX0_addCode_12 rfl rfl ?_
    refine j_getA 42 fl_RX0_46 sh_30 fk_30_12 (by decide) dX0_addCode_13 ?_
    refine j_aload_n 0 dX0_addCode_16 rfl rfl ?_
    refine j_getI fl_RX0_66 sh_30 fk_30_15 dX0_addCode_17 ?_
    refine j_iload_n 1 dX0_addCode_20 rfl rfl ?_
    refine j_iast sh_42 dX0_addCode_21 h (fun h => ?_)
    refine j_lW h (fun w1 h => ?_)
    refine j_aload_n 0 dX0_addCode_22 rfl rfl ?_
    refine j_dup dX0_addCode_23 rfl ?_
    refine j_getI fl_RX0_66 sh_30 fk_30_15 dX0_addCode_24 ?_
    refine j_iconst (1 : Int32) dX0_addCode_27 ki_1 ?_
    refine j_iadd dX0_addCode_28 ?_
    refine j_putI fp_RX0_66 sh_30 fk_30_15 dX0_addCode_29 ?_
    refine j_lW h (fun w2 h => ?_)
    have h := ok_s h
    exact j_vret dX0_addCode_32 rfl h
theorem c_X0_addCode (l : Launch) (γ : Gm) (A : Nat → Prop) (a1 : Int32) (w : Wd) (q : Wd) (e : X0_addCode  a1 w = some q) : MetG l γ A yX0_addCode cX0_addCode 2 none (rmk 0 0) [.ref (ad (γ) 30), .int a1] w none q := by
  refine met_of pn_RX0 (Nat.le_of_ble_eq_true rfl) ?_
  intro κ hl hγ hA hρ
  subst hl; subst hγ; subst hA
  exact t_X0_addCode   a1 w ⟨q, e, pVw hρ rfl rfl⟩
theorem dX0_keepText_0 : decode cX0_keepText 0 = .ok (.aload_n 0, 1) := by decide +kernel
theorem dX0_keepText_1 : decode cX0_keepText 1 = .ok (.getfield 69, 3) := by decide +kernel
theorem dX0_keepText_4 : decode cX0_keepText 4 = .ok (.istore_n 3, 1) := by decide +kernel
theorem dX0_keepText_5 : decode cX0_keepText 5 = .ok (.iload_n 3, 1) := by decide +kernel
theorem dX0_keepText_6 : decode cX0_keepText 6 = .ok (.ifCond .le 40, 3) := by decide +kernel
theorem dX0_keepText_9 : decode cX0_keepText 9 = .ok (.aload_n 0, 1) := by decide +kernel
theorem dX0_keepText_10 : decode cX0_keepText 10 = .ok (.getfield 11, 3) := by decide +kernel
theorem dX0_keepText_13 : decode cX0_keepText 13 = .ok (.aload_n 0, 1) := by decide +kernel
theorem dX0_keepText_14 : decode cX0_keepText 14 = .ok (.getfield 21, 3) := by decide +kernel
theorem dX0_keepText_17 : decode cX0_keepText 17 = .ok (.iload_n 3, 1) := by decide +kernel
theorem dX0_keepText_18 : decode cX0_keepText 18 = .ok (.iconst 1, 1) := by decide +kernel
theorem dX0_keepText_19 : decode cX0_keepText 19 = .ok (.isub, 1) := by decide +kernel
theorem dX0_keepText_20 : decode cX0_keepText 20 = .ok (.iaload, 1) := by decide +kernel
theorem dX0_keepText_21 : decode cX0_keepText 21 = .ok (.iaload, 1) := by decide +kernel
theorem dX0_keepText_22 : decode cX0_keepText 22 = .ok (.iload_n 1, 1) := by decide +kernel
theorem dX0_keepText_23 : decode cX0_keepText 23 = .ok (.if_icmp .le 23, 3) := by decide +kernel
theorem dX0_keepText_26 : decode cX0_keepText 26 = .ok (.aload_n 0, 1) := by decide +kernel
theorem dX0_keepText_27 : decode cX0_keepText 27 = .ok (.getfield 21, 3) := by decide +kernel
theorem dX0_keepText_30 : decode cX0_keepText 30 = .ok (.iload_n 3, 1) := by decide +kernel
theorem dX0_keepText_31 : decode cX0_keepText 31 = .ok (.aload_n 0, 1) := by decide +kernel
theorem dX0_keepText_32 : decode cX0_keepText 32 = .ok (.getfield 21, 3) := by decide +kernel
theorem dX0_keepText_35 : decode cX0_keepText 35 = .ok (.iload_n 3, 1) := by decide +kernel
theorem dX0_keepText_36 : decode cX0_keepText 36 = .ok (.iconst 1, 1) := by decide +kernel
theorem dX0_keepText_37 : decode cX0_keepText 37 = .ok (.isub, 1) := by decide +kernel
theorem dX0_keepText_38 : decode cX0_keepText 38 = .ok (.iaload, 1) := by decide +kernel
theorem dX0_keepText_39 : decode cX0_keepText 39 = .ok (.iastore, 1) := by decide +kernel
theorem dX0_keepText_40 : decode cX0_keepText 40 = .ok (.iinc 3 (-1), 3) := by decide +kernel
theorem dX0_keepText_43 : decode cX0_keepText 43 = .ok (.goto (-38), 3) := by decide +kernel
theorem dX0_keepText_46 : decode cX0_keepText 46 = .ok (.aload_n 0, 1) := by decide +kernel
theorem dX0_keepText_47 : decode cX0_keepText 47 = .ok (.getfield 21, 3) := by decide +kernel
theorem dX0_keepText_50 : decode cX0_keepText 50 = .ok (.iload_n 3, 1) := by decide +kernel
theorem dX0_keepText_51 : decode cX0_keepText 51 = .ok (.aload_n 0, 1) := by decide +kernel
theorem dX0_keepText_52 : decode cX0_keepText 52 = .ok (.getfield 69, 3) := by decide +kernel
theorem dX0_keepText_55 : decode cX0_keepText 55 = .ok (.iastore, 1) := by decide +kernel
theorem dX0_keepText_56 : decode cX0_keepText 56 = .ok (.aload_n 0, 1) := by decide +kernel
theorem dX0_keepText_57 : decode cX0_keepText 57 = .ok (.getfield 11, 3) := by decide +kernel
theorem dX0_keepText_60 : decode cX0_keepText 60 = .ok (.aload_n 0, 1) := by decide +kernel
theorem dX0_keepText_61 : decode cX0_keepText 61 = .ok (.getfield 69, 3) := by decide +kernel
theorem dX0_keepText_64 : decode cX0_keepText 64 = .ok (.iload_n 1, 1) := by decide +kernel
theorem dX0_keepText_65 : decode cX0_keepText 65 = .ok (.iastore, 1) := by decide +kernel
theorem dX0_keepText_66 : decode cX0_keepText 66 = .ok (.aload_n 0, 1) := by decide +kernel
theorem dX0_keepText_67 : decode cX0_keepText 67 = .ok (.getfield 15, 3) := by decide +kernel
theorem dX0_keepText_70 : decode cX0_keepText 70 = .ok (.aload_n 0, 1) := by decide +kernel
theorem dX0_keepText_71 : decode cX0_keepText 71 = .ok (.getfield 69, 3) := by decide +kernel
theorem dX0_keepText_74 : decode cX0_keepText 74 = .ok (.iload_n 2, 1) := by decide +kernel
theorem dX0_keepText_75 : decode cX0_keepText 75 = .ok (.iastore, 1) := by decide +kernel
theorem dX0_keepText_76 : decode cX0_keepText 76 = .ok (.aload_n 0, 1) := by decide +kernel
theorem dX0_keepText_77 : decode cX0_keepText 77 = .ok (.getfield 18, 3) := by decide +kernel
theorem dX0_keepText_80 : decode cX0_keepText 80 = .ok (.aload_n 0, 1) := by decide +kernel
theorem dX0_keepText_81 : decode cX0_keepText 81 = .ok (.getfield 69, 3) := by decide +kernel
theorem dX0_keepText_84 : decode cX0_keepText 84 = .ok (.iconst 1, 1) := by decide +kernel
theorem dX0_keepText_85 : decode cX0_keepText 85 = .ok (.iadd, 1) := by decide +kernel
theorem dX0_keepText_86 : decode cX0_keepText 86 = .ok (.aload_n 0, 1) := by decide +kernel
theorem dX0_keepText_87 : decode cX0_keepText 87 = .ok (.getfield 18, 3) := by decide +kernel
theorem dX0_keepText_90 : decode cX0_keepText 90 = .ok (.aload_n 0, 1) := by decide +kernel
theorem dX0_keepText_91 : decode cX0_keepText 91 = .ok (.getfield 69, 3) := by decide +kernel
theorem dX0_keepText_94 : decode cX0_keepText 94 = .ok (.iaload, 1) := by decide +kernel
theorem dX0_keepText_95 : decode cX0_keepText 95 = .ok (.aload_n 0, 1) := by decide +kernel
theorem dX0_keepText_96 : decode cX0_keepText 96 = .ok (.getfield 59, 3) := by decide +kernel
theorem dX0_keepText_99 : decode cX0_keepText 99 = .ok (.iadd, 1) := by decide +kernel
theorem dX0_keepText_100 : decode cX0_keepText 100 = .ok (.iastore, 1) := by decide +kernel
theorem dX0_keepText_101 : decode cX0_keepText 101 = .ok (.aload_n 0, 1) := by decide +kernel
theorem dX0_keepText_102 : decode cX0_keepText 102 = .ok (.aload_n 0, 1) := by decide +kernel
theorem dX0_keepText_103 : decode cX0_keepText 103 = .ok (.getfield 66, 3) := by decide +kernel
theorem dX0_keepText_106 : decode cX0_keepText 106 = .ok (.putfield 63, 3) := by decide +kernel
theorem dX0_keepText_109 : decode cX0_keepText 109 = .ok (.aload_n 0, 1) := by decide +kernel
theorem dX0_keepText_110 : decode cX0_keepText 110 = .ok (.dup, 1) := by decide +kernel
theorem dX0_keepText_111 : decode cX0_keepText 111 = .ok (.getfield 69, 3) := by decide +kernel
theorem dX0_keepText_114 : decode cX0_keepText 114 = .ok (.iconst 1, 1) := by decide +kernel
theorem dX0_keepText_115 : decode cX0_keepText 115 = .ok (.iadd, 1) := by decide +kernel
theorem dX0_keepText_116 : decode cX0_keepText 116 = .ok (.putfield 69, 3) := by decide +kernel
theorem dX0_keepText_119 : decode cX0_keepText 119 = .ok (.aload_n 0, 1) := by decide +kernel
theorem dX0_keepText_120 : decode cX0_keepText 120 = .ok (.getfield 59, 3) := by decide +kernel
theorem dX0_keepText_123 : decode cX0_keepText 123 = .ok (.ireturn, 1) := by decide +kernel
noncomputable def X0_keepText_b5 (a1 : Int32) (a2 : Int32) (s : (Int32 × Wd)) : Option ((Int32 × Wd) ⊕ (Int32 × Wd)) :=
(if s.1 ≤ 0 then
some (.inr (s.1, s.2))
else
gd (vp_in (s.1 - (1 : Int32)) 5) <|
gd (vp_in (s.2.1 34 (ix (s.1 - (1 : Int32)))) 5) <|
(some (s.2.1 31 (ix (s.2.1 34 (ix (s.1 - (1 : Int32))))))).bind fun z1 =>
(if z1 ≤ a1 then
some (.inr (s.1, s.2))
else
gd (vp_in (s.1 - (1 : Int32)) 5) <|
gd (vp_in s.1 5) <|
(some (puI s.2 34 (ix s.1) (s.2.1 34 (ix (s.1 - (1 : Int32)))))).bind fun w2 =>
some (.inl ((s.1 + (-1 : Int32)), w2))))
set_option maxRecDepth 20000 in
set_option maxHeartbeats 1000000 in
theorem t_X0_keepText_b5 {κ : Kx} (a1 : Int32) (a2 : Int32) {P : (Int32 × Wd) → Prop} (K0 : ∀ e, P e → J κ RX0 cX0_keepText 4 (some .int) (rmk 0 0) 46 [(0, .ref (ad (gm κ) 30)), (1, .int a1), (2, .int a2), (3, .int e.1)] [] e.2) (s : (Int32 × Wd)) (h : ok (lp (X0_keepText_b5  a1 a2) s) P) : J κ RX0 cX0_keepText 4 (some .int) (rmk 0 0) 5 [(0, .ref (ad (gm κ) 30)), (1, .int a1), (2, .int a2), (3, .int s.1)] [] s.2 := by
  refine lp_ind (fun s => J κ RX0 cX0_keepText 4 (some .int) (rmk 0 0) 5 [(0, .ref (ad (gm κ) 30)), (1, .int a1), (2, .int a2), (3, .int s.1)] [] s.2) (fun s h => ?_) s h
  unfold X0_keepText_b5 at h
  refine j_iload_n 3 dX0_keepText_5 rfl rfl ?_
  refine j_if_le 46 dX0_keepText_6 (by decide) h (fun h => ?_) (fun h => ?_)
  · refine j_loc [(0, .ref (ad (gm κ) 30)), (1, .int a1), (2, .int a2), (3, .int s.1)] [0, 1, 2, 3] rfl ?_
    have h := sel_r h
    have h := K0 _ h
    exact h
  · refine j_aload_n 0 dX0_keepText_9 rfl rfl ?_
    refine j_getA 31 fl_RX0_11 sh_30 fk_30_1 (by decide) dX0_keepText_10 ?_
    refine j_aload_n 0 dX0_keepText_13 rfl rfl ?_
    refine j_getA 34 fl_RX0_21 sh_30 fk_30_4 (by decide) dX0_keepText_14 ?_
    refine j_iload_n 3 dX0_keepText_17 rfl rfl ?_
    refine j_iconst (1 : Int32) dX0_keepText_18 ki_1 ?_
    refine j_isub dX0_keepText_19 ?_
    refine j_iald sh_34 dX0_keepText_20 h (fun h => ?_)
    refine j_iald sh_31 dX0_keepText_21 h (fun h => ?_)
    refine j_lI h (fun z1 h => ?_)
    refine j_iload_n 1 dX0_keepText_22 rfl rfl ?_
    refine j_ic_le 46 dX0_keepText_23 (by decide) h (fun h => ?_) (fun h => ?_)
    · refine j_loc [(0, .ref (ad (gm κ) 30)), (1, .int a1), (2, .int a2), (3, .int s.1)] [0, 1, 2, 3] rfl ?_
      have h := sel_r h
      have h := K0 _ h
      exact h
    · refine j_aload_n 0 dX0_keepText_26 rfl rfl ?_
      refine j_getA 34 fl_RX0_21 sh_30 fk_30_4 (by decide) dX0_keepText_27 ?_
      refine j_iload_n 3 dX0_keepText_30 rfl rfl ?_
      refine j_aload_n 0 dX0_keepText_31 rfl rfl ?_
      refine j_getA 34 fl_RX0_21 sh_30 fk_30_4 (by decide) dX0_keepText_32 ?_
      refine j_iload_n 3 dX0_keepText_35 rfl rfl ?_
      refine j_iconst (1 : Int32) dX0_keepText_36 ki_1 ?_
      refine j_isub dX0_keepText_37 ?_
      refine j_iald sh_34 dX0_keepText_38 h (fun h => ?_)
      refine j_iast sh_34 dX0_keepText_39 h (fun h => ?_)
      refine j_lW h (fun w2 h => ?_)
      refine j_iinc (s.1 + (-1 : Int32)) 3 [(3, .int (s.1 + (-1 : Int32))), (0, .ref (ad (gm κ) 30)), (1, .int a1), (2, .int a2)] dX0_keepText_40 rfl (by rw [kn_m1]) (by decide) rfl ?_
      refine j_goto 5 dX0_keepText_43 (by decide) ?_
      refine j_loc [(0, .ref (ad (gm κ) 30)), (1, .int a1), (2, .int a2), (3, .int (s.1 + (-1 : Int32)))] [1, 2, 3, 0] rfl ?_
      have h := sel_l h
      exact h
noncomputable def X0_keepText (a1 : Int32) (a2 : Int32) (w : Wd) : Option (Int32 × Wd) :=
(lp (X0_keepText_b5 a1 a2) ((w.1 30 0), w)).bind fun e3 =>
gd (vp_in e3.1 5) <|
(some (puI e3.2 34 (ix e3.1) (e3.2.1 30 0))).bind fun w4 =>
gd (vp_in (w4.1 30 0) 5) <|
(some (puI w4 31 (ix (w4.1 30 0)) a1)).bind fun w5 =>
gd (vp_in (w5.1 30 0) 5) <|
(some (puI w5 32 (ix (w5.1 30 0)) a2)).bind fun w6 =>
gd (vp_in (w6.1 30 0) 6) <|
gd (vp_in ((w6.1 30 0) + (1 : Int32)) 6) <|
(some (puI w6 33 (ix ((w6.1 30 0) + (1 : Int32))) ((w6.1 33 (ix (w6.1 30 0))) + (w6.1 30 14)))).bind fun w7 =>
(some (puI w7 30 13 (w7.1 30 15))).bind fun w8 =>
(some (puI w8 30 0 ((w8.1 30 0) + (1 : Int32)))).bind fun w9 =>
some ((w9.1 30 14), w9)
set_option maxRecDepth 20000 in
set_option maxHeartbeats 1000000 in
theorem t_X0_keepText {κ : Kx} (a1 : Int32) (a2 : Int32) (w : Wd) (h : ok (X0_keepText  a1 a2 w) (PIw κ)) : J κ RX0 cX0_keepText 4 (some .int) (rmk 0 0) 0 [(0, .ref (ad (gm κ) 30)), (1, .int a1), (2, .int a2)] [] w := by
  unfold X0_keepText at h
  refine j_aload_n 0 dX0_keepText_0 rfl rfl ?_
  refine j_getI fl_RX0_69 sh_30 fk_30_0 dX0_keepText_1 ?_
  refine j_istore_n [(3, .int (w.1 30 0)), (0, .ref (ad (gm κ) 30)), (1, .int a1), (2, .int a2)] dX0_keepText_4 rfl (by decide) rfl ?_
  refine j_loc [(0, .ref (ad (gm κ) 30)), (1, .int a1), (2, .int a2), (3, .int (w.1 30 0))] [1, 2, 3, 0] rfl ?_
  refine t_X0_keepText_b5 a1 a2 (fun e3 h => ?_) ((w.1 30 0), w) (ok_bb h)
  · refine j_aload_n 0 dX0_keepText_46 rfl rfl ?_
    refine j_getA 34 fl_RX0_21 sh_30 fk_30_4 (by decide) dX0_keepText_47 ?_
    refine j_iload_n 3 dX0_keepText_50 rfl rfl ?_
    refine j_aload_n 0 dX0_keepText_51 rfl rfl ?_
    refine j_getI fl_RX0_69 sh_30 fk_30_0 dX0_keepText_52 ?_
    refine j_iast sh_34 dX0_keepText_55 h (fun h => ?_)
    refine j_lW h (fun w4 h => ?_)
    refine j_aload_n 0 dX0_keepText_56 rfl rfl ?_
    refine j_getA 31 fl_RX0_11 sh_30 fk_30_1 (by decide) dX0_keepText_57 ?_
    refine j_aload_n 0 dX0_keepText_60 rfl rfl ?_
    refine j_getI fl_RX0_69 sh_30 fk_30_0 dX0_keepText_61 ?_
    refine j_iload_n 1 dX0_keepText_64 rfl rfl ?_
    refine j_iast sh_31 dX0_keepText_65 h (fun h => ?_)
    refine j_lW h (fun w5 h => ?_)
    refine j_aload_n 0 dX0_keepText_66 rfl rfl ?_
    refine j_getA 32 fl_RX0_15 sh_30 fk_30_2 (by decide) dX0_keepText_67 ?_
    refine j_aload_n 0 dX0_keepText_70 rfl rfl ?_
    refine j_getI fl_RX0_69 sh_30 fk_30_0 dX0_keepText_71 ?_
    refine j_iload_n 2 dX0_keepText_74 rfl rfl ?_
    refine j_iast sh_32 dX0_keepText_75 h (fun h => ?_)
    refine j_lW h (fun w6 h => ?_)
    refine j_aload_n 0 dX0_keepText_76 rfl rfl ?_
    refine j_getA 33 fl_RX0_18 sh_30 fk_30_3 (by decide) dX0_keepText_77 ?_
    refine j_aload_n 0 dX0_keepText_80 rfl rfl ?_
    refine j_getI fl_RX0_69 sh_30 fk_30_0 dX0_keepText_81 ?_
    refine j_iconst (1 : Int32) dX0_keepText_84 ki_1 ?_
    refine j_iadd dX0_keepText_85 ?_
    refine j_aload_n 0 dX0_keepText_86 rfl rfl ?_
    refine j_getA 33 fl_RX0_18 sh_30 fk_30_3 (by decide) dX0_keepText_87 ?_
    refine j_aload_n 0 dX0_keepText_90 rfl rfl ?_
    refine j_getI fl_RX0_69 sh_30 fk_30_0 dX0_keepText_91 ?_
    refine j_iald sh_33 dX0_keepText_94 h (fun h => ?_)
    refine j_aload_n 0 dX0_keepText_95 rfl rfl ?_
    refine j_getI fl_RX0_59 sh_30 fk_30_14 dX0_keepText_96 ?_
    refine j_iadd dX0_keepText_99 ?_
    refine j_iast sh_33 dX0_keepText_100 h (fun h => ?_)
    refine j_lW h (fun w7 h => ?_)
    refine j_aload_n 0 dX0_keepText_101 rfl rfl ?_
    refine j_aload_n 0 dX0_keepText_102 rfl rfl ?_
    refine j_getI fl_RX0_66 sh_30 fk_30_15 dX0_keepText_103 ?_
    refine j_putI fp_RX0_63 sh_30 fk_30_13 dX0_keepText_106 ?_
    refine j_lW h (fun w8 h => ?_)
    refine j_aload_n 0 dX0_keepText_109 rfl rfl ?_
    refine j_dup dX0_keepText_110 rfl ?_
    refine j_getI fl_RX0_69 sh_30 fk_30_0 dX0_keepText_111 ?_
    refine j_iconst (1 : Int32) dX0_keepText_114 ki_1 ?_
    refine j_iadd dX0_keepText_115 ?_
    refine j_putI fp_RX0_69 sh_30 fk_30_0 dX0_keepText_116 ?_
    refine j_lW h (fun w9 h => ?_)
    refine j_aload_n 0 dX0_keepText_119 rfl rfl ?_
    refine j_getI fl_RX0_59 sh_30 fk_30_14 dX0_keepText_120 ?_
    have h := ok_s h
    exact j_iret dX0_keepText_123 rfl rfl h
theorem c_X0_keepText (l : Launch) (γ : Gm) (A : Nat → Prop) (a1 : Int32) (a2 : Int32) (w : Wd) (q : Int32 × Wd) (e : X0_keepText  a1 a2 w = some q) : MetG l γ A yX0_keepText cX0_keepText 4 (some .int) (rmk 0 0) [.ref (ad (γ) 30), .int a1, .int a2] w (some (.int q.1)) q.2 := by
  refine met_of pn_RX0 (Nat.le_of_ble_eq_true rfl) ?_
  intro κ hl hγ hA hρ
  subst hl; subst hγ; subst hA
  exact t_X0_keepText   a1 a2 w ⟨q, e, pIw hρ rfl rfl⟩
theorem dX8_strike_0 : decode cX8_strike 0 = .ok (.iconst 0, 1) := by decide +kernel
theorem dX8_strike_1 : decode cX8_strike 1 = .ok (.istore_n 2, 1) := by decide +kernel
theorem dX8_strike_2 : decode cX8_strike 2 = .ok (.iload_n 2, 1) := by decide +kernel
theorem dX8_strike_3 : decode cX8_strike 3 = .ok (.aload_n 0, 1) := by decide +kernel
theorem dX8_strike_4 : decode cX8_strike 4 = .ok (.getfield 29, 3) := by decide +kernel
theorem dX8_strike_7 : decode cX8_strike 7 = .ok (.if_icmp .ge 81, 3) := by decide +kernel
theorem dX8_strike_10 : decode cX8_strike 10 = .ok (.aload_n 1, 1) := by decide +kernel
theorem dX8_strike_11 : decode cX8_strike 11 = .ok (.getfield 50, 3) := by decide +kernel
theorem dX8_strike_14 : decode cX8_strike 14 = .ok (.aload_n 0, 1) := by decide +kernel
theorem dX8_strike_15 : decode cX8_strike 15 = .ok (.getfield 15, 3) := by decide +kernel
theorem dX8_strike_18 : decode cX8_strike 18 = .ok (.iload_n 2, 1) := by decide +kernel
theorem dX8_strike_19 : decode cX8_strike 19 = .ok (.iaload, 1) := by decide +kernel
theorem dX8_strike_20 : decode cX8_strike 20 = .ok (.laload, 1) := by decide +kernel
theorem dX8_strike_21 : decode cX8_strike 21 = .ok (.lstore_n 3, 1) := by decide +kernel
theorem dX8_strike_22 : decode cX8_strike 22 = .ok (.iconst 0, 1) := by decide +kernel
theorem dX8_strike_23 : decode cX8_strike 23 = .ok (.istore 5, 2) := by decide +kernel
theorem dX8_strike_25 : decode cX8_strike 25 = .ok (.iload_n 2, 1) := by decide +kernel
theorem dX8_strike_26 : decode cX8_strike 26 = .ok (.iconst 1, 1) := by decide +kernel
theorem dX8_strike_27 : decode cX8_strike 27 = .ok (.iadd, 1) := by decide +kernel
theorem dX8_strike_28 : decode cX8_strike 28 = .ok (.istore 6, 2) := by decide +kernel
theorem dX8_strike_30 : decode cX8_strike 30 = .ok (.iload 6, 2) := by decide +kernel
theorem dX8_strike_32 : decode cX8_strike 32 = .ok (.aload_n 0, 1) := by decide +kernel
theorem dX8_strike_33 : decode cX8_strike 33 = .ok (.getfield 29, 3) := by decide +kernel
theorem dX8_strike_36 : decode cX8_strike 36 = .ok (.if_icmp .ge 38, 3) := by decide +kernel
theorem dX8_strike_39 : decode cX8_strike 39 = .ok (.iload 5, 2) := by decide +kernel
theorem dX8_strike_41 : decode cX8_strike 41 = .ok (.ifCond .ne 33, 3) := by decide +kernel
theorem dX8_strike_44 : decode cX8_strike 44 = .ok (.aload_n 1, 1) := by decide +kernel
theorem dX8_strike_45 : decode cX8_strike 45 = .ok (.getfield 54, 3) := by decide +kernel
theorem dX8_strike_48 : decode cX8_strike 48 = .ok (.aload_n 0, 1) := by decide +kernel
theorem dX8_strike_49 : decode cX8_strike 49 = .ok (.getfield 15, 3) := by decide +kernel
theorem dX8_strike_52 : decode cX8_strike 52 = .ok (.iload 6, 2) := by decide +kernel
theorem dX8_strike_54 : decode cX8_strike 54 = .ok (.iaload, 1) := by decide +kernel
theorem dX8_strike_55 : decode cX8_strike 55 = .ok (.laload, 1) := by decide +kernel
theorem dX8_strike_56 : decode cX8_strike 56 = .ok (.lload_n 3, 1) := by decide +kernel
theorem dX8_strike_57 : decode cX8_strike 57 = .ok (.lcmp, 1) := by decide +kernel
theorem dX8_strike_58 : decode cX8_strike 58 = .ok (.ifCond .ne 7, 3) := by decide +kernel
theorem dX8_strike_61 : decode cX8_strike 61 = .ok (.iconst 1, 1) := by decide +kernel
theorem dX8_strike_62 : decode cX8_strike 62 = .ok (.goto 4, 3) := by decide +kernel
theorem dX8_strike_65 : decode cX8_strike 65 = .ok (.iconst 0, 1) := by decide +kernel
theorem dX8_strike_66 : decode cX8_strike 66 = .ok (.istore 5, 2) := by decide +kernel
theorem dX8_strike_68 : decode cX8_strike 68 = .ok (.iinc 6 1, 3) := by decide +kernel
theorem dX8_strike_71 : decode cX8_strike 71 = .ok (.goto (-41), 3) := by decide +kernel
theorem dX8_strike_74 : decode cX8_strike 74 = .ok (.aload_n 0, 1) := by decide +kernel
theorem dX8_strike_75 : decode cX8_strike 75 = .ok (.getfield 19, 3) := by decide +kernel
theorem dX8_strike_78 : decode cX8_strike 78 = .ok (.iload_n 2, 1) := by decide +kernel
theorem dX8_strike_79 : decode cX8_strike 79 = .ok (.iload 5, 2) := by decide +kernel
theorem dX8_strike_81 : decode cX8_strike 81 = .ok (.bastore, 1) := by decide +kernel
theorem dX8_strike_82 : decode cX8_strike 82 = .ok (.iinc 2 1, 3) := by decide +kernel
theorem dX8_strike_85 : decode cX8_strike 85 = .ok (.goto (-83), 3) := by decide +kernel
theorem dX8_strike_88 : decode cX8_strike 88 = .ok (.return_, 1) := by decide +kernel
noncomputable def X8_strike_j66 (si : Nat) (a2 : Int32) (a3 : Int64) (a6 : Int32) (s0 : Int32) (w : Wd) : Option ((Int32 × Int32) ⊕ Int32) :=
some (.inl (s0, (a6 + (1 : Int32))))
set_option maxRecDepth 20000 in
set_option maxHeartbeats 1000000 in
theorem t_X8_strike_j66 {κ : Kx} (si : Nat) (hsi : si < 4) (a2 : Int32) (a3 : Int64) (a6 : Int32) (s0 : Int32) (w : Wd) {G : (Int32 × Int32) → Prop} {P : Int32 → Prop} (KG : ∀ s, G s → J κ RX8 cX8_strike 7 none (rmk 0 0) 30 [(0, .ref (ad (gm κ) (stc si))), (1, .ref (ad (gm κ) 30)), (2, .int a2), (3, .long a3), (5, .int s.1), (6, .int s.2)] [] w) (K0 : ∀ e, P e → J κ RX8 cX8_strike 7 none (rmk 0 0) 74 [(0, .ref (ad (gm κ) (stc si))), (1, .ref (ad (gm κ) 30)), (2, .int a2), (5, .int e)] [] w) (h : ok (X8_strike_j66 si a2 a3 a6 s0 w) (sel G P)) : J κ RX8 cX8_strike 7 none (rmk 0 0) 66 [(0, .ref (ad (gm κ) (stc si))), (1, .ref (ad (gm κ) 30)), (2, .int a2), (3, .long a3), (6, .int a6)] [.int s0] w := by
  unfold X8_strike_j66 at h
  refine j_istore [(5, .int s0), (0, .ref (ad (gm κ) (stc si))), (1, .ref (ad (gm κ) 30)), (2, .int a2), (3, .long a3), (6, .int a6)] dX8_strike_66 (by decide) rfl ?_
  refine j_iinc (a6 + (1 : Int32)) 5 [(6, .int (a6 + (1 : Int32))), (5, .int s0), (0, .ref (ad (gm κ) (stc si))), (1, .ref (ad (gm κ) 30)), (2, .int a2), (3, .long a3)] dX8_strike_68 rfl (by rw [kn_1]) (by decide) rfl ?_
  refine j_goto 30 dX8_strike_71 (by decide) ?_
  refine j_loc [(0, .ref (ad (gm κ) (stc si))), (1, .ref (ad (gm κ) 30)), (2, .int a2), (3, .long a3), (5, .int s0), (6, .int (a6 + (1 : Int32)))] [2, 3, 4, 5, 1, 0] rfl ?_
  have h := sel_l h
  have h := KG _ h
  exact h
noncomputable def X8_strike_b30 (si : Nat) (a2 : Int32) (a3 : Int64) (w : Wd) (s : (Int32 × Int32)) : Option ((Int32 × Int32) ⊕ Int32) :=
(if (w.1 (stc si) 1) ≤ s.2 then
some (.inr s.1)
else
(if s.1 = 0 then
gd (vp_in s.2 100) <|
gd (vp_in (w.1 (stc si + 1) (ix s.2)) 100) <|
(if (lg_cmp (w.2 36 (ix (w.1 (stc si + 1) (ix s.2)))) a3) = 0 then
X8_strike_j66 si a2 a3 s.2 (1 : Int32) w
else
X8_strike_j66 si a2 a3 s.2 (0 : Int32) w)
else
some (.inr s.1)))
set_option maxRecDepth 20000 in
set_option maxHeartbeats 1000000 in
theorem t_X8_strike_b30 {κ : Kx} (si : Nat) (hsi : si < 4) (a2 : Int32) (a3 : Int64) (w : Wd) {P : Int32 → Prop} (K0 : ∀ e, P e → J κ RX8 cX8_strike 7 none (rmk 0 0) 74 [(0, .ref (ad (gm κ) (stc si))), (1, .ref (ad (gm κ) 30)), (2, .int a2), (5, .int e)] [] w) (s : (Int32 × Int32)) (h : ok (lp (X8_strike_b30 si a2 a3 w) s) P) : J κ RX8 cX8_strike 7 none (rmk 0 0) 30 [(0, .ref (ad (gm κ) (stc si))), (1, .ref (ad (gm κ) 30)), (2, .int a2), (3, .long a3), (5, .int s.1), (6, .int s.2)] [] w := by
  refine lp_ind (fun s => J κ RX8 cX8_strike 7 none (rmk 0 0) 30 [(0, .ref (ad (gm κ) (stc si))), (1, .ref (ad (gm κ) 30)), (2, .int a2), (3, .long a3), (5, .int s.1), (6, .int s.2)] [] w) (fun s h => ?_) s h
  unfold X8_strike_b30 at h
  refine j_iload 5 dX8_strike_30 rfl ?_
  refine j_aload_n 0 dX8_strike_32 rfl rfl ?_
  refine j_getI fl_RX8_29 (st_sh hsi).1 (st_fk hsi).2.1 dX8_strike_33 ?_
  refine j_ic_ge 74 dX8_strike_36 (by decide) h (fun h => ?_) (fun h => ?_)
  · refine j_loc [(0, .ref (ad (gm κ) (stc si))), (1, .ref (ad (gm κ) 30)), (2, .int a2), (5, .int s.1)] [0, 1, 2, 4] rfl ?_
    have h := sel_r h
    have h := K0 _ h
    exact h
  · refine j_iload 4 dX8_strike_39 rfl ?_
    refine j_if_ne 74 dX8_strike_41 (by decide) h (fun h => ?_) (fun h => ?_)
    · refine j_loc [(0, .ref (ad (gm κ) (stc si))), (1, .ref (ad (gm κ) 30)), (2, .int a2), (5, .int s.1)] [0, 1, 2, 4] rfl ?_
      have h := sel_r h
      have h := K0 _ h
      exact h
    · refine j_aload_n 1 dX8_strike_44 rfl rfl ?_
      refine j_getA 36 fl_RX8_54 sh_30 fk_30_6 (by decide) dX8_strike_45 ?_
      refine j_aload_n 0 dX8_strike_48 rfl rfl ?_
      refine j_getA (stc si + 1) fl_RX8_15 (st_sh hsi).1 (st_fk hsi).2.2.1 (st_lt hsi (by decide)) dX8_strike_49 ?_
      refine j_iload 5 dX8_strike_52 rfl ?_
      refine j_iald (st_sh hsi).2.1 dX8_strike_54 h (fun h => ?_)
      refine j_lald sh_36 dX8_strike_55 h (fun h => ?_)
      refine j_lload_n 3 dX8_strike_56 rfl rfl ?_
      refine j_lcmp dX8_strike_57 ?_
      refine j_if_ne 65 dX8_strike_58 (by decide) h (fun h => ?_) (fun h => ?_)
      · refine j_iconst (0 : Int32) dX8_strike_65 ki_0 ?_
        refine j_loc [(0, .ref (ad (gm κ) (stc si))), (1, .ref (ad (gm κ) 30)), (2, .int a2), (3, .long a3), (6, .int s.2)] [0, 1, 2, 3, 5] rfl ?_
        exact t_X8_strike_j66 si hsi a2 a3 s.2 (0 : Int32) w (fun _ h => h) K0 h
      · refine j_iconst (1 : Int32) dX8_strike_61 ki_1 ?_
        refine j_goto 66 dX8_strike_62 (by decide) ?_
        refine j_loc [(0, .ref (ad (gm κ) (stc si))), (1, .ref (ad (gm κ) 30)), (2, .int a2), (3, .long a3), (6, .int s.2)] [0, 1, 2, 3, 5] rfl ?_
        exact t_X8_strike_j66 si hsi a2 a3 s.2 (1 : Int32) w (fun _ h => h) K0 h
noncomputable def X8_strike_b2 (si : Nat) (s : (Int32 × Wd)) : Option ((Int32 × Wd) ⊕ Wd) :=
(if (s.2.1 (stc si) 1) ≤ s.1 then
some (.inr s.2)
else
gd (vp_in s.1 100) <|
gd (vp_in (s.2.1 (stc si + 1) (ix s.1)) 100) <|
(some (s.2.2 35 (ix (s.2.1 (stc si + 1) (ix s.1))))).bind fun z1 =>
(lp (X8_strike_b30 si s.1 z1 s.2) ((0 : Int32), (s.1 + (1 : Int32)))).bind fun e2 =>
gd (vp_in s.1 100) <|
(some (puI s.2 (stc si + 2) (ix s.1) (vp_nar .boolean e2))).bind fun w3 =>
some (.inl ((s.1 + (1 : Int32)), w3)))
set_option maxRecDepth 20000 in
set_option maxHeartbeats 1000000 in
theorem t_X8_strike_b2 {κ : Kx} (si : Nat) (hsi : si < 4) {P : Wd → Prop} (K0 : ∀ e, P e → J κ RX8 cX8_strike 7 none (rmk 0 0) 88 [] [] e) (s : (Int32 × Wd)) (h : ok (lp (X8_strike_b2 si ) s) P) : J κ RX8 cX8_strike 7 none (rmk 0 0) 2 [(0, .ref (ad (gm κ) (stc si))), (1, .ref (ad (gm κ) 30)), (2, .int s.1)] [] s.2 := by
  refine lp_ind (fun s => J κ RX8 cX8_strike 7 none (rmk 0 0) 2 [(0, .ref (ad (gm κ) (stc si))), (1, .ref (ad (gm κ) 30)), (2, .int s.1)] [] s.2) (fun s h => ?_) s h
  unfold X8_strike_b2 at h
  refine j_iload_n 2 dX8_strike_2 rfl rfl ?_
  refine j_aload_n 0 dX8_strike_3 rfl rfl ?_
  refine j_getI fl_RX8_29 (st_sh hsi).1 (st_fk hsi).2.1 dX8_strike_4 ?_
  refine j_ic_ge 88 dX8_strike_7 (by decide) h (fun h => ?_) (fun h => ?_)
  · refine j_loc [] [] rfl ?_
    have h := sel_r h
    have h := K0 _ h
    exact h
  · refine j_aload_n 1 dX8_strike_10 rfl rfl ?_
    refine j_getA 35 fl_RX8_50 sh_30 fk_30_5 (by decide) dX8_strike_11 ?_
    refine j_aload_n 0 dX8_strike_14 rfl rfl ?_
    refine j_getA (stc si + 1) fl_RX8_15 (st_sh hsi).1 (st_fk hsi).2.2.1 (st_lt hsi (by decide)) dX8_strike_15 ?_
    refine j_iload_n 2 dX8_strike_18 rfl rfl ?_
    refine j_iald (st_sh hsi).2.1 dX8_strike_19 h (fun h => ?_)
    refine j_lald sh_35 dX8_strike_20 h (fun h => ?_)
    refine j_lJ h (fun z1 h => ?_)
    refine j_lstore_n [(3, .long z1), (0, .ref (ad (gm κ) (stc si))), (1, .ref (ad (gm κ) 30)), (2, .int s.1)] dX8_strike_21 rfl (by decide) rfl ?_
    refine j_iconst (0 : Int32) dX8_strike_22 ki_0 ?_
    refine j_istore [(5, .int (0 : Int32)), (3, .long z1), (0, .ref (ad (gm κ) (stc si))), (1, .ref (ad (gm κ) 30)), (2, .int s.1)] dX8_strike_23 (by decide) rfl ?_
    refine j_iload_n 4 dX8_strike_25 rfl rfl ?_
    refine j_iconst (1 : Int32) dX8_strike_26 ki_1 ?_
    refine j_iadd dX8_strike_27 ?_
    refine j_istore [(6, .int (s.1 + (1 : Int32))), (5, .int (0 : Int32)), (3, .long z1), (0, .ref (ad (gm κ) (stc si))), (1, .ref (ad (gm κ) 30)), (2, .int s.1)] dX8_strike_28 (by decide) rfl ?_
    refine j_loc [(0, .ref (ad (gm κ) (stc si))), (1, .ref (ad (gm κ) 30)), (2, .int s.1), (3, .long z1), (5, .int (0 : Int32)), (6, .int (s.1 + (1 : Int32)))] [3, 4, 5, 2, 1, 0] rfl ?_
    refine t_X8_strike_b30 si hsi s.1 z1 s.2 (fun e2 h => ?_) ((0 : Int32), (s.1 + (1 : Int32))) (ok_bb h)
    · refine j_aload_n 0 dX8_strike_74 rfl rfl ?_
      refine j_getA (stc si + 2) fl_RX8_19 (st_sh hsi).1 (st_fk hsi).2.2.2.1 (st_lt hsi (by decide)) dX8_strike_75 ?_
      refine j_iload_n 2 dX8_strike_78 rfl rfl ?_
      refine j_iload 3 dX8_strike_79 rfl ?_
      refine j_zast (st_sh hsi).2.2.1 dX8_strike_81 h (fun h => ?_)
      refine j_lW h (fun w3 h => ?_)
      refine j_iinc (s.1 + (1 : Int32)) 2 [(2, .int (s.1 + (1 : Int32))), (0, .ref (ad (gm κ) (stc si))), (1, .ref (ad (gm κ) 30)), (5, .int e2)] dX8_strike_82 rfl (by rw [kn_1]) (by decide) rfl ?_
      refine j_goto 2 dX8_strike_85 (by decide) ?_
      refine j_loc [(0, .ref (ad (gm κ) (stc si))), (1, .ref (ad (gm κ) 30)), (2, .int (s.1 + (1 : Int32)))] [1, 2, 0] rfl ?_
      have h := sel_l h
      exact h
noncomputable def X8_strike (si : Nat) (w : Wd) : Option (Wd) :=
(lp (X8_strike_b2 si) ((0 : Int32), w)).bind fun e4 =>
some e4
set_option maxRecDepth 20000 in
set_option maxHeartbeats 1000000 in
theorem t_X8_strike {κ : Kx} (si : Nat) (hsi : si < 4) (w : Wd) (h : ok (X8_strike si  w) (PVw κ)) : J κ RX8 cX8_strike 7 none (rmk 0 0) 0 [(0, .ref (ad (gm κ) (stc si))), (1, .ref (ad (gm κ) 30))] [] w := by
  unfold X8_strike at h
  refine j_iconst (0 : Int32) dX8_strike_0 ki_0 ?_
  refine j_istore_n [(2, .int (0 : Int32)), (0, .ref (ad (gm κ) (stc si))), (1, .ref (ad (gm κ) 30))] dX8_strike_1 rfl (by decide) rfl ?_
  refine j_loc [(0, .ref (ad (gm κ) (stc si))), (1, .ref (ad (gm κ) 30)), (2, .int (0 : Int32))] [1, 2, 0] rfl ?_
  refine t_X8_strike_b2 si hsi (fun e4 h => ?_) ((0 : Int32), w) (ok_bb h)
  · have h := ok_s h
    exact j_vret dX8_strike_88 rfl h
theorem c_X8_strike (l : Launch) (γ : Gm) (A : Nat → Prop) (si : Nat) (hsi : si < 4) (w : Wd) (q : Wd) (e : X8_strike si  w = some q) : MetG l γ A yX8_strike cX8_strike 7 none (rmk 0 0) [.ref (ad (γ) (stc si)), .ref (ad (γ) 30)] w none q := by
  refine met_of pn_RX8 (Nat.le_of_ble_eq_true rfl) ?_
  intro κ hl hγ hA hρ
  subst hl; subst hγ; subst hA
  exact t_X8_strike si hsi  w ⟨q, e, pVw hρ rfl rfl⟩
