theorem dX12_doneSet_0 : decode cX12_doneSet 0 = .ok (.iconst 0, 1) := by decide +kernel
theorem dX12_doneSet_1 : decode cX12_doneSet 1 = .ok (.istore_n 2, 1) := by decide +kernel
theorem dX12_doneSet_2 : decode cX12_doneSet 2 = .ok (.iconst 0, 1) := by decide +kernel
theorem dX12_doneSet_3 : decode cX12_doneSet 3 = .ok (.istore_n 3, 1) := by decide +kernel
theorem dX12_doneSet_4 : decode cX12_doneSet 4 = .ok (.iload_n 3, 1) := by decide +kernel
theorem dX12_doneSet_5 : decode cX12_doneSet 5 = .ok (.bipush 15, 2) := by decide +kernel
theorem dX12_doneSet_7 : decode cX12_doneSet 7 = .ok (.if_icmp .ge 28, 3) := by decide +kernel
theorem dX12_doneSet_10 : decode cX12_doneSet 10 = .ok (.iload_n 2, 1) := by decide +kernel
theorem dX12_doneSet_11 : decode cX12_doneSet 11 = .ok (.aload_n 0, 1) := by decide +kernel
theorem dX12_doneSet_12 : decode cX12_doneSet 12 = .ok (.iload_n 1, 1) := by decide +kernel
theorem dX12_doneSet_13 : decode cX12_doneSet 13 = .ok (.iload_n 3, 1) := by decide +kernel
theorem dX12_doneSet_14 : decode cX12_doneSet 14 = .ok (.invokevirtual 478, 3) := by decide +kernel
theorem dX12_doneSet_17 : decode cX12_doneSet 17 = .ok (.ifCond .eq 9, 3) := by decide +kernel
theorem dX12_doneSet_20 : decode cX12_doneSet 20 = .ok (.iconst 1, 1) := by decide +kernel
theorem dX12_doneSet_21 : decode cX12_doneSet 21 = .ok (.iload_n 3, 1) := by decide +kernel
theorem dX12_doneSet_22 : decode cX12_doneSet 22 = .ok (.ishl, 1) := by decide +kernel
theorem dX12_doneSet_23 : decode cX12_doneSet 23 = .ok (.goto 4, 3) := by decide +kernel
theorem dX12_doneSet_26 : decode cX12_doneSet 26 = .ok (.iconst 0, 1) := by decide +kernel
theorem dX12_doneSet_27 : decode cX12_doneSet 27 = .ok (.ior, 1) := by decide +kernel
theorem dX12_doneSet_28 : decode cX12_doneSet 28 = .ok (.istore_n 2, 1) := by decide +kernel
theorem dX12_doneSet_29 : decode cX12_doneSet 29 = .ok (.iinc 3 1, 3) := by decide +kernel
theorem dX12_doneSet_32 : decode cX12_doneSet 32 = .ok (.goto (-28), 3) := by decide +kernel
theorem dX12_doneSet_35 : decode cX12_doneSet 35 = .ok (.iload_n 2, 1) := by decide +kernel
theorem dX12_doneSet_36 : decode cX12_doneSet 36 = .ok (.ireturn, 1) := by decide +kernel
noncomputable def X12_doneSet_j27 (a1 : Int32) (a3 : Int32) (s0 : Int32) (s1 : Int32) (w : Wd) : Option ((Int32 × Int32) ⊕ Int32) :=
some (.inl ((s1 ||| s0), (a3 + (1 : Int32))))
set_option maxRecDepth 20000 in
set_option maxHeartbeats 1000000 in
theorem t_X12_doneSet_j27 {κ : Kx} (a1 : Int32) (a3 : Int32) (s0 : Int32) (s1 : Int32) (w : Wd) {G : (Int32 × Int32) → Prop} {P : Int32 → Prop} (KG : ∀ s, G s → J κ RX12 cX12_doneSet 4 (some .int) (rmk 1 22) 4 [(0, .ref (ad (gm κ) 97)), (1, .int a1), (2, .int s.1), (3, .int s.2)] [] w) (K0 : ∀ e, P e → J κ RX12 cX12_doneSet 4 (some .int) (rmk 1 22) 35 [(2, .int e)] [] w) (h : ok (X12_doneSet_j27  a1 a3 s0 s1 w) (sel G P)) : J κ RX12 cX12_doneSet 4 (some .int) (rmk 1 22) 27 [(0, .ref (ad (gm κ) 97)), (1, .int a1), (3, .int a3)] [.int s0, .int s1] w := by
  unfold X12_doneSet_j27 at h
  refine j_ior dX12_doneSet_27 ?_
  refine j_istore_n [(2, .int (s1 ||| s0)), (0, .ref (ad (gm κ) 97)), (1, .int a1), (3, .int a3)] dX12_doneSet_28 rfl (by decide) rfl ?_
  refine j_iinc (a3 + (1 : Int32)) 3 [(3, .int (a3 + (1 : Int32))), (2, .int (s1 ||| s0)), (0, .ref (ad (gm κ) 97)), (1, .int a1)] dX12_doneSet_29 rfl (by rw [kn_1]) (by decide) rfl ?_
  refine j_goto 4 dX12_doneSet_32 (by decide) ?_
  refine j_loc [(0, .ref (ad (gm κ) 97)), (1, .int a1), (2, .int (s1 ||| s0)), (3, .int (a3 + (1 : Int32)))] [2, 3, 1, 0] rfl ?_
  have h := sel_l h
  have h := KG _ h
  exact h
noncomputable def X12_doneSet_b4 (a1 : Int32) (w : Wd) (s : (Int32 × Int32)) : Option ((Int32 × Int32) ⊕ Int32) :=
(if (15 : Int32) ≤ s.2 then
some (.inr s.1)
else
(X12_isDone a1 s.2 w).bind fun q1 =>
(if q1 = 0 then
X12_doneSet_j27 a1 s.2 (0 : Int32) s.1 w
else
X12_doneSet_j27 a1 s.2 ((1 : Int32) <<< (s.2 &&& 31)) s.1 w))
set_option maxRecDepth 20000 in
set_option maxHeartbeats 1000000 in
theorem t_X12_doneSet_b4 {κ : Kx} (a1 : Int32) (w : Wd) {P : Int32 → Prop} (K0 : ∀ e, P e → J κ RX12 cX12_doneSet 4 (some .int) (rmk 1 22) 35 [(2, .int e)] [] w) (s : (Int32 × Int32)) (h : ok (lp (X12_doneSet_b4  a1 w) s) P) : J κ RX12 cX12_doneSet 4 (some .int) (rmk 1 22) 4 [(0, .ref (ad (gm κ) 97)), (1, .int a1), (2, .int s.1), (3, .int s.2)] [] w := by
  refine lp_ind (fun s => J κ RX12 cX12_doneSet 4 (some .int) (rmk 1 22) 4 [(0, .ref (ad (gm κ) 97)), (1, .int a1), (2, .int s.1), (3, .int s.2)] [] w) (fun s h => ?_) s h
  unfold X12_doneSet_b4 at h
  refine j_iload_n 3 dX12_doneSet_4 rfl rfl ?_
  refine j_bipush (15 : Int32) dX12_doneSet_5 kb_15 ?_
  refine j_ic_ge 35 dX12_doneSet_7 (by decide) h (fun h => ?_) (fun h => ?_)
  · refine j_loc [(2, .int s.1)] [2] rfl ?_
    have h := sel_r h
    have h := K0 _ h
    exact h
  · refine j_iload_n 2 dX12_doneSet_10 rfl rfl ?_
    refine j_aload_n 0 dX12_doneSet_11 rfl rfl ?_
    refine j_iload_n 1 dX12_doneSet_12 rfl rfl ?_
    refine j_iload_n 3 dX12_doneSet_13 rfl rfl ?_
    obtain ⟨q1, e2, h⟩ := ok_b h
    refine j_callV (As := [.int a1, .int s.2]) (st := [.int s.1]) [.int q1, .int s.1] (c_X12_isDone (kl κ) (gm κ) (kA κ) a1 s.2 w q1 e2) ck_RX12_478 im_X12_isDone se_X12_isDone sh_97 cx_12 ⟨rfl, rfl⟩ ⟨by decide, by decide⟩ rfl rfl (Nat.le_of_ble_eq_true rfl) dX12_doneSet_14 _ rfl ?_
    refine j_if_eq 26 dX12_doneSet_17 (by decide) h (fun h => ?_) (fun h => ?_)
    · refine j_iconst (0 : Int32) dX12_doneSet_26 ki_0 ?_
      refine j_loc [(0, .ref (ad (gm κ) 97)), (1, .int a1), (3, .int s.2)] [0, 1, 3] rfl ?_
      exact t_X12_doneSet_j27 a1 s.2 (0 : Int32) s.1 w (fun _ h => h) K0 h
    · refine j_iconst (1 : Int32) dX12_doneSet_20 ki_1 ?_
      refine j_iload_n 3 dX12_doneSet_21 rfl rfl ?_
      refine j_ishl dX12_doneSet_22 ?_
      refine j_goto 27 dX12_doneSet_23 (by decide) ?_
      refine j_loc [(0, .ref (ad (gm κ) 97)), (1, .int a1), (3, .int s.2)] [0, 1, 3] rfl ?_
      exact t_X12_doneSet_j27 a1 s.2 ((1 : Int32) <<< (s.2 &&& 31)) s.1 w (fun _ h => h) K0 h
noncomputable def X12_doneSet (a1 : Int32) (w : Wd) : Option (Int32) :=
(lp (X12_doneSet_b4 a1 w) ((0 : Int32), (0 : Int32))).bind fun e3 =>
some e3
set_option maxRecDepth 20000 in
set_option maxHeartbeats 1000000 in
theorem t_X12_doneSet {κ : Kx} (a1 : Int32) (w : Wd) (h : ok (X12_doneSet  a1 w) (PI κ w)) : J κ RX12 cX12_doneSet 4 (some .int) (rmk 1 22) 0 [(0, .ref (ad (gm κ) 97)), (1, .int a1)] [] w := by
  unfold X12_doneSet at h
  refine j_iconst (0 : Int32) dX12_doneSet_0 ki_0 ?_
  refine j_istore_n [(2, .int (0 : Int32)), (0, .ref (ad (gm κ) 97)), (1, .int a1)] dX12_doneSet_1 rfl (by decide) rfl ?_
  refine j_iconst (0 : Int32) dX12_doneSet_2 ki_0 ?_
  refine j_istore_n [(3, .int (0 : Int32)), (2, .int (0 : Int32)), (0, .ref (ad (gm κ) 97)), (1, .int a1)] dX12_doneSet_3 rfl (by decide) rfl ?_
  refine j_loc [(0, .ref (ad (gm κ) 97)), (1, .int a1), (2, .int (0 : Int32)), (3, .int (0 : Int32))] [2, 3, 1, 0] rfl ?_
  refine t_X12_doneSet_b4 a1 w (fun e3 h => ?_) ((0 : Int32), (0 : Int32)) (ok_bb h)
  · refine j_iload_n 0 dX12_doneSet_35 rfl rfl ?_
    have h := ok_s h
    exact j_iret dX12_doneSet_36 rfl rfl h
theorem c_X12_doneSet (l : Launch) (γ : Gm) (A : Nat → Prop) (a1 : Int32) (w : Wd) (q : Int32) (e : X12_doneSet  a1 w = some q) : MetG l γ A yX12_doneSet cX12_doneSet 4 (some .int) (rmk 1 22) [.ref (ad (γ) 97), .int a1] w (some (.int q)) w := by
  refine met_of pn_RX12 (Nat.le_of_ble_eq_true rfl) ?_
  intro κ hl hγ hA hρ
  subst hl; subst hγ; subst hA
  exact t_X12_doneSet   a1 w ⟨q, e, pI hρ rfl rfl⟩
theorem dX12_bits_0 : decode cX12_bits 0 = .ok (.iconst 0, 1) := by decide +kernel
theorem dX12_bits_1 : decode cX12_bits 1 = .ok (.istore_n 1, 1) := by decide +kernel
theorem dX12_bits_2 : decode cX12_bits 2 = .ok (.iload_n 0, 1) := by decide +kernel
theorem dX12_bits_3 : decode cX12_bits 3 = .ok (.istore_n 2, 1) := by decide +kernel
theorem dX12_bits_4 : decode cX12_bits 4 = .ok (.iload_n 2, 1) := by decide +kernel
theorem dX12_bits_5 : decode cX12_bits 5 = .ok (.ifCond .eq 15, 3) := by decide +kernel
theorem dX12_bits_8 : decode cX12_bits 8 = .ok (.iinc 1 1, 3) := by decide +kernel
theorem dX12_bits_11 : decode cX12_bits 11 = .ok (.iload_n 2, 1) := by decide +kernel
theorem dX12_bits_12 : decode cX12_bits 12 = .ok (.iload_n 2, 1) := by decide +kernel
theorem dX12_bits_13 : decode cX12_bits 13 = .ok (.iconst 1, 1) := by decide +kernel
theorem dX12_bits_14 : decode cX12_bits 14 = .ok (.isub, 1) := by decide +kernel
theorem dX12_bits_15 : decode cX12_bits 15 = .ok (.iand, 1) := by decide +kernel
theorem dX12_bits_16 : decode cX12_bits 16 = .ok (.istore_n 2, 1) := by decide +kernel
theorem dX12_bits_17 : decode cX12_bits 17 = .ok (.goto (-13), 3) := by decide +kernel
theorem dX12_bits_20 : decode cX12_bits 20 = .ok (.iload_n 1, 1) := by decide +kernel
theorem dX12_bits_21 : decode cX12_bits 21 = .ok (.ireturn, 1) := by decide +kernel
noncomputable def X12_bits_b4 (w : Wd) (s : (Int32 × Int32)) : Option ((Int32 × Int32) ⊕ Int32) :=
(if s.2 = 0 then
some (.inr s.1)
else
(some (s.2 &&& (s.2 - (1 : Int32)))).bind fun z1 =>
some (.inl ((s.1 + (1 : Int32)), z1)))
set_option maxRecDepth 20000 in
set_option maxHeartbeats 1000000 in
theorem t_X12_bits_b4 {κ : Kx} (w : Wd) {P : Int32 → Prop} (K0 : ∀ e, P e → J κ RX12 cX12_bits 3 (some .int) (rmk 0 0) 20 [(1, .int e)] [] w) (s : (Int32 × Int32)) (h : ok (lp (X12_bits_b4  w) s) P) : J κ RX12 cX12_bits 3 (some .int) (rmk 0 0) 4 [(1, .int s.1), (2, .int s.2)] [] w := by
  refine lp_ind (fun s => J κ RX12 cX12_bits 3 (some .int) (rmk 0 0) 4 [(1, .int s.1), (2, .int s.2)] [] w) (fun s h => ?_) s h
  unfold X12_bits_b4 at h
  refine j_iload_n 1 dX12_bits_4 rfl rfl ?_
  refine j_if_eq 20 dX12_bits_5 (by decide) h (fun h => ?_) (fun h => ?_)
  · refine j_loc [(1, .int s.1)] [0] rfl ?_
    have h := sel_r h
    have h := K0 _ h
    exact h
  · refine j_iinc (s.1 + (1 : Int32)) 0 [(1, .int (s.1 + (1 : Int32))), (2, .int s.2)] dX12_bits_8 rfl (by rw [kn_1]) (by decide) rfl ?_
    refine j_iload_n 1 dX12_bits_11 rfl rfl ?_
    refine j_iload_n 1 dX12_bits_12 rfl rfl ?_
    refine j_iconst (1 : Int32) dX12_bits_13 ki_1 ?_
    refine j_isub dX12_bits_14 ?_
    refine j_iand dX12_bits_15 ?_
    refine j_lI h (fun z1 h => ?_)
    refine j_istore_n [(2, .int z1), (1, .int (s.1 + (1 : Int32)))] dX12_bits_16 rfl (by decide) rfl ?_
    refine j_goto 4 dX12_bits_17 (by decide) ?_
    refine j_loc [(1, .int (s.1 + (1 : Int32))), (2, .int z1)] [1, 0] rfl ?_
    have h := sel_l h
    exact h
noncomputable def X12_bits (a0 : Int32) (w : Wd) : Option (Int32) :=
(lp (X12_bits_b4 w) ((0 : Int32), a0)).bind fun e2 =>
some e2
set_option maxRecDepth 20000 in
set_option maxHeartbeats 1000000 in
theorem t_X12_bits {κ : Kx} (a0 : Int32) (w : Wd) (h : ok (X12_bits  a0 w) (PI κ w)) : J κ RX12 cX12_bits 3 (some .int) (rmk 0 0) 0 [(0, .int a0)] [] w := by
  unfold X12_bits at h
  refine j_iconst (0 : Int32) dX12_bits_0 ki_0 ?_
  refine j_istore_n [(1, .int (0 : Int32)), (0, .int a0)] dX12_bits_1 rfl (by decide) rfl ?_
  refine j_iload_n 1 dX12_bits_2 rfl rfl ?_
  refine j_istore_n [(2, .int a0), (1, .int (0 : Int32)), (0, .int a0)] dX12_bits_3 rfl (by decide) rfl ?_
  refine j_loc [(1, .int (0 : Int32)), (2, .int a0)] [1, 0] rfl ?_
  refine t_X12_bits_b4 w (fun e2 h => ?_) ((0 : Int32), a0) (ok_bb h)
  · refine j_iload_n 0 dX12_bits_20 rfl rfl ?_
    have h := ok_s h
    exact j_iret dX12_bits_21 rfl rfl h
theorem c_X12_bits (l : Launch) (γ : Gm) (A : Nat → Prop) (a0 : Int32) (w : Wd) (q : Int32) (e : X12_bits  a0 w = some q) : MetG l γ A yX12_bits cX12_bits 3 (some .int) (rmk 0 0) [.int a0] w (some (.int q)) w := by
  refine met_of pn_RX12 (Nat.le_of_ble_eq_true rfl) ?_
  intro κ hl hγ hA hρ
  subst hl; subst hγ; subst hA
  exact t_X12_bits   a0 w ⟨q, e, pI hρ rfl rfl⟩
theorem dX12_learns_0 : decode cX12_learns 0 = .ok (.aload_n 0, 1) := by decide +kernel
theorem dX12_learns_1 : decode cX12_learns 1 = .ok (.getfield 48, 3) := by decide +kernel
theorem dX12_learns_4 : decode cX12_learns 4 = .ok (.iload_n 1, 1) := by decide +kernel
theorem dX12_learns_5 : decode cX12_learns 5 = .ok (.iaload, 1) := by decide +kernel
theorem dX12_learns_6 : decode cX12_learns 6 = .ok (.istore_n 3, 1) := by decide +kernel
theorem dX12_learns_7 : decode cX12_learns 7 = .ok (.iload_n 3, 1) := by decide +kernel
theorem dX12_learns_8 : decode cX12_learns 8 = .ok (.bipush 40, 2) := by decide +kernel
theorem dX12_learns_10 : decode cX12_learns 10 = .ok (.if_icmp .ge 7, 3) := by decide +kernel
theorem dX12_learns_13 : decode cX12_learns 13 = .ok (.iload_n 2, 1) := by decide +kernel
theorem dX12_learns_14 : decode cX12_learns 14 = .ok (.goto 20, 3) := by decide +kernel
theorem dX12_learns_17 : decode cX12_learns 17 = .ok (.iload_n 3, 1) := by decide +kernel
theorem dX12_learns_18 : decode cX12_learns 18 = .ok (.bipush 60, 2) := by decide +kernel
theorem dX12_learns_20 : decode cX12_learns 20 = .ok (.if_icmp .ge 11, 3) := by decide +kernel
theorem dX12_learns_23 : decode cX12_learns 23 = .ok (.iload_n 2, 1) := by decide +kernel
theorem dX12_learns_24 : decode cX12_learns 24 = .ok (.iconst 3, 1) := by decide +kernel
theorem dX12_learns_25 : decode cX12_learns 25 = .ok (.imul, 1) := by decide +kernel
theorem dX12_learns_26 : decode cX12_learns 26 = .ok (.iconst 4, 1) := by decide +kernel
theorem dX12_learns_27 : decode cX12_learns 27 = .ok (.idiv, 1) := by decide +kernel
theorem dX12_learns_28 : decode cX12_learns 28 = .ok (.goto 6, 3) := by decide +kernel
theorem dX12_learns_31 : decode cX12_learns 31 = .ok (.iload_n 2, 1) := by decide +kernel
theorem dX12_learns_32 : decode cX12_learns 32 = .ok (.iconst 2, 1) := by decide +kernel
theorem dX12_learns_33 : decode cX12_learns 33 = .ok (.idiv, 1) := by decide +kernel
theorem dX12_learns_34 : decode cX12_learns 34 = .ok (.istore 4, 2) := by decide +kernel
theorem dX12_learns_36 : decode cX12_learns 36 = .ok (.iload 4, 2) := by decide +kernel
theorem dX12_learns_38 : decode cX12_learns 38 = .ok (.ifCond .le 82, 3) := by decide +kernel
theorem dX12_learns_41 : decode cX12_learns 41 = .ok (.aload_n 0, 1) := by decide +kernel
theorem dX12_learns_42 : decode cX12_learns 42 = .ok (.iload_n 1, 1) := by decide +kernel
theorem dX12_learns_43 : decode cX12_learns 43 = .ok (.invokevirtual 481, 3) := by decide +kernel
theorem dX12_learns_46 : decode cX12_learns 46 = .ok (.istore 5, 2) := by decide +kernel
theorem dX12_learns_48 : decode cX12_learns 48 = .ok (.iconst 0, 1) := by decide +kernel
theorem dX12_learns_49 : decode cX12_learns 49 = .ok (.istore 6, 2) := by decide +kernel
theorem dX12_learns_51 : decode cX12_learns 51 = .ok (.iload 6, 2) := by decide +kernel
theorem dX12_learns_53 : decode cX12_learns 53 = .ok (.bipush 15, 2) := by decide +kernel
theorem dX12_learns_55 : decode cX12_learns 55 = .ok (.if_icmp .ge 35, 3) := by decide +kernel
theorem dX12_learns_58 : decode cX12_learns 58 = .ok (.iload 5, 2) := by decide +kernel
theorem dX12_learns_60 : decode cX12_learns 60 = .ok (.iload 6, 2) := by decide +kernel
theorem dX12_learns_62 : decode cX12_learns 62 = .ok (.ishr, 1) := by decide +kernel
theorem dX12_learns_63 : decode cX12_learns 63 = .ok (.iconst 1, 1) := by decide +kernel
theorem dX12_learns_64 : decode cX12_learns 64 = .ok (.iand, 1) := by decide +kernel
theorem dX12_learns_65 : decode cX12_learns 65 = .ok (.iconst 1, 1) := by decide +kernel
theorem dX12_learns_66 : decode cX12_learns 66 = .ok (.if_icmp .eq 18, 3) := by decide +kernel
theorem dX12_learns_69 : decode cX12_learns 69 = .ok (.aload_n 0, 1) := by decide +kernel
theorem dX12_learns_70 : decode cX12_learns 70 = .ok (.getfield 173, 3) := by decide +kernel
theorem dX12_learns_73 : decode cX12_learns 73 = .ok (.iload 6, 2) := by decide +kernel
theorem dX12_learns_75 : decode cX12_learns 75 = .ok (.iaload, 1) := by decide +kernel
theorem dX12_learns_76 : decode cX12_learns 76 = .ok (.iload 5, 2) := by decide +kernel
theorem dX12_learns_78 : decode cX12_learns 78 = .ok (.iconst (-1), 1) := by decide +kernel
theorem dX12_learns_79 : decode cX12_learns 79 = .ok (.ixor, 1) := by decide +kernel
theorem dX12_learns_80 : decode cX12_learns 80 = .ok (.iand, 1) := by decide +kernel
theorem dX12_learns_81 : decode cX12_learns 81 = .ok (.ifCond .eq 9, 3) := by decide +kernel
theorem dX12_learns_84 : decode cX12_learns 84 = .ok (.iinc 6 1, 3) := by decide +kernel
theorem dX12_learns_87 : decode cX12_learns 87 = .ok (.goto (-36), 3) := by decide +kernel
theorem dX12_learns_90 : decode cX12_learns 90 = .ok (.iload 6, 2) := by decide +kernel
theorem dX12_learns_92 : decode cX12_learns 92 = .ok (.bipush 15, 2) := by decide +kernel
theorem dX12_learns_94 : decode cX12_learns 94 = .ok (.if_icmp .ne 4, 3) := by decide +kernel
theorem dX12_learns_97 : decode cX12_learns 97 = .ok (.return_, 1) := by decide +kernel
theorem dX12_learns_98 : decode cX12_learns 98 = .ok (.aload_n 0, 1) := by decide +kernel
theorem dX12_learns_99 : decode cX12_learns 99 = .ok (.getfield 190, 3) := by decide +kernel
theorem dX12_learns_102 : decode cX12_learns 102 = .ok (.bipush 15, 2) := by decide +kernel
theorem dX12_learns_104 : decode cX12_learns 104 = .ok (.iload_n 1, 1) := by decide +kernel
theorem dX12_learns_105 : decode cX12_learns 105 = .ok (.imul, 1) := by decide +kernel
theorem dX12_learns_106 : decode cX12_learns 106 = .ok (.iload 6, 2) := by decide +kernel
theorem dX12_learns_108 : decode cX12_learns 108 = .ok (.iadd, 1) := by decide +kernel
theorem dX12_learns_109 : decode cX12_learns 109 = .ok (.dup2, 1) := by decide +kernel
theorem dX12_learns_110 : decode cX12_learns 110 = .ok (.iaload, 1) := by decide +kernel
theorem dX12_learns_111 : decode cX12_learns 111 = .ok (.iconst 1, 1) := by decide +kernel
theorem dX12_learns_112 : decode cX12_learns 112 = .ok (.iadd, 1) := by decide +kernel
theorem dX12_learns_113 : decode cX12_learns 113 = .ok (.iastore, 1) := by decide +kernel
theorem dX12_learns_114 : decode cX12_learns 114 = .ok (.iinc 4 (-1), 3) := by decide +kernel
theorem dX12_learns_117 : decode cX12_learns 117 = .ok (.goto (-81), 3) := by decide +kernel
theorem dX12_learns_120 : decode cX12_learns 120 = .ok (.return_, 1) := by decide +kernel
noncomputable def X12_learns_j84 (a1 : Int32) (a4 : Int32) (a5 : Int32) (a6 : Int32) (w : Wd) : Option (Int32 ⊕ Int32) :=
some (.inl (a6 + (1 : Int32)))
set_option maxRecDepth 20000 in
set_option maxHeartbeats 1000000 in
theorem t_X12_learns_j84 {κ : Kx} (a1 : Int32) (a4 : Int32) (a5 : Int32) (a6 : Int32) (w : Wd) {G : Int32 → Prop} {P : Int32 → Prop} (KG : ∀ s, G s → J κ RX12 cX12_learns 7 none (rmk 2 45) 51 [(0, .ref (ad (gm κ) 97)), (1, .int a1), (4, .int a4), (5, .int a5), (6, .int s)] [] w) (K0 : ∀ e, P e → J κ RX12 cX12_learns 7 none (rmk 2 45) 90 [(0, .ref (ad (gm κ) 97)), (1, .int a1), (4, .int a4), (6, .int e)] [] w) (h : ok (X12_learns_j84  a1 a4 a5 a6 w) (sel G P)) : J κ RX12 cX12_learns 7 none (rmk 2 45) 84 [(0, .ref (ad (gm κ) 97)), (1, .int a1), (4, .int a4), (5, .int a5), (6, .int a6)] [] w := by
  unfold X12_learns_j84 at h
  refine j_iinc (a6 + (1 : Int32)) 4 [(6, .int (a6 + (1 : Int32))), (0, .ref (ad (gm κ) 97)), (1, .int a1), (4, .int a4), (5, .int a5)] dX12_learns_84 rfl (by rw [kn_1]) (by decide) rfl ?_
  refine j_goto 51 dX12_learns_87 (by decide) ?_
  refine j_loc [(0, .ref (ad (gm κ) 97)), (1, .int a1), (4, .int a4), (5, .int a5), (6, .int (a6 + (1 : Int32)))] [1, 2, 3, 4, 0] rfl ?_
  have h := sel_l h
  have h := KG _ h
  exact h
noncomputable def X12_learns_b51 (a1 : Int32) (a4 : Int32) (a5 : Int32) (w : Wd) (s : Int32) : Option (Int32 ⊕ Int32) :=
(if (15 : Int32) ≤ s then
some (.inr s)
else
(if ((a5 >>> (s &&& 31)) &&& (1 : Int32)) = (1 : Int32) then
X12_learns_j84 a1 a4 a5 s w
else
gd (vp_in s 15) <|
(if ((w.1 148 (ix s)) &&& (a5 ^^^ (-1 : Int32))) = 0 then
some (.inr s)
else
X12_learns_j84 a1 a4 a5 s w)))
set_option maxRecDepth 20000 in
set_option maxHeartbeats 1000000 in
theorem t_X12_learns_b51 {κ : Kx} (a1 : Int32) (a4 : Int32) (a5 : Int32) (w : Wd) {P : Int32 → Prop} (K0 : ∀ e, P e → J κ RX12 cX12_learns 7 none (rmk 2 45) 90 [(0, .ref (ad (gm κ) 97)), (1, .int a1), (4, .int a4), (6, .int e)] [] w) (s : Int32) (h : ok (lp (X12_learns_b51  a1 a4 a5 w) s) P) : J κ RX12 cX12_learns 7 none (rmk 2 45) 51 [(0, .ref (ad (gm κ) 97)), (1, .int a1), (4, .int a4), (5, .int a5), (6, .int s)] [] w := by
  refine lp_ind (fun s => J κ RX12 cX12_learns 7 none (rmk 2 45) 51 [(0, .ref (ad (gm κ) 97)), (1, .int a1), (4, .int a4), (5, .int a5), (6, .int s)] [] w) (fun s h => ?_) s h
  unfold X12_learns_b51 at h
  refine j_iload 4 dX12_learns_51 rfl ?_
  refine j_bipush (15 : Int32) dX12_learns_53 kb_15 ?_
  refine j_ic_ge 90 dX12_learns_55 (by decide) h (fun h => ?_) (fun h => ?_)
  · refine j_loc [(0, .ref (ad (gm κ) 97)), (1, .int a1), (4, .int a4), (6, .int s)] [0, 1, 2, 4] rfl ?_
    have h := sel_r h
    have h := K0 _ h
    exact h
  · refine j_iload 3 dX12_learns_58 rfl ?_
    refine j_iload 4 dX12_learns_60 rfl ?_
    refine j_ishr dX12_learns_62 ?_
    refine j_iconst (1 : Int32) dX12_learns_63 ki_1 ?_
    refine j_iand dX12_learns_64 ?_
    refine j_iconst (1 : Int32) dX12_learns_65 ki_1 ?_
    refine j_ic_eq 84 dX12_learns_66 (by decide) h (fun h => ?_) (fun h => ?_)
    · refine j_loc [(0, .ref (ad (gm κ) 97)), (1, .int a1), (4, .int a4), (5, .int a5), (6, .int s)] [0, 1, 2, 3, 4] rfl ?_
      exact t_X12_learns_j84 a1 a4 a5 s w (fun _ h => h) K0 h
    · refine j_aload_n 0 dX12_learns_69 rfl rfl ?_
      refine j_getA 148 fl_RX12_173 sh_97 fk_97_72 (by decide) dX12_learns_70 ?_
      refine j_iload 4 dX12_learns_73 rfl ?_
      refine j_iald sh_148 dX12_learns_75 h (fun h => ?_)
      refine j_iload 3 dX12_learns_76 rfl ?_
      refine j_iconst (-1 : Int32) dX12_learns_78 ki_m1 ?_
      refine j_ixor dX12_learns_79 ?_
      refine j_iand dX12_learns_80 ?_
      refine j_if_eq 90 dX12_learns_81 (by decide) h (fun h => ?_) (fun h => ?_)
      · refine j_loc [(0, .ref (ad (gm κ) 97)), (1, .int a1), (4, .int a4), (6, .int s)] [0, 1, 2, 4] rfl ?_
        have h := sel_r h
        have h := K0 _ h
        exact h
      · refine j_loc [(0, .ref (ad (gm κ) 97)), (1, .int a1), (4, .int a4), (5, .int a5), (6, .int s)] [0, 1, 2, 3, 4] rfl ?_
        exact t_X12_learns_j84 a1 a4 a5 s w (fun _ h => h) K0 h
noncomputable def X12_learns_b36 (a1 : Int32) (s : (Int32 × Wd)) : Option ((Int32 × Wd) ⊕ (Wd ⊕ Wd)) :=
(if s.1 ≤ 0 then
some (.inr (.inr s.2))
else
(X12_doneSet a1 s.2).bind fun q1 =>
(lp (X12_learns_b51 a1 s.1 q1 s.2) (0 : Int32)).bind fun e3 =>
(if e3 = (15 : Int32) then
some (.inr (.inl s.2))
else
gd (vp_in (((15 : Int32) * a1) + e3) 600) <|
gd (vp_in (((15 : Int32) * a1) + e3) 600) <|
(some (puI s.2 150 (ix (((15 : Int32) * a1) + e3)) ((s.2.1 150 (ix (((15 : Int32) * a1) + e3))) + (1 : Int32)))).bind fun w4 =>
some (.inl ((s.1 + (-1 : Int32)), w4))))
set_option maxRecDepth 20000 in
set_option maxHeartbeats 1000000 in
theorem t_X12_learns_b36 {κ : Kx} (a1 : Int32) {P : (Wd ⊕ Wd) → Prop} (K0 : ∀ e, P (.inl e) → J κ RX12 cX12_learns 7 none (rmk 2 45) 97 [] [] e) (K1 : ∀ e, P (.inr e) → J κ RX12 cX12_learns 7 none (rmk 2 45) 120 [] [] e) (s : (Int32 × Wd)) (h : ok (lp (X12_learns_b36  a1) s) P) : J κ RX12 cX12_learns 7 none (rmk 2 45) 36 [(0, .ref (ad (gm κ) 97)), (1, .int a1), (4, .int s.1)] [] s.2 := by
  refine lp_ind (fun s => J κ RX12 cX12_learns 7 none (rmk 2 45) 36 [(0, .ref (ad (gm κ) 97)), (1, .int a1), (4, .int s.1)] [] s.2) (fun s h => ?_) s h
  unfold X12_learns_b36 at h
  refine j_iload 2 dX12_learns_36 rfl ?_
  refine j_if_le 120 dX12_learns_38 (by decide) h (fun h => ?_) (fun h => ?_)
  · refine j_loc [] [] rfl ?_
    have h := sel_r h
    have h := K1 _ h
    exact h
  · refine j_aload_n 0 dX12_learns_41 rfl rfl ?_
    refine j_iload_n 1 dX12_learns_42 rfl rfl ?_
    obtain ⟨q1, e2, h⟩ := ok_b h
    refine j_callV (As := [.int a1]) (st := []) [.int q1] (c_X12_doneSet (kl κ) (gm κ) (kA κ) a1 s.2 q1 e2) ck_RX12_481 im_X12_doneSet se_X12_doneSet sh_97 cx_12 ⟨rfl, rfl⟩ ⟨by decide, by decide⟩ rfl rfl (Nat.le_of_ble_eq_true rfl) dX12_learns_43 _ rfl ?_
    refine j_istore [(5, .int q1), (0, .ref (ad (gm κ) 97)), (1, .int a1), (4, .int s.1)] dX12_learns_46 (by decide) rfl ?_
    refine j_iconst (0 : Int32) dX12_learns_48 ki_0 ?_
    refine j_istore [(6, .int (0 : Int32)), (5, .int q1), (0, .ref (ad (gm κ) 97)), (1, .int a1), (4, .int s.1)] dX12_learns_49 (by decide) rfl ?_
    refine j_loc [(0, .ref (ad (gm κ) 97)), (1, .int a1), (4, .int s.1), (5, .int q1), (6, .int (0 : Int32))] [2, 3, 4, 1, 0] rfl ?_
    refine t_X12_learns_b51 a1 s.1 q1 s.2 (fun e3 h => ?_) (0 : Int32) (ok_bb h)
    · refine j_iload 3 dX12_learns_90 rfl ?_
      refine j_bipush (15 : Int32) dX12_learns_92 kb_15 ?_
      refine j_ic_ne 98 dX12_learns_94 (by decide) h (fun h => ?_) (fun h => ?_)
      · refine j_aload_n 0 dX12_learns_98 rfl rfl ?_
        refine j_getA 150 fl_RX12_190 sh_97 fk_97_74 (by decide) dX12_learns_99 ?_
        refine j_bipush (15 : Int32) dX12_learns_102 kb_15 ?_
        refine j_iload_n 1 dX12_learns_104 rfl rfl ?_
        refine j_imul dX12_learns_105 ?_
        refine j_iload 3 dX12_learns_106 rfl ?_
        refine j_iadd dX12_learns_108 ?_
        refine j_dup2 dX12_learns_109 rfl rfl ?_
        refine j_iald sh_150 dX12_learns_110 h (fun h => ?_)
        refine j_iconst (1 : Int32) dX12_learns_111 ki_1 ?_
        refine j_iadd dX12_learns_112 ?_
        refine j_iast sh_150 dX12_learns_113 h (fun h => ?_)
        refine j_lW h (fun w4 h => ?_)
        refine j_iinc (s.1 + (-1 : Int32)) 2 [(4, .int (s.1 + (-1 : Int32))), (0, .ref (ad (gm κ) 97)), (1, .int a1), (6, .int e3)] dX12_learns_114 rfl (by rw [kn_m1]) (by decide) rfl ?_
        refine j_goto 36 dX12_learns_117 (by decide) ?_
        refine j_loc [(0, .ref (ad (gm κ) 97)), (1, .int a1), (4, .int (s.1 + (-1 : Int32)))] [1, 2, 0] rfl ?_
        have h := sel_l h
        exact h
      · refine j_loc [] [] rfl ?_
        have h := sel_r h
        have h := K0 _ h
        exact h
noncomputable def X12_learns_j34 (a1 : Int32) (s0 : Int32) (w : Wd) : Option (Wd) :=
(lp (X12_learns_b36 a1) (s0, w)).bind fun e5 => match e5 with
| (.inl e6) => (some e6)
| (.inr e7) => (some e7)
set_option maxRecDepth 20000 in
set_option maxHeartbeats 1000000 in
theorem t_X12_learns_j34 {κ : Kx} (a1 : Int32) (s0 : Int32) (w : Wd) (h : ok (X12_learns_j34  a1 s0 w) (PVw κ)) : J κ RX12 cX12_learns 7 none (rmk 2 45) 34 [(0, .ref (ad (gm κ) 97)), (1, .int a1)] [.int s0] w := by
  unfold X12_learns_j34 at h
  refine j_istore [(4, .int s0), (0, .ref (ad (gm κ) 97)), (1, .int a1)] dX12_learns_34 (by decide) rfl ?_
  refine j_loc [(0, .ref (ad (gm κ) 97)), (1, .int a1), (4, .int s0)] [1, 2, 0] rfl ?_
  refine t_X12_learns_b36 a1 (fun e6 h => ?_) (fun e7 h => ?_) (s0, w) (ok_bb h)
  · have h := ok_s h
    exact j_vret dX12_learns_97 rfl h
  · have h := ok_s h
    exact j_vret dX12_learns_120 rfl h
noncomputable def X12_learns (a1 : Int32) (a2 : Int32) (w : Wd) : Option (Wd) :=
gd (vp_in a1 40) <|
(if (40 : Int32) ≤ (w.1 109 (ix a1)) then
(if (60 : Int32) ≤ (w.1 109 (ix a1)) then
gd (¬ (2 : Int32) = 0) <|
X12_learns_j34 a1 (a2 / (2 : Int32)) w
else
gd (¬ (4 : Int32) = 0) <|
X12_learns_j34 a1 ((a2 * (3 : Int32)) / (4 : Int32)) w)
else
X12_learns_j34 a1 a2 w)
set_option maxRecDepth 20000 in
set_option maxHeartbeats 1000000 in
theorem t_X12_learns {κ : Kx} (a1 : Int32) (a2 : Int32) (w : Wd) (h : ok (X12_learns  a1 a2 w) (PVw κ)) : J κ RX12 cX12_learns 7 none (rmk 2 45) 0 [(0, .ref (ad (gm κ) 97)), (1, .int a1), (2, .int a2)] [] w := by
  unfold X12_learns at h
  refine j_aload_n 0 dX12_learns_0 rfl rfl ?_
  refine j_getA 109 fl_RX12_48 sh_97 fk_97_20 (by decide) dX12_learns_1 ?_
  refine j_iload_n 1 dX12_learns_4 rfl rfl ?_
  refine j_iald sh_109 dX12_learns_5 h (fun h => ?_)
  refine j_istore_n [(3, .int (w.1 109 (ix a1))), (0, .ref (ad (gm κ) 97)), (1, .int a1), (2, .int a2)] dX12_learns_6 rfl (by decide) rfl ?_
  refine j_iload_n 0 dX12_learns_7 rfl rfl ?_
  refine j_bipush (40 : Int32) dX12_learns_8 kb_40 ?_
  refine j_ic_ge 17 dX12_learns_10 (by decide) h (fun h => ?_) (fun h => ?_)
  · refine j_iload_n 0 dX12_learns_17 rfl rfl ?_
    refine j_bipush (60 : Int32) dX12_learns_18 kb_60 ?_
    refine j_ic_ge 31 dX12_learns_20 (by decide) h (fun h => ?_) (fun h => ?_)
    · refine j_iload_n 3 dX12_learns_31 rfl rfl ?_
      refine j_iconst (2 : Int32) dX12_learns_32 ki_2 ?_
      obtain ⟨hz, h⟩ := ok_g h
      refine j_idiv dX12_learns_33 hz ?_
      refine j_loc [(0, .ref (ad (gm κ) 97)), (1, .int a1)] [1, 2] rfl ?_
      exact t_X12_learns_j34 a1 (a2 / (2 : Int32)) w h
    · refine j_iload_n 3 dX12_learns_23 rfl rfl ?_
      refine j_iconst (3 : Int32) dX12_learns_24 ki_3 ?_
      refine j_imul dX12_learns_25 ?_
      refine j_iconst (4 : Int32) dX12_learns_26 ki_4 ?_
      obtain ⟨hz, h⟩ := ok_g h
      refine j_idiv dX12_learns_27 hz ?_
      refine j_goto 34 dX12_learns_28 (by decide) ?_
      refine j_loc [(0, .ref (ad (gm κ) 97)), (1, .int a1)] [1, 2] rfl ?_
      exact t_X12_learns_j34 a1 ((a2 * (3 : Int32)) / (4 : Int32)) w h
  · refine j_iload_n 3 dX12_learns_13 rfl rfl ?_
    refine j_goto 34 dX12_learns_14 (by decide) ?_
    refine j_loc [(0, .ref (ad (gm κ) 97)), (1, .int a1)] [1, 2] rfl ?_
    exact t_X12_learns_j34 a1 a2 w h
theorem c_X12_learns (l : Launch) (γ : Gm) (A : Nat → Prop) (a1 : Int32) (a2 : Int32) (w : Wd) (q : Wd) (e : X12_learns  a1 a2 w = some q) : MetG l γ A yX12_learns cX12_learns 7 none (rmk 2 45) [.ref (ad (γ) 97), .int a1, .int a2] w none q := by
  refine met_of pn_RX12 (Nat.le_of_ble_eq_true rfl) ?_
  intro κ hl hγ hA hρ
  subst hl; subst hγ; subst hA
  exact t_X12_learns   a1 a2 w ⟨q, e, pVw hρ rfl rfl⟩
theorem dX12_misses_0 : decode cX12_misses 0 = .ok (.aload_n 0, 1) := by decide +kernel
theorem dX12_misses_1 : decode cX12_misses 1 = .ok (.getfield 193, 3) := by decide +kernel
theorem dX12_misses_4 : decode cX12_misses 4 = .ok (.iload_n 1, 1) := by decide +kernel
theorem dX12_misses_5 : decode cX12_misses 5 = .ok (.dup2, 1) := by decide +kernel
theorem dX12_misses_6 : decode cX12_misses 6 = .ok (.iaload, 1) := by decide +kernel
theorem dX12_misses_7 : decode cX12_misses 7 = .ok (.iconst 1, 1) := by decide +kernel
theorem dX12_misses_8 : decode cX12_misses 8 = .ok (.iadd, 1) := by decide +kernel
theorem dX12_misses_9 : decode cX12_misses 9 = .ok (.iastore, 1) := by decide +kernel
theorem dX12_misses_10 : decode cX12_misses 10 = .ok (.aload_n 0, 1) := by decide +kernel
theorem dX12_misses_11 : decode cX12_misses 11 = .ok (.getfield 193, 3) := by decide +kernel
theorem dX12_misses_14 : decode cX12_misses 14 = .ok (.iload_n 1, 1) := by decide +kernel
theorem dX12_misses_15 : decode cX12_misses 15 = .ok (.iaload, 1) := by decide +kernel
theorem dX12_misses_16 : decode cX12_misses 16 = .ok (.aload_n 0, 1) := by decide +kernel
theorem dX12_misses_17 : decode cX12_misses 17 = .ok (.getfield 217, 3) := by decide +kernel
theorem dX12_misses_20 : decode cX12_misses 20 = .ok (.if_icmp .gt 4, 3) := by decide +kernel
theorem dX12_misses_23 : decode cX12_misses 23 = .ok (.return_, 1) := by decide +kernel
theorem dX12_misses_24 : decode cX12_misses 24 = .ok (.aload_n 0, 1) := by decide +kernel
theorem dX12_misses_25 : decode cX12_misses 25 = .ok (.iload_n 1, 1) := by decide +kernel
theorem dX12_misses_26 : decode cX12_misses 26 = .ok (.invokevirtual 481, 3) := by decide +kernel
theorem dX12_misses_29 : decode cX12_misses 29 = .ok (.istore_n 2, 1) := by decide +kernel
theorem dX12_misses_30 : decode cX12_misses 30 = .ok (.bipush 14, 2) := by decide +kernel
theorem dX12_misses_32 : decode cX12_misses 32 = .ok (.istore_n 3, 1) := by decide +kernel
theorem dX12_misses_33 : decode cX12_misses 33 = .ok (.iload_n 3, 1) := by decide +kernel
theorem dX12_misses_34 : decode cX12_misses 34 = .ok (.ifCond .lt 98, 3) := by decide +kernel
theorem dX12_misses_37 : decode cX12_misses 37 = .ok (.iload_n 2, 1) := by decide +kernel
theorem dX12_misses_38 : decode cX12_misses 38 = .ok (.iload_n 3, 1) := by decide +kernel
theorem dX12_misses_39 : decode cX12_misses 39 = .ok (.ishr, 1) := by decide +kernel
theorem dX12_misses_40 : decode cX12_misses 40 = .ok (.iconst 1, 1) := by decide +kernel
theorem dX12_misses_41 : decode cX12_misses 41 = .ok (.iand, 1) := by decide +kernel
theorem dX12_misses_42 : decode cX12_misses 42 = .ok (.ifCond .ne 7, 3) := by decide +kernel
theorem dX12_misses_45 : decode cX12_misses 45 = .ok (.iconst 1, 1) := by decide +kernel
theorem dX12_misses_46 : decode cX12_misses 46 = .ok (.goto 4, 3) := by decide +kernel
theorem dX12_misses_49 : decode cX12_misses 49 = .ok (.iconst 0, 1) := by decide +kernel
theorem dX12_misses_50 : decode cX12_misses 50 = .ok (.istore 4, 2) := by decide +kernel
theorem dX12_misses_52 : decode cX12_misses 52 = .ok (.iconst 0, 1) := by decide +kernel
theorem dX12_misses_53 : decode cX12_misses 53 = .ok (.istore 5, 2) := by decide +kernel
theorem dX12_misses_55 : decode cX12_misses 55 = .ok (.iload 5, 2) := by decide +kernel
theorem dX12_misses_57 : decode cX12_misses 57 = .ok (.bipush 15, 2) := by decide +kernel
theorem dX12_misses_59 : decode cX12_misses 59 = .ok (.if_icmp .ge 46, 3) := by decide +kernel
theorem dX12_misses_62 : decode cX12_misses 62 = .ok (.iload 4, 2) := by decide +kernel
theorem dX12_misses_64 : decode cX12_misses 64 = .ok (.ifCond .ne 28, 3) := by decide +kernel
theorem dX12_misses_67 : decode cX12_misses 67 = .ok (.iload_n 2, 1) := by decide +kernel
theorem dX12_misses_68 : decode cX12_misses 68 = .ok (.iload 5, 2) := by decide +kernel
theorem dX12_misses_70 : decode cX12_misses 70 = .ok (.ishr, 1) := by decide +kernel
theorem dX12_misses_71 : decode cX12_misses 71 = .ok (.iconst 1, 1) := by decide +kernel
theorem dX12_misses_72 : decode cX12_misses 72 = .ok (.iand, 1) := by decide +kernel
theorem dX12_misses_73 : decode cX12_misses 73 = .ok (.iconst 1, 1) := by decide +kernel
theorem dX12_misses_74 : decode cX12_misses 74 = .ok (.if_icmp .ne 22, 3) := by decide +kernel
theorem dX12_misses_77 : decode cX12_misses 77 = .ok (.aload_n 0, 1) := by decide +kernel
theorem dX12_misses_78 : decode cX12_misses 78 = .ok (.getfield 173, 3) := by decide +kernel
theorem dX12_misses_81 : decode cX12_misses 81 = .ok (.iload 5, 2) := by decide +kernel
theorem dX12_misses_83 : decode cX12_misses 83 = .ok (.iaload, 1) := by decide +kernel
theorem dX12_misses_84 : decode cX12_misses 84 = .ok (.iload_n 3, 1) := by decide +kernel
theorem dX12_misses_85 : decode cX12_misses 85 = .ok (.ishr, 1) := by decide +kernel
theorem dX12_misses_86 : decode cX12_misses 86 = .ok (.iconst 1, 1) := by decide +kernel
theorem dX12_misses_87 : decode cX12_misses 87 = .ok (.iand, 1) := by decide +kernel
theorem dX12_misses_88 : decode cX12_misses 88 = .ok (.iconst 1, 1) := by decide +kernel
theorem dX12_misses_89 : decode cX12_misses 89 = .ok (.if_icmp .ne 7, 3) := by decide +kernel
theorem dX12_misses_92 : decode cX12_misses 92 = .ok (.iconst 1, 1) := by decide +kernel
theorem dX12_misses_93 : decode cX12_misses 93 = .ok (.goto 4, 3) := by decide +kernel
theorem dX12_misses_96 : decode cX12_misses 96 = .ok (.iconst 0, 1) := by decide +kernel
theorem dX12_misses_97 : decode cX12_misses 97 = .ok (.istore 4, 2) := by decide +kernel
theorem dX12_misses_99 : decode cX12_misses 99 = .ok (.iinc 5 1, 3) := by decide +kernel
theorem dX12_misses_102 : decode cX12_misses 102 = .ok (.goto (-47), 3) := by decide +kernel
theorem dX12_misses_105 : decode cX12_misses 105 = .ok (.iload 4, 2) := by decide +kernel
theorem dX12_misses_107 : decode cX12_misses 107 = .ok (.ifCond .eq 6, 3) := by decide +kernel
theorem dX12_misses_110 : decode cX12_misses 110 = .ok (.goto 16, 3) := by decide +kernel
theorem dX12_misses_113 : decode cX12_misses 113 = .ok (.aload_n 0, 1) := by decide +kernel
theorem dX12_misses_114 : decode cX12_misses 114 = .ok (.getfield 190, 3) := by decide +kernel
theorem dX12_misses_117 : decode cX12_misses 117 = .ok (.bipush 15, 2) := by decide +kernel
theorem dX12_misses_119 : decode cX12_misses 119 = .ok (.iload_n 1, 1) := by decide +kernel
theorem dX12_misses_120 : decode cX12_misses 120 = .ok (.imul, 1) := by decide +kernel
theorem dX12_misses_121 : decode cX12_misses 121 = .ok (.iload_n 3, 1) := by decide +kernel
theorem dX12_misses_122 : decode cX12_misses 122 = .ok (.iadd, 1) := by decide +kernel
theorem dX12_misses_123 : decode cX12_misses 123 = .ok (.iconst 0, 1) := by decide +kernel
theorem dX12_misses_124 : decode cX12_misses 124 = .ok (.iastore, 1) := by decide +kernel
theorem dX12_misses_125 : decode cX12_misses 125 = .ok (.return_, 1) := by decide +kernel
theorem dX12_misses_126 : decode cX12_misses 126 = .ok (.iinc 3 (-1), 3) := by decide +kernel
theorem dX12_misses_129 : decode cX12_misses 129 = .ok (.goto (-96), 3) := by decide +kernel
theorem dX12_misses_132 : decode cX12_misses 132 = .ok (.return_, 1) := by decide +kernel
noncomputable def X12_misses_j97 (a1 : Int32) (a2 : Int32) (a3 : Int32) (a5 : Int32) (s0 : Int32) (w : Wd) : Option ((Int32 × Int32) ⊕ Int32) :=
some (.inl (s0, (a5 + (1 : Int32))))
set_option maxRecDepth 20000 in
set_option maxHeartbeats 1000000 in
theorem t_X12_misses_j97 {κ : Kx} (a1 : Int32) (a2 : Int32) (a3 : Int32) (a5 : Int32) (s0 : Int32) (w : Wd) {G : (Int32 × Int32) → Prop} {P : Int32 → Prop} (KG : ∀ s, G s → J κ RX12 cX12_misses 6 none (rmk 2 45) 55 [(0, .ref (ad (gm κ) 97)), (1, .int a1), (2, .int a2), (3, .int a3), (4, .int s.1), (5, .int s.2)] [] w) (K0 : ∀ e, P e → J κ RX12 cX12_misses 6 none (rmk 2 45) 105 [(0, .ref (ad (gm κ) 97)), (1, .int a1), (2, .int a2), (3, .int a3), (4, .int e)] [] w) (h : ok (X12_misses_j97  a1 a2 a3 a5 s0 w) (sel G P)) : J κ RX12 cX12_misses 6 none (rmk 2 45) 97 [(0, .ref (ad (gm κ) 97)), (1, .int a1), (2, .int a2), (3, .int a3), (5, .int a5)] [.int s0] w := by
  unfold X12_misses_j97 at h
  refine j_istore [(4, .int s0), (0, .ref (ad (gm κ) 97)), (1, .int a1), (2, .int a2), (3, .int a3), (5, .int a5)] dX12_misses_97 (by decide) rfl ?_
  refine j_iinc (a5 + (1 : Int32)) 5 [(5, .int (a5 + (1 : Int32))), (4, .int s0), (0, .ref (ad (gm κ) 97)), (1, .int a1), (2, .int a2), (3, .int a3)] dX12_misses_99 rfl (by rw [kn_1]) (by decide) rfl ?_
  refine j_goto 55 dX12_misses_102 (by decide) ?_
  refine j_loc [(0, .ref (ad (gm κ) 97)), (1, .int a1), (2, .int a2), (3, .int a3), (4, .int s0), (5, .int (a5 + (1 : Int32)))] [2, 3, 4, 5, 1, 0] rfl ?_
  have h := sel_l h
  have h := KG _ h
  exact h
noncomputable def X12_misses_j92 (a1 : Int32) (a2 : Int32) (a3 : Int32) (a5 : Int32) (w : Wd) : Option ((Int32 × Int32) ⊕ Int32) :=
X12_misses_j97 a1 a2 a3 a5 (1 : Int32) w
set_option maxRecDepth 20000 in
set_option maxHeartbeats 1000000 in
theorem t_X12_misses_j92 {κ : Kx} (a1 : Int32) (a2 : Int32) (a3 : Int32) (a5 : Int32) (w : Wd) {G : (Int32 × Int32) → Prop} {P : Int32 → Prop} (KG : ∀ s, G s → J κ RX12 cX12_misses 6 none (rmk 2 45) 55 [(0, .ref (ad (gm κ) 97)), (1, .int a1), (2, .int a2), (3, .int a3), (4, .int s.1), (5, .int s.2)] [] w) (K0 : ∀ e, P e → J κ RX12 cX12_misses 6 none (rmk 2 45) 105 [(0, .ref (ad (gm κ) 97)), (1, .int a1), (2, .int a2), (3, .int a3), (4, .int e)] [] w) (h : ok (X12_misses_j92  a1 a2 a3 a5 w) (sel G P)) : J κ RX12 cX12_misses 6 none (rmk 2 45) 92 [(0, .ref (ad (gm κ) 97)), (1, .int a1), (2, .int a2), (3, .int a3), (5, .int a5)] [] w := by
  unfold X12_misses_j92 at h
  refine j_iconst (1 : Int32) dX12_misses_92 ki_1 ?_
  refine j_goto 97 dX12_misses_93 (by decide) ?_
  refine j_loc [(0, .ref (ad (gm κ) 97)), (1, .int a1), (2, .int a2), (3, .int a3), (5, .int a5)] [0, 1, 2, 3, 4] rfl ?_
  exact t_X12_misses_j97 a1 a2 a3 a5 (1 : Int32) w KG K0 h
noncomputable def X12_misses_j96 (a1 : Int32) (a2 : Int32) (a3 : Int32) (a5 : Int32) (w : Wd) : Option ((Int32 × Int32) ⊕ Int32) :=
X12_misses_j97 a1 a2 a3 a5 (0 : Int32) w
set_option maxRecDepth 20000 in
set_option maxHeartbeats 1000000 in
theorem t_X12_misses_j96 {κ : Kx} (a1 : Int32) (a2 : Int32) (a3 : Int32) (a5 : Int32) (w : Wd) {G : (Int32 × Int32) → Prop} {P : Int32 → Prop} (KG : ∀ s, G s → J κ RX12 cX12_misses 6 none (rmk 2 45) 55 [(0, .ref (ad (gm κ) 97)), (1, .int a1), (2, .int a2), (3, .int a3), (4, .int s.1), (5, .int s.2)] [] w) (K0 : ∀ e, P e → J κ RX12 cX12_misses 6 none (rmk 2 45) 105 [(0, .ref (ad (gm κ) 97)), (1, .int a1), (2, .int a2), (3, .int a3), (4, .int e)] [] w) (h : ok (X12_misses_j96  a1 a2 a3 a5 w) (sel G P)) : J κ RX12 cX12_misses 6 none (rmk 2 45) 96 [(0, .ref (ad (gm κ) 97)), (1, .int a1), (2, .int a2), (3, .int a3), (5, .int a5)] [] w := by
  unfold X12_misses_j96 at h
  refine j_iconst (0 : Int32) dX12_misses_96 ki_0 ?_
  refine j_loc [(0, .ref (ad (gm κ) 97)), (1, .int a1), (2, .int a2), (3, .int a3), (5, .int a5)] [0, 1, 2, 3, 4] rfl ?_
  exact t_X12_misses_j97 a1 a2 a3 a5 (0 : Int32) w KG K0 h
noncomputable def X12_misses_b55 (a1 : Int32) (a2 : Int32) (a3 : Int32) (w : Wd) (s : (Int32 × Int32)) : Option ((Int32 × Int32) ⊕ Int32) :=
(if (15 : Int32) ≤ s.2 then
some (.inr s.1)
else
(if s.1 = 0 then
(if ((a2 >>> (s.2 &&& 31)) &&& (1 : Int32)) = (1 : Int32) then
gd (vp_in s.2 15) <|
(if (((w.1 148 (ix s.2)) >>> (a3 &&& 31)) &&& (1 : Int32)) = (1 : Int32) then
X12_misses_j92 a1 a2 a3 s.2 w
else
X12_misses_j96 a1 a2 a3 s.2 w)
else
X12_misses_j96 a1 a2 a3 s.2 w)
else
X12_misses_j92 a1 a2 a3 s.2 w))
set_option maxRecDepth 20000 in
set_option maxHeartbeats 1000000 in
theorem t_X12_misses_b55 {κ : Kx} (a1 : Int32) (a2 : Int32) (a3 : Int32) (w : Wd) {P : Int32 → Prop} (K0 : ∀ e, P e → J κ RX12 cX12_misses 6 none (rmk 2 45) 105 [(0, .ref (ad (gm κ) 97)), (1, .int a1), (2, .int a2), (3, .int a3), (4, .int e)] [] w) (s : (Int32 × Int32)) (h : ok (lp (X12_misses_b55  a1 a2 a3 w) s) P) : J κ RX12 cX12_misses 6 none (rmk 2 45) 55 [(0, .ref (ad (gm κ) 97)), (1, .int a1), (2, .int a2), (3, .int a3), (4, .int s.1), (5, .int s.2)] [] w := by
  refine lp_ind (fun s => J κ RX12 cX12_misses 6 none (rmk 2 45) 55 [(0, .ref (ad (gm κ) 97)), (1, .int a1), (2, .int a2), (3, .int a3), (4, .int s.1), (5, .int s.2)] [] w) (fun s h => ?_) s h
  unfold X12_misses_b55 at h
  refine j_iload 5 dX12_misses_55 rfl ?_
  refine j_bipush (15 : Int32) dX12_misses_57 kb_15 ?_
  refine j_ic_ge 105 dX12_misses_59 (by decide) h (fun h => ?_) (fun h => ?_)
  · refine j_loc [(0, .ref (ad (gm κ) 97)), (1, .int a1), (2, .int a2), (3, .int a3), (4, .int s.1)] [0, 1, 2, 3, 4] rfl ?_
    have h := sel_r h
    have h := K0 _ h
    exact h
  · refine j_iload 4 dX12_misses_62 rfl ?_
    refine j_if_ne 92 dX12_misses_64 (by decide) h (fun h => ?_) (fun h => ?_)
    · refine j_loc [(0, .ref (ad (gm κ) 97)), (1, .int a1), (2, .int a2), (3, .int a3), (5, .int s.2)] [0, 1, 2, 3, 5] rfl ?_
      exact t_X12_misses_j92 a1 a2 a3 s.2 w (fun _ h => h) K0 h
    · refine j_iload_n 2 dX12_misses_67 rfl rfl ?_
      refine j_iload 5 dX12_misses_68 rfl ?_
      refine j_ishr dX12_misses_70 ?_
      refine j_iconst (1 : Int32) dX12_misses_71 ki_1 ?_
      refine j_iand dX12_misses_72 ?_
      refine j_iconst (1 : Int32) dX12_misses_73 ki_1 ?_
      refine j_ic_ne 96 dX12_misses_74 (by decide) h (fun h => ?_) (fun h => ?_)
      · refine j_loc [(0, .ref (ad (gm κ) 97)), (1, .int a1), (2, .int a2), (3, .int a3), (5, .int s.2)] [0, 1, 2, 3, 5] rfl ?_
        exact t_X12_misses_j96 a1 a2 a3 s.2 w (fun _ h => h) K0 h
      · refine j_aload_n 0 dX12_misses_77 rfl rfl ?_
        refine j_getA 148 fl_RX12_173 sh_97 fk_97_72 (by decide) dX12_misses_78 ?_
        refine j_iload 5 dX12_misses_81 rfl ?_
        refine j_iald sh_148 dX12_misses_83 h (fun h => ?_)
        refine j_iload_n 3 dX12_misses_84 rfl rfl ?_
        refine j_ishr dX12_misses_85 ?_
        refine j_iconst (1 : Int32) dX12_misses_86 ki_1 ?_
        refine j_iand dX12_misses_87 ?_
        refine j_iconst (1 : Int32) dX12_misses_88 ki_1 ?_
        refine j_ic_ne 96 dX12_misses_89 (by decide) h (fun h => ?_) (fun h => ?_)
        · refine j_loc [(0, .ref (ad (gm κ) 97)), (1, .int a1), (2, .int a2), (3, .int a3), (5, .int s.2)] [0, 1, 2, 3, 5] rfl ?_
          exact t_X12_misses_j96 a1 a2 a3 s.2 w (fun _ h => h) K0 h
        · refine j_loc [(0, .ref (ad (gm κ) 97)), (1, .int a1), (2, .int a2), (3, .int a3), (5, .int s.2)] [0, 1, 2, 3, 5] rfl ?_
          exact t_X12_misses_j92 a1 a2 a3 s.2 w (fun _ h => h) K0 h
noncomputable def X12_misses_j50 (a1 : Int32) (a2 : Int32) (a3 : Int32) (s0 : Int32) (w : Wd) : Option (Int32 ⊕ (Int32 ⊕ Unit)) :=
(lp (X12_misses_b55 a1 a2 a3 w) (s0, (0 : Int32))).bind fun e4 =>
(if e4 = 0 then
some (.inr (.inl a3))
else
some (.inl (a3 + (-1 : Int32))))
set_option maxRecDepth 20000 in
set_option maxHeartbeats 1000000 in
theorem t_X12_misses_j50 {κ : Kx} (a1 : Int32) (a2 : Int32) (a3 : Int32) (s0 : Int32) (w : Wd) {G : Int32 → Prop} {P : (Int32 ⊕ Unit) → Prop} (KG : ∀ s, G s → J κ RX12 cX12_misses 6 none (rmk 2 45) 33 [(0, .ref (ad (gm κ) 97)), (1, .int a1), (2, .int a2), (3, .int s)] [] w) (K0 : ∀ e, P (.inl e) → J κ RX12 cX12_misses 6 none (rmk 2 45) 113 [(0, .ref (ad (gm κ) 97)), (1, .int a1), (3, .int e)] [] w) (K1 : ∀ e, P (.inr e) → J κ RX12 cX12_misses 6 none (rmk 2 45) 132 [] [] w) (h : ok (X12_misses_j50  a1 a2 a3 s0 w) (sel G P)) : J κ RX12 cX12_misses 6 none (rmk 2 45) 50 [(0, .ref (ad (gm κ) 97)), (1, .int a1), (2, .int a2), (3, .int a3)] [.int s0] w := by
  unfold X12_misses_j50 at h
  refine j_istore [(4, .int s0), (0, .ref (ad (gm κ) 97)), (1, .int a1), (2, .int a2), (3, .int a3)] dX12_misses_50 (by decide) rfl ?_
  refine j_iconst (0 : Int32) dX12_misses_52 ki_0 ?_
  refine j_istore [(5, .int (0 : Int32)), (4, .int s0), (0, .ref (ad (gm κ) 97)), (1, .int a1), (2, .int a2), (3, .int a3)] dX12_misses_53 (by decide) rfl ?_
  refine j_loc [(0, .ref (ad (gm κ) 97)), (1, .int a1), (2, .int a2), (3, .int a3), (4, .int s0), (5, .int (0 : Int32))] [2, 3, 4, 5, 1, 0] rfl ?_
  refine t_X12_misses_b55 a1 a2 a3 w (fun e4 h => ?_) (s0, (0 : Int32)) (ok_bb h)
  · refine j_iload 4 dX12_misses_105 rfl ?_
    refine j_if_eq 113 dX12_misses_107 (by decide) h (fun h => ?_) (fun h => ?_)
    · refine j_loc [(0, .ref (ad (gm κ) 97)), (1, .int a1), (3, .int a3)] [0, 1, 3] rfl ?_
      have h := sel_r h
      have h := K0 _ h
      exact h
    · refine j_goto 126 dX12_misses_110 (by decide) ?_
      refine j_iinc (a3 + (-1 : Int32)) 3 [(3, .int (a3 + (-1 : Int32))), (0, .ref (ad (gm κ) 97)), (1, .int a1), (2, .int a2), (4, .int e4)] dX12_misses_126 rfl (by rw [kn_m1]) (by decide) rfl ?_
      refine j_goto 33 dX12_misses_129 (by decide) ?_
      refine j_loc [(0, .ref (ad (gm κ) 97)), (1, .int a1), (2, .int a2), (3, .int (a3 + (-1 : Int32)))] [1, 2, 3, 0] rfl ?_
      have h := sel_l h
      have h := KG _ h
      exact h
noncomputable def X12_misses_b33 (a1 : Int32) (a2 : Int32) (w : Wd) (s : Int32) : Option (Int32 ⊕ (Int32 ⊕ Unit)) :=
(if s < 0 then
some (.inr (.inr ()))
else
(if ((a2 >>> (s &&& 31)) &&& (1 : Int32)) = 0 then
X12_misses_j50 a1 a2 s (1 : Int32) w
else
X12_misses_j50 a1 a2 s (0 : Int32) w))
set_option maxRecDepth 20000 in
set_option maxHeartbeats 1000000 in
theorem t_X12_misses_b33 {κ : Kx} (a1 : Int32) (a2 : Int32) (w : Wd) {P : (Int32 ⊕ Unit) → Prop} (K0 : ∀ e, P (.inl e) → J κ RX12 cX12_misses 6 none (rmk 2 45) 113 [(0, .ref (ad (gm κ) 97)), (1, .int a1), (3, .int e)] [] w) (K1 : ∀ e, P (.inr e) → J κ RX12 cX12_misses 6 none (rmk 2 45) 132 [] [] w) (s : Int32) (h : ok (lp (X12_misses_b33  a1 a2 w) s) P) : J κ RX12 cX12_misses 6 none (rmk 2 45) 33 [(0, .ref (ad (gm κ) 97)), (1, .int a1), (2, .int a2), (3, .int s)] [] w := by
  refine lp_ind (fun s => J κ RX12 cX12_misses 6 none (rmk 2 45) 33 [(0, .ref (ad (gm κ) 97)), (1, .int a1), (2, .int a2), (3, .int s)] [] w) (fun s h => ?_) s h
  unfold X12_misses_b33 at h
  refine j_iload_n 3 dX12_misses_33 rfl rfl ?_
  refine j_if_lt 132 dX12_misses_34 (by decide) h (fun h => ?_) (fun h => ?_)
  · refine j_loc [] [] rfl ?_
    have h := sel_r h
    have h := K1 _ h
    exact h
  · refine j_iload_n 2 dX12_misses_37 rfl rfl ?_
    refine j_iload_n 3 dX12_misses_38 rfl rfl ?_
    refine j_ishr dX12_misses_39 ?_
    refine j_iconst (1 : Int32) dX12_misses_40 ki_1 ?_
    refine j_iand dX12_misses_41 ?_
    refine j_if_ne 49 dX12_misses_42 (by decide) h (fun h => ?_) (fun h => ?_)
    · refine j_iconst (0 : Int32) dX12_misses_49 ki_0 ?_
      refine j_loc [(0, .ref (ad (gm κ) 97)), (1, .int a1), (2, .int a2), (3, .int s)] [0, 1, 2, 3] rfl ?_
      exact t_X12_misses_j50 a1 a2 s (0 : Int32) w (fun _ h => h) K0 K1 h
    · refine j_iconst (1 : Int32) dX12_misses_45 ki_1 ?_
      refine j_goto 50 dX12_misses_46 (by decide) ?_
      refine j_loc [(0, .ref (ad (gm κ) 97)), (1, .int a1), (2, .int a2), (3, .int s)] [0, 1, 2, 3] rfl ?_
      exact t_X12_misses_j50 a1 a2 s (1 : Int32) w (fun _ h => h) K0 K1 h
noncomputable def X12_misses (a1 : Int32) (w : Wd) : Option (Wd) :=
gd (vp_in a1 40) <|
gd (vp_in a1 40) <|
(some (puI w 151 (ix a1) ((w.1 151 (ix a1)) + (1 : Int32)))).bind fun w1 =>
gd (vp_in a1 40) <|
(if (w1.1 97 83) < (w1.1 151 (ix a1)) then
(X12_doneSet a1 w1).bind fun q2 =>
(lp (X12_misses_b33 a1 q2 w1) (14 : Int32)).bind fun e5 => match e5 with
| (.inl e6) => (gd (vp_in (((15 : Int32) * a1) + e6) 600) <|
(some (puI w1 150 (ix (((15 : Int32) * a1) + e6)) (0 : Int32))).bind fun w7 =>
some w7)
| (.inr e8) => (some w1)
else
some w1)
set_option maxRecDepth 20000 in
set_option maxHeartbeats 1000000 in
theorem t_X12_misses {κ : Kx} (a1 : Int32) (w : Wd) (h : ok (X12_misses  a1 w) (PVw κ)) : J κ RX12 cX12_misses 6 none (rmk 2 45) 0 [(0, .ref (ad (gm κ) 97)), (1, .int a1)] [] w := by
  unfold X12_misses at h
  refine j_aload_n 0 dX12_misses_0 rfl rfl ?_
  refine j_getA 151 fl_RX12_193 sh_97 fk_97_75 (by decide) dX12_misses_1 ?_
  refine j_iload_n 1 dX12_misses_4 rfl rfl ?_
  refine j_dup2 dX12_misses_5 rfl rfl ?_
  refine j_iald sh_151 dX12_misses_6 h (fun h => ?_)
  refine j_iconst (1 : Int32) dX12_misses_7 ki_1 ?_
  refine j_iadd dX12_misses_8 ?_
  refine j_iast sh_151 dX12_misses_9 h (fun h => ?_)
  refine j_lW h (fun w1 h => ?_)
  refine j_aload_n 0 dX12_misses_10 rfl rfl ?_
  refine j_getA 151 fl_RX12_193 sh_97 fk_97_75 (by decide) dX12_misses_11 ?_
  refine j_iload_n 1 dX12_misses_14 rfl rfl ?_
  refine j_iald sh_151 dX12_misses_15 h (fun h => ?_)
  refine j_aload_n 0 dX12_misses_16 rfl rfl ?_
  refine j_getI fl_RX12_217 sh_97 fk_97_83 dX12_misses_17 ?_
  refine j_ic_gt 24 dX12_misses_20 (by decide) h (fun h => ?_) (fun h => ?_)
  · refine j_aload_n 0 dX12_misses_24 rfl rfl ?_
    refine j_iload_n 1 dX12_misses_25 rfl rfl ?_
    obtain ⟨q2, e3, h⟩ := ok_b h
    refine j_callV (As := [.int a1]) (st := []) [.int q2] (c_X12_doneSet (kl κ) (gm κ) (kA κ) a1 w1 q2 e3) ck_RX12_481 im_X12_doneSet se_X12_doneSet sh_97 cx_12 ⟨rfl, rfl⟩ ⟨by decide, by decide⟩ rfl rfl (Nat.le_of_ble_eq_true rfl) dX12_misses_26 _ rfl ?_
    refine j_istore_n [(2, .int q2), (0, .ref (ad (gm κ) 97)), (1, .int a1)] dX12_misses_29 rfl (by decide) rfl ?_
    refine j_bipush (14 : Int32) dX12_misses_30 kb_14 ?_
    refine j_istore_n [(3, .int (14 : Int32)), (2, .int q2), (0, .ref (ad (gm κ) 97)), (1, .int a1)] dX12_misses_32 rfl (by decide) rfl ?_
    refine j_loc [(0, .ref (ad (gm κ) 97)), (1, .int a1), (2, .int q2), (3, .int (14 : Int32))] [2, 3, 1, 0] rfl ?_
    refine t_X12_misses_b33 a1 q2 w1 (fun e6 h => ?_) (fun e8 h => ?_) (14 : Int32) (ok_bb h)
    · refine j_aload_n 0 dX12_misses_113 rfl rfl ?_
      refine j_getA 150 fl_RX12_190 sh_97 fk_97_74 (by decide) dX12_misses_114 ?_
      refine j_bipush (15 : Int32) dX12_misses_117 kb_15 ?_
      refine j_iload_n 1 dX12_misses_119 rfl rfl ?_
      refine j_imul dX12_misses_120 ?_
      refine j_iload_n 2 dX12_misses_121 rfl rfl ?_
      refine j_iadd dX12_misses_122 ?_
      refine j_iconst (0 : Int32) dX12_misses_123 ki_0 ?_
      refine j_iast sh_150 dX12_misses_124 h (fun h => ?_)
      refine j_lW h (fun w7 h => ?_)
      have h := ok_s h
      exact j_vret dX12_misses_125 rfl h
    · have h := ok_s h
      exact j_vret dX12_misses_132 rfl h
  · have h := ok_s h
    exact j_vret dX12_misses_23 rfl h
theorem c_X12_misses (l : Launch) (γ : Gm) (A : Nat → Prop) (a1 : Int32) (w : Wd) (q : Wd) (e : X12_misses  a1 w = some q) : MetG l γ A yX12_misses cX12_misses 6 none (rmk 2 45) [.ref (ad (γ) 97), .int a1] w none q := by
  refine met_of pn_RX12 (Nat.le_of_ble_eq_true rfl) ?_
  intro κ hl hγ hA hρ
  subst hl; subst hγ; subst hA
  exact t_X12_misses   a1 w ⟨q, e, pVw hρ rfl rfl⟩
theorem dX12_work_0 : decode cX12_work 0 = .ok (.iconst 0, 1) := by decide +kernel
theorem dX12_work_1 : decode cX12_work 1 = .ok (.istore_n 3, 1) := by decide +kernel
theorem dX12_work_2 : decode cX12_work 2 = .ok (.iload_n 1, 1) := by decide +kernel
theorem dX12_work_3 : decode cX12_work 3 = .ok (.istore 4, 2) := by decide +kernel
theorem dX12_work_5 : decode cX12_work 5 = .ok (.iload 4, 2) := by decide +kernel
theorem dX12_work_7 : decode cX12_work 7 = .ok (.iload_n 2, 1) := by decide +kernel
theorem dX12_work_8 : decode cX12_work 8 = .ok (.if_icmp .ge 156, 3) := by decide +kernel
theorem dX12_work_11 : decode cX12_work 11 = .ok (.aload_n 0, 1) := by decide +kernel
theorem dX12_work_12 : decode cX12_work 12 = .ok (.getfield 149, 3) := by decide +kernel
theorem dX12_work_15 : decode cX12_work 15 = .ok (.iload 4, 2) := by decide +kernel
theorem dX12_work_17 : decode cX12_work 17 = .ok (.iaload, 1) := by decide +kernel
theorem dX12_work_18 : decode cX12_work 18 = .ok (.istore 5, 2) := by decide +kernel
theorem dX12_work_20 : decode cX12_work 20 = .ok (.iload 5, 2) := by decide +kernel
theorem dX12_work_22 : decode cX12_work 22 = .ok (.iconst 2, 1) := by decide +kernel
theorem dX12_work_23 : decode cX12_work 23 = .ok (.if_icmp .ge 43, 3) := by decide +kernel
theorem dX12_work_26 : decode cX12_work 26 = .ok (.aload_n 0, 1) := by decide +kernel
theorem dX12_work_27 : decode cX12_work 27 = .ok (.getfield 223, 3) := by decide +kernel
theorem dX12_work_30 : decode cX12_work 30 = .ok (.iload_n 3, 1) := by decide +kernel
theorem dX12_work_31 : decode cX12_work 31 = .ok (.iload 5, 2) := by decide +kernel
theorem dX12_work_33 : decode cX12_work 33 = .ok (.ifCond .ne 14, 3) := by decide +kernel
theorem dX12_work_36 : decode cX12_work 36 = .ok (.aload_n 0, 1) := by decide +kernel
theorem dX12_work_37 : decode cX12_work 37 = .ok (.getfield 152, 3) := by decide +kernel
theorem dX12_work_40 : decode cX12_work 40 = .ok (.iload 4, 2) := by decide +kernel
theorem dX12_work_42 : decode cX12_work 42 = .ok (.iaload, 1) := by decide +kernel
theorem dX12_work_43 : decode cX12_work 43 = .ok (.i2l, 1) := by decide +kernel
theorem dX12_work_44 : decode cX12_work 44 = .ok (.goto 15, 3) := by decide +kernel
theorem dX12_work_47 : decode cX12_work 47 = .ok (.aload_n 0, 1) := by decide +kernel
theorem dX12_work_48 : decode cX12_work 48 = .ok (.getfield 220, 3) := by decide +kernel
theorem dX12_work_51 : decode cX12_work 51 = .ok (.aload_n 0, 1) := by decide +kernel
theorem dX12_work_52 : decode cX12_work 52 = .ok (.getfield 152, 3) := by decide +kernel
theorem dX12_work_55 : decode cX12_work 55 = .ok (.iload 4, 2) := by decide +kernel
theorem dX12_work_57 : decode cX12_work 57 = .ok (.iaload, 1) := by decide +kernel
theorem dX12_work_58 : decode cX12_work 58 = .ok (.laload, 1) := by decide +kernel
theorem dX12_work_59 : decode cX12_work 59 = .ok (.lastore, 1) := by decide +kernel
theorem dX12_work_60 : decode cX12_work 60 = .ok (.iinc 3 1, 3) := by decide +kernel
theorem dX12_work_63 : decode cX12_work 63 = .ok (.goto 95, 3) := by decide +kernel
theorem dX12_work_66 : decode cX12_work 66 = .ok (.aload_n 0, 1) := by decide +kernel
theorem dX12_work_67 : decode cX12_work 67 = .ok (.getfield 223, 3) := by decide +kernel
theorem dX12_work_70 : decode cX12_work 70 = .ok (.iload_n 3, 1) := by decide +kernel
theorem dX12_work_71 : decode cX12_work 71 = .ok (.iconst 2, 1) := by decide +kernel
theorem dX12_work_72 : decode cX12_work 72 = .ok (.isub, 1) := by decide +kernel
theorem dX12_work_73 : decode cX12_work 73 = .ok (.laload, 1) := by decide +kernel
theorem dX12_work_74 : decode cX12_work 74 = .ok (.lstore 6, 2) := by decide +kernel
theorem dX12_work_76 : decode cX12_work 76 = .ok (.aload_n 0, 1) := by decide +kernel
theorem dX12_work_77 : decode cX12_work 77 = .ok (.getfield 223, 3) := by decide +kernel
theorem dX12_work_80 : decode cX12_work 80 = .ok (.iload_n 3, 1) := by decide +kernel
theorem dX12_work_81 : decode cX12_work 81 = .ok (.iconst 1, 1) := by decide +kernel
theorem dX12_work_82 : decode cX12_work 82 = .ok (.isub, 1) := by decide +kernel
theorem dX12_work_83 : decode cX12_work 83 = .ok (.laload, 1) := by decide +kernel
theorem dX12_work_84 : decode cX12_work 84 = .ok (.lstore 8, 2) := by decide +kernel
theorem dX12_work_86 : decode cX12_work 86 = .ok (.iinc 3 (-1), 3) := by decide +kernel
theorem dX12_work_89 : decode cX12_work 89 = .ok (.aload_n 0, 1) := by decide +kernel
theorem dX12_work_90 : decode cX12_work 90 = .ok (.getfield 223, 3) := by decide +kernel
theorem dX12_work_93 : decode cX12_work 93 = .ok (.iload_n 3, 1) := by decide +kernel
theorem dX12_work_94 : decode cX12_work 94 = .ok (.iconst 1, 1) := by decide +kernel
theorem dX12_work_95 : decode cX12_work 95 = .ok (.isub, 1) := by decide +kernel
theorem dX12_work_96 : decode cX12_work 96 = .ok (.iload 5, 2) := by decide +kernel
theorem dX12_work_98 : decode cX12_work 98 = .ok (.bipush 43, 2) := by decide +kernel
theorem dX12_work_100 : decode cX12_work 100 = .ok (.if_icmp .ne 11, 3) := by decide +kernel
theorem dX12_work_103 : decode cX12_work 103 = .ok (.lload 6, 2) := by decide +kernel
theorem dX12_work_105 : decode cX12_work 105 = .ok (.lload 8, 2) := by decide +kernel
theorem dX12_work_107 : decode cX12_work 107 = .ok (.ladd, 1) := by decide +kernel
theorem dX12_work_108 : decode cX12_work 108 = .ok (.goto 49, 3) := by decide +kernel
theorem dX12_work_111 : decode cX12_work 111 = .ok (.iload 5, 2) := by decide +kernel
theorem dX12_work_113 : decode cX12_work 113 = .ok (.bipush 45, 2) := by decide +kernel
theorem dX12_work_115 : decode cX12_work 115 = .ok (.if_icmp .ne 11, 3) := by decide +kernel
theorem dX12_work_118 : decode cX12_work 118 = .ok (.lload 6, 2) := by decide +kernel
theorem dX12_work_120 : decode cX12_work 120 = .ok (.lload 8, 2) := by decide +kernel
theorem dX12_work_122 : decode cX12_work 122 = .ok (.lsub, 1) := by decide +kernel
theorem dX12_work_123 : decode cX12_work 123 = .ok (.goto 34, 3) := by decide +kernel
theorem dX12_work_126 : decode cX12_work 126 = .ok (.iload 5, 2) := by decide +kernel
theorem dX12_work_128 : decode cX12_work 128 = .ok (.bipush 42, 2) := by decide +kernel
theorem dX12_work_130 : decode cX12_work 130 = .ok (.if_icmp .ne 11, 3) := by decide +kernel
theorem dX12_work_133 : decode cX12_work 133 = .ok (.lload 6, 2) := by decide +kernel
theorem dX12_work_135 : decode cX12_work 135 = .ok (.lload 8, 2) := by decide +kernel
theorem dX12_work_137 : decode cX12_work 137 = .ok (.lmul, 1) := by decide +kernel
theorem dX12_work_138 : decode cX12_work 138 = .ok (.goto 19, 3) := by decide +kernel
theorem dX12_work_141 : decode cX12_work 141 = .ok (.lload 8, 2) := by decide +kernel
theorem dX12_work_143 : decode cX12_work 143 = .ok (.lconst 0, 1) := by decide +kernel
theorem dX12_work_144 : decode cX12_work 144 = .ok (.lcmp, 1) := by decide +kernel
theorem dX12_work_145 : decode cX12_work 145 = .ok (.ifCond .ne 7, 3) := by decide +kernel
theorem dX12_work_148 : decode cX12_work 148 = .ok (.lconst 0, 1) := by decide +kernel
theorem dX12_work_149 : decode cX12_work 149 = .ok (.goto 8, 3) := by decide +kernel
theorem dX12_work_152 : decode cX12_work 152 = .ok (.lload 6, 2) := by decide +kernel
theorem dX12_work_154 : decode cX12_work 154 = .ok (.lload 8, 2) := by decide +kernel
theorem dX12_work_156 : decode cX12_work 156 = .ok (.ldiv, 1) := by decide +kernel
theorem dX12_work_157 : decode cX12_work 157 = .ok (.lastore, 1) := by decide +kernel
theorem dX12_work_158 : decode cX12_work 158 = .ok (.iinc 4 1, 3) := by decide +kernel
theorem dX12_work_161 : decode cX12_work 161 = .ok (.goto (-156), 3) := by decide +kernel
theorem dX12_work_164 : decode cX12_work 164 = .ok (.aload_n 0, 1) := by decide +kernel
theorem dX12_work_165 : decode cX12_work 165 = .ok (.getfield 223, 3) := by decide +kernel
theorem dX12_work_168 : decode cX12_work 168 = .ok (.iconst 0, 1) := by decide +kernel
theorem dX12_work_169 : decode cX12_work 169 = .ok (.laload, 1) := by decide +kernel
theorem dX12_work_170 : decode cX12_work 170 = .ok (.lreturn, 1) := by decide +kernel
noncomputable def X12_work_j158 (a2 : Int32) (a3 : Int32) (a4 : Int32) (w : Wd) : Option ((Int32 × Int32 × Wd) ⊕ Wd) :=
some (.inl (a3, (a4 + (1 : Int32)), w))
set_option maxRecDepth 20000 in
set_option maxHeartbeats 1000000 in
theorem t_X12_work_j158 {κ : Kx} (a2 : Int32) (a3 : Int32) (a4 : Int32) (w : Wd) {G : (Int32 × Int32 × Wd) → Prop} {P : Wd → Prop} (KG : ∀ s, G s → J κ RX12 cX12_work 10 (some .long) (rmk 0 0) 5 [(0, .ref (ad (gm κ) 97)), (2, .int a2), (3, .int s.1), (4, .int s.2.1)] [] s.2.2) (K0 : ∀ e, P e → J κ RX12 cX12_work 10 (some .long) (rmk 0 0) 164 [(0, .ref (ad (gm κ) 97))] [] e) (h : ok (X12_work_j158  a2 a3 a4 w) (sel G P)) : J κ RX12 cX12_work 10 (some .long) (rmk 0 0) 158 [(0, .ref (ad (gm κ) 97)), (2, .int a2), (3, .int a3), (4, .int a4)] [] w := by
  unfold X12_work_j158 at h
  refine j_iinc (a4 + (1 : Int32)) 3 [(4, .int (a4 + (1 : Int32))), (0, .ref (ad (gm κ) 97)), (2, .int a2), (3, .int a3)] dX12_work_158 rfl (by rw [kn_1]) (by decide) rfl ?_
  refine j_goto 5 dX12_work_161 (by decide) ?_
  refine j_loc [(0, .ref (ad (gm κ) 97)), (2, .int a2), (3, .int a3), (4, .int (a4 + (1 : Int32)))] [1, 2, 3, 0] rfl ?_
  have h := sel_l h
  have h := KG _ h
  exact h
noncomputable def X12_work_j157 (a2 : Int32) (a3 : Int32) (a4 : Int32) (s0 : Int64) (s1 : Int32) (w : Wd) : Option ((Int32 × Int32 × Wd) ⊕ Wd) :=
gd (vp_in s1 700) <|
(some (puJ w 160 (ix s1) s0)).bind fun w3 =>
X12_work_j158 a2 a3 a4 w3
set_option maxRecDepth 20000 in
set_option maxHeartbeats 1000000 in
theorem t_X12_work_j157 {κ : Kx} (a2 : Int32) (a3 : Int32) (a4 : Int32) (s0 : Int64) (s1 : Int32) (w : Wd) {G : (Int32 × Int32 × Wd) → Prop} {P : Wd → Prop} (KG : ∀ s, G s → J κ RX12 cX12_work 10 (some .long) (rmk 0 0) 5 [(0, .ref (ad (gm κ) 97)), (2, .int a2), (3, .int s.1), (4, .int s.2.1)] [] s.2.2) (K0 : ∀ e, P e → J κ RX12 cX12_work 10 (some .long) (rmk 0 0) 164 [(0, .ref (ad (gm κ) 97))] [] e) (h : ok (X12_work_j157  a2 a3 a4 s0 s1 w) (sel G P)) : J κ RX12 cX12_work 10 (some .long) (rmk 0 0) 157 [(0, .ref (ad (gm κ) 97)), (2, .int a2), (3, .int a3), (4, .int a4)] [.long s0, .int s1, .ref (ad (gm κ) 160)] w := by
  unfold X12_work_j157 at h
  refine j_last sh_160 dX12_work_157 h (fun h => ?_)
  refine j_lW h (fun w3 h => ?_)
  refine j_loc [(0, .ref (ad (gm κ) 97)), (2, .int a2), (3, .int a3), (4, .int a4)] [0, 1, 2, 3] rfl ?_
  exact t_X12_work_j158 a2 a3 a4 w3 KG K0 h
noncomputable def X12_work_j59 (a2 : Int32) (a3 : Int32) (a4 : Int32) (s0 : Int64) (s1 : Int32) (w : Wd) : Option ((Int32 × Int32 × Wd) ⊕ Wd) :=
gd (vp_in s1 700) <|
(some (puJ w 160 (ix s1) s0)).bind fun w4 =>
X12_work_j158 a2 (a3 + (1 : Int32)) a4 w4
set_option maxRecDepth 20000 in
set_option maxHeartbeats 1000000 in
theorem t_X12_work_j59 {κ : Kx} (a2 : Int32) (a3 : Int32) (a4 : Int32) (s0 : Int64) (s1 : Int32) (w : Wd) {G : (Int32 × Int32 × Wd) → Prop} {P : Wd → Prop} (KG : ∀ s, G s → J κ RX12 cX12_work 10 (some .long) (rmk 0 0) 5 [(0, .ref (ad (gm κ) 97)), (2, .int a2), (3, .int s.1), (4, .int s.2.1)] [] s.2.2) (K0 : ∀ e, P e → J κ RX12 cX12_work 10 (some .long) (rmk 0 0) 164 [(0, .ref (ad (gm κ) 97))] [] e) (h : ok (X12_work_j59  a2 a3 a4 s0 s1 w) (sel G P)) : J κ RX12 cX12_work 10 (some .long) (rmk 0 0) 59 [(0, .ref (ad (gm κ) 97)), (2, .int a2), (3, .int a3), (4, .int a4)] [.long s0, .int s1, .ref (ad (gm κ) 160)] w := by
  unfold X12_work_j59 at h
  refine j_last sh_160 dX12_work_59 h (fun h => ?_)
  refine j_lW h (fun w4 h => ?_)
  refine j_iinc (a3 + (1 : Int32)) 2 [(3, .int (a3 + (1 : Int32))), (0, .ref (ad (gm κ) 97)), (2, .int a2), (4, .int a4)] dX12_work_60 rfl (by rw [kn_1]) (by decide) rfl ?_
  refine j_goto 158 dX12_work_63 (by decide) ?_
  refine j_loc [(0, .ref (ad (gm κ) 97)), (2, .int a2), (3, .int (a3 + (1 : Int32))), (4, .int a4)] [1, 2, 0, 3] rfl ?_
  exact t_X12_work_j158 a2 (a3 + (1 : Int32)) a4 w4 KG K0 h
noncomputable def X12_work_b5 (a2 : Int32) (s : (Int32 × Int32 × Wd)) : Option ((Int32 × Int32 × Wd) ⊕ Wd) :=
(if a2 ≤ s.2.1 then
some (.inr s.2.2)
else
gd (vp_in s.2.1 4000) <|
(if (2 : Int32) ≤ (s.2.2.1 140 (ix s.2.1)) then
gd (vp_in (s.1 - (2 : Int32)) 700) <|
(some (s.2.2.2 160 (ix (s.1 - (2 : Int32))))).bind fun z1 =>
gd (vp_in (s.1 - (1 : Int32)) 700) <|
(some (s.2.2.2 160 (ix (s.1 - (1 : Int32))))).bind fun z2 =>
(if (s.2.2.1 140 (ix s.2.1)) = (43 : Int32) then
X12_work_j157 a2 (s.1 + (-1 : Int32)) s.2.1 (z1 + z2) ((s.1 + (-1 : Int32)) - (1 : Int32)) s.2.2
else
(if (s.2.2.1 140 (ix s.2.1)) = (45 : Int32) then
X12_work_j157 a2 (s.1 + (-1 : Int32)) s.2.1 (z1 - z2) ((s.1 + (-1 : Int32)) - (1 : Int32)) s.2.2
else
(if (s.2.2.1 140 (ix s.2.1)) = (42 : Int32) then
X12_work_j157 a2 (s.1 + (-1 : Int32)) s.2.1 (z1 * z2) ((s.1 + (-1 : Int32)) - (1 : Int32)) s.2.2
else
(if (lg_cmp z2 (0 : Int64)) = 0 then
X12_work_j157 a2 (s.1 + (-1 : Int32)) s.2.1 (0 : Int64) ((s.1 + (-1 : Int32)) - (1 : Int32)) s.2.2
else
gd (¬ z2 = 0) <|
X12_work_j157 a2 (s.1 + (-1 : Int32)) s.2.1 (z1 / z2) ((s.1 + (-1 : Int32)) - (1 : Int32)) s.2.2))))
else
(if (s.2.2.1 140 (ix s.2.1)) = 0 then
gd (vp_in s.2.1 4000) <|
X12_work_j59 a2 s.1 s.2.1 (Int32.toInt64 (s.2.2.1 141 (ix s.2.1))) s.1 s.2.2
else
gd (vp_in s.2.1 4000) <|
gd (vp_in (s.2.2.1 141 (ix s.2.1)) 7) <|
X12_work_j59 a2 s.1 s.2.1 (s.2.2.2 159 (ix (s.2.2.1 141 (ix s.2.1)))) s.1 s.2.2)))
set_option maxRecDepth 20000 in
set_option maxHeartbeats 1000000 in
theorem t_X12_work_b5 {κ : Kx} (a2 : Int32) {P : Wd → Prop} (K0 : ∀ e, P e → J κ RX12 cX12_work 10 (some .long) (rmk 0 0) 164 [(0, .ref (ad (gm κ) 97))] [] e) (s : (Int32 × Int32 × Wd)) (h : ok (lp (X12_work_b5  a2) s) P) : J κ RX12 cX12_work 10 (some .long) (rmk 0 0) 5 [(0, .ref (ad (gm κ) 97)), (2, .int a2), (3, .int s.1), (4, .int s.2.1)] [] s.2.2 := by
  refine lp_ind (fun s => J κ RX12 cX12_work 10 (some .long) (rmk 0 0) 5 [(0, .ref (ad (gm κ) 97)), (2, .int a2), (3, .int s.1), (4, .int s.2.1)] [] s.2.2) (fun s h => ?_) s h
  unfold X12_work_b5 at h
  refine j_iload 3 dX12_work_5 rfl ?_
  refine j_iload_n 1 dX12_work_7 rfl rfl ?_
  refine j_ic_ge 164 dX12_work_8 (by decide) h (fun h => ?_) (fun h => ?_)
  · refine j_loc [(0, .ref (ad (gm κ) 97))] [0] rfl ?_
    have h := sel_r h
    have h := K0 _ h
    exact h
  · refine j_aload_n 0 dX12_work_11 rfl rfl ?_
    refine j_getA 140 fl_RX12_149 sh_97 fk_97_63 (by decide) dX12_work_12 ?_
    refine j_iload 3 dX12_work_15 rfl ?_
    refine j_iald sh_140 dX12_work_17 h (fun h => ?_)
    refine j_istore [(5, .int (s.2.2.1 140 (ix s.2.1))), (0, .ref (ad (gm κ) 97)), (2, .int a2), (3, .int s.1), (4, .int s.2.1)] dX12_work_18 (by decide) rfl ?_
    refine j_iload 0 dX12_work_20 rfl ?_
    refine j_iconst (2 : Int32) dX12_work_22 ki_2 ?_
    refine j_ic_ge 66 dX12_work_23 (by decide) h (fun h => ?_) (fun h => ?_)
    · refine j_aload_n 1 dX12_work_66 rfl rfl ?_
      refine j_getA 160 fl_RX12_223 sh_97 fk_97_85 (by decide) dX12_work_67 ?_
      refine j_iload_n 3 dX12_work_70 rfl rfl ?_
      refine j_iconst (2 : Int32) dX12_work_71 ki_2 ?_
      refine j_isub dX12_work_72 ?_
      refine j_lald sh_160 dX12_work_73 h (fun h => ?_)
      refine j_lJ h (fun z1 h => ?_)
      refine j_lstore [(6, .long z1), (5, .int (s.2.2.1 140 (ix s.2.1))), (0, .ref (ad (gm κ) 97)), (2, .int a2), (3, .int s.1), (4, .int s.2.1)] dX12_work_74 (by decide) rfl ?_
      refine j_aload_n 2 dX12_work_76 rfl rfl ?_
      refine j_getA 160 fl_RX12_223 sh_97 fk_97_85 (by decide) dX12_work_77 ?_
      refine j_iload_n 4 dX12_work_80 rfl rfl ?_
      refine j_iconst (1 : Int32) dX12_work_81 ki_1 ?_
      refine j_isub dX12_work_82 ?_
      refine j_lald sh_160 dX12_work_83 h (fun h => ?_)
      refine j_lJ h (fun z2 h => ?_)
      refine j_lstore [(8, .long z2), (6, .long z1), (5, .int (s.2.2.1 140 (ix s.2.1))), (0, .ref (ad (gm κ) 97)), (2, .int a2), (3, .int s.1), (4, .int s.2.1)] dX12_work_84 (by decide) rfl ?_
      refine j_iinc (s.1 + (-1 : Int32)) 5 [(3, .int (s.1 + (-1 : Int32))), (8, .long z2), (6, .long z1), (5, .int (s.2.2.1 140 (ix s.2.1))), (0, .ref (ad (gm κ) 97)), (2, .int a2), (4, .int s.2.1)] dX12_work_86 rfl (by rw [kn_m1]) (by decide) rfl ?_
      refine j_aload_n 4 dX12_work_89 rfl rfl ?_
      refine j_getA 160 fl_RX12_223 sh_97 fk_97_85 (by decide) dX12_work_90 ?_
      refine j_iload_n 0 dX12_work_93 rfl rfl ?_
      refine j_iconst (1 : Int32) dX12_work_94 ki_1 ?_
      refine j_isub dX12_work_95 ?_
      refine j_iload 3 dX12_work_96 rfl ?_
      refine j_bipush (43 : Int32) dX12_work_98 kb_43 ?_
      refine j_ic_ne 111 dX12_work_100 (by decide) h (fun h => ?_) (fun h => ?_)
      · refine j_iload 3 dX12_work_111 rfl ?_
        refine j_bipush (45 : Int32) dX12_work_113 kb_45 ?_
        refine j_ic_ne 126 dX12_work_115 (by decide) h (fun h => ?_) (fun h => ?_)
        · refine j_iload 3 dX12_work_126 rfl ?_
          refine j_bipush (42 : Int32) dX12_work_128 kb_42 ?_
          refine j_ic_ne 141 dX12_work_130 (by decide) h (fun h => ?_) (fun h => ?_)
          · refine j_lload 1 dX12_work_141 rfl ?_
            refine j_lconst (0 : Int64) dX12_work_143 (by decide) ?_
            refine j_lcmp dX12_work_144 ?_
            refine j_if_ne 152 dX12_work_145 (by decide) h (fun h => ?_) (fun h => ?_)
            · refine j_lload 2 dX12_work_152 rfl ?_
              refine j_lload 1 dX12_work_154 rfl ?_
              obtain ⟨hz, h⟩ := ok_g h
              refine j_ldiv dX12_work_156 hz ?_
              refine j_loc [(0, .ref (ad (gm κ) 97)), (2, .int a2), (3, .int (s.1 + (-1 : Int32))), (4, .int s.2.1)] [4, 5, 0, 6] rfl ?_
              exact t_X12_work_j157 a2 (s.1 + (-1 : Int32)) s.2.1 (z1 / z2) ((s.1 + (-1 : Int32)) - (1 : Int32)) s.2.2 (fun _ h => h) K0 h
            · refine j_lconst (0 : Int64) dX12_work_148 (by decide) ?_
              refine j_goto 157 dX12_work_149 (by decide) ?_
              refine j_loc [(0, .ref (ad (gm κ) 97)), (2, .int a2), (3, .int (s.1 + (-1 : Int32))), (4, .int s.2.1)] [4, 5, 0, 6] rfl ?_
              exact t_X12_work_j157 a2 (s.1 + (-1 : Int32)) s.2.1 (0 : Int64) ((s.1 + (-1 : Int32)) - (1 : Int32)) s.2.2 (fun _ h => h) K0 h
          · refine j_lload 2 dX12_work_133 rfl ?_
            refine j_lload 1 dX12_work_135 rfl ?_
            refine j_lmul dX12_work_137 ?_
            refine j_goto 157 dX12_work_138 (by decide) ?_
            refine j_loc [(0, .ref (ad (gm κ) 97)), (2, .int a2), (3, .int (s.1 + (-1 : Int32))), (4, .int s.2.1)] [4, 5, 0, 6] rfl ?_
            exact t_X12_work_j157 a2 (s.1 + (-1 : Int32)) s.2.1 (z1 * z2) ((s.1 + (-1 : Int32)) - (1 : Int32)) s.2.2 (fun _ h => h) K0 h
        · refine j_lload 2 dX12_work_118 rfl ?_
          refine j_lload 1 dX12_work_120 rfl ?_
          refine j_lsub dX12_work_122 ?_
          refine j_goto 157 dX12_work_123 (by decide) ?_
          refine j_loc [(0, .ref (ad (gm κ) 97)), (2, .int a2), (3, .int (s.1 + (-1 : Int32))), (4, .int s.2.1)] [4, 5, 0, 6] rfl ?_
          exact t_X12_work_j157 a2 (s.1 + (-1 : Int32)) s.2.1 (z1 - z2) ((s.1 + (-1 : Int32)) - (1 : Int32)) s.2.2 (fun _ h => h) K0 h
      · refine j_lload 2 dX12_work_103 rfl ?_
        refine j_lload 1 dX12_work_105 rfl ?_
        refine j_ladd dX12_work_107 ?_
        refine j_goto 157 dX12_work_108 (by decide) ?_
        refine j_loc [(0, .ref (ad (gm κ) 97)), (2, .int a2), (3, .int (s.1 + (-1 : Int32))), (4, .int s.2.1)] [4, 5, 0, 6] rfl ?_
        exact t_X12_work_j157 a2 (s.1 + (-1 : Int32)) s.2.1 (z1 + z2) ((s.1 + (-1 : Int32)) - (1 : Int32)) s.2.2 (fun _ h => h) K0 h
    · refine j_aload_n 1 dX12_work_26 rfl rfl ?_
      refine j_getA 160 fl_RX12_223 sh_97 fk_97_85 (by decide) dX12_work_27 ?_
      refine j_iload_n 3 dX12_work_30 rfl rfl ?_
      refine j_iload 0 dX12_work_31 rfl ?_
      refine j_if_ne 47 dX12_work_33 (by decide) h (fun h => ?_) (fun h => ?_)
      · refine j_aload_n 1 dX12_work_47 rfl rfl ?_
        refine j_getA 159 fl_RX12_220 sh_97 fk_97_84 (by decide) dX12_work_48 ?_
        refine j_aload_n 1 dX12_work_51 rfl rfl ?_
        refine j_getA 141 fl_RX12_152 sh_97 fk_97_64 (by decide) dX12_work_52 ?_
        refine j_iload 4 dX12_work_55 rfl ?_
        refine j_iald sh_141 dX12_work_57 h (fun h => ?_)
        refine j_lald sh_159 dX12_work_58 h (fun h => ?_)
        refine j_loc [(0, .ref (ad (gm κ) 97)), (2, .int a2), (3, .int s.1), (4, .int s.2.1)] [1, 2, 3, 4] rfl ?_
        exact t_X12_work_j59 a2 s.1 s.2.1 (s.2.2.2 159 (ix (s.2.2.1 141 (ix s.2.1)))) s.1 s.2.2 (fun _ h => h) K0 h
      · refine j_aload_n 1 dX12_work_36 rfl rfl ?_
        refine j_getA 141 fl_RX12_152 sh_97 fk_97_64 (by decide) dX12_work_37 ?_
        refine j_iload 4 dX12_work_40 rfl ?_
        refine j_iald sh_141 dX12_work_42 h (fun h => ?_)
        refine j_i2l dX12_work_43 ?_
        refine j_goto 59 dX12_work_44 (by decide) ?_
        refine j_loc [(0, .ref (ad (gm κ) 97)), (2, .int a2), (3, .int s.1), (4, .int s.2.1)] [1, 2, 3, 4] rfl ?_
        exact t_X12_work_j59 a2 s.1 s.2.1 (Int32.toInt64 (s.2.2.1 141 (ix s.2.1))) s.1 s.2.2 (fun _ h => h) K0 h
noncomputable def X12_work (a1 : Int32) (a2 : Int32) (w : Wd) : Option (Int64 × Wd) :=
(lp (X12_work_b5 a2) ((0 : Int32), a1, w)).bind fun e5 =>
gd (vp_in (0 : Int32) 700) <|
some ((e5.2 160 (ix (0 : Int32))), e5)
set_option maxRecDepth 20000 in
set_option maxHeartbeats 1000000 in
theorem t_X12_work {κ : Kx} (a1 : Int32) (a2 : Int32) (w : Wd) (h : ok (X12_work  a1 a2 w) (PJw κ)) : J κ RX12 cX12_work 10 (some .long) (rmk 0 0) 0 [(0, .ref (ad (gm κ) 97)), (1, .int a1), (2, .int a2)] [] w := by
  unfold X12_work at h
  refine j_iconst (0 : Int32) dX12_work_0 ki_0 ?_
  refine j_istore_n [(3, .int (0 : Int32)), (0, .ref (ad (gm κ) 97)), (1, .int a1), (2, .int a2)] dX12_work_1 rfl (by decide) rfl ?_
  refine j_iload_n 2 dX12_work_2 rfl rfl ?_
  refine j_istore [(4, .int a1), (3, .int (0 : Int32)), (0, .ref (ad (gm κ) 97)), (1, .int a1), (2, .int a2)] dX12_work_3 (by decide) rfl ?_
  refine j_loc [(0, .ref (ad (gm κ) 97)), (2, .int a2), (3, .int (0 : Int32)), (4, .int a1)] [2, 4, 1, 0] rfl ?_
  refine t_X12_work_b5 a2 (fun e5 h => ?_) ((0 : Int32), a1, w) (ok_bb h)
  · refine j_aload_n 0 dX12_work_164 rfl rfl ?_
    refine j_getA 160 fl_RX12_223 sh_97 fk_97_85 (by decide) dX12_work_165 ?_
    refine j_iconst (0 : Int32) dX12_work_168 ki_0 ?_
    refine j_lald sh_160 dX12_work_169 h (fun h => ?_)
    have h := ok_s h
    exact j_lret dX12_work_170 rfl h
theorem c_X12_work (l : Launch) (γ : Gm) (A : Nat → Prop) (a1 : Int32) (a2 : Int32) (w : Wd) (q : Int64 × Wd) (e : X12_work  a1 a2 w = some q) : MetG l γ A yX12_work cX12_work 10 (some .long) (rmk 0 0) [.ref (ad (γ) 97), .int a1, .int a2] w (some (.long q.1)) q.2 := by
  refine met_of pn_RX12 (Nat.le_of_ble_eq_true rfl) ?_
  intro κ hl hγ hA hρ
  subst hl; subst hγ; subst hA
  exact t_X12_work   a1 a2 w ⟨q, e, pJw hρ rfl rfl⟩
