theorem dX7_leastSum_0 : decode cX7_leastSum 0 = .ok (.sipush 1000, 3) := by decide +kernel
theorem dX7_leastSum_3 : decode cX7_leastSum 3 = .ok (.istore_n 3, 1) := by decide +kernel
theorem dX7_leastSum_4 : decode cX7_leastSum 4 = .ok (.iconst 0, 1) := by decide +kernel
theorem dX7_leastSum_5 : decode cX7_leastSum 5 = .ok (.istore 4, 2) := by decide +kernel
theorem dX7_leastSum_7 : decode cX7_leastSum 7 = .ok (.iload 4, 2) := by decide +kernel
theorem dX7_leastSum_9 : decode cX7_leastSum 9 = .ok (.aload_n 0, 1) := by decide +kernel
theorem dX7_leastSum_10 : decode cX7_leastSum 10 = .ok (.getfield 30, 3) := by decide +kernel
theorem dX7_leastSum_13 : decode cX7_leastSum 13 = .ok (.if_icmp .ge 55, 3) := by decide +kernel
theorem dX7_leastSum_16 : decode cX7_leastSum 16 = .ok (.iload_n 1, 1) := by decide +kernel
theorem dX7_leastSum_17 : decode cX7_leastSum 17 = .ok (.iload 4, 2) := by decide +kernel
theorem dX7_leastSum_19 : decode cX7_leastSum 19 = .ok (.ishr, 1) := by decide +kernel
theorem dX7_leastSum_20 : decode cX7_leastSum 20 = .ok (.iconst 1, 1) := by decide +kernel
theorem dX7_leastSum_21 : decode cX7_leastSum 21 = .ok (.iand, 1) := by decide +kernel
theorem dX7_leastSum_22 : decode cX7_leastSum 22 = .ok (.ifCond .eq 40, 3) := by decide +kernel
theorem dX7_leastSum_25 : decode cX7_leastSum 25 = .ok (.aload_n 0, 1) := by decide +kernel
theorem dX7_leastSum_26 : decode cX7_leastSum 26 = .ok (.iload_n 1, 1) := by decide +kernel
theorem dX7_leastSum_27 : decode cX7_leastSum 27 = .ok (.iload 4, 2) := by decide +kernel
theorem dX7_leastSum_29 : decode cX7_leastSum 29 = .ok (.invokevirtual 84, 3) := by decide +kernel
theorem dX7_leastSum_32 : decode cX7_leastSum 32 = .ok (.iload_n 2, 1) := by decide +kernel
theorem dX7_leastSum_33 : decode cX7_leastSum 33 = .ok (.if_icmp .gt 29, 3) := by decide +kernel
theorem dX7_leastSum_36 : decode cX7_leastSum 36 = .ok (.iload_n 3, 1) := by decide +kernel
theorem dX7_leastSum_37 : decode cX7_leastSum 37 = .ok (.aload_n 0, 1) := by decide +kernel
theorem dX7_leastSum_38 : decode cX7_leastSum 38 = .ok (.iload_n 1, 1) := by decide +kernel
theorem dX7_leastSum_39 : decode cX7_leastSum 39 = .ok (.iload 4, 2) := by decide +kernel
theorem dX7_leastSum_41 : decode cX7_leastSum 41 = .ok (.invokevirtual 84, 3) := by decide +kernel
theorem dX7_leastSum_44 : decode cX7_leastSum 44 = .ok (.aload_n 0, 1) := by decide +kernel
theorem dX7_leastSum_45 : decode cX7_leastSum 45 = .ok (.getfield 24, 3) := by decide +kernel
theorem dX7_leastSum_48 : decode cX7_leastSum 48 = .ok (.iload_n 1, 1) := by decide +kernel
theorem dX7_leastSum_49 : decode cX7_leastSum 49 = .ok (.iconst 1, 1) := by decide +kernel
theorem dX7_leastSum_50 : decode cX7_leastSum 50 = .ok (.iload 4, 2) := by decide +kernel
theorem dX7_leastSum_52 : decode cX7_leastSum 52 = .ok (.ishl, 1) := by decide +kernel
theorem dX7_leastSum_53 : decode cX7_leastSum 53 = .ok (.iconst (-1), 1) := by decide +kernel
theorem dX7_leastSum_54 : decode cX7_leastSum 54 = .ok (.ixor, 1) := by decide +kernel
theorem dX7_leastSum_55 : decode cX7_leastSum 55 = .ok (.iand, 1) := by decide +kernel
theorem dX7_leastSum_56 : decode cX7_leastSum 56 = .ok (.iaload, 1) := by decide +kernel
theorem dX7_leastSum_57 : decode cX7_leastSum 57 = .ok (.iadd, 1) := by decide +kernel
theorem dX7_leastSum_58 : decode cX7_leastSum 58 = .ok (.invokestatic 92, 3) := by decide +kernel
theorem dX7_leastSum_61 : decode cX7_leastSum 61 = .ok (.istore_n 3, 1) := by decide +kernel
theorem dX7_leastSum_62 : decode cX7_leastSum 62 = .ok (.iinc 4 1, 3) := by decide +kernel
theorem dX7_leastSum_65 : decode cX7_leastSum 65 = .ok (.goto (-58), 3) := by decide +kernel
theorem dX7_leastSum_68 : decode cX7_leastSum 68 = .ok (.iload_n 3, 1) := by decide +kernel
theorem dX7_leastSum_69 : decode cX7_leastSum 69 = .ok (.ireturn, 1) := by decide +kernel
noncomputable def X7_leastSum_j62 (a1 : Int32) (a2 : Int32) (a3 : Int32) (a4 : Int32) (w : Wd) : Option ((Int32 × Int32) ⊕ Int32) :=
some (.inl (a3, (a4 + (1 : Int32))))
set_option maxRecDepth 20000 in
set_option maxHeartbeats 1000000 in
theorem t_X7_leastSum_j62 {κ : Kx} (a1 : Int32) (a2 : Int32) (a3 : Int32) (a4 : Int32) (w : Wd) {G : (Int32 × Int32) → Prop} {P : Int32 → Prop} (KG : ∀ s, G s → J κ RX7 cX7_leastSum 5 (some .int) (rmk 2 43) 7 [(0, .ref (ad (gm κ) 88)), (1, .int a1), (2, .int a2), (3, .int s.1), (4, .int s.2)] [] w) (K0 : ∀ e, P e → J κ RX7 cX7_leastSum 5 (some .int) (rmk 2 43) 68 [(3, .int e)] [] w) (h : ok (X7_leastSum_j62  a1 a2 a3 a4 w) (sel G P)) : J κ RX7 cX7_leastSum 5 (some .int) (rmk 2 43) 62 [(0, .ref (ad (gm κ) 88)), (1, .int a1), (2, .int a2), (3, .int a3), (4, .int a4)] [] w := by
  unfold X7_leastSum_j62 at h
  refine j_iinc (a4 + (1 : Int32)) 4 [(4, .int (a4 + (1 : Int32))), (0, .ref (ad (gm κ) 88)), (1, .int a1), (2, .int a2), (3, .int a3)] dX7_leastSum_62 rfl (by rw [kn_1]) (by decide) rfl ?_
  refine j_goto 7 dX7_leastSum_65 (by decide) ?_
  refine j_loc [(0, .ref (ad (gm κ) 88)), (1, .int a1), (2, .int a2), (3, .int a3), (4, .int (a4 + (1 : Int32)))] [1, 2, 3, 4, 0] rfl ?_
  have h := sel_l h
  have h := KG _ h
  exact h
noncomputable def X7_leastSum_b7 (a1 : Int32) (a2 : Int32) (w : Wd) (s : (Int32 × Int32)) : Option ((Int32 × Int32) ⊕ Int32) :=
(if (w.1 88 0) ≤ s.2 then
some (.inr s.1)
else
(if ((a1 >>> (s.2 &&& 31)) &&& (1 : Int32)) = 0 then
X7_leastSum_j62 a1 a2 s.1 s.2 w
else
(X7_arrivalFor a1 s.2 w).bind fun q1 =>
(if a2 < q1 then
X7_leastSum_j62 a1 a2 s.1 s.2 w
else
(X7_arrivalFor a1 s.2 w).bind fun q3 =>
gd (vp_in (a1 &&& (((1 : Int32) <<< (s.2 &&& 31)) ^^^ (-1 : Int32))) 128) <|
(some (w.1 93 (ix (a1 &&& (((1 : Int32) <<< (s.2 &&& 31)) ^^^ (-1 : Int32)))))).bind fun z5 =>
X7_leastSum_j62 a1 a2 (mnI s.1 (q3 + z5)) s.2 w)))
set_option maxRecDepth 20000 in
set_option maxHeartbeats 1000000 in
theorem t_X7_leastSum_b7 {κ : Kx} (a1 : Int32) (a2 : Int32) (w : Wd) {P : Int32 → Prop} (K0 : ∀ e, P e → J κ RX7 cX7_leastSum 5 (some .int) (rmk 2 43) 68 [(3, .int e)] [] w) (s : (Int32 × Int32)) (h : ok (lp (X7_leastSum_b7  a1 a2 w) s) P) : J κ RX7 cX7_leastSum 5 (some .int) (rmk 2 43) 7 [(0, .ref (ad (gm κ) 88)), (1, .int a1), (2, .int a2), (3, .int s.1), (4, .int s.2)] [] w := by
  refine lp_ind (fun s => J κ RX7 cX7_leastSum 5 (some .int) (rmk 2 43) 7 [(0, .ref (ad (gm κ) 88)), (1, .int a1), (2, .int a2), (3, .int s.1), (4, .int s.2)] [] w) (fun s h => ?_) s h
  unfold X7_leastSum_b7 at h
  refine j_iload 4 dX7_leastSum_7 rfl ?_
  refine j_aload_n 0 dX7_leastSum_9 rfl rfl ?_
  refine j_getI fl_RX7_30 sh_88 fk_88_0 dX7_leastSum_10 ?_
  refine j_ic_ge 68 dX7_leastSum_13 (by decide) h (fun h => ?_) (fun h => ?_)
  · refine j_loc [(3, .int s.1)] [3] rfl ?_
    have h := sel_r h
    have h := K0 _ h
    exact h
  · refine j_iload_n 1 dX7_leastSum_16 rfl rfl ?_
    refine j_iload 4 dX7_leastSum_17 rfl ?_
    refine j_ishr dX7_leastSum_19 ?_
    refine j_iconst (1 : Int32) dX7_leastSum_20 ki_1 ?_
    refine j_iand dX7_leastSum_21 ?_
    refine j_if_eq 62 dX7_leastSum_22 (by decide) h (fun h => ?_) (fun h => ?_)
    · refine j_loc [(0, .ref (ad (gm κ) 88)), (1, .int a1), (2, .int a2), (3, .int s.1), (4, .int s.2)] [0, 1, 2, 3, 4] rfl ?_
      exact t_X7_leastSum_j62 a1 a2 s.1 s.2 w (fun _ h => h) K0 h
    · refine j_aload_n 0 dX7_leastSum_25 rfl rfl ?_
      refine j_iload_n 1 dX7_leastSum_26 rfl rfl ?_
      refine j_iload 4 dX7_leastSum_27 rfl ?_
      obtain ⟨q1, e2, h⟩ := ok_b h
      refine j_callV (As := [.int a1, .int s.2]) (st := []) [.int q1] (c_X7_arrivalFor (kl κ) (gm κ) (kA κ) a1 s.2 w q1 e2) ck_RX7_84 im_X7_arrivalFor se_X7_arrivalFor sh_88 cx_7 ⟨rfl, rfl⟩ ⟨by decide, by decide⟩ rfl rfl (Nat.le_of_ble_eq_true rfl) dX7_leastSum_29 _ rfl ?_
      refine j_iload_n 2 dX7_leastSum_32 rfl rfl ?_
      refine j_ic_gt 62 dX7_leastSum_33 (by decide) h (fun h => ?_) (fun h => ?_)
      · refine j_loc [(0, .ref (ad (gm κ) 88)), (1, .int a1), (2, .int a2), (3, .int s.1), (4, .int s.2)] [0, 1, 2, 3, 4] rfl ?_
        exact t_X7_leastSum_j62 a1 a2 s.1 s.2 w (fun _ h => h) K0 h
      · refine j_iload_n 3 dX7_leastSum_36 rfl rfl ?_
        refine j_aload_n 0 dX7_leastSum_37 rfl rfl ?_
        refine j_iload_n 1 dX7_leastSum_38 rfl rfl ?_
        refine j_iload 4 dX7_leastSum_39 rfl ?_
        obtain ⟨q3, e4, h⟩ := ok_b h
        refine j_callV (As := [.int a1, .int s.2]) (st := [.int s.1]) [.int q3, .int s.1] (c_X7_arrivalFor (kl κ) (gm κ) (kA κ) a1 s.2 w q3 e4) ck_RX7_84 im_X7_arrivalFor se_X7_arrivalFor sh_88 cx_7 ⟨rfl, rfl⟩ ⟨by decide, by decide⟩ rfl rfl (Nat.le_of_ble_eq_true rfl) dX7_leastSum_41 _ rfl ?_
        refine j_aload_n 0 dX7_leastSum_44 rfl rfl ?_
        refine j_getA 93 fl_RX7_24 sh_88 fk_88_5 (by decide) dX7_leastSum_45 ?_
        refine j_iload_n 1 dX7_leastSum_48 rfl rfl ?_
        refine j_iconst (1 : Int32) dX7_leastSum_49 ki_1 ?_
        refine j_iload 4 dX7_leastSum_50 rfl ?_
        refine j_ishl dX7_leastSum_52 ?_
        refine j_iconst (-1 : Int32) dX7_leastSum_53 ki_m1 ?_
        refine j_ixor dX7_leastSum_54 ?_
        refine j_iand dX7_leastSum_55 ?_
        refine j_iald sh_93 dX7_leastSum_56 h (fun h => ?_)
        refine j_lI h (fun z5 h => ?_)
        refine j_iadd dX7_leastSum_57 ?_
        refine j_mnI mt_RX7_92 (by decide) (Nat.le_of_ble_eq_true rfl) dX7_leastSum_58 ?_
        refine j_istore_n [(3, .int (mnI s.1 (q3 + z5))), (0, .ref (ad (gm κ) 88)), (1, .int a1), (2, .int a2), (4, .int s.2)] dX7_leastSum_61 rfl (by decide) rfl ?_
        refine j_loc [(0, .ref (ad (gm κ) 88)), (1, .int a1), (2, .int a2), (3, .int (mnI s.1 (q3 + z5))), (4, .int s.2)] [1, 2, 3, 0, 4] rfl ?_
        exact t_X7_leastSum_j62 a1 a2 (mnI s.1 (q3 + z5)) s.2 w (fun _ h => h) K0 h
noncomputable def X7_leastSum (a1 : Int32) (a2 : Int32) (w : Wd) : Option (Int32) :=
(lp (X7_leastSum_b7 a1 a2 w) ((1000 : Int32), (0 : Int32))).bind fun e6 =>
some e6
set_option maxRecDepth 20000 in
set_option maxHeartbeats 1000000 in
theorem t_X7_leastSum {κ : Kx} (a1 : Int32) (a2 : Int32) (w : Wd) (h : ok (X7_leastSum  a1 a2 w) (PI κ w)) : J κ RX7 cX7_leastSum 5 (some .int) (rmk 2 43) 0 [(0, .ref (ad (gm κ) 88)), (1, .int a1), (2, .int a2)] [] w := by
  unfold X7_leastSum at h
  refine j_sipush (1000 : Int32) dX7_leastSum_0 ks_1000 ?_
  refine j_istore_n [(3, .int (1000 : Int32)), (0, .ref (ad (gm κ) 88)), (1, .int a1), (2, .int a2)] dX7_leastSum_3 rfl (by decide) rfl ?_
  refine j_iconst (0 : Int32) dX7_leastSum_4 ki_0 ?_
  refine j_istore [(4, .int (0 : Int32)), (3, .int (1000 : Int32)), (0, .ref (ad (gm κ) 88)), (1, .int a1), (2, .int a2)] dX7_leastSum_5 (by decide) rfl ?_
  refine j_loc [(0, .ref (ad (gm κ) 88)), (1, .int a1), (2, .int a2), (3, .int (1000 : Int32)), (4, .int (0 : Int32))] [2, 3, 4, 1, 0] rfl ?_
  refine t_X7_leastSum_b7 a1 a2 w (fun e6 h => ?_) ((1000 : Int32), (0 : Int32)) (ok_bb h)
  · refine j_iload_n 0 dX7_leastSum_68 rfl rfl ?_
    have h := ok_s h
    exact j_iret dX7_leastSum_69 rfl rfl h
theorem c_X7_leastSum (l : Launch) (γ : Gm) (A : Nat → Prop) (a1 : Int32) (a2 : Int32) (w : Wd) (q : Int32) (e : X7_leastSum  a1 a2 w = some q) : MetG l γ A yX7_leastSum cX7_leastSum 5 (some .int) (rmk 2 43) [.ref (ad (γ) 88), .int a1, .int a2] w (some (.int q)) w := by
  refine met_of pn_RX7 (Nat.le_of_ble_eq_true rfl) ?_
  intro κ hl hγ hA hρ
  subst hl; subst hγ; subst hA
  exact t_X7_leastSum   a1 a2 w ⟨q, e, pI hρ rfl rfl⟩
theorem dX7_keep_0 : decode cX7_keep 0 = .ok (.iload_n 1, 1) := by decide +kernel
theorem dX7_keep_1 : decode cX7_keep 1 = .ok (.istore_n 2, 1) := by decide +kernel
theorem dX7_keep_2 : decode cX7_keep 2 = .ok (.iconst 0, 1) := by decide +kernel
theorem dX7_keep_3 : decode cX7_keep 3 = .ok (.istore_n 3, 1) := by decide +kernel
theorem dX7_keep_4 : decode cX7_keep 4 = .ok (.iload_n 3, 1) := by decide +kernel
theorem dX7_keep_5 : decode cX7_keep 5 = .ok (.aload_n 0, 1) := by decide +kernel
theorem dX7_keep_6 : decode cX7_keep 6 = .ok (.getfield 30, 3) := by decide +kernel
theorem dX7_keep_9 : decode cX7_keep 9 = .ok (.if_icmp .ge 152, 3) := by decide +kernel
theorem dX7_keep_12 : decode cX7_keep 12 = .ok (.iconst (-1), 1) := by decide +kernel
theorem dX7_keep_13 : decode cX7_keep 13 = .ok (.istore 4, 2) := by decide +kernel
theorem dX7_keep_15 : decode cX7_keep 15 = .ok (.iconst 0, 1) := by decide +kernel
theorem dX7_keep_16 : decode cX7_keep 16 = .ok (.istore 5, 2) := by decide +kernel
theorem dX7_keep_18 : decode cX7_keep 18 = .ok (.iload 5, 2) := by decide +kernel
theorem dX7_keep_20 : decode cX7_keep 20 = .ok (.aload_n 0, 1) := by decide +kernel
theorem dX7_keep_21 : decode cX7_keep 21 = .ok (.getfield 30, 3) := by decide +kernel
theorem dX7_keep_24 : decode cX7_keep 24 = .ok (.if_icmp .ge 103, 3) := by decide +kernel
theorem dX7_keep_27 : decode cX7_keep 27 = .ok (.iload_n 2, 1) := by decide +kernel
theorem dX7_keep_28 : decode cX7_keep 28 = .ok (.iload 5, 2) := by decide +kernel
theorem dX7_keep_30 : decode cX7_keep 30 = .ok (.ishr, 1) := by decide +kernel
theorem dX7_keep_31 : decode cX7_keep 31 = .ok (.iconst 1, 1) := by decide +kernel
theorem dX7_keep_32 : decode cX7_keep 32 = .ok (.iand, 1) := by decide +kernel
theorem dX7_keep_33 : decode cX7_keep 33 = .ok (.ifCond .eq 53, 3) := by decide +kernel
theorem dX7_keep_36 : decode cX7_keep 36 = .ok (.aload_n 0, 1) := by decide +kernel
theorem dX7_keep_37 : decode cX7_keep 37 = .ok (.iload_n 2, 1) := by decide +kernel
theorem dX7_keep_38 : decode cX7_keep 38 = .ok (.iload 5, 2) := by decide +kernel
theorem dX7_keep_40 : decode cX7_keep 40 = .ok (.invokevirtual 84, 3) := by decide +kernel
theorem dX7_keep_43 : decode cX7_keep 43 = .ok (.aload_n 0, 1) := by decide +kernel
theorem dX7_keep_44 : decode cX7_keep 44 = .ok (.getfield 21, 3) := by decide +kernel
theorem dX7_keep_47 : decode cX7_keep 47 = .ok (.iload_n 1, 1) := by decide +kernel
theorem dX7_keep_48 : decode cX7_keep 48 = .ok (.iaload, 1) := by decide +kernel
theorem dX7_keep_49 : decode cX7_keep 49 = .ok (.if_icmp .gt 37, 3) := by decide +kernel
theorem dX7_keep_52 : decode cX7_keep 52 = .ok (.aload_n 0, 1) := by decide +kernel
theorem dX7_keep_53 : decode cX7_keep 53 = .ok (.iload_n 2, 1) := by decide +kernel
theorem dX7_keep_54 : decode cX7_keep 54 = .ok (.iload 5, 2) := by decide +kernel
theorem dX7_keep_56 : decode cX7_keep 56 = .ok (.invokevirtual 84, 3) := by decide +kernel
theorem dX7_keep_59 : decode cX7_keep 59 = .ok (.aload_n 0, 1) := by decide +kernel
theorem dX7_keep_60 : decode cX7_keep 60 = .ok (.getfield 24, 3) := by decide +kernel
theorem dX7_keep_63 : decode cX7_keep 63 = .ok (.iload_n 2, 1) := by decide +kernel
theorem dX7_keep_64 : decode cX7_keep 64 = .ok (.iconst 1, 1) := by decide +kernel
theorem dX7_keep_65 : decode cX7_keep 65 = .ok (.iload 5, 2) := by decide +kernel
theorem dX7_keep_67 : decode cX7_keep 67 = .ok (.ishl, 1) := by decide +kernel
theorem dX7_keep_68 : decode cX7_keep 68 = .ok (.iconst (-1), 1) := by decide +kernel
theorem dX7_keep_69 : decode cX7_keep 69 = .ok (.ixor, 1) := by decide +kernel
theorem dX7_keep_70 : decode cX7_keep 70 = .ok (.iand, 1) := by decide +kernel
theorem dX7_keep_71 : decode cX7_keep 71 = .ok (.iaload, 1) := by decide +kernel
theorem dX7_keep_72 : decode cX7_keep 72 = .ok (.iadd, 1) := by decide +kernel
theorem dX7_keep_73 : decode cX7_keep 73 = .ok (.aload_n 0, 1) := by decide +kernel
theorem dX7_keep_74 : decode cX7_keep 74 = .ok (.getfield 24, 3) := by decide +kernel
theorem dX7_keep_77 : decode cX7_keep 77 = .ok (.iload_n 2, 1) := by decide +kernel
theorem dX7_keep_78 : decode cX7_keep 78 = .ok (.iaload, 1) := by decide +kernel
theorem dX7_keep_79 : decode cX7_keep 79 = .ok (.if_icmp .ne 7, 3) := by decide +kernel
theorem dX7_keep_82 : decode cX7_keep 82 = .ok (.iconst 1, 1) := by decide +kernel
theorem dX7_keep_83 : decode cX7_keep 83 = .ok (.goto 4, 3) := by decide +kernel
theorem dX7_keep_86 : decode cX7_keep 86 = .ok (.iconst 0, 1) := by decide +kernel
theorem dX7_keep_87 : decode cX7_keep 87 = .ok (.istore 6, 2) := by decide +kernel
theorem dX7_keep_89 : decode cX7_keep 89 = .ok (.iload 6, 2) := by decide +kernel
theorem dX7_keep_91 : decode cX7_keep 91 = .ok (.ifCond .eq 30, 3) := by decide +kernel
theorem dX7_keep_94 : decode cX7_keep 94 = .ok (.iload 4, 2) := by decide +kernel
theorem dX7_keep_96 : decode cX7_keep 96 = .ok (.iconst (-1), 1) := by decide +kernel
theorem dX7_keep_97 : decode cX7_keep 97 = .ok (.if_icmp .eq 20, 3) := by decide +kernel
theorem dX7_keep_100 : decode cX7_keep 100 = .ok (.aload_n 0, 1) := by decide +kernel
theorem dX7_keep_101 : decode cX7_keep 101 = .ok (.getfield 15, 3) := by decide +kernel
theorem dX7_keep_104 : decode cX7_keep 104 = .ok (.iload 5, 2) := by decide +kernel
theorem dX7_keep_106 : decode cX7_keep 106 = .ok (.iaload, 1) := by decide +kernel
theorem dX7_keep_107 : decode cX7_keep 107 = .ok (.aload_n 0, 1) := by decide +kernel
theorem dX7_keep_108 : decode cX7_keep 108 = .ok (.getfield 15, 3) := by decide +kernel
theorem dX7_keep_111 : decode cX7_keep 111 = .ok (.iload 4, 2) := by decide +kernel
theorem dX7_keep_113 : decode cX7_keep 113 = .ok (.iaload, 1) := by decide +kernel
theorem dX7_keep_114 : decode cX7_keep 114 = .ok (.if_icmp .ge 7, 3) := by decide +kernel
theorem dX7_keep_117 : decode cX7_keep 117 = .ok (.iload 5, 2) := by decide +kernel
theorem dX7_keep_119 : decode cX7_keep 119 = .ok (.istore 4, 2) := by decide +kernel
theorem dX7_keep_121 : decode cX7_keep 121 = .ok (.iinc 5 1, 3) := by decide +kernel
theorem dX7_keep_124 : decode cX7_keep 124 = .ok (.goto (-106), 3) := by decide +kernel
theorem dX7_keep_127 : decode cX7_keep 127 = .ok (.iload 4, 2) := by decide +kernel
theorem dX7_keep_129 : decode cX7_keep 129 = .ok (.iconst (-1), 1) := by decide +kernel
theorem dX7_keep_130 : decode cX7_keep 130 = .ok (.if_icmp .eq 25, 3) := by decide +kernel
theorem dX7_keep_133 : decode cX7_keep 133 = .ok (.aload_n 0, 1) := by decide +kernel
theorem dX7_keep_134 : decode cX7_keep 134 = .ok (.getfield 27, 3) := by decide +kernel
theorem dX7_keep_137 : decode cX7_keep 137 = .ok (.iload_n 3, 1) := by decide +kernel
theorem dX7_keep_138 : decode cX7_keep 138 = .ok (.aload_n 0, 1) := by decide +kernel
theorem dX7_keep_139 : decode cX7_keep 139 = .ok (.getfield 15, 3) := by decide +kernel
theorem dX7_keep_142 : decode cX7_keep 142 = .ok (.iload 4, 2) := by decide +kernel
theorem dX7_keep_144 : decode cX7_keep 144 = .ok (.iaload, 1) := by decide +kernel
theorem dX7_keep_145 : decode cX7_keep 145 = .ok (.iastore, 1) := by decide +kernel
theorem dX7_keep_146 : decode cX7_keep 146 = .ok (.iload_n 2, 1) := by decide +kernel
theorem dX7_keep_147 : decode cX7_keep 147 = .ok (.iconst 1, 1) := by decide +kernel
theorem dX7_keep_148 : decode cX7_keep 148 = .ok (.iload 4, 2) := by decide +kernel
theorem dX7_keep_150 : decode cX7_keep 150 = .ok (.ishl, 1) := by decide +kernel
theorem dX7_keep_151 : decode cX7_keep 151 = .ok (.iconst (-1), 1) := by decide +kernel
theorem dX7_keep_152 : decode cX7_keep 152 = .ok (.ixor, 1) := by decide +kernel
theorem dX7_keep_153 : decode cX7_keep 153 = .ok (.iand, 1) := by decide +kernel
theorem dX7_keep_154 : decode cX7_keep 154 = .ok (.istore_n 2, 1) := by decide +kernel
theorem dX7_keep_155 : decode cX7_keep 155 = .ok (.iinc 3 1, 3) := by decide +kernel
theorem dX7_keep_158 : decode cX7_keep 158 = .ok (.goto (-154), 3) := by decide +kernel
theorem dX7_keep_161 : decode cX7_keep 161 = .ok (.aload_n 0, 1) := by decide +kernel
theorem dX7_keep_162 : decode cX7_keep 162 = .ok (.aload_n 0, 1) := by decide +kernel
theorem dX7_keep_163 : decode cX7_keep 163 = .ok (.getfield 30, 3) := by decide +kernel
theorem dX7_keep_166 : decode cX7_keep 166 = .ok (.putfield 95, 3) := by decide +kernel
theorem dX7_keep_169 : decode cX7_keep 169 = .ok (.return_, 1) := by decide +kernel
noncomputable def X7_keep_j121 (a1 : Int32) (a2 : Int32) (a3 : Int32) (a4 : Int32) (a5 : Int32) (w : Wd) : Option ((Int32 × Int32) ⊕ Int32) :=
some (.inl (a4, (a5 + (1 : Int32))))
set_option maxRecDepth 20000 in
set_option maxHeartbeats 1000000 in
theorem t_X7_keep_j121 {κ : Kx} (a1 : Int32) (a2 : Int32) (a3 : Int32) (a4 : Int32) (a5 : Int32) (w : Wd) {G : (Int32 × Int32) → Prop} {P : Int32 → Prop} (KG : ∀ s, G s → J κ RX7 cX7_keep 7 none (rmk 2 43) 18 [(0, .ref (ad (gm κ) 88)), (1, .int a1), (2, .int a2), (3, .int a3), (4, .int s.1), (5, .int s.2)] [] w) (K0 : ∀ e, P e → J κ RX7 cX7_keep 7 none (rmk 2 43) 127 [(0, .ref (ad (gm κ) 88)), (1, .int a1), (2, .int a2), (3, .int a3), (4, .int e)] [] w) (h : ok (X7_keep_j121  a1 a2 a3 a4 a5 w) (sel G P)) : J κ RX7 cX7_keep 7 none (rmk 2 43) 121 [(0, .ref (ad (gm κ) 88)), (1, .int a1), (2, .int a2), (3, .int a3), (4, .int a4), (5, .int a5)] [] w := by
  unfold X7_keep_j121 at h
  refine j_iinc (a5 + (1 : Int32)) 5 [(5, .int (a5 + (1 : Int32))), (0, .ref (ad (gm κ) 88)), (1, .int a1), (2, .int a2), (3, .int a3), (4, .int a4)] dX7_keep_121 rfl (by rw [kn_1]) (by decide) rfl ?_
  refine j_goto 18 dX7_keep_124 (by decide) ?_
  refine j_loc [(0, .ref (ad (gm κ) 88)), (1, .int a1), (2, .int a2), (3, .int a3), (4, .int a4), (5, .int (a5 + (1 : Int32)))] [1, 2, 3, 4, 5, 0] rfl ?_
  have h := sel_l h
  have h := KG _ h
  exact h
noncomputable def X7_keep_j117 (a1 : Int32) (a2 : Int32) (a3 : Int32) (a5 : Int32) (w : Wd) : Option ((Int32 × Int32) ⊕ Int32) :=
X7_keep_j121 a1 a2 a3 a5 a5 w
set_option maxRecDepth 20000 in
set_option maxHeartbeats 1000000 in
theorem t_X7_keep_j117 {κ : Kx} (a1 : Int32) (a2 : Int32) (a3 : Int32) (a5 : Int32) (w : Wd) {G : (Int32 × Int32) → Prop} {P : Int32 → Prop} (KG : ∀ s, G s → J κ RX7 cX7_keep 7 none (rmk 2 43) 18 [(0, .ref (ad (gm κ) 88)), (1, .int a1), (2, .int a2), (3, .int a3), (4, .int s.1), (5, .int s.2)] [] w) (K0 : ∀ e, P e → J κ RX7 cX7_keep 7 none (rmk 2 43) 127 [(0, .ref (ad (gm κ) 88)), (1, .int a1), (2, .int a2), (3, .int a3), (4, .int e)] [] w) (h : ok (X7_keep_j117  a1 a2 a3 a5 w) (sel G P)) : J κ RX7 cX7_keep 7 none (rmk 2 43) 117 [(0, .ref (ad (gm κ) 88)), (1, .int a1), (2, .int a2), (3, .int a3), (5, .int a5)] [] w := by
  unfold X7_keep_j117 at h
  refine j_iload 4 dX7_keep_117 rfl ?_
  refine j_istore [(4, .int a5), (0, .ref (ad (gm κ) 88)), (1, .int a1), (2, .int a2), (3, .int a3), (5, .int a5)] dX7_keep_119 (by decide) rfl ?_
  refine j_loc [(0, .ref (ad (gm κ) 88)), (1, .int a1), (2, .int a2), (3, .int a3), (4, .int a5), (5, .int a5)] [1, 2, 3, 4, 0, 5] rfl ?_
  exact t_X7_keep_j121 a1 a2 a3 a5 a5 w KG K0 h
noncomputable def X7_keep_j87 (a1 : Int32) (a2 : Int32) (a3 : Int32) (a4 : Int32) (a5 : Int32) (s0 : Int32) (w : Wd) : Option ((Int32 × Int32) ⊕ Int32) :=
(if s0 = 0 then
X7_keep_j121 a1 a2 a3 a4 a5 w
else
(if a4 = (-1 : Int32) then
X7_keep_j117 a1 a2 a3 a5 w
else
gd (vp_in a5 7) <|
gd (vp_in a4 7) <|
(if (w.1 90 (ix a4)) ≤ (w.1 90 (ix a5)) then
X7_keep_j121 a1 a2 a3 a4 a5 w
else
X7_keep_j117 a1 a2 a3 a5 w)))
set_option maxRecDepth 20000 in
set_option maxHeartbeats 1000000 in
theorem t_X7_keep_j87 {κ : Kx} (a1 : Int32) (a2 : Int32) (a3 : Int32) (a4 : Int32) (a5 : Int32) (s0 : Int32) (w : Wd) {G : (Int32 × Int32) → Prop} {P : Int32 → Prop} (KG : ∀ s, G s → J κ RX7 cX7_keep 7 none (rmk 2 43) 18 [(0, .ref (ad (gm κ) 88)), (1, .int a1), (2, .int a2), (3, .int a3), (4, .int s.1), (5, .int s.2)] [] w) (K0 : ∀ e, P e → J κ RX7 cX7_keep 7 none (rmk 2 43) 127 [(0, .ref (ad (gm κ) 88)), (1, .int a1), (2, .int a2), (3, .int a3), (4, .int e)] [] w) (h : ok (X7_keep_j87  a1 a2 a3 a4 a5 s0 w) (sel G P)) : J κ RX7 cX7_keep 7 none (rmk 2 43) 87 [(0, .ref (ad (gm κ) 88)), (1, .int a1), (2, .int a2), (3, .int a3), (4, .int a4), (5, .int a5)] [.int s0] w := by
  unfold X7_keep_j87 at h
  refine j_istore [(6, .int s0), (0, .ref (ad (gm κ) 88)), (1, .int a1), (2, .int a2), (3, .int a3), (4, .int a4), (5, .int a5)] dX7_keep_87 (by decide) rfl ?_
  refine j_iload 0 dX7_keep_89 rfl ?_
  refine j_if_eq 121 dX7_keep_91 (by decide) h (fun h => ?_) (fun h => ?_)
  · refine j_loc [(0, .ref (ad (gm κ) 88)), (1, .int a1), (2, .int a2), (3, .int a3), (4, .int a4), (5, .int a5)] [1, 2, 3, 4, 5, 6] rfl ?_
    exact t_X7_keep_j121 a1 a2 a3 a4 a5 w KG K0 h
  · refine j_iload 5 dX7_keep_94 rfl ?_
    refine j_iconst (-1 : Int32) dX7_keep_96 ki_m1 ?_
    refine j_ic_eq 117 dX7_keep_97 (by decide) h (fun h => ?_) (fun h => ?_)
    · refine j_loc [(0, .ref (ad (gm κ) 88)), (1, .int a1), (2, .int a2), (3, .int a3), (5, .int a5)] [1, 2, 3, 4, 6] rfl ?_
      exact t_X7_keep_j117 a1 a2 a3 a5 w KG K0 h
    · refine j_aload_n 1 dX7_keep_100 rfl rfl ?_
      refine j_getA 90 fl_RX7_15 sh_88 fk_88_2 (by decide) dX7_keep_101 ?_
      refine j_iload 6 dX7_keep_104 rfl ?_
      refine j_iald sh_90 dX7_keep_106 h (fun h => ?_)
      refine j_aload_n 1 dX7_keep_107 rfl rfl ?_
      refine j_getA 90 fl_RX7_15 sh_88 fk_88_2 (by decide) dX7_keep_108 ?_
      refine j_iload 5 dX7_keep_111 rfl ?_
      refine j_iald sh_90 dX7_keep_113 h (fun h => ?_)
      refine j_ic_ge 121 dX7_keep_114 (by decide) h (fun h => ?_) (fun h => ?_)
      · refine j_loc [(0, .ref (ad (gm κ) 88)), (1, .int a1), (2, .int a2), (3, .int a3), (4, .int a4), (5, .int a5)] [1, 2, 3, 4, 5, 6] rfl ?_
        exact t_X7_keep_j121 a1 a2 a3 a4 a5 w KG K0 h
      · refine j_loc [(0, .ref (ad (gm κ) 88)), (1, .int a1), (2, .int a2), (3, .int a3), (5, .int a5)] [1, 2, 3, 4, 6] rfl ?_
        exact t_X7_keep_j117 a1 a2 a3 a5 w KG K0 h
noncomputable def X7_keep_j86 (a1 : Int32) (a2 : Int32) (a3 : Int32) (a4 : Int32) (a5 : Int32) (w : Wd) : Option ((Int32 × Int32) ⊕ Int32) :=
X7_keep_j87 a1 a2 a3 a4 a5 (0 : Int32) w
set_option maxRecDepth 20000 in
set_option maxHeartbeats 1000000 in
theorem t_X7_keep_j86 {κ : Kx} (a1 : Int32) (a2 : Int32) (a3 : Int32) (a4 : Int32) (a5 : Int32) (w : Wd) {G : (Int32 × Int32) → Prop} {P : Int32 → Prop} (KG : ∀ s, G s → J κ RX7 cX7_keep 7 none (rmk 2 43) 18 [(0, .ref (ad (gm κ) 88)), (1, .int a1), (2, .int a2), (3, .int a3), (4, .int s.1), (5, .int s.2)] [] w) (K0 : ∀ e, P e → J κ RX7 cX7_keep 7 none (rmk 2 43) 127 [(0, .ref (ad (gm κ) 88)), (1, .int a1), (2, .int a2), (3, .int a3), (4, .int e)] [] w) (h : ok (X7_keep_j86  a1 a2 a3 a4 a5 w) (sel G P)) : J κ RX7 cX7_keep 7 none (rmk 2 43) 86 [(0, .ref (ad (gm κ) 88)), (1, .int a1), (2, .int a2), (3, .int a3), (4, .int a4), (5, .int a5)] [] w := by
  unfold X7_keep_j86 at h
  refine j_iconst (0 : Int32) dX7_keep_86 ki_0 ?_
  refine j_loc [(0, .ref (ad (gm κ) 88)), (1, .int a1), (2, .int a2), (3, .int a3), (4, .int a4), (5, .int a5)] [0, 1, 2, 3, 4, 5] rfl ?_
  exact t_X7_keep_j87 a1 a2 a3 a4 a5 (0 : Int32) w KG K0 h
noncomputable def X7_keep_b18 (a1 : Int32) (a2 : Int32) (a3 : Int32) (w : Wd) (s : (Int32 × Int32)) : Option ((Int32 × Int32) ⊕ Int32) :=
(if (w.1 88 0) ≤ s.2 then
some (.inr s.1)
else
(if ((a2 >>> (s.2 &&& 31)) &&& (1 : Int32)) = 0 then
X7_keep_j86 a1 a2 a3 s.1 s.2 w
else
(X7_arrivalFor a2 s.2 w).bind fun q1 =>
gd (vp_in a1 128) <|
(if (w.1 92 (ix a1)) < q1 then
X7_keep_j86 a1 a2 a3 s.1 s.2 w
else
(X7_arrivalFor a2 s.2 w).bind fun q3 =>
gd (vp_in (a2 &&& (((1 : Int32) <<< (s.2 &&& 31)) ^^^ (-1 : Int32))) 128) <|
(some (w.1 93 (ix (a2 &&& (((1 : Int32) <<< (s.2 &&& 31)) ^^^ (-1 : Int32)))))).bind fun z5 =>
gd (vp_in a2 128) <|
(if (q3 + z5) = (w.1 93 (ix a2)) then
X7_keep_j87 a1 a2 a3 s.1 s.2 (1 : Int32) w
else
X7_keep_j86 a1 a2 a3 s.1 s.2 w))))
set_option maxRecDepth 20000 in
set_option maxHeartbeats 1000000 in
theorem t_X7_keep_b18 {κ : Kx} (a1 : Int32) (a2 : Int32) (a3 : Int32) (w : Wd) {P : Int32 → Prop} (K0 : ∀ e, P e → J κ RX7 cX7_keep 7 none (rmk 2 43) 127 [(0, .ref (ad (gm κ) 88)), (1, .int a1), (2, .int a2), (3, .int a3), (4, .int e)] [] w) (s : (Int32 × Int32)) (h : ok (lp (X7_keep_b18  a1 a2 a3 w) s) P) : J κ RX7 cX7_keep 7 none (rmk 2 43) 18 [(0, .ref (ad (gm κ) 88)), (1, .int a1), (2, .int a2), (3, .int a3), (4, .int s.1), (5, .int s.2)] [] w := by
  refine lp_ind (fun s => J κ RX7 cX7_keep 7 none (rmk 2 43) 18 [(0, .ref (ad (gm κ) 88)), (1, .int a1), (2, .int a2), (3, .int a3), (4, .int s.1), (5, .int s.2)] [] w) (fun s h => ?_) s h
  unfold X7_keep_b18 at h
  refine j_iload 5 dX7_keep_18 rfl ?_
  refine j_aload_n 0 dX7_keep_20 rfl rfl ?_
  refine j_getI fl_RX7_30 sh_88 fk_88_0 dX7_keep_21 ?_
  refine j_ic_ge 127 dX7_keep_24 (by decide) h (fun h => ?_) (fun h => ?_)
  · refine j_loc [(0, .ref (ad (gm κ) 88)), (1, .int a1), (2, .int a2), (3, .int a3), (4, .int s.1)] [0, 1, 2, 3, 4] rfl ?_
    have h := sel_r h
    have h := K0 _ h
    exact h
  · refine j_iload_n 2 dX7_keep_27 rfl rfl ?_
    refine j_iload 5 dX7_keep_28 rfl ?_
    refine j_ishr dX7_keep_30 ?_
    refine j_iconst (1 : Int32) dX7_keep_31 ki_1 ?_
    refine j_iand dX7_keep_32 ?_
    refine j_if_eq 86 dX7_keep_33 (by decide) h (fun h => ?_) (fun h => ?_)
    · refine j_loc [(0, .ref (ad (gm κ) 88)), (1, .int a1), (2, .int a2), (3, .int a3), (4, .int s.1), (5, .int s.2)] [0, 1, 2, 3, 4, 5] rfl ?_
      exact t_X7_keep_j86 a1 a2 a3 s.1 s.2 w (fun _ h => h) K0 h
    · refine j_aload_n 0 dX7_keep_36 rfl rfl ?_
      refine j_iload_n 2 dX7_keep_37 rfl rfl ?_
      refine j_iload 5 dX7_keep_38 rfl ?_
      obtain ⟨q1, e2, h⟩ := ok_b h
      refine j_callV (As := [.int a2, .int s.2]) (st := []) [.int q1] (c_X7_arrivalFor (kl κ) (gm κ) (kA κ) a2 s.2 w q1 e2) ck_RX7_84 im_X7_arrivalFor se_X7_arrivalFor sh_88 cx_7 ⟨rfl, rfl⟩ ⟨by decide, by decide⟩ rfl rfl (Nat.le_of_ble_eq_true rfl) dX7_keep_40 _ rfl ?_
      refine j_aload_n 0 dX7_keep_43 rfl rfl ?_
      refine j_getA 92 fl_RX7_21 sh_88 fk_88_4 (by decide) dX7_keep_44 ?_
      refine j_iload_n 1 dX7_keep_47 rfl rfl ?_
      refine j_iald sh_92 dX7_keep_48 h (fun h => ?_)
      refine j_ic_gt 86 dX7_keep_49 (by decide) h (fun h => ?_) (fun h => ?_)
      · refine j_loc [(0, .ref (ad (gm κ) 88)), (1, .int a1), (2, .int a2), (3, .int a3), (4, .int s.1), (5, .int s.2)] [0, 1, 2, 3, 4, 5] rfl ?_
        exact t_X7_keep_j86 a1 a2 a3 s.1 s.2 w (fun _ h => h) K0 h
      · refine j_aload_n 0 dX7_keep_52 rfl rfl ?_
        refine j_iload_n 2 dX7_keep_53 rfl rfl ?_
        refine j_iload 5 dX7_keep_54 rfl ?_
        obtain ⟨q3, e4, h⟩ := ok_b h
        refine j_callV (As := [.int a2, .int s.2]) (st := []) [.int q3] (c_X7_arrivalFor (kl κ) (gm κ) (kA κ) a2 s.2 w q3 e4) ck_RX7_84 im_X7_arrivalFor se_X7_arrivalFor sh_88 cx_7 ⟨rfl, rfl⟩ ⟨by decide, by decide⟩ rfl rfl (Nat.le_of_ble_eq_true rfl) dX7_keep_56 _ rfl ?_
        refine j_aload_n 0 dX7_keep_59 rfl rfl ?_
        refine j_getA 93 fl_RX7_24 sh_88 fk_88_5 (by decide) dX7_keep_60 ?_
        refine j_iload_n 2 dX7_keep_63 rfl rfl ?_
        refine j_iconst (1 : Int32) dX7_keep_64 ki_1 ?_
        refine j_iload 5 dX7_keep_65 rfl ?_
        refine j_ishl dX7_keep_67 ?_
        refine j_iconst (-1 : Int32) dX7_keep_68 ki_m1 ?_
        refine j_ixor dX7_keep_69 ?_
        refine j_iand dX7_keep_70 ?_
        refine j_iald sh_93 dX7_keep_71 h (fun h => ?_)
        refine j_lI h (fun z5 h => ?_)
        refine j_iadd dX7_keep_72 ?_
        refine j_aload_n 0 dX7_keep_73 rfl rfl ?_
        refine j_getA 93 fl_RX7_24 sh_88 fk_88_5 (by decide) dX7_keep_74 ?_
        refine j_iload_n 2 dX7_keep_77 rfl rfl ?_
        refine j_iald sh_93 dX7_keep_78 h (fun h => ?_)
        refine j_ic_ne 86 dX7_keep_79 (by decide) h (fun h => ?_) (fun h => ?_)
        · refine j_loc [(0, .ref (ad (gm κ) 88)), (1, .int a1), (2, .int a2), (3, .int a3), (4, .int s.1), (5, .int s.2)] [0, 1, 2, 3, 4, 5] rfl ?_
          exact t_X7_keep_j86 a1 a2 a3 s.1 s.2 w (fun _ h => h) K0 h
        · refine j_iconst (1 : Int32) dX7_keep_82 ki_1 ?_
          refine j_goto 87 dX7_keep_83 (by decide) ?_
          refine j_loc [(0, .ref (ad (gm κ) 88)), (1, .int a1), (2, .int a2), (3, .int a3), (4, .int s.1), (5, .int s.2)] [0, 1, 2, 3, 4, 5] rfl ?_
          exact t_X7_keep_j87 a1 a2 a3 s.1 s.2 (1 : Int32) w (fun _ h => h) K0 h
noncomputable def X7_keep_j155 (a1 : Int32) (a2 : Int32) (a3 : Int32) (w : Wd) : Option ((Int32 × Int32 × Wd) ⊕ Wd) :=
some (.inl (a2, (a3 + (1 : Int32)), w))
set_option maxRecDepth 20000 in
set_option maxHeartbeats 1000000 in
theorem t_X7_keep_j155 {κ : Kx} (a1 : Int32) (a2 : Int32) (a3 : Int32) (w : Wd) {G : (Int32 × Int32 × Wd) → Prop} {P : Wd → Prop} (KG : ∀ s, G s → J κ RX7 cX7_keep 7 none (rmk 2 43) 4 [(0, .ref (ad (gm κ) 88)), (1, .int a1), (2, .int s.1), (3, .int s.2.1)] [] s.2.2) (K0 : ∀ e, P e → J κ RX7 cX7_keep 7 none (rmk 2 43) 161 [(0, .ref (ad (gm κ) 88))] [] e) (h : ok (X7_keep_j155  a1 a2 a3 w) (sel G P)) : J κ RX7 cX7_keep 7 none (rmk 2 43) 155 [(0, .ref (ad (gm κ) 88)), (1, .int a1), (2, .int a2), (3, .int a3)] [] w := by
  unfold X7_keep_j155 at h
  refine j_iinc (a3 + (1 : Int32)) 3 [(3, .int (a3 + (1 : Int32))), (0, .ref (ad (gm κ) 88)), (1, .int a1), (2, .int a2)] dX7_keep_155 rfl (by rw [kn_1]) (by decide) rfl ?_
  refine j_goto 4 dX7_keep_158 (by decide) ?_
  refine j_loc [(0, .ref (ad (gm κ) 88)), (1, .int a1), (2, .int a2), (3, .int (a3 + (1 : Int32)))] [1, 2, 3, 0] rfl ?_
  have h := sel_l h
  have h := KG _ h
  exact h
noncomputable def X7_keep_b4 (a1 : Int32) (s : (Int32 × Int32 × Wd)) : Option ((Int32 × Int32 × Wd) ⊕ Wd) :=
(if (s.2.2.1 88 0) ≤ s.2.1 then
some (.inr s.2.2)
else
(lp (X7_keep_b18 a1 s.1 s.2.1 s.2.2) ((-1 : Int32), (0 : Int32))).bind fun e6 =>
(if e6 = (-1 : Int32) then
X7_keep_j155 a1 s.1 s.2.1 s.2.2
else
gd (vp_in e6 7) <|
gd (vp_in s.2.1 7) <|
(some (puI s.2.2 94 (ix s.2.1) (s.2.2.1 90 (ix e6)))).bind fun w7 =>
(some (s.1 &&& (((1 : Int32) <<< (e6 &&& 31)) ^^^ (-1 : Int32)))).bind fun z8 =>
X7_keep_j155 a1 z8 s.2.1 w7))
set_option maxRecDepth 20000 in
set_option maxHeartbeats 1000000 in
theorem t_X7_keep_b4 {κ : Kx} (a1 : Int32) {P : Wd → Prop} (K0 : ∀ e, P e → J κ RX7 cX7_keep 7 none (rmk 2 43) 161 [(0, .ref (ad (gm κ) 88))] [] e) (s : (Int32 × Int32 × Wd)) (h : ok (lp (X7_keep_b4  a1) s) P) : J κ RX7 cX7_keep 7 none (rmk 2 43) 4 [(0, .ref (ad (gm κ) 88)), (1, .int a1), (2, .int s.1), (3, .int s.2.1)] [] s.2.2 := by
  refine lp_ind (fun s => J κ RX7 cX7_keep 7 none (rmk 2 43) 4 [(0, .ref (ad (gm κ) 88)), (1, .int a1), (2, .int s.1), (3, .int s.2.1)] [] s.2.2) (fun s h => ?_) s h
  unfold X7_keep_b4 at h
  refine j_iload_n 3 dX7_keep_4 rfl rfl ?_
  refine j_aload_n 0 dX7_keep_5 rfl rfl ?_
  refine j_getI fl_RX7_30 sh_88 fk_88_0 dX7_keep_6 ?_
  refine j_ic_ge 161 dX7_keep_9 (by decide) h (fun h => ?_) (fun h => ?_)
  · refine j_loc [(0, .ref (ad (gm κ) 88))] [0] rfl ?_
    have h := sel_r h
    have h := K0 _ h
    exact h
  · refine j_iconst (-1 : Int32) dX7_keep_12 ki_m1 ?_
    refine j_istore [(4, .int (-1 : Int32)), (0, .ref (ad (gm κ) 88)), (1, .int a1), (2, .int s.1), (3, .int s.2.1)] dX7_keep_13 (by decide) rfl ?_
    refine j_iconst (0 : Int32) dX7_keep_15 ki_0 ?_
    refine j_istore [(5, .int (0 : Int32)), (4, .int (-1 : Int32)), (0, .ref (ad (gm κ) 88)), (1, .int a1), (2, .int s.1), (3, .int s.2.1)] dX7_keep_16 (by decide) rfl ?_
    refine j_loc [(0, .ref (ad (gm κ) 88)), (1, .int a1), (2, .int s.1), (3, .int s.2.1), (4, .int (-1 : Int32)), (5, .int (0 : Int32))] [2, 3, 4, 5, 1, 0] rfl ?_
    refine t_X7_keep_b18 a1 s.1 s.2.1 s.2.2 (fun e6 h => ?_) ((-1 : Int32), (0 : Int32)) (ok_bb h)
    · refine j_iload 4 dX7_keep_127 rfl ?_
      refine j_iconst (-1 : Int32) dX7_keep_129 ki_m1 ?_
      refine j_ic_eq 155 dX7_keep_130 (by decide) h (fun h => ?_) (fun h => ?_)
      · refine j_loc [(0, .ref (ad (gm κ) 88)), (1, .int a1), (2, .int s.1), (3, .int s.2.1)] [0, 1, 2, 3] rfl ?_
        exact t_X7_keep_j155 a1 s.1 s.2.1 s.2.2 (fun _ h => h) K0 h
      · refine j_aload_n 0 dX7_keep_133 rfl rfl ?_
        refine j_getA 94 fl_RX7_27 sh_88 fk_88_7 (by decide) dX7_keep_134 ?_
        refine j_iload_n 3 dX7_keep_137 rfl rfl ?_
        refine j_aload_n 0 dX7_keep_138 rfl rfl ?_
        refine j_getA 90 fl_RX7_15 sh_88 fk_88_2 (by decide) dX7_keep_139 ?_
        refine j_iload 4 dX7_keep_142 rfl ?_
        refine j_iald sh_90 dX7_keep_144 h (fun h => ?_)
        refine j_iast sh_94 dX7_keep_145 h (fun h => ?_)
        refine j_lW h (fun w7 h => ?_)
        refine j_iload_n 2 dX7_keep_146 rfl rfl ?_
        refine j_iconst (1 : Int32) dX7_keep_147 ki_1 ?_
        refine j_iload 4 dX7_keep_148 rfl ?_
        refine j_ishl dX7_keep_150 ?_
        refine j_iconst (-1 : Int32) dX7_keep_151 ki_m1 ?_
        refine j_ixor dX7_keep_152 ?_
        refine j_iand dX7_keep_153 ?_
        refine j_lI h (fun z8 h => ?_)
        refine j_istore_n [(2, .int z8), (0, .ref (ad (gm κ) 88)), (1, .int a1), (3, .int s.2.1), (4, .int e6)] dX7_keep_154 rfl (by decide) rfl ?_
        refine j_loc [(0, .ref (ad (gm κ) 88)), (1, .int a1), (2, .int z8), (3, .int s.2.1)] [1, 2, 0, 3] rfl ?_
        exact t_X7_keep_j155 a1 z8 s.2.1 w7 (fun _ h => h) K0 h
noncomputable def X7_keep (a1 : Int32) (w : Wd) : Option (Wd) :=
(lp (X7_keep_b4 a1) (a1, (0 : Int32), w)).bind fun e9 =>
(some (puI e9 88 6 (e9.1 88 0))).bind fun w10 =>
some w10
set_option maxRecDepth 20000 in
set_option maxHeartbeats 1000000 in
theorem t_X7_keep {κ : Kx} (a1 : Int32) (w : Wd) (h : ok (X7_keep  a1 w) (PVw κ)) : J κ RX7 cX7_keep 7 none (rmk 2 43) 0 [(0, .ref (ad (gm κ) 88)), (1, .int a1)] [] w := by
  unfold X7_keep at h
  refine j_iload_n 1 dX7_keep_0 rfl rfl ?_
  refine j_istore_n [(2, .int a1), (0, .ref (ad (gm κ) 88)), (1, .int a1)] dX7_keep_1 rfl (by decide) rfl ?_
  refine j_iconst (0 : Int32) dX7_keep_2 ki_0 ?_
  refine j_istore_n [(3, .int (0 : Int32)), (2, .int a1), (0, .ref (ad (gm κ) 88)), (1, .int a1)] dX7_keep_3 rfl (by decide) rfl ?_
  refine j_loc [(0, .ref (ad (gm κ) 88)), (1, .int a1), (2, .int a1), (3, .int (0 : Int32))] [2, 3, 1, 0] rfl ?_
  refine t_X7_keep_b4 a1 (fun e9 h => ?_) (a1, (0 : Int32), w) (ok_bb h)
  · refine j_aload_n 0 dX7_keep_161 rfl rfl ?_
    refine j_aload_n 0 dX7_keep_162 rfl rfl ?_
    refine j_getI fl_RX7_30 sh_88 fk_88_0 dX7_keep_163 ?_
    refine j_putI fp_RX7_95 sh_88 fk_88_6 dX7_keep_166 ?_
    refine j_lW h (fun w10 h => ?_)
    have h := ok_s h
    exact j_vret dX7_keep_169 rfl h
theorem c_X7_keep (l : Launch) (γ : Gm) (A : Nat → Prop) (a1 : Int32) (w : Wd) (q : Wd) (e : X7_keep  a1 w = some q) : MetG l γ A yX7_keep cX7_keep 7 none (rmk 2 43) [.ref (ad (γ) 88), .int a1] w none q := by
  refine met_of pn_RX7 (Nat.le_of_ble_eq_true rfl) ?_
  intro κ hl hγ hA hρ
  subst hl; subst hγ; subst hA
  exact t_X7_keep   a1 w ⟨q, e, pVw hρ rfl rfl⟩
theorem dX7_choose_0 : decode cX7_choose 0 = .ok (.iconst 1, 1) := by decide +kernel
theorem dX7_choose_1 : decode cX7_choose 1 = .ok (.aload_n 0, 1) := by decide +kernel
theorem dX7_choose_2 : decode cX7_choose 2 = .ok (.getfield 30, 3) := by decide +kernel
theorem dX7_choose_5 : decode cX7_choose 5 = .ok (.ishl, 1) := by decide +kernel
theorem dX7_choose_6 : decode cX7_choose 6 = .ok (.iconst 1, 1) := by decide +kernel
theorem dX7_choose_7 : decode cX7_choose 7 = .ok (.isub, 1) := by decide +kernel
theorem dX7_choose_8 : decode cX7_choose 8 = .ok (.istore_n 1, 1) := by decide +kernel
theorem dX7_choose_9 : decode cX7_choose 9 = .ok (.aload_n 0, 1) := by decide +kernel
theorem dX7_choose_10 : decode cX7_choose 10 = .ok (.getfield 21, 3) := by decide +kernel
theorem dX7_choose_13 : decode cX7_choose 13 = .ok (.iconst 0, 1) := by decide +kernel
theorem dX7_choose_14 : decode cX7_choose 14 = .ok (.iconst 0, 1) := by decide +kernel
theorem dX7_choose_15 : decode cX7_choose 15 = .ok (.iastore, 1) := by decide +kernel
theorem dX7_choose_16 : decode cX7_choose 16 = .ok (.aload_n 0, 1) := by decide +kernel
theorem dX7_choose_17 : decode cX7_choose 17 = .ok (.getfield 24, 3) := by decide +kernel
theorem dX7_choose_20 : decode cX7_choose 20 = .ok (.iconst 0, 1) := by decide +kernel
theorem dX7_choose_21 : decode cX7_choose 21 = .ok (.iconst 0, 1) := by decide +kernel
theorem dX7_choose_22 : decode cX7_choose 22 = .ok (.iastore, 1) := by decide +kernel
theorem dX7_choose_23 : decode cX7_choose 23 = .ok (.iconst 1, 1) := by decide +kernel
theorem dX7_choose_24 : decode cX7_choose 24 = .ok (.istore_n 2, 1) := by decide +kernel
theorem dX7_choose_25 : decode cX7_choose 25 = .ok (.iload_n 2, 1) := by decide +kernel
theorem dX7_choose_26 : decode cX7_choose 26 = .ok (.iload_n 1, 1) := by decide +kernel
theorem dX7_choose_27 : decode cX7_choose 27 = .ok (.if_icmp .gt 20, 3) := by decide +kernel
theorem dX7_choose_30 : decode cX7_choose 30 = .ok (.aload_n 0, 1) := by decide +kernel
theorem dX7_choose_31 : decode cX7_choose 31 = .ok (.getfield 21, 3) := by decide +kernel
theorem dX7_choose_34 : decode cX7_choose 34 = .ok (.iload_n 2, 1) := by decide +kernel
theorem dX7_choose_35 : decode cX7_choose 35 = .ok (.aload_n 0, 1) := by decide +kernel
theorem dX7_choose_36 : decode cX7_choose 36 = .ok (.iload_n 2, 1) := by decide +kernel
theorem dX7_choose_37 : decode cX7_choose 37 = .ok (.invokevirtual 68, 3) := by decide +kernel
theorem dX7_choose_40 : decode cX7_choose 40 = .ok (.iastore, 1) := by decide +kernel
theorem dX7_choose_41 : decode cX7_choose 41 = .ok (.iinc 2 1, 3) := by decide +kernel
theorem dX7_choose_44 : decode cX7_choose 44 = .ok (.goto (-19), 3) := by decide +kernel
theorem dX7_choose_47 : decode cX7_choose 47 = .ok (.aload_n 0, 1) := by decide +kernel
theorem dX7_choose_48 : decode cX7_choose 48 = .ok (.getfield 21, 3) := by decide +kernel
theorem dX7_choose_51 : decode cX7_choose 51 = .ok (.iload_n 1, 1) := by decide +kernel
theorem dX7_choose_52 : decode cX7_choose 52 = .ok (.iaload, 1) := by decide +kernel
theorem dX7_choose_53 : decode cX7_choose 53 = .ok (.sipush 1000, 3) := by decide +kernel
theorem dX7_choose_56 : decode cX7_choose 56 = .ok (.if_icmp .lt 5, 3) := by decide +kernel
theorem dX7_choose_59 : decode cX7_choose 59 = .ok (.iconst (-1), 1) := by decide +kernel
theorem dX7_choose_60 : decode cX7_choose 60 = .ok (.ireturn, 1) := by decide +kernel
theorem dX7_choose_61 : decode cX7_choose 61 = .ok (.iconst 1, 1) := by decide +kernel
theorem dX7_choose_62 : decode cX7_choose 62 = .ok (.istore_n 2, 1) := by decide +kernel
theorem dX7_choose_63 : decode cX7_choose 63 = .ok (.iload_n 2, 1) := by decide +kernel
theorem dX7_choose_64 : decode cX7_choose 64 = .ok (.iload_n 1, 1) := by decide +kernel
theorem dX7_choose_65 : decode cX7_choose 65 = .ok (.if_icmp .gt 26, 3) := by decide +kernel
theorem dX7_choose_68 : decode cX7_choose 68 = .ok (.aload_n 0, 1) := by decide +kernel
theorem dX7_choose_69 : decode cX7_choose 69 = .ok (.getfield 24, 3) := by decide +kernel
theorem dX7_choose_72 : decode cX7_choose 72 = .ok (.iload_n 2, 1) := by decide +kernel
theorem dX7_choose_73 : decode cX7_choose 73 = .ok (.aload_n 0, 1) := by decide +kernel
theorem dX7_choose_74 : decode cX7_choose 74 = .ok (.iload_n 2, 1) := by decide +kernel
theorem dX7_choose_75 : decode cX7_choose 75 = .ok (.aload_n 0, 1) := by decide +kernel
theorem dX7_choose_76 : decode cX7_choose 76 = .ok (.getfield 21, 3) := by decide +kernel
theorem dX7_choose_79 : decode cX7_choose 79 = .ok (.iload_n 1, 1) := by decide +kernel
theorem dX7_choose_80 : decode cX7_choose 80 = .ok (.iaload, 1) := by decide +kernel
theorem dX7_choose_81 : decode cX7_choose 81 = .ok (.invokevirtual 71, 3) := by decide +kernel
theorem dX7_choose_84 : decode cX7_choose 84 = .ok (.iastore, 1) := by decide +kernel
theorem dX7_choose_85 : decode cX7_choose 85 = .ok (.iinc 2 1, 3) := by decide +kernel
theorem dX7_choose_88 : decode cX7_choose 88 = .ok (.goto (-25), 3) := by decide +kernel
theorem dX7_choose_91 : decode cX7_choose 91 = .ok (.aload_n 0, 1) := by decide +kernel
theorem dX7_choose_92 : decode cX7_choose 92 = .ok (.iload_n 1, 1) := by decide +kernel
theorem dX7_choose_93 : decode cX7_choose 93 = .ok (.invokevirtual 75, 3) := by decide +kernel
theorem dX7_choose_96 : decode cX7_choose 96 = .ok (.aload_n 0, 1) := by decide +kernel
theorem dX7_choose_97 : decode cX7_choose 97 = .ok (.getfield 21, 3) := by decide +kernel
theorem dX7_choose_100 : decode cX7_choose 100 = .ok (.iload_n 1, 1) := by decide +kernel
theorem dX7_choose_101 : decode cX7_choose 101 = .ok (.iaload, 1) := by decide +kernel
theorem dX7_choose_102 : decode cX7_choose 102 = .ok (.ireturn, 1) := by decide +kernel
noncomputable def X7_choose_b25 (a1 : Int32) (s : (Int32 × Wd)) : Option ((Int32 × Wd) ⊕ Wd) :=
(if a1 < s.1 then
some (.inr s.2)
else
(X7_leastLatest s.1 s.2).bind fun q4 =>
gd (vp_in s.1 128) <|
(some (puI s.2 92 (ix s.1) q4)).bind fun w6 =>
some (.inl ((s.1 + (1 : Int32)), w6)))
set_option maxRecDepth 20000 in
set_option maxHeartbeats 1000000 in
theorem t_X7_choose_b25 {κ : Kx} (a1 : Int32) {P : Wd → Prop} (K0 : ∀ e, P e → J κ RX7 cX7_choose 3 (some .int) (rmk 3 69) 47 [(0, .ref (ad (gm κ) 88)), (1, .int a1)] [] e) (s : (Int32 × Wd)) (h : ok (lp (X7_choose_b25  a1) s) P) : J κ RX7 cX7_choose 3 (some .int) (rmk 3 69) 25 [(0, .ref (ad (gm κ) 88)), (1, .int a1), (2, .int s.1)] [] s.2 := by
  refine lp_ind (fun s => J κ RX7 cX7_choose 3 (some .int) (rmk 3 69) 25 [(0, .ref (ad (gm κ) 88)), (1, .int a1), (2, .int s.1)] [] s.2) (fun s h => ?_) s h
  unfold X7_choose_b25 at h
  refine j_iload_n 2 dX7_choose_25 rfl rfl ?_
  refine j_iload_n 1 dX7_choose_26 rfl rfl ?_
  refine j_ic_gt 47 dX7_choose_27 (by decide) h (fun h => ?_) (fun h => ?_)
  · refine j_loc [(0, .ref (ad (gm κ) 88)), (1, .int a1)] [0, 1] rfl ?_
    have h := sel_r h
    have h := K0 _ h
    exact h
  · refine j_aload_n 0 dX7_choose_30 rfl rfl ?_
    refine j_getA 92 fl_RX7_21 sh_88 fk_88_4 (by decide) dX7_choose_31 ?_
    refine j_iload_n 2 dX7_choose_34 rfl rfl ?_
    refine j_aload_n 0 dX7_choose_35 rfl rfl ?_
    refine j_iload_n 2 dX7_choose_36 rfl rfl ?_
    obtain ⟨q4, e5, h⟩ := ok_b h
    refine j_callV (As := [.int s.1]) (st := [.int s.1, .ref (ad (gm κ) 92)]) [.int q4, .int s.1, .ref (ad (gm κ) 92)] (c_X7_leastLatest (kl κ) (gm κ) (kA κ) s.1 s.2 q4 e5) ck_RX7_68 im_X7_leastLatest se_X7_leastLatest sh_88 cx_7 ⟨rfl, rfl⟩ ⟨by decide, by decide⟩ rfl rfl (Nat.le_of_ble_eq_true rfl) dX7_choose_37 _ rfl ?_
    refine j_iast sh_92 dX7_choose_40 h (fun h => ?_)
    refine j_lW h (fun w6 h => ?_)
    refine j_iinc (s.1 + (1 : Int32)) 2 [(2, .int (s.1 + (1 : Int32))), (0, .ref (ad (gm κ) 88)), (1, .int a1)] dX7_choose_41 rfl (by rw [kn_1]) (by decide) rfl ?_
    refine j_goto 25 dX7_choose_44 (by decide) ?_
    refine j_loc [(0, .ref (ad (gm κ) 88)), (1, .int a1), (2, .int (s.1 + (1 : Int32)))] [1, 2, 0] rfl ?_
    have h := sel_l h
    exact h
noncomputable def X7_choose_b63 (a1 : Int32) (s : (Int32 × Wd)) : Option ((Int32 × Wd) ⊕ Wd) :=
(if a1 < s.1 then
some (.inr s.2)
else
gd (vp_in a1 128) <|
(X7_leastSum s.1 (s.2.1 92 (ix a1)) s.2).bind fun q8 =>
gd (vp_in s.1 128) <|
(some (puI s.2 93 (ix s.1) q8)).bind fun w10 =>
some (.inl ((s.1 + (1 : Int32)), w10)))
set_option maxRecDepth 20000 in
set_option maxHeartbeats 1000000 in
theorem t_X7_choose_b63 {κ : Kx} (a1 : Int32) {P : Wd → Prop} (K0 : ∀ e, P e → J κ RX7 cX7_choose 3 (some .int) (rmk 3 69) 91 [(0, .ref (ad (gm κ) 88)), (1, .int a1)] [] e) (s : (Int32 × Wd)) (h : ok (lp (X7_choose_b63  a1) s) P) : J κ RX7 cX7_choose 3 (some .int) (rmk 3 69) 63 [(0, .ref (ad (gm κ) 88)), (1, .int a1), (2, .int s.1)] [] s.2 := by
  refine lp_ind (fun s => J κ RX7 cX7_choose 3 (some .int) (rmk 3 69) 63 [(0, .ref (ad (gm κ) 88)), (1, .int a1), (2, .int s.1)] [] s.2) (fun s h => ?_) s h
  unfold X7_choose_b63 at h
  refine j_iload_n 2 dX7_choose_63 rfl rfl ?_
  refine j_iload_n 1 dX7_choose_64 rfl rfl ?_
  refine j_ic_gt 91 dX7_choose_65 (by decide) h (fun h => ?_) (fun h => ?_)
  · refine j_loc [(0, .ref (ad (gm κ) 88)), (1, .int a1)] [0, 1] rfl ?_
    have h := sel_r h
    have h := K0 _ h
    exact h
  · refine j_aload_n 0 dX7_choose_68 rfl rfl ?_
    refine j_getA 93 fl_RX7_24 sh_88 fk_88_5 (by decide) dX7_choose_69 ?_
    refine j_iload_n 2 dX7_choose_72 rfl rfl ?_
    refine j_aload_n 0 dX7_choose_73 rfl rfl ?_
    refine j_iload_n 2 dX7_choose_74 rfl rfl ?_
    refine j_aload_n 0 dX7_choose_75 rfl rfl ?_
    refine j_getA 92 fl_RX7_21 sh_88 fk_88_4 (by decide) dX7_choose_76 ?_
    refine j_iload_n 1 dX7_choose_79 rfl rfl ?_
    refine j_iald sh_92 dX7_choose_80 h (fun h => ?_)
    obtain ⟨q8, e9, h⟩ := ok_b h
    refine j_callV (As := [.int s.1, .int (s.2.1 92 (ix a1))]) (st := [.int s.1, .ref (ad (gm κ) 93)]) [.int q8, .int s.1, .ref (ad (gm κ) 93)] (c_X7_leastSum (kl κ) (gm κ) (kA κ) s.1 (s.2.1 92 (ix a1)) s.2 q8 e9) ck_RX7_71 im_X7_leastSum se_X7_leastSum sh_88 cx_7 ⟨rfl, rfl⟩ ⟨by decide, by decide⟩ rfl rfl (Nat.le_of_ble_eq_true rfl) dX7_choose_81 _ rfl ?_
    refine j_iast sh_93 dX7_choose_84 h (fun h => ?_)
    refine j_lW h (fun w10 h => ?_)
    refine j_iinc (s.1 + (1 : Int32)) 2 [(2, .int (s.1 + (1 : Int32))), (0, .ref (ad (gm κ) 88)), (1, .int a1)] dX7_choose_85 rfl (by rw [kn_1]) (by decide) rfl ?_
    refine j_goto 63 dX7_choose_88 (by decide) ?_
    refine j_loc [(0, .ref (ad (gm κ) 88)), (1, .int a1), (2, .int (s.1 + (1 : Int32)))] [1, 2, 0] rfl ?_
    have h := sel_l h
    exact h
noncomputable def X7_choose (w : Wd) : Option (Int32 × Wd) :=
(some (((1 : Int32) <<< ((w.1 88 0) &&& 31)) - (1 : Int32))).bind fun z1 =>
gd (vp_in (0 : Int32) 128) <|
(some (puI w 92 (ix (0 : Int32)) (0 : Int32))).bind fun w2 =>
gd (vp_in (0 : Int32) 128) <|
(some (puI w2 93 (ix (0 : Int32)) (0 : Int32))).bind fun w3 =>
(lp (X7_choose_b25 z1) ((1 : Int32), w3)).bind fun e7 =>
gd (vp_in z1 128) <|
(if (e7.1 92 (ix z1)) < (1000 : Int32) then
(lp (X7_choose_b63 z1) ((1 : Int32), e7)).bind fun e11 =>
(X7_keep z1 e11).bind fun q12 =>
gd (vp_in z1 128) <|
some ((q12.1 92 (ix z1)), q12)
else
some ((-1 : Int32), e7))
set_option maxRecDepth 20000 in
set_option maxHeartbeats 1000000 in
theorem t_X7_choose {κ : Kx} (w : Wd) (h : ok (X7_choose   w) (PIw κ)) : J κ RX7 cX7_choose 3 (some .int) (rmk 3 69) 0 [(0, .ref (ad (gm κ) 88))] [] w := by
  unfold X7_choose at h
  refine j_iconst (1 : Int32) dX7_choose_0 ki_1 ?_
  refine j_aload_n 0 dX7_choose_1 rfl rfl ?_
  refine j_getI fl_RX7_30 sh_88 fk_88_0 dX7_choose_2 ?_
  refine j_ishl dX7_choose_5 ?_
  refine j_iconst (1 : Int32) dX7_choose_6 ki_1 ?_
  refine j_isub dX7_choose_7 ?_
  refine j_lI h (fun z1 h => ?_)
  refine j_istore_n [(1, .int z1), (0, .ref (ad (gm κ) 88))] dX7_choose_8 rfl (by decide) rfl ?_
  refine j_aload_n 1 dX7_choose_9 rfl rfl ?_
  refine j_getA 92 fl_RX7_21 sh_88 fk_88_4 (by decide) dX7_choose_10 ?_
  refine j_iconst (0 : Int32) dX7_choose_13 ki_0 ?_
  refine j_iconst (0 : Int32) dX7_choose_14 ki_0 ?_
  refine j_iast sh_92 dX7_choose_15 h (fun h => ?_)
  refine j_lW h (fun w2 h => ?_)
  refine j_aload_n 1 dX7_choose_16 rfl rfl ?_
  refine j_getA 93 fl_RX7_24 sh_88 fk_88_5 (by decide) dX7_choose_17 ?_
  refine j_iconst (0 : Int32) dX7_choose_20 ki_0 ?_
  refine j_iconst (0 : Int32) dX7_choose_21 ki_0 ?_
  refine j_iast sh_93 dX7_choose_22 h (fun h => ?_)
  refine j_lW h (fun w3 h => ?_)
  refine j_iconst (1 : Int32) dX7_choose_23 ki_1 ?_
  refine j_istore_n [(2, .int (1 : Int32)), (1, .int z1), (0, .ref (ad (gm κ) 88))] dX7_choose_24 rfl (by decide) rfl ?_
  refine j_loc [(0, .ref (ad (gm κ) 88)), (1, .int z1), (2, .int (1 : Int32))] [2, 1, 0] rfl ?_
  refine t_X7_choose_b25 z1 (fun e7 h => ?_) ((1 : Int32), w3) (ok_bb h)
  · refine j_aload_n 0 dX7_choose_47 rfl rfl ?_
    refine j_getA 92 fl_RX7_21 sh_88 fk_88_4 (by decide) dX7_choose_48 ?_
    refine j_iload_n 1 dX7_choose_51 rfl rfl ?_
    refine j_iald sh_92 dX7_choose_52 h (fun h => ?_)
    refine j_sipush (1000 : Int32) dX7_choose_53 ks_1000 ?_
    refine j_ic_lt 61 dX7_choose_56 (by decide) h (fun h => ?_) (fun h => ?_)
    · refine j_iconst (1 : Int32) dX7_choose_61 ki_1 ?_
      refine j_istore_n [(2, .int (1 : Int32)), (0, .ref (ad (gm κ) 88)), (1, .int z1)] dX7_choose_62 rfl (by decide) rfl ?_
      refine j_loc [(0, .ref (ad (gm κ) 88)), (1, .int z1), (2, .int (1 : Int32))] [1, 2, 0] rfl ?_
      refine t_X7_choose_b63 z1 (fun e11 h => ?_) ((1 : Int32), e7) (ok_bb h)
      · refine j_aload_n 0 dX7_choose_91 rfl rfl ?_
        refine j_iload_n 1 dX7_choose_92 rfl rfl ?_
        obtain ⟨q12, e13, h⟩ := ok_b h
        refine j_callV (As := [.int z1]) (st := []) [] (c_X7_keep (kl κ) (gm κ) (kA κ) z1 e11 q12 e13) ck_RX7_75 im_X7_keep se_X7_keep sh_88 cx_7 ⟨rfl, rfl⟩ ⟨by decide, by decide⟩ rfl rfl (Nat.le_of_ble_eq_true rfl) dX7_choose_93 _ rfl ?_
        refine j_aload_n 0 dX7_choose_96 rfl rfl ?_
        refine j_getA 92 fl_RX7_21 sh_88 fk_88_4 (by decide) dX7_choose_97 ?_
        refine j_iload_n 1 dX7_choose_100 rfl rfl ?_
        refine j_iald sh_92 dX7_choose_101 h (fun h => ?_)
        have h := ok_s h
        exact j_iret dX7_choose_102 rfl rfl h
    · refine j_iconst (-1 : Int32) dX7_choose_59 ki_m1 ?_
      have h := ok_s h
      exact j_iret dX7_choose_60 rfl rfl h
theorem c_X7_choose (l : Launch) (γ : Gm) (A : Nat → Prop) (w : Wd) (q : Int32 × Wd) (e : X7_choose   w = some q) : MetG l γ A yX7_choose cX7_choose 3 (some .int) (rmk 3 69) [.ref (ad (γ) 88)] w (some (.int q.1)) q.2 := by
  refine met_of pn_RX7 (Nat.le_of_ble_eq_true rfl) ?_
  intro κ hl hγ hA hρ
  subst hl; subst hγ; subst hA
  exact t_X7_choose    w ⟨q, e, pIw hρ rfl rfl⟩
theorem dX8_asksForFacts_0 : decode cX8_asksForFacts 0 = .ok (.aload_n 0, 1) := by decide +kernel
theorem dX8_asksForFacts_1 : decode cX8_asksForFacts 1 = .ok (.getfield 57, 3) := by decide +kernel
theorem dX8_asksForFacts_4 : decode cX8_asksForFacts 4 = .ok (.aload_n 0, 1) := by decide +kernel
theorem dX8_asksForFacts_5 : decode cX8_asksForFacts 5 = .ok (.getfield 60, 3) := by decide +kernel
theorem dX8_asksForFacts_8 : decode cX8_asksForFacts 8 = .ok (.iadd, 1) := by decide +kernel
theorem dX8_asksForFacts_9 : decode cX8_asksForFacts 9 = .ok (.ifCond .le 7, 3) := by decide +kernel
theorem dX8_asksForFacts_12 : decode cX8_asksForFacts 12 = .ok (.iconst 1, 1) := by decide +kernel
theorem dX8_asksForFacts_13 : decode cX8_asksForFacts 13 = .ok (.goto 4, 3) := by decide +kernel
theorem dX8_asksForFacts_16 : decode cX8_asksForFacts 16 = .ok (.iconst 0, 1) := by decide +kernel
theorem dX8_asksForFacts_17 : decode cX8_asksForFacts 17 = .ok (.ireturn, 1) := by decide +kernel
noncomputable def X8_asksForFactsO (si : Nat) (w : Wd) : Option (Int32) :=
(if ((w.1 (stc si) 4) + (w.1 (stc si) 6)) ≤ 0 then
some (0 : Int32)
else
some (1 : Int32))
set_option maxRecDepth 20000 in
set_option maxHeartbeats 1000000 in
theorem t_X8_asksForFacts {κ : Kx} (si : Nat) (hsi : si < 4) (w : Wd) (h : ok (X8_asksForFactsO si  w) (PI κ w)) : J κ RX8 cX8_asksForFacts 1 (some .boolean) (rmk 0 0) 0 [(0, .ref (ad (gm κ) (stc si)))] [] w := by
  unfold X8_asksForFactsO at h
  refine j_aload_n 0 dX8_asksForFacts_0 rfl rfl ?_
  refine j_getI fl_RX8_57 (st_sh hsi).1 (st_fk hsi).2.2.2.2.1 dX8_asksForFacts_1 ?_
  refine j_aload_n 0 dX8_asksForFacts_4 rfl rfl ?_
  refine j_getI fl_RX8_60 (st_sh hsi).1 (st_fk hsi).2.2.2.2.2.2.1 dX8_asksForFacts_5 ?_
  refine j_iadd dX8_asksForFacts_8 ?_
  refine j_if_le 16 dX8_asksForFacts_9 (by decide) h (fun h => ?_) (fun h => ?_)
  · refine j_iconst (0 : Int32) dX8_asksForFacts_16 ki_0 ?_
    have h := ok_s h
    exact j_iret dX8_asksForFacts_17 rfl (by decide) h
  · refine j_iconst (1 : Int32) dX8_asksForFacts_12 ki_1 ?_
    refine j_goto 17 dX8_asksForFacts_13 (by decide) ?_
    have h := ok_s h
    exact j_iret dX8_asksForFacts_17 rfl (by decide) h
noncomputable def X8_asksForFacts (si : Nat) (w : Wd) : Int32 := (X8_asksForFactsO si  w).getD 0
theorem X8_asksForFacts_eq (si : Nat) (w : Wd) : X8_asksForFactsO si  w = some (X8_asksForFacts si  w) := by
  unfold X8_asksForFacts X8_asksForFactsO
  repeat (first | rfl | split)
theorem nz_X8_asksForFacts (si : Nat) (w : Wd) : narrow .boolean (.int (X8_asksForFacts si  w)) = .int (X8_asksForFacts si  w) := by
  unfold X8_asksForFacts X8_asksForFactsO
  repeat (first | rfl | split)
theorem c_X8_asksForFacts (l : Launch) (γ : Gm) (A : Nat → Prop) (si : Nat) (hsi : si < 4) (w : Wd) : MetG l γ A yX8_asksForFacts cX8_asksForFacts 1 (some .boolean) (rmk 0 0) [.ref (ad (γ) (stc si))] w (some (.int (X8_asksForFacts si  w))) w := by
  refine met_of pn_RX8 (Nat.le_of_ble_eq_true rfl) ?_
  intro κ hl hγ hA hρ
  subst hl; subst hγ; subst hA
  exact t_X8_asksForFacts si hsi  w ⟨_, X8_asksForFacts_eq si  w, pI hρ rfl rfl⟩
theorem dX8_admits_0 : decode cX8_admits 0 = .ok (.iconst 0, 1) := by decide +kernel
theorem dX8_admits_1 : decode cX8_admits 1 = .ok (.istore_n 3, 1) := by decide +kernel
theorem dX8_admits_2 : decode cX8_admits 2 = .ok (.iload_n 3, 1) := by decide +kernel
theorem dX8_admits_3 : decode cX8_admits 3 = .ok (.aload_n 0, 1) := by decide +kernel
theorem dX8_admits_4 : decode cX8_admits 4 = .ok (.getfield 57, 3) := by decide +kernel
theorem dX8_admits_7 : decode cX8_admits 7 = .ok (.if_icmp .ge 67, 3) := by decide +kernel
theorem dX8_admits_10 : decode cX8_admits 10 = .ok (.aload_n 0, 1) := by decide +kernel
theorem dX8_admits_11 : decode cX8_admits 11 = .ok (.getfield 23, 3) := by decide +kernel
theorem dX8_admits_14 : decode cX8_admits 14 = .ok (.iload_n 3, 1) := by decide +kernel
theorem dX8_admits_15 : decode cX8_admits 15 = .ok (.iaload, 1) := by decide +kernel
theorem dX8_admits_16 : decode cX8_admits 16 = .ok (.istore 4, 2) := by decide +kernel
theorem dX8_admits_18 : decode cX8_admits 18 = .ok (.aload_n 1, 1) := by decide +kernel
theorem dX8_admits_19 : decode cX8_admits 19 = .ok (.aload_n 1, 1) := by decide +kernel
theorem dX8_admits_20 : decode cX8_admits 20 = .ok (.getfield 78, 3) := by decide +kernel
theorem dX8_admits_23 : decode cX8_admits 23 = .ok (.iload 4, 2) := by decide +kernel
theorem dX8_admits_25 : decode cX8_admits 25 = .ok (.iaload, 1) := by decide +kernel
theorem dX8_admits_26 : decode cX8_admits 26 = .ok (.aload_n 1, 1) := by decide +kernel
theorem dX8_admits_27 : decode cX8_admits 27 = .ok (.getfield 81, 3) := by decide +kernel
theorem dX8_admits_30 : decode cX8_admits 30 = .ok (.iload 4, 2) := by decide +kernel
theorem dX8_admits_32 : decode cX8_admits 32 = .ok (.iaload, 1) := by decide +kernel
theorem dX8_admits_33 : decode cX8_admits 33 = .ok (.aload_n 2, 1) := by decide +kernel
theorem dX8_admits_34 : decode cX8_admits 34 = .ok (.invokevirtual 84, 3) := by decide +kernel
theorem dX8_admits_37 : decode cX8_admits 37 = .ok (.lconst 0, 1) := by decide +kernel
theorem dX8_admits_38 : decode cX8_admits 38 = .ok (.lcmp, 1) := by decide +kernel
theorem dX8_admits_39 : decode cX8_admits 39 = .ok (.ifCond .eq 29, 3) := by decide +kernel
theorem dX8_admits_42 : decode cX8_admits 42 = .ok (.aload_n 1, 1) := by decide +kernel
theorem dX8_admits_43 : decode cX8_admits 43 = .ok (.aload_n 1, 1) := by decide +kernel
theorem dX8_admits_44 : decode cX8_admits 44 = .ok (.getfield 81, 3) := by decide +kernel
theorem dX8_admits_47 : decode cX8_admits 47 = .ok (.iload 4, 2) := by decide +kernel
theorem dX8_admits_49 : decode cX8_admits 49 = .ok (.iaload, 1) := by decide +kernel
theorem dX8_admits_50 : decode cX8_admits 50 = .ok (.aload_n 1, 1) := by decide +kernel
theorem dX8_admits_51 : decode cX8_admits 51 = .ok (.getfield 88, 3) := by decide +kernel
theorem dX8_admits_54 : decode cX8_admits 54 = .ok (.iload 4, 2) := by decide +kernel
theorem dX8_admits_56 : decode cX8_admits 56 = .ok (.iaload, 1) := by decide +kernel
theorem dX8_admits_57 : decode cX8_admits 57 = .ok (.aload_n 2, 1) := by decide +kernel
theorem dX8_admits_58 : decode cX8_admits 58 = .ok (.invokevirtual 84, 3) := by decide +kernel
theorem dX8_admits_61 : decode cX8_admits 61 = .ok (.lconst 0, 1) := by decide +kernel
theorem dX8_admits_62 : decode cX8_admits 62 = .ok (.lcmp, 1) := by decide +kernel
theorem dX8_admits_63 : decode cX8_admits 63 = .ok (.ifCond .ne 5, 3) := by decide +kernel
theorem dX8_admits_66 : decode cX8_admits 66 = .ok (.iconst 1, 1) := by decide +kernel
theorem dX8_admits_67 : decode cX8_admits 67 = .ok (.ireturn, 1) := by decide +kernel
theorem dX8_admits_68 : decode cX8_admits 68 = .ok (.iinc 3 1, 3) := by decide +kernel
theorem dX8_admits_71 : decode cX8_admits 71 = .ok (.goto (-69), 3) := by decide +kernel
theorem dX8_admits_74 : decode cX8_admits 74 = .ok (.aload_n 0, 1) := by decide +kernel
theorem dX8_admits_75 : decode cX8_admits 75 = .ok (.getfield 57, 3) := by decide +kernel
theorem dX8_admits_78 : decode cX8_admits 78 = .ok (.ifCond .ne 7, 3) := by decide +kernel
theorem dX8_admits_81 : decode cX8_admits 81 = .ok (.iconst 1, 1) := by decide +kernel
theorem dX8_admits_82 : decode cX8_admits 82 = .ok (.goto 4, 3) := by decide +kernel
theorem dX8_admits_85 : decode cX8_admits 85 = .ok (.iconst 0, 1) := by decide +kernel
theorem dX8_admits_86 : decode cX8_admits 86 = .ok (.ireturn, 1) := by decide +kernel
noncomputable def X8_admits_j68 (si : Nat) (a3 : Int32) (w : Wd) : Option ((Int32 × Wd) ⊕ (Wd ⊕ Wd)) :=
some (.inl ((a3 + (1 : Int32)), w))
set_option maxRecDepth 20000 in
set_option maxHeartbeats 1000000 in
theorem t_X8_admits_j68 {κ : Kx} (si : Nat) (hsi : si < 4) (a3 : Int32) (w : Wd) {G : (Int32 × Wd) → Prop} {P : (Wd ⊕ Wd) → Prop} (KG : ∀ s, G s → J κ RX8 cX8_admits 5 (some .boolean) (rmk 2 50) 2 [(0, .ref (ad (gm κ) (stc si))), (1, .ref (ad (gm κ) 30)), (2, .ref (ad (gm κ) 77)), (3, .int s.1)] [] s.2) (K0 : ∀ e, P (.inl e) → J κ RX8 cX8_admits 5 (some .boolean) (rmk 2 50) 66 [] [] e) (K1 : ∀ e, P (.inr e) → J κ RX8 cX8_admits 5 (some .boolean) (rmk 2 50) 74 [(0, .ref (ad (gm κ) (stc si)))] [] e) (h : ok (X8_admits_j68 si a3 w) (sel G P)) : J κ RX8 cX8_admits 5 (some .boolean) (rmk 2 50) 68 [(0, .ref (ad (gm κ) (stc si))), (1, .ref (ad (gm κ) 30)), (2, .ref (ad (gm κ) 77)), (3, .int a3)] [] w := by
  unfold X8_admits_j68 at h
  refine j_iinc (a3 + (1 : Int32)) 3 [(3, .int (a3 + (1 : Int32))), (0, .ref (ad (gm κ) (stc si))), (1, .ref (ad (gm κ) 30)), (2, .ref (ad (gm κ) 77))] dX8_admits_68 rfl (by rw [kn_1]) (by decide) rfl ?_
  refine j_goto 2 dX8_admits_71 (by decide) ?_
  refine j_loc [(0, .ref (ad (gm κ) (stc si))), (1, .ref (ad (gm κ) 30)), (2, .ref (ad (gm κ) 77)), (3, .int (a3 + (1 : Int32)))] [1, 2, 3, 0] rfl ?_
  have h := sel_l h
  have h := KG _ h
  exact h
noncomputable def X8_admits_b2 (si : Nat) (s : (Int32 × Wd)) : Option ((Int32 × Wd) ⊕ (Wd ⊕ Wd)) :=
(if (s.2.1 (stc si) 4) ≤ s.1 then
some (.inr (.inr s.2))
else
gd (vp_in s.1 100) <|
(some (s.2.1 (stc si + 3) (ix s.1))).bind fun z1 =>
gd (vp_in z1 100) <|
gd (vp_in z1 100) <|
(X0_run (s.2.1 39 (ix z1)) (s.2.1 40 (ix z1)) s.2).bind fun q2 =>
(if (lg_cmp q2.1 (0 : Int64)) = 0 then
X8_admits_j68 si s.1 q2.2
else
gd (vp_in z1 100) <|
gd (vp_in z1 100) <|
(X0_run (q2.2.1 40 (ix z1)) (q2.2.1 41 (ix z1)) q2.2).bind fun q4 =>
(if (lg_cmp q4.1 (0 : Int64)) = 0 then
some (.inr (.inl q4.2))
else
X8_admits_j68 si s.1 q4.2)))
set_option maxRecDepth 20000 in
set_option maxHeartbeats 1000000 in
theorem t_X8_admits_b2 {κ : Kx} (si : Nat) (hsi : si < 4) {P : (Wd ⊕ Wd) → Prop} (K0 : ∀ e, P (.inl e) → J κ RX8 cX8_admits 5 (some .boolean) (rmk 2 50) 66 [] [] e) (K1 : ∀ e, P (.inr e) → J κ RX8 cX8_admits 5 (some .boolean) (rmk 2 50) 74 [(0, .ref (ad (gm κ) (stc si)))] [] e) (s : (Int32 × Wd)) (h : ok (lp (X8_admits_b2 si ) s) P) : J κ RX8 cX8_admits 5 (some .boolean) (rmk 2 50) 2 [(0, .ref (ad (gm κ) (stc si))), (1, .ref (ad (gm κ) 30)), (2, .ref (ad (gm κ) 77)), (3, .int s.1)] [] s.2 := by
  refine lp_ind (fun s => J κ RX8 cX8_admits 5 (some .boolean) (rmk 2 50) 2 [(0, .ref (ad (gm κ) (stc si))), (1, .ref (ad (gm κ) 30)), (2, .ref (ad (gm κ) 77)), (3, .int s.1)] [] s.2) (fun s h => ?_) s h
  unfold X8_admits_b2 at h
  refine j_iload_n 3 dX8_admits_2 rfl rfl ?_
  refine j_aload_n 0 dX8_admits_3 rfl rfl ?_
  refine j_getI fl_RX8_57 (st_sh hsi).1 (st_fk hsi).2.2.2.2.1 dX8_admits_4 ?_
  refine j_ic_ge 74 dX8_admits_7 (by decide) h (fun h => ?_) (fun h => ?_)
  · refine j_loc [(0, .ref (ad (gm κ) (stc si)))] [0] rfl ?_
    have h := sel_r h
    have h := K1 _ h
    exact h
  · refine j_aload_n 0 dX8_admits_10 rfl rfl ?_
    refine j_getA (stc si + 3) fl_RX8_23 (st_sh hsi).1 (st_fk hsi).2.2.2.2.2.1 (st_lt hsi (by decide)) dX8_admits_11 ?_
    refine j_iload_n 3 dX8_admits_14 rfl rfl ?_
    refine j_iald (st_sh hsi).2.2.2.1 dX8_admits_15 h (fun h => ?_)
    refine j_lI h (fun z1 h => ?_)
    refine j_istore [(4, .int z1), (0, .ref (ad (gm κ) (stc si))), (1, .ref (ad (gm κ) 30)), (2, .ref (ad (gm κ) 77)), (3, .int s.1)] dX8_admits_16 (by decide) rfl ?_
    refine j_aload_n 2 dX8_admits_18 rfl rfl ?_
    refine j_aload_n 2 dX8_admits_19 rfl rfl ?_
    refine j_getA 39 fl_RX8_78 sh_30 fk_30_9 (by decide) dX8_admits_20 ?_
    refine j_iload 0 dX8_admits_23 rfl ?_
    refine j_iald sh_39 dX8_admits_25 h (fun h => ?_)
    refine j_aload_n 2 dX8_admits_26 rfl rfl ?_
    refine j_getA 40 fl_RX8_81 sh_30 fk_30_10 (by decide) dX8_admits_27 ?_
    refine j_iload 0 dX8_admits_30 rfl ?_
    refine j_iald sh_40 dX8_admits_32 h (fun h => ?_)
    refine j_aload_n 3 dX8_admits_33 rfl rfl ?_
    obtain ⟨q2, e3, h⟩ := ok_b h
    refine j_callV (As := [.int (s.2.1 39 (ix z1)), .int (s.2.1 40 (ix z1)), .ref (ad (gm κ) 77)]) (st := []) [.long q2.1] (c_X0_run (kl κ) (gm κ) (kA κ) (s.2.1 39 (ix z1)) (s.2.1 40 (ix z1)) s.2 q2 e3) ck_RX8_84 im_X0_run se_X0_run sh_30 cx_0 ⟨rfl, rfl⟩ ⟨by decide, by decide⟩ rfl rfl (Nat.le_of_ble_eq_true rfl) dX8_admits_34 _ rfl ?_
    refine j_lconst (0 : Int64) dX8_admits_37 (by decide) ?_
    refine j_lcmp dX8_admits_38 ?_
    refine j_if_eq 68 dX8_admits_39 (by decide) h (fun h => ?_) (fun h => ?_)
    · refine j_loc [(0, .ref (ad (gm κ) (stc si))), (1, .ref (ad (gm κ) 30)), (2, .ref (ad (gm κ) 77)), (3, .int s.1)] [1, 2, 3, 4] rfl ?_
      exact t_X8_admits_j68 si hsi s.1 q2.2 (fun _ h => h) K0 K1 h
    · refine j_aload_n 2 dX8_admits_42 rfl rfl ?_
      refine j_aload_n 2 dX8_admits_43 rfl rfl ?_
      refine j_getA 40 fl_RX8_81 sh_30 fk_30_10 (by decide) dX8_admits_44 ?_
      refine j_iload 0 dX8_admits_47 rfl ?_
      refine j_iald sh_40 dX8_admits_49 h (fun h => ?_)
      refine j_aload_n 2 dX8_admits_50 rfl rfl ?_
      refine j_getA 41 fl_RX8_88 sh_30 fk_30_11 (by decide) dX8_admits_51 ?_
      refine j_iload 0 dX8_admits_54 rfl ?_
      refine j_iald sh_41 dX8_admits_56 h (fun h => ?_)
      refine j_aload_n 3 dX8_admits_57 rfl rfl ?_
      obtain ⟨q4, e5, h⟩ := ok_b h
      refine j_callV (As := [.int (q2.2.1 40 (ix z1)), .int (q2.2.1 41 (ix z1)), .ref (ad (gm κ) 77)]) (st := []) [.long q4.1] (c_X0_run (kl κ) (gm κ) (kA κ) (q2.2.1 40 (ix z1)) (q2.2.1 41 (ix z1)) q2.2 q4 e5) ck_RX8_84 im_X0_run se_X0_run sh_30 cx_0 ⟨rfl, rfl⟩ ⟨by decide, by decide⟩ rfl rfl (Nat.le_of_ble_eq_true rfl) dX8_admits_58 _ rfl ?_
      refine j_lconst (0 : Int64) dX8_admits_61 (by decide) ?_
      refine j_lcmp dX8_admits_62 ?_
      refine j_if_ne 68 dX8_admits_63 (by decide) h (fun h => ?_) (fun h => ?_)
      · refine j_loc [(0, .ref (ad (gm κ) (stc si))), (1, .ref (ad (gm κ) 30)), (2, .ref (ad (gm κ) 77)), (3, .int s.1)] [1, 2, 3, 4] rfl ?_
        exact t_X8_admits_j68 si hsi s.1 q4.2 (fun _ h => h) K0 K1 h
      · refine j_loc [] [] rfl ?_
        have h := sel_r h
        have h := K0 _ h
        exact h
noncomputable def X8_admits (si : Nat) (w : Wd) : Option (Int32 × Wd) :=
(lp (X8_admits_b2 si) ((0 : Int32), w)).bind fun e6 => match e6 with
| (.inl e7) => (some ((1 : Int32), e7))
| (.inr e8) => ((if (e8.1 (stc si) 4) = 0 then
some ((1 : Int32), e8)
else
some ((0 : Int32), e8)))
set_option maxRecDepth 20000 in
set_option maxHeartbeats 1000000 in
theorem t_X8_admits {κ : Kx} (si : Nat) (hsi : si < 4) (w : Wd) (h : ok (X8_admits si  w) (PIw κ)) : J κ RX8 cX8_admits 5 (some .boolean) (rmk 2 50) 0 [(0, .ref (ad (gm κ) (stc si))), (1, .ref (ad (gm κ) 30)), (2, .ref (ad (gm κ) 77))] [] w := by
  unfold X8_admits at h
  refine j_iconst (0 : Int32) dX8_admits_0 ki_0 ?_
  refine j_istore_n [(3, .int (0 : Int32)), (0, .ref (ad (gm κ) (stc si))), (1, .ref (ad (gm κ) 30)), (2, .ref (ad (gm κ) 77))] dX8_admits_1 rfl (by decide) rfl ?_
  refine j_loc [(0, .ref (ad (gm κ) (stc si))), (1, .ref (ad (gm κ) 30)), (2, .ref (ad (gm κ) 77)), (3, .int (0 : Int32))] [1, 2, 3, 0] rfl ?_
  refine t_X8_admits_b2 si hsi (fun e7 h => ?_) (fun e8 h => ?_) ((0 : Int32), w) (ok_bb h)
  · refine j_iconst (1 : Int32) dX8_admits_66 ki_1 ?_
    have h := ok_s h
    exact j_iret dX8_admits_67 rfl (by decide) h
  · refine j_aload_n 0 dX8_admits_74 rfl rfl ?_
    refine j_getI fl_RX8_57 (st_sh hsi).1 (st_fk hsi).2.2.2.2.1 dX8_admits_75 ?_
    refine j_if_ne 85 dX8_admits_78 (by decide) h (fun h => ?_) (fun h => ?_)
    · refine j_iconst (0 : Int32) dX8_admits_85 ki_0 ?_
      have h := ok_s h
      exact j_iret dX8_admits_86 rfl (by decide) h
    · refine j_iconst (1 : Int32) dX8_admits_81 ki_1 ?_
      refine j_goto 86 dX8_admits_82 (by decide) ?_
      have h := ok_s h
      exact j_iret dX8_admits_86 rfl (by decide) h
theorem c_X8_admits (l : Launch) (γ : Gm) (A : Nat → Prop) (si : Nat) (hsi : si < 4) (w : Wd) (q : Int32 × Wd) (e : X8_admits si  w = some q) : MetG l γ A yX8_admits cX8_admits 5 (some .boolean) (rmk 2 50) [.ref (ad (γ) (stc si)), .ref (ad (γ) 30), .ref (ad (γ) 77)] w (some (.int q.1)) q.2 := by
  refine met_of pn_RX8 (Nat.le_of_ble_eq_true rfl) ?_
  intro κ hl hγ hA hρ
  subst hl; subst hγ; subst hA
  exact t_X8_admits si hsi  w ⟨q, e, pIw hρ rfl rfl⟩
theorem dX8_hoursFor_0 : decode cX8_hoursFor 0 = .ok (.iconst 0, 1) := by decide +kernel
theorem dX8_hoursFor_1 : decode cX8_hoursFor 1 = .ok (.istore_n 3, 1) := by decide +kernel
theorem dX8_hoursFor_2 : decode cX8_hoursFor 2 = .ok (.lconst 0, 1) := by decide +kernel
theorem dX8_hoursFor_3 : decode cX8_hoursFor 3 = .ok (.lstore 4, 2) := by decide +kernel
theorem dX8_hoursFor_5 : decode cX8_hoursFor 5 = .ok (.iconst 0, 1) := by decide +kernel
theorem dX8_hoursFor_6 : decode cX8_hoursFor 6 = .ok (.istore 6, 2) := by decide +kernel
theorem dX8_hoursFor_8 : decode cX8_hoursFor 8 = .ok (.iload 6, 2) := by decide +kernel
theorem dX8_hoursFor_10 : decode cX8_hoursFor 10 = .ok (.aload_n 0, 1) := by decide +kernel
theorem dX8_hoursFor_11 : decode cX8_hoursFor 11 = .ok (.getfield 60, 3) := by decide +kernel
theorem dX8_hoursFor_14 : decode cX8_hoursFor 14 = .ok (.if_icmp .ge 83, 3) := by decide +kernel
theorem dX8_hoursFor_17 : decode cX8_hoursFor 17 = .ok (.aload_n 0, 1) := by decide +kernel
theorem dX8_hoursFor_18 : decode cX8_hoursFor 18 = .ok (.getfield 26, 3) := by decide +kernel
theorem dX8_hoursFor_21 : decode cX8_hoursFor 21 = .ok (.iload 6, 2) := by decide +kernel
theorem dX8_hoursFor_23 : decode cX8_hoursFor 23 = .ok (.iaload, 1) := by decide +kernel
theorem dX8_hoursFor_24 : decode cX8_hoursFor 24 = .ok (.istore 7, 2) := by decide +kernel
theorem dX8_hoursFor_26 : decode cX8_hoursFor 26 = .ok (.aload_n 1, 1) := by decide +kernel
theorem dX8_hoursFor_27 : decode cX8_hoursFor 27 = .ok (.aload_n 1, 1) := by decide +kernel
theorem dX8_hoursFor_28 : decode cX8_hoursFor 28 = .ok (.getfield 81, 3) := by decide +kernel
theorem dX8_hoursFor_31 : decode cX8_hoursFor 31 = .ok (.iload 7, 2) := by decide +kernel
theorem dX8_hoursFor_33 : decode cX8_hoursFor 33 = .ok (.iaload, 1) := by decide +kernel
theorem dX8_hoursFor_34 : decode cX8_hoursFor 34 = .ok (.aload_n 1, 1) := by decide +kernel
theorem dX8_hoursFor_35 : decode cX8_hoursFor 35 = .ok (.getfield 88, 3) := by decide +kernel
theorem dX8_hoursFor_38 : decode cX8_hoursFor 38 = .ok (.iload 7, 2) := by decide +kernel
theorem dX8_hoursFor_40 : decode cX8_hoursFor 40 = .ok (.iaload, 1) := by decide +kernel
theorem dX8_hoursFor_41 : decode cX8_hoursFor 41 = .ok (.aload_n 2, 1) := by decide +kernel
theorem dX8_hoursFor_42 : decode cX8_hoursFor 42 = .ok (.invokevirtual 84, 3) := by decide +kernel
theorem dX8_hoursFor_45 : decode cX8_hoursFor 45 = .ok (.lconst 0, 1) := by decide +kernel
theorem dX8_hoursFor_46 : decode cX8_hoursFor 46 = .ok (.lcmp, 1) := by decide +kernel
theorem dX8_hoursFor_47 : decode cX8_hoursFor 47 = .ok (.ifCond .ne 44, 3) := by decide +kernel
theorem dX8_hoursFor_50 : decode cX8_hoursFor 50 = .ok (.aload_n 1, 1) := by decide +kernel
theorem dX8_hoursFor_51 : decode cX8_hoursFor 51 = .ok (.aload_n 1, 1) := by decide +kernel
theorem dX8_hoursFor_52 : decode cX8_hoursFor 52 = .ok (.getfield 78, 3) := by decide +kernel
theorem dX8_hoursFor_55 : decode cX8_hoursFor 55 = .ok (.iload 7, 2) := by decide +kernel
theorem dX8_hoursFor_57 : decode cX8_hoursFor 57 = .ok (.iaload, 1) := by decide +kernel
theorem dX8_hoursFor_58 : decode cX8_hoursFor 58 = .ok (.aload_n 1, 1) := by decide +kernel
theorem dX8_hoursFor_59 : decode cX8_hoursFor 59 = .ok (.getfield 81, 3) := by decide +kernel
theorem dX8_hoursFor_62 : decode cX8_hoursFor 62 = .ok (.iload 7, 2) := by decide +kernel
theorem dX8_hoursFor_64 : decode cX8_hoursFor 64 = .ok (.iaload, 1) := by decide +kernel
theorem dX8_hoursFor_65 : decode cX8_hoursFor 65 = .ok (.aload_n 2, 1) := by decide +kernel
theorem dX8_hoursFor_66 : decode cX8_hoursFor 66 = .ok (.invokevirtual 84, 3) := by decide +kernel
theorem dX8_hoursFor_69 : decode cX8_hoursFor 69 = .ok (.lstore 8, 2) := by decide +kernel
theorem dX8_hoursFor_71 : decode cX8_hoursFor 71 = .ok (.iload_n 3, 1) := by decide +kernel
theorem dX8_hoursFor_72 : decode cX8_hoursFor 72 = .ok (.ifCond .eq 13, 3) := by decide +kernel
theorem dX8_hoursFor_75 : decode cX8_hoursFor 75 = .ok (.lload 4, 2) := by decide +kernel
theorem dX8_hoursFor_77 : decode cX8_hoursFor 77 = .ok (.lload 8, 2) := by decide +kernel
theorem dX8_hoursFor_79 : decode cX8_hoursFor 79 = .ok (.invokestatic 91, 3) := by decide +kernel
theorem dX8_hoursFor_82 : decode cX8_hoursFor 82 = .ok (.goto 5, 3) := by decide +kernel
theorem dX8_hoursFor_85 : decode cX8_hoursFor 85 = .ok (.lload 8, 2) := by decide +kernel
theorem dX8_hoursFor_87 : decode cX8_hoursFor 87 = .ok (.lstore 4, 2) := by decide +kernel
theorem dX8_hoursFor_89 : decode cX8_hoursFor 89 = .ok (.iconst 1, 1) := by decide +kernel
theorem dX8_hoursFor_90 : decode cX8_hoursFor 90 = .ok (.istore_n 3, 1) := by decide +kernel
theorem dX8_hoursFor_91 : decode cX8_hoursFor 91 = .ok (.iinc 6 1, 3) := by decide +kernel
theorem dX8_hoursFor_94 : decode cX8_hoursFor 94 = .ok (.goto (-86), 3) := by decide +kernel
theorem dX8_hoursFor_97 : decode cX8_hoursFor 97 = .ok (.iload_n 3, 1) := by decide +kernel
theorem dX8_hoursFor_98 : decode cX8_hoursFor 98 = .ok (.ifCond .eq 19, 3) := by decide +kernel
theorem dX8_hoursFor_101 : decode cX8_hoursFor 101 = .ok (.lconst 0, 1) := by decide +kernel
theorem dX8_hoursFor_102 : decode cX8_hoursFor 102 = .ok (.lload 4, 2) := by decide +kernel
theorem dX8_hoursFor_104 : decode cX8_hoursFor 104 = .ok (.ldc2_w 97, 3) := by decide +kernel
theorem dX8_hoursFor_107 : decode cX8_hoursFor 107 = .ok (.invokestatic 99, 3) := by decide +kernel
theorem dX8_hoursFor_110 : decode cX8_hoursFor 110 = .ok (.invokestatic 91, 3) := by decide +kernel
theorem dX8_hoursFor_113 : decode cX8_hoursFor 113 = .ok (.l2i, 1) := by decide +kernel
theorem dX8_hoursFor_114 : decode cX8_hoursFor 114 = .ok (.goto 5, 3) := by decide +kernel
theorem dX8_hoursFor_117 : decode cX8_hoursFor 117 = .ok (.bipush 6, 2) := by decide +kernel
theorem dX8_hoursFor_119 : decode cX8_hoursFor 119 = .ok (.ireturn, 1) := by decide +kernel
noncomputable def X8_hoursFor_j91 (si : Nat) (a3 : Int32) (a4 : Int64) (a6 : Int32) (w : Wd) : Option ((Int32 × Int64 × Int32 × Wd) ⊕ (Int32 × Int64 × Wd)) :=
some (.inl (a3, a4, (a6 + (1 : Int32)), w))
set_option maxRecDepth 20000 in
set_option maxHeartbeats 1000000 in
theorem t_X8_hoursFor_j91 {κ : Kx} (si : Nat) (hsi : si < 4) (a3 : Int32) (a4 : Int64) (a6 : Int32) (w : Wd) {G : (Int32 × Int64 × Int32 × Wd) → Prop} {P : (Int32 × Int64 × Wd) → Prop} (KG : ∀ s, G s → J κ RX8 cX8_hoursFor 10 (some .int) (rmk 2 50) 8 [(0, .ref (ad (gm κ) (stc si))), (1, .ref (ad (gm κ) 30)), (2, .ref (ad (gm κ) 77)), (3, .int s.1), (4, .long s.2.1), (6, .int s.2.2.1)] [] s.2.2.2) (K0 : ∀ e, P e → J κ RX8 cX8_hoursFor 10 (some .int) (rmk 2 50) 97 [(3, .int e.1), (4, .long e.2.1)] [] e.2.2) (h : ok (X8_hoursFor_j91 si a3 a4 a6 w) (sel G P)) : J κ RX8 cX8_hoursFor 10 (some .int) (rmk 2 50) 91 [(0, .ref (ad (gm κ) (stc si))), (1, .ref (ad (gm κ) 30)), (2, .ref (ad (gm κ) 77)), (3, .int a3), (4, .long a4), (6, .int a6)] [] w := by
  unfold X8_hoursFor_j91 at h
  refine j_iinc (a6 + (1 : Int32)) 5 [(6, .int (a6 + (1 : Int32))), (0, .ref (ad (gm κ) (stc si))), (1, .ref (ad (gm κ) 30)), (2, .ref (ad (gm κ) 77)), (3, .int a3), (4, .long a4)] dX8_hoursFor_91 rfl (by rw [kn_1]) (by decide) rfl ?_
  refine j_goto 8 dX8_hoursFor_94 (by decide) ?_
  refine j_loc [(0, .ref (ad (gm κ) (stc si))), (1, .ref (ad (gm κ) 30)), (2, .ref (ad (gm κ) 77)), (3, .int a3), (4, .long a4), (6, .int (a6 + (1 : Int32)))] [1, 2, 3, 4, 5, 0] rfl ?_
  have h := sel_l h
  have h := KG _ h
  exact h
noncomputable def X8_hoursFor_j87 (si : Nat) (a6 : Int32) (s0 : Int64) (w : Wd) : Option ((Int32 × Int64 × Int32 × Wd) ⊕ (Int32 × Int64 × Wd)) :=
X8_hoursFor_j91 si (1 : Int32) s0 a6 w
set_option maxRecDepth 20000 in
set_option maxHeartbeats 1000000 in
theorem t_X8_hoursFor_j87 {κ : Kx} (si : Nat) (hsi : si < 4) (a6 : Int32) (s0 : Int64) (w : Wd) {G : (Int32 × Int64 × Int32 × Wd) → Prop} {P : (Int32 × Int64 × Wd) → Prop} (KG : ∀ s, G s → J κ RX8 cX8_hoursFor 10 (some .int) (rmk 2 50) 8 [(0, .ref (ad (gm κ) (stc si))), (1, .ref (ad (gm κ) 30)), (2, .ref (ad (gm κ) 77)), (3, .int s.1), (4, .long s.2.1), (6, .int s.2.2.1)] [] s.2.2.2) (K0 : ∀ e, P e → J κ RX8 cX8_hoursFor 10 (some .int) (rmk 2 50) 97 [(3, .int e.1), (4, .long e.2.1)] [] e.2.2) (h : ok (X8_hoursFor_j87 si a6 s0 w) (sel G P)) : J κ RX8 cX8_hoursFor 10 (some .int) (rmk 2 50) 87 [(0, .ref (ad (gm κ) (stc si))), (1, .ref (ad (gm κ) 30)), (2, .ref (ad (gm κ) 77)), (6, .int a6)] [.long s0] w := by
  unfold X8_hoursFor_j87 at h
  refine j_lstore [(4, .long s0), (0, .ref (ad (gm κ) (stc si))), (1, .ref (ad (gm κ) 30)), (2, .ref (ad (gm κ) 77)), (6, .int a6)] dX8_hoursFor_87 (by decide) rfl ?_
  refine j_iconst (1 : Int32) dX8_hoursFor_89 ki_1 ?_
  refine j_istore_n [(3, .int (1 : Int32)), (4, .long s0), (0, .ref (ad (gm κ) (stc si))), (1, .ref (ad (gm κ) 30)), (2, .ref (ad (gm κ) 77)), (6, .int a6)] dX8_hoursFor_90 rfl (by decide) rfl ?_
  refine j_loc [(0, .ref (ad (gm κ) (stc si))), (1, .ref (ad (gm κ) 30)), (2, .ref (ad (gm κ) 77)), (3, .int (1 : Int32)), (4, .long s0), (6, .int a6)] [2, 3, 4, 0, 1, 5] rfl ?_
  exact t_X8_hoursFor_j91 si hsi (1 : Int32) s0 a6 w KG K0 h
noncomputable def X8_hoursFor_b8 (si : Nat) (s : (Int32 × Int64 × Int32 × Wd)) : Option ((Int32 × Int64 × Int32 × Wd) ⊕ (Int32 × Int64 × Wd)) :=
(if (s.2.2.2.1 (stc si) 6) ≤ s.2.2.1 then
some (.inr (s.1, s.2.1, s.2.2.2))
else
gd (vp_in s.2.2.1 100) <|
(some (s.2.2.2.1 (stc si + 4) (ix s.2.2.1))).bind fun z1 =>
gd (vp_in z1 100) <|
gd (vp_in z1 100) <|
(X0_run (s.2.2.2.1 40 (ix z1)) (s.2.2.2.1 41 (ix z1)) s.2.2.2).bind fun q2 =>
(if (lg_cmp q2.1 (0 : Int64)) = 0 then
gd (vp_in z1 100) <|
gd (vp_in z1 100) <|
(X0_run (q2.2.1 39 (ix z1)) (q2.2.1 40 (ix z1)) q2.2).bind fun q4 =>
(if s.1 = 0 then
X8_hoursFor_j87 si s.2.2.1 q4.1 q4.2
else
X8_hoursFor_j87 si s.2.2.1 (mxJ s.2.1 q4.1) q4.2)
else
X8_hoursFor_j91 si s.1 s.2.1 s.2.2.1 q2.2))
set_option maxRecDepth 20000 in
set_option maxHeartbeats 1000000 in
theorem t_X8_hoursFor_b8 {κ : Kx} (si : Nat) (hsi : si < 4) {P : (Int32 × Int64 × Wd) → Prop} (K0 : ∀ e, P e → J κ RX8 cX8_hoursFor 10 (some .int) (rmk 2 50) 97 [(3, .int e.1), (4, .long e.2.1)] [] e.2.2) (s : (Int32 × Int64 × Int32 × Wd)) (h : ok (lp (X8_hoursFor_b8 si ) s) P) : J κ RX8 cX8_hoursFor 10 (some .int) (rmk 2 50) 8 [(0, .ref (ad (gm κ) (stc si))), (1, .ref (ad (gm κ) 30)), (2, .ref (ad (gm κ) 77)), (3, .int s.1), (4, .long s.2.1), (6, .int s.2.2.1)] [] s.2.2.2 := by
  refine lp_ind (fun s => J κ RX8 cX8_hoursFor 10 (some .int) (rmk 2 50) 8 [(0, .ref (ad (gm κ) (stc si))), (1, .ref (ad (gm κ) 30)), (2, .ref (ad (gm κ) 77)), (3, .int s.1), (4, .long s.2.1), (6, .int s.2.2.1)] [] s.2.2.2) (fun s h => ?_) s h
  unfold X8_hoursFor_b8 at h
  refine j_iload 5 dX8_hoursFor_8 rfl ?_
  refine j_aload_n 0 dX8_hoursFor_10 rfl rfl ?_
  refine j_getI fl_RX8_60 (st_sh hsi).1 (st_fk hsi).2.2.2.2.2.2.1 dX8_hoursFor_11 ?_
  refine j_ic_ge 97 dX8_hoursFor_14 (by decide) h (fun h => ?_) (fun h => ?_)
  · refine j_loc [(3, .int s.1), (4, .long s.2.1)] [3, 4] rfl ?_
    have h := sel_r h
    have h := K0 _ h
    exact h
  · refine j_aload_n 0 dX8_hoursFor_17 rfl rfl ?_
    refine j_getA (stc si + 4) fl_RX8_26 (st_sh hsi).1 (st_fk hsi).2.2.2.2.2.2.2.1 (st_lt hsi (by decide)) dX8_hoursFor_18 ?_
    refine j_iload 5 dX8_hoursFor_21 rfl ?_
    refine j_iald (st_sh hsi).2.2.2.2 dX8_hoursFor_23 h (fun h => ?_)
    refine j_lI h (fun z1 h => ?_)
    refine j_istore [(7, .int z1), (0, .ref (ad (gm κ) (stc si))), (1, .ref (ad (gm κ) 30)), (2, .ref (ad (gm κ) 77)), (3, .int s.1), (4, .long s.2.1), (6, .int s.2.2.1)] dX8_hoursFor_24 (by decide) rfl ?_
    refine j_aload_n 2 dX8_hoursFor_26 rfl rfl ?_
    refine j_aload_n 2 dX8_hoursFor_27 rfl rfl ?_
    refine j_getA 40 fl_RX8_81 sh_30 fk_30_10 (by decide) dX8_hoursFor_28 ?_
    refine j_iload 0 dX8_hoursFor_31 rfl ?_
    refine j_iald sh_40 dX8_hoursFor_33 h (fun h => ?_)
    refine j_aload_n 2 dX8_hoursFor_34 rfl rfl ?_
    refine j_getA 41 fl_RX8_88 sh_30 fk_30_11 (by decide) dX8_hoursFor_35 ?_
    refine j_iload 0 dX8_hoursFor_38 rfl ?_
    refine j_iald sh_41 dX8_hoursFor_40 h (fun h => ?_)
    refine j_aload_n 3 dX8_hoursFor_41 rfl rfl ?_
    obtain ⟨q2, e3, h⟩ := ok_b h
    refine j_callV (As := [.int (s.2.2.2.1 40 (ix z1)), .int (s.2.2.2.1 41 (ix z1)), .ref (ad (gm κ) 77)]) (st := []) [.long q2.1] (c_X0_run (kl κ) (gm κ) (kA κ) (s.2.2.2.1 40 (ix z1)) (s.2.2.2.1 41 (ix z1)) s.2.2.2 q2 e3) ck_RX8_84 im_X0_run se_X0_run sh_30 cx_0 ⟨rfl, rfl⟩ ⟨by decide, by decide⟩ rfl rfl (Nat.le_of_ble_eq_true rfl) dX8_hoursFor_42 _ rfl ?_
    refine j_lconst (0 : Int64) dX8_hoursFor_45 (by decide) ?_
    refine j_lcmp dX8_hoursFor_46 ?_
    refine j_if_ne 91 dX8_hoursFor_47 (by decide) h (fun h => ?_) (fun h => ?_)
    · refine j_loc [(0, .ref (ad (gm κ) (stc si))), (1, .ref (ad (gm κ) 30)), (2, .ref (ad (gm κ) 77)), (3, .int s.1), (4, .long s.2.1), (6, .int s.2.2.1)] [1, 2, 3, 4, 5, 6] rfl ?_
      exact t_X8_hoursFor_j91 si hsi s.1 s.2.1 s.2.2.1 q2.2 (fun _ h => h) K0 h
    · refine j_aload_n 2 dX8_hoursFor_50 rfl rfl ?_
      refine j_aload_n 2 dX8_hoursFor_51 rfl rfl ?_
      refine j_getA 39 fl_RX8_78 sh_30 fk_30_9 (by decide) dX8_hoursFor_52 ?_
      refine j_iload 0 dX8_hoursFor_55 rfl ?_
      refine j_iald sh_39 dX8_hoursFor_57 h (fun h => ?_)
      refine j_aload_n 2 dX8_hoursFor_58 rfl rfl ?_
      refine j_getA 40 fl_RX8_81 sh_30 fk_30_10 (by decide) dX8_hoursFor_59 ?_
      refine j_iload 0 dX8_hoursFor_62 rfl ?_
      refine j_iald sh_40 dX8_hoursFor_64 h (fun h => ?_)
      refine j_aload_n 3 dX8_hoursFor_65 rfl rfl ?_
      obtain ⟨q4, e5, h⟩ := ok_b h
      refine j_callV (As := [.int (q2.2.1 39 (ix z1)), .int (q2.2.1 40 (ix z1)), .ref (ad (gm κ) 77)]) (st := []) [.long q4.1] (c_X0_run (kl κ) (gm κ) (kA κ) (q2.2.1 39 (ix z1)) (q2.2.1 40 (ix z1)) q2.2 q4 e5) ck_RX8_84 im_X0_run se_X0_run sh_30 cx_0 ⟨rfl, rfl⟩ ⟨by decide, by decide⟩ rfl rfl (Nat.le_of_ble_eq_true rfl) dX8_hoursFor_66 _ rfl ?_
      refine j_lstore [(8, .long q4.1), (7, .int z1), (0, .ref (ad (gm κ) (stc si))), (1, .ref (ad (gm κ) 30)), (2, .ref (ad (gm κ) 77)), (3, .int s.1), (4, .long s.2.1), (6, .int s.2.2.1)] dX8_hoursFor_69 (by decide) rfl ?_
      refine j_iload_n 5 dX8_hoursFor_71 rfl rfl ?_
      refine j_if_eq 85 dX8_hoursFor_72 (by decide) h (fun h => ?_) (fun h => ?_)
      · refine j_lload 0 dX8_hoursFor_85 rfl ?_
        refine j_loc [(0, .ref (ad (gm κ) (stc si))), (1, .ref (ad (gm κ) 30)), (2, .ref (ad (gm κ) 77)), (6, .int s.2.2.1)] [2, 3, 4, 7] rfl ?_
        exact t_X8_hoursFor_j87 si hsi s.2.2.1 q4.1 q4.2 (fun _ h => h) K0 h
      · refine j_lload 6 dX8_hoursFor_75 rfl ?_
        refine j_lload 0 dX8_hoursFor_77 rfl ?_
        refine j_mxJ mt_RX8_91 (by decide) (Nat.le_of_ble_eq_true rfl) dX8_hoursFor_79 ?_
        refine j_goto 87 dX8_hoursFor_82 (by decide) ?_
        refine j_loc [(0, .ref (ad (gm κ) (stc si))), (1, .ref (ad (gm κ) 30)), (2, .ref (ad (gm κ) 77)), (6, .int s.2.2.1)] [2, 3, 4, 7] rfl ?_
        exact t_X8_hoursFor_j87 si hsi s.2.2.1 (mxJ s.2.1 q4.1) q4.2 (fun _ h => h) K0 h
noncomputable def X8_hoursFor (si : Nat) (w : Wd) : Option (Int32 × Wd) :=
(lp (X8_hoursFor_b8 si) ((0 : Int32), (0 : Int64), (0 : Int32), w)).bind fun e6 =>
(if e6.1 = 0 then
some ((6 : Int32), e6.2.2)
else
some ((Int64.toInt32 (mxJ (0 : Int64) (mnJ e6.2.1 (60 : Int64)))), e6.2.2))
set_option maxRecDepth 20000 in
set_option maxHeartbeats 1000000 in
theorem t_X8_hoursFor {κ : Kx} (si : Nat) (hsi : si < 4) (w : Wd) (h : ok (X8_hoursFor si  w) (PIw κ)) : J κ RX8 cX8_hoursFor 10 (some .int) (rmk 2 50) 0 [(0, .ref (ad (gm κ) (stc si))), (1, .ref (ad (gm κ) 30)), (2, .ref (ad (gm κ) 77))] [] w := by
  unfold X8_hoursFor at h
  refine j_iconst (0 : Int32) dX8_hoursFor_0 ki_0 ?_
  refine j_istore_n [(3, .int (0 : Int32)), (0, .ref (ad (gm κ) (stc si))), (1, .ref (ad (gm κ) 30)), (2, .ref (ad (gm κ) 77))] dX8_hoursFor_1 rfl (by decide) rfl ?_
  refine j_lconst (0 : Int64) dX8_hoursFor_2 (by decide) ?_
  refine j_lstore [(4, .long (0 : Int64)), (3, .int (0 : Int32)), (0, .ref (ad (gm κ) (stc si))), (1, .ref (ad (gm κ) 30)), (2, .ref (ad (gm κ) 77))] dX8_hoursFor_3 (by decide) rfl ?_
  refine j_iconst (0 : Int32) dX8_hoursFor_5 ki_0 ?_
  refine j_istore [(6, .int (0 : Int32)), (4, .long (0 : Int64)), (3, .int (0 : Int32)), (0, .ref (ad (gm κ) (stc si))), (1, .ref (ad (gm κ) 30)), (2, .ref (ad (gm κ) 77))] dX8_hoursFor_6 (by decide) rfl ?_
  refine j_loc [(0, .ref (ad (gm κ) (stc si))), (1, .ref (ad (gm κ) 30)), (2, .ref (ad (gm κ) 77)), (3, .int (0 : Int32)), (4, .long (0 : Int64)), (6, .int (0 : Int32))] [3, 4, 5, 2, 1, 0] rfl ?_
  refine t_X8_hoursFor_b8 si hsi (fun e6 h => ?_) ((0 : Int32), (0 : Int64), (0 : Int32), w) (ok_bb h)
  · refine j_iload_n 0 dX8_hoursFor_97 rfl rfl ?_
    refine j_if_eq 117 dX8_hoursFor_98 (by decide) h (fun h => ?_) (fun h => ?_)
    · refine j_bipush (6 : Int32) dX8_hoursFor_117 kb_6 ?_
      have h := ok_s h
      exact j_iret dX8_hoursFor_119 rfl rfl h
    · refine j_lconst (0 : Int64) dX8_hoursFor_101 (by decide) ?_
      refine j_lload 1 dX8_hoursFor_102 rfl ?_
      refine j_ldc2 cl_RX8_97 dX8_hoursFor_104 ?_
      refine j_mnJ mt_RX8_99 (by decide) (Nat.le_of_ble_eq_true rfl) dX8_hoursFor_107 ?_
      refine j_mxJ mt_RX8_91 (by decide) (Nat.le_of_ble_eq_true rfl) dX8_hoursFor_110 ?_
      refine j_l2i dX8_hoursFor_113 ?_
      refine j_goto 119 dX8_hoursFor_114 (by decide) ?_
      have h := ok_s h
      exact j_iret dX8_hoursFor_119 rfl rfl h
theorem c_X8_hoursFor (l : Launch) (γ : Gm) (A : Nat → Prop) (si : Nat) (hsi : si < 4) (w : Wd) (q : Int32 × Wd) (e : X8_hoursFor si  w = some q) : MetG l γ A yX8_hoursFor cX8_hoursFor 10 (some .int) (rmk 2 50) [.ref (ad (γ) (stc si)), .ref (ad (γ) 30), .ref (ad (γ) 77)] w (some (.int q.1)) q.2 := by
  refine met_of pn_RX8 (Nat.le_of_ble_eq_true rfl) ?_
  intro κ hl hγ hA hρ
  subst hl; subst hγ; subst hA
  exact t_X8_hoursFor si hsi  w ⟨q, e, pIw hρ rfl rfl⟩
theorem dX9_isTray_0 : decode cX9_isTray 0 = .ok (.iload_n 0, 1) := by decide +kernel
theorem dX9_isTray_1 : decode cX9_isTray 1 = .ok (.iconst 0, 1) := by decide +kernel
theorem dX9_isTray_2 : decode cX9_isTray 2 = .ok (.iconst 3, 1) := by decide +kernel
theorem dX9_isTray_3 : decode cX9_isTray 3 = .ok (.invokestatic 28, 3) := by decide +kernel
theorem dX9_isTray_6 : decode cX9_isTray 6 = .ok (.ireturn, 1) := by decide +kernel
noncomputable def X9_isTrayO (a0 : Int32) (w : Wd) : Option (Int32) :=
some (X11_within a0 (0 : Int32) (3 : Int32) w)
set_option maxRecDepth 20000 in
set_option maxHeartbeats 1000000 in
theorem t_X9_isTray {κ : Kx} (a0 : Int32) (w : Wd) (h : ok (X9_isTrayO  a0 w) (PI κ w)) : J κ RX9 cX9_isTray 1 (some .boolean) (rmk 1 22) 0 [(0, .int a0)] [] w := by
  unfold X9_isTrayO at h
  refine j_iload_n 0 dX9_isTray_0 rfl rfl ?_
  refine j_iconst (0 : Int32) dX9_isTray_1 ki_0 ?_
  refine j_iconst (3 : Int32) dX9_isTray_2 ki_3 ?_
  refine j_callS (As := [.int a0, .int (0 : Int32), .int (3 : Int32)]) (st := []) [.int (X11_within a0 (0 : Int32) (3 : Int32) w)] (c_X11_within (kl κ) (gm κ) (kA κ) a0 (0 : Int32) (3 : Int32) w) ck_RX9_28 st_X11_within ⟨rfl, rfl⟩ ⟨by decide, by decide⟩ rfl rfl (Nat.le_of_ble_eq_true rfl) dX9_isTray_3 _ rfl ?_
  have h := ok_s h
  exact j_iret dX9_isTray_6 rfl (nz_X11_within _ _ _ _) h
noncomputable def X9_isTray (a0 : Int32) (w : Wd) : Int32 := (X9_isTrayO  a0 w).getD 0
theorem X9_isTray_eq (a0 : Int32) (w : Wd) : X9_isTrayO  a0 w = some (X9_isTray  a0 w) := by
  unfold X9_isTray X9_isTrayO
  repeat (first | rfl | split)
theorem nz_X9_isTray (a0 : Int32) (w : Wd) : narrow .boolean (.int (X9_isTray  a0 w)) = .int (X9_isTray  a0 w) := by
  unfold X9_isTray X9_isTrayO
  repeat (first | rfl | split | exact nz_X11_within _ _ _ _)
theorem c_X9_isTray (l : Launch) (γ : Gm) (A : Nat → Prop) (a0 : Int32) (w : Wd) : MetG l γ A yX9_isTray cX9_isTray 1 (some .boolean) (rmk 1 22) [.int a0] w (some (.int (X9_isTray  a0 w))) w := by
  refine met_of pn_RX9 (Nat.le_of_ble_eq_true rfl) ?_
  intro κ hl hγ hA hρ
  subst hl; subst hγ; subst hA
  exact t_X9_isTray   a0 w ⟨_, X9_isTray_eq  a0 w, pI hρ rfl rfl⟩
