theorem dX2_walk_0 : decode cX2_walk 0 = .ok (.aload_n 0, 1) := by decide +kernel
theorem dX2_walk_1 : decode cX2_walk 1 = .ok (.iload_n 1, 1) := by decide +kernel
theorem dX2_walk_2 : decode cX2_walk 2 = .ok (.aload_n 0, 1) := by decide +kernel
theorem dX2_walk_3 : decode cX2_walk 3 = .ok (.getfield 48, 3) := by decide +kernel
theorem dX2_walk_6 : decode cX2_walk 6 = .ok (.iload_n 2, 1) := by decide +kernel
theorem dX2_walk_7 : decode cX2_walk 7 = .ok (.iaload, 1) := by decide +kernel
theorem dX2_walk_8 : decode cX2_walk 8 = .ok (.invokevirtual 71, 3) := by decide +kernel
theorem dX2_walk_11 : decode cX2_walk 11 = .ok (.ifCond .eq 14, 3) := by decide +kernel
theorem dX2_walk_14 : decode cX2_walk 14 = .ok (.aload_n 0, 1) := by decide +kernel
theorem dX2_walk_15 : decode cX2_walk 15 = .ok (.getfield 27, 3) := by decide +kernel
theorem dX2_walk_18 : decode cX2_walk 18 = .ok (.iload_n 1, 1) := by decide +kernel
theorem dX2_walk_19 : decode cX2_walk 19 = .ok (.iaload, 1) := by decide +kernel
theorem dX2_walk_20 : decode cX2_walk 20 = .ok (.iconst 1, 1) := by decide +kernel
theorem dX2_walk_21 : decode cX2_walk 21 = .ok (.iadd, 1) := by decide +kernel
theorem dX2_walk_22 : decode cX2_walk 22 = .ok (.goto 9, 3) := by decide +kernel
theorem dX2_walk_25 : decode cX2_walk 25 = .ok (.aload_n 0, 1) := by decide +kernel
theorem dX2_walk_26 : decode cX2_walk 26 = .ok (.getfield 48, 3) := by decide +kernel
theorem dX2_walk_29 : decode cX2_walk 29 = .ok (.iload_n 2, 1) := by decide +kernel
theorem dX2_walk_30 : decode cX2_walk 30 = .ok (.iaload, 1) := by decide +kernel
theorem dX2_walk_31 : decode cX2_walk 31 = .ok (.istore 4, 2) := by decide +kernel
theorem dX2_walk_33 : decode cX2_walk 33 = .ok (.iload 4, 2) := by decide +kernel
theorem dX2_walk_35 : decode cX2_walk 35 = .ok (.aload_n 0, 1) := by decide +kernel
theorem dX2_walk_36 : decode cX2_walk 36 = .ok (.getfield 21, 3) := by decide +kernel
theorem dX2_walk_39 : decode cX2_walk 39 = .ok (.iload_n 1, 1) := by decide +kernel
theorem dX2_walk_40 : decode cX2_walk 40 = .ok (.iaload, 1) := by decide +kernel
theorem dX2_walk_41 : decode cX2_walk 41 = .ok (.iadd, 1) := by decide +kernel
theorem dX2_walk_42 : decode cX2_walk 42 = .ok (.istore 5, 2) := by decide +kernel
theorem dX2_walk_44 : decode cX2_walk 44 = .ok (.iload 5, 2) := by decide +kernel
theorem dX2_walk_46 : decode cX2_walk 46 = .ok (.bipush 60, 2) := by decide +kernel
theorem dX2_walk_48 : decode cX2_walk 48 = .ok (.if_icmp .ge 14, 3) := by decide +kernel
theorem dX2_walk_51 : decode cX2_walk 51 = .ok (.iload 5, 2) := by decide +kernel
theorem dX2_walk_53 : decode cX2_walk 53 = .ok (.aload_n 0, 1) := by decide +kernel
theorem dX2_walk_54 : decode cX2_walk 54 = .ok (.getfield 48, 3) := by decide +kernel
theorem dX2_walk_57 : decode cX2_walk 57 = .ok (.iload_n 3, 1) := by decide +kernel
theorem dX2_walk_58 : decode cX2_walk 58 = .ok (.iaload, 1) := by decide +kernel
theorem dX2_walk_59 : decode cX2_walk 59 = .ok (.if_icmp .lt 5, 3) := by decide +kernel
theorem dX2_walk_62 : decode cX2_walk 62 = .ok (.iconst 0, 1) := by decide +kernel
theorem dX2_walk_63 : decode cX2_walk 63 = .ok (.ireturn, 1) := by decide +kernel
theorem dX2_walk_64 : decode cX2_walk 64 = .ok (.aload_n 0, 1) := by decide +kernel
theorem dX2_walk_65 : decode cX2_walk 65 = .ok (.getfield 48, 3) := by decide +kernel
theorem dX2_walk_68 : decode cX2_walk 68 = .ok (.iload_n 3, 1) := by decide +kernel
theorem dX2_walk_69 : decode cX2_walk 69 = .ok (.iload 5, 2) := by decide +kernel
theorem dX2_walk_71 : decode cX2_walk 71 = .ok (.iastore, 1) := by decide +kernel
theorem dX2_walk_72 : decode cX2_walk 72 = .ok (.iconst 1, 1) := by decide +kernel
theorem dX2_walk_73 : decode cX2_walk 73 = .ok (.ireturn, 1) := by decide +kernel
noncomputable def X2_walk_j31 (a1 : Int32) (a3 : Int32) (s0 : Int32) (w : Wd) : Option (Int32 × Wd) :=
gd (vp_in a1 30) <|
(if (60 : Int32) ≤ (s0 + (w.1 9 (ix a1))) then
some ((0 : Int32), w)
else
gd (vp_in a3 16) <|
(if (s0 + (w.1 9 (ix a1))) < (w.1 18 (ix a3)) then
gd (vp_in a3 16) <|
(some (puI w 18 (ix a3) (s0 + (w.1 9 (ix a1))))).bind fun w3 =>
some ((1 : Int32), w3)
else
some ((0 : Int32), w)))
set_option maxRecDepth 20000 in
set_option maxHeartbeats 1000000 in
theorem t_X2_walk_j31 {κ : Kx} (a1 : Int32) (a3 : Int32) (s0 : Int32) (w : Wd) (h : ok (X2_walk_j31  a1 a3 s0 w) (PIw κ)) : J κ RX2 cX2_walk 6 (some .boolean) (rmk 1 22) 31 [(0, .ref (ad (gm κ) 5)), (1, .int a1), (3, .int a3)] [.int s0] w := by
  unfold X2_walk_j31 at h
  refine j_istore [(4, .int s0), (0, .ref (ad (gm κ) 5)), (1, .int a1), (3, .int a3)] dX2_walk_31 (by decide) rfl ?_
  refine j_iload 0 dX2_walk_33 rfl ?_
  refine j_aload_n 1 dX2_walk_35 rfl rfl ?_
  refine j_getA 9 fl_RX2_21 sh_5 fk_5_5 (by decide) dX2_walk_36 ?_
  refine j_iload_n 2 dX2_walk_39 rfl rfl ?_
  refine j_iald sh_9 dX2_walk_40 h (fun h => ?_)
  refine j_iadd dX2_walk_41 ?_
  refine j_istore [(5, .int (s0 + (w.1 9 (ix a1)))), (4, .int s0), (0, .ref (ad (gm κ) 5)), (1, .int a1), (3, .int a3)] dX2_walk_42 (by decide) rfl ?_
  refine j_iload 0 dX2_walk_44 rfl ?_
  refine j_bipush (60 : Int32) dX2_walk_46 kb_60 ?_
  refine j_ic_ge 62 dX2_walk_48 (by decide) h (fun h => ?_) (fun h => ?_)
  · refine j_iconst (0 : Int32) dX2_walk_62 ki_0 ?_
    have h := ok_s h
    exact j_iret dX2_walk_63 rfl (by decide) h
  · refine j_iload 0 dX2_walk_51 rfl ?_
    refine j_aload_n 2 dX2_walk_53 rfl rfl ?_
    refine j_getA 18 fl_RX2_48 sh_5 fk_5_17 (by decide) dX2_walk_54 ?_
    refine j_iload_n 4 dX2_walk_57 rfl rfl ?_
    refine j_iald sh_18 dX2_walk_58 h (fun h => ?_)
    refine j_ic_lt 64 dX2_walk_59 (by decide) h (fun h => ?_) (fun h => ?_)
    · refine j_aload_n 2 dX2_walk_64 rfl rfl ?_
      refine j_getA 18 fl_RX2_48 sh_5 fk_5_17 (by decide) dX2_walk_65 ?_
      refine j_iload_n 4 dX2_walk_68 rfl rfl ?_
      refine j_iload 0 dX2_walk_69 rfl ?_
      refine j_iast sh_18 dX2_walk_71 h (fun h => ?_)
      refine j_lW h (fun w3 h => ?_)
      refine j_iconst (1 : Int32) dX2_walk_72 ki_1 ?_
      have h := ok_s h
      exact j_iret dX2_walk_73 rfl (by decide) h
    · refine j_iconst (0 : Int32) dX2_walk_62 ki_0 ?_
      have h := ok_s h
      exact j_iret dX2_walk_63 rfl (by decide) h
noncomputable def X2_walk (a1 : Int32) (a2 : Int32) (a3 : Int32) (w : Wd) : Option (Int32 × Wd) :=
gd (vp_in a2 16) <|
(X2_isShut a1 (w.1 18 (ix a2)) w).bind fun q1 =>
(if q1 = 0 then
gd (vp_in a2 16) <|
X2_walk_j31 a1 a3 (w.1 18 (ix a2)) w
else
gd (vp_in a1 30) <|
X2_walk_j31 a1 a3 ((w.1 11 (ix a1)) + (1 : Int32)) w)
set_option maxRecDepth 20000 in
set_option maxHeartbeats 1000000 in
theorem t_X2_walk {κ : Kx} (a1 : Int32) (a2 : Int32) (a3 : Int32) (w : Wd) (h : ok (X2_walk  a1 a2 a3 w) (PIw κ)) : J κ RX2 cX2_walk 6 (some .boolean) (rmk 1 22) 0 [(0, .ref (ad (gm κ) 5)), (1, .int a1), (2, .int a2), (3, .int a3)] [] w := by
  unfold X2_walk at h
  refine j_aload_n 0 dX2_walk_0 rfl rfl ?_
  refine j_iload_n 1 dX2_walk_1 rfl rfl ?_
  refine j_aload_n 0 dX2_walk_2 rfl rfl ?_
  refine j_getA 18 fl_RX2_48 sh_5 fk_5_17 (by decide) dX2_walk_3 ?_
  refine j_iload_n 2 dX2_walk_6 rfl rfl ?_
  refine j_iald sh_18 dX2_walk_7 h (fun h => ?_)
  obtain ⟨q1, e2, h⟩ := ok_b h
  refine j_callV (As := [.int a1, .int (w.1 18 (ix a2))]) (st := []) [.int q1] (c_X2_isShut (kl κ) (gm κ) (kA κ) a1 (w.1 18 (ix a2)) w q1 e2) ck_RX2_71 im_X2_isShut se_X2_isShut sh_5 cx_2 ⟨rfl, rfl⟩ ⟨by decide, by decide⟩ rfl rfl (Nat.le_of_ble_eq_true rfl) dX2_walk_8 _ rfl ?_
  refine j_if_eq 25 dX2_walk_11 (by decide) h (fun h => ?_) (fun h => ?_)
  · refine j_aload_n 0 dX2_walk_25 rfl rfl ?_
    refine j_getA 18 fl_RX2_48 sh_5 fk_5_17 (by decide) dX2_walk_26 ?_
    refine j_iload_n 2 dX2_walk_29 rfl rfl ?_
    refine j_iald sh_18 dX2_walk_30 h (fun h => ?_)
    refine j_loc [(0, .ref (ad (gm κ) 5)), (1, .int a1), (3, .int a3)] [0, 1, 3] rfl ?_
    exact t_X2_walk_j31 a1 a3 (w.1 18 (ix a2)) w h
  · refine j_aload_n 0 dX2_walk_14 rfl rfl ?_
    refine j_getA 11 fl_RX2_27 sh_5 fk_5_7 (by decide) dX2_walk_15 ?_
    refine j_iload_n 1 dX2_walk_18 rfl rfl ?_
    refine j_iald sh_11 dX2_walk_19 h (fun h => ?_)
    refine j_iconst (1 : Int32) dX2_walk_20 ki_1 ?_
    refine j_iadd dX2_walk_21 ?_
    refine j_goto 31 dX2_walk_22 (by decide) ?_
    refine j_loc [(0, .ref (ad (gm κ) 5)), (1, .int a1), (3, .int a3)] [0, 1, 3] rfl ?_
    exact t_X2_walk_j31 a1 a3 ((w.1 11 (ix a1)) + (1 : Int32)) w h
theorem c_X2_walk (l : Launch) (γ : Gm) (A : Nat → Prop) (a1 : Int32) (a2 : Int32) (a3 : Int32) (w : Wd) (q : Int32 × Wd) (e : X2_walk  a1 a2 a3 w = some q) : MetG l γ A yX2_walk cX2_walk 6 (some .boolean) (rmk 1 22) [.ref (ad (γ) 5), .int a1, .int a2, .int a3] w (some (.int q.1)) q.2 := by
  refine met_of pn_RX2 (Nat.le_of_ble_eq_true rfl) ?_
  intro κ hl hγ hA hρ
  subst hl; subst hγ; subst hA
  exact t_X2_walk   a1 a2 a3 w ⟨q, e, pIw hρ rfl rfl⟩
theorem dX2_travel_0 : decode cX2_travel 0 = .ok (.aload_n 0, 1) := by decide +kernel
theorem dX2_travel_1 : decode cX2_travel 1 = .ok (.getfield 48, 3) := by decide +kernel
theorem dX2_travel_4 : decode cX2_travel 4 = .ok (.bipush 60, 2) := by decide +kernel
theorem dX2_travel_6 : decode cX2_travel 6 = .ok (.invokestatic 75, 3) := by decide +kernel
theorem dX2_travel_9 : decode cX2_travel 9 = .ok (.aload_n 0, 1) := by decide +kernel
theorem dX2_travel_10 : decode cX2_travel 10 = .ok (.getfield 48, 3) := by decide +kernel
theorem dX2_travel_13 : decode cX2_travel 13 = .ok (.iload_n 1, 1) := by decide +kernel
theorem dX2_travel_14 : decode cX2_travel 14 = .ok (.iload_n 2, 1) := by decide +kernel
theorem dX2_travel_15 : decode cX2_travel 15 = .ok (.iastore, 1) := by decide +kernel
theorem dX2_travel_16 : decode cX2_travel 16 = .ok (.iconst 1, 1) := by decide +kernel
theorem dX2_travel_17 : decode cX2_travel 17 = .ok (.istore_n 3, 1) := by decide +kernel
theorem dX2_travel_18 : decode cX2_travel 18 = .ok (.iconst 0, 1) := by decide +kernel
theorem dX2_travel_19 : decode cX2_travel 19 = .ok (.istore 4, 2) := by decide +kernel
theorem dX2_travel_21 : decode cX2_travel 21 = .ok (.iload 4, 2) := by decide +kernel
theorem dX2_travel_23 : decode cX2_travel 23 = .ok (.bipush 16, 2) := by decide +kernel
theorem dX2_travel_25 : decode cX2_travel 25 = .ok (.if_icmp .ge 79, 3) := by decide +kernel
theorem dX2_travel_28 : decode cX2_travel 28 = .ok (.iload_n 3, 1) := by decide +kernel
theorem dX2_travel_29 : decode cX2_travel 29 = .ok (.ifCond .eq 75, 3) := by decide +kernel
theorem dX2_travel_32 : decode cX2_travel 32 = .ok (.iconst 0, 1) := by decide +kernel
theorem dX2_travel_33 : decode cX2_travel 33 = .ok (.istore_n 3, 1) := by decide +kernel
theorem dX2_travel_34 : decode cX2_travel 34 = .ok (.iconst 0, 1) := by decide +kernel
theorem dX2_travel_35 : decode cX2_travel 35 = .ok (.istore 5, 2) := by decide +kernel
theorem dX2_travel_37 : decode cX2_travel 37 = .ok (.iload 5, 2) := by decide +kernel
theorem dX2_travel_39 : decode cX2_travel 39 = .ok (.aload_n 0, 1) := by decide +kernel
theorem dX2_travel_40 : decode cX2_travel 40 = .ok (.getfield 68, 3) := by decide +kernel
theorem dX2_travel_43 : decode cX2_travel 43 = .ok (.if_icmp .ge 55, 3) := by decide +kernel
theorem dX2_travel_46 : decode cX2_travel 46 = .ok (.iload_n 3, 1) := by decide +kernel
theorem dX2_travel_47 : decode cX2_travel 47 = .ok (.aload_n 0, 1) := by decide +kernel
theorem dX2_travel_48 : decode cX2_travel 48 = .ok (.iload 5, 2) := by decide +kernel
theorem dX2_travel_50 : decode cX2_travel 50 = .ok (.aload_n 0, 1) := by decide +kernel
theorem dX2_travel_51 : decode cX2_travel 51 = .ok (.getfield 15, 3) := by decide +kernel
theorem dX2_travel_54 : decode cX2_travel 54 = .ok (.iload 5, 2) := by decide +kernel
theorem dX2_travel_56 : decode cX2_travel 56 = .ok (.iaload, 1) := by decide +kernel
theorem dX2_travel_57 : decode cX2_travel 57 = .ok (.aload_n 0, 1) := by decide +kernel
theorem dX2_travel_58 : decode cX2_travel 58 = .ok (.getfield 18, 3) := by decide +kernel
theorem dX2_travel_61 : decode cX2_travel 61 = .ok (.iload 5, 2) := by decide +kernel
theorem dX2_travel_63 : decode cX2_travel 63 = .ok (.iaload, 1) := by decide +kernel
theorem dX2_travel_64 : decode cX2_travel 64 = .ok (.invokevirtual 81, 3) := by decide +kernel
theorem dX2_travel_67 : decode cX2_travel 67 = .ok (.ior, 1) := by decide +kernel
theorem dX2_travel_68 : decode cX2_travel 68 = .ok (.istore_n 3, 1) := by decide +kernel
theorem dX2_travel_69 : decode cX2_travel 69 = .ok (.iload_n 3, 1) := by decide +kernel
theorem dX2_travel_70 : decode cX2_travel 70 = .ok (.aload_n 0, 1) := by decide +kernel
theorem dX2_travel_71 : decode cX2_travel 71 = .ok (.iload 5, 2) := by decide +kernel
theorem dX2_travel_73 : decode cX2_travel 73 = .ok (.aload_n 0, 1) := by decide +kernel
theorem dX2_travel_74 : decode cX2_travel 74 = .ok (.getfield 18, 3) := by decide +kernel
theorem dX2_travel_77 : decode cX2_travel 77 = .ok (.iload 5, 2) := by decide +kernel
theorem dX2_travel_79 : decode cX2_travel 79 = .ok (.iaload, 1) := by decide +kernel
theorem dX2_travel_80 : decode cX2_travel 80 = .ok (.aload_n 0, 1) := by decide +kernel
theorem dX2_travel_81 : decode cX2_travel 81 = .ok (.getfield 15, 3) := by decide +kernel
theorem dX2_travel_84 : decode cX2_travel 84 = .ok (.iload 5, 2) := by decide +kernel
theorem dX2_travel_86 : decode cX2_travel 86 = .ok (.iaload, 1) := by decide +kernel
theorem dX2_travel_87 : decode cX2_travel 87 = .ok (.invokevirtual 81, 3) := by decide +kernel
theorem dX2_travel_90 : decode cX2_travel 90 = .ok (.ior, 1) := by decide +kernel
theorem dX2_travel_91 : decode cX2_travel 91 = .ok (.istore_n 3, 1) := by decide +kernel
theorem dX2_travel_92 : decode cX2_travel 92 = .ok (.iinc 5 1, 3) := by decide +kernel
theorem dX2_travel_95 : decode cX2_travel 95 = .ok (.goto (-58), 3) := by decide +kernel
theorem dX2_travel_98 : decode cX2_travel 98 = .ok (.iinc 4 1, 3) := by decide +kernel
theorem dX2_travel_101 : decode cX2_travel 101 = .ok (.goto (-80), 3) := by decide +kernel
theorem dX2_travel_104 : decode cX2_travel 104 = .ok (.return_, 1) := by decide +kernel
noncomputable def X2_travel_b37 (a4 : Int32) (s : (Int32 × Int32 × Wd)) : Option ((Int32 × Int32 × Wd) ⊕ (Int32 × Wd)) :=
(if (s.2.2.1 5 2) ≤ s.2.1 then
some (.inr (s.1, s.2.2))
else
gd (vp_in s.2.1 30) <|
gd (vp_in s.2.1 30) <|
(X2_walk s.2.1 (s.2.2.1 7 (ix s.2.1)) (s.2.2.1 8 (ix s.2.1)) s.2.2).bind fun q4 =>
gd (vp_in s.2.1 30) <|
gd (vp_in s.2.1 30) <|
(X2_walk s.2.1 (q4.2.1 8 (ix s.2.1)) (q4.2.1 7 (ix s.2.1)) q4.2).bind fun q6 =>
(some ((s.1 ||| q4.1) ||| q6.1)).bind fun z8 =>
some (.inl (z8, (s.2.1 + (1 : Int32)), q6.2)))
set_option maxRecDepth 20000 in
set_option maxHeartbeats 1000000 in
theorem t_X2_travel_b37 {κ : Kx} (a4 : Int32) {P : (Int32 × Wd) → Prop} (K0 : ∀ e, P e → J κ RX2 cX2_travel 6 none (rmk 2 47) 98 [(0, .ref (ad (gm κ) 5)), (3, .int e.1), (4, .int a4)] [] e.2) (s : (Int32 × Int32 × Wd)) (h : ok (lp (X2_travel_b37  a4) s) P) : J κ RX2 cX2_travel 6 none (rmk 2 47) 37 [(0, .ref (ad (gm κ) 5)), (3, .int s.1), (4, .int a4), (5, .int s.2.1)] [] s.2.2 := by
  refine lp_ind (fun s => J κ RX2 cX2_travel 6 none (rmk 2 47) 37 [(0, .ref (ad (gm κ) 5)), (3, .int s.1), (4, .int a4), (5, .int s.2.1)] [] s.2.2) (fun s h => ?_) s h
  unfold X2_travel_b37 at h
  refine j_iload 3 dX2_travel_37 rfl ?_
  refine j_aload_n 0 dX2_travel_39 rfl rfl ?_
  refine j_getI fl_RX2_68 sh_5 fk_5_2 dX2_travel_40 ?_
  refine j_ic_ge 98 dX2_travel_43 (by decide) h (fun h => ?_) (fun h => ?_)
  · refine j_loc [(0, .ref (ad (gm κ) 5)), (3, .int s.1), (4, .int a4)] [0, 1, 2] rfl ?_
    have h := sel_r h
    have h := K0 _ h
    exact h
  · refine j_iload_n 1 dX2_travel_46 rfl rfl ?_
    refine j_aload_n 0 dX2_travel_47 rfl rfl ?_
    refine j_iload 3 dX2_travel_48 rfl ?_
    refine j_aload_n 0 dX2_travel_50 rfl rfl ?_
    refine j_getA 7 fl_RX2_15 sh_5 fk_5_3 (by decide) dX2_travel_51 ?_
    refine j_iload 3 dX2_travel_54 rfl ?_
    refine j_iald sh_7 dX2_travel_56 h (fun h => ?_)
    refine j_aload_n 0 dX2_travel_57 rfl rfl ?_
    refine j_getA 8 fl_RX2_18 sh_5 fk_5_4 (by decide) dX2_travel_58 ?_
    refine j_iload 3 dX2_travel_61 rfl ?_
    refine j_iald sh_8 dX2_travel_63 h (fun h => ?_)
    obtain ⟨q4, e5, h⟩ := ok_b h
    refine j_callV (As := [.int s.2.1, .int (s.2.2.1 7 (ix s.2.1)), .int (s.2.2.1 8 (ix s.2.1))]) (st := [.int s.1]) [.int q4.1, .int s.1] (c_X2_walk (kl κ) (gm κ) (kA κ) s.2.1 (s.2.2.1 7 (ix s.2.1)) (s.2.2.1 8 (ix s.2.1)) s.2.2 q4 e5) ck_RX2_81 im_X2_walk se_X2_walk sh_5 cx_2 ⟨rfl, rfl⟩ ⟨by decide, by decide⟩ rfl rfl (Nat.le_of_ble_eq_true rfl) dX2_travel_64 _ rfl ?_
    refine j_ior dX2_travel_67 ?_
    refine j_istore_n [(3, .int (s.1 ||| q4.1)), (0, .ref (ad (gm κ) 5)), (4, .int a4), (5, .int s.2.1)] dX2_travel_68 rfl (by decide) rfl ?_
    refine j_iload_n 0 dX2_travel_69 rfl rfl ?_
    refine j_aload_n 1 dX2_travel_70 rfl rfl ?_
    refine j_iload 3 dX2_travel_71 rfl ?_
    refine j_aload_n 1 dX2_travel_73 rfl rfl ?_
    refine j_getA 8 fl_RX2_18 sh_5 fk_5_4 (by decide) dX2_travel_74 ?_
    refine j_iload 3 dX2_travel_77 rfl ?_
    refine j_iald sh_8 dX2_travel_79 h (fun h => ?_)
    refine j_aload_n 1 dX2_travel_80 rfl rfl ?_
    refine j_getA 7 fl_RX2_15 sh_5 fk_5_3 (by decide) dX2_travel_81 ?_
    refine j_iload 3 dX2_travel_84 rfl ?_
    refine j_iald sh_7 dX2_travel_86 h (fun h => ?_)
    obtain ⟨q6, e7, h⟩ := ok_b h
    refine j_callV (As := [.int s.2.1, .int (q4.2.1 8 (ix s.2.1)), .int (q4.2.1 7 (ix s.2.1))]) (st := [.int (s.1 ||| q4.1)]) [.int q6.1, .int (s.1 ||| q4.1)] (c_X2_walk (kl κ) (gm κ) (kA κ) s.2.1 (q4.2.1 8 (ix s.2.1)) (q4.2.1 7 (ix s.2.1)) q4.2 q6 e7) ck_RX2_81 im_X2_walk se_X2_walk sh_5 cx_2 ⟨rfl, rfl⟩ ⟨by decide, by decide⟩ rfl rfl (Nat.le_of_ble_eq_true rfl) dX2_travel_87 _ rfl ?_
    refine j_ior dX2_travel_90 ?_
    refine j_lI h (fun z8 h => ?_)
    refine j_istore_n [(3, .int z8), (0, .ref (ad (gm κ) 5)), (4, .int a4), (5, .int s.2.1)] dX2_travel_91 rfl (by decide) rfl ?_
    refine j_iinc (s.2.1 + (1 : Int32)) 3 [(5, .int (s.2.1 + (1 : Int32))), (3, .int z8), (0, .ref (ad (gm κ) 5)), (4, .int a4)] dX2_travel_92 rfl (by rw [kn_1]) (by decide) rfl ?_
    refine j_goto 37 dX2_travel_95 (by decide) ?_
    refine j_loc [(0, .ref (ad (gm κ) 5)), (3, .int z8), (4, .int a4), (5, .int (s.2.1 + (1 : Int32)))] [2, 1, 3, 0] rfl ?_
    have h := sel_l h
    exact h
noncomputable def X2_travel_b21 (s : (Int32 × Int32 × Wd)) : Option ((Int32 × Int32 × Wd) ⊕ Wd) :=
(if (16 : Int32) ≤ s.2.1 then
some (.inr s.2.2)
else
(if s.1 = 0 then
some (.inr s.2.2)
else
(lp (X2_travel_b37 s.2.1) ((0 : Int32), (0 : Int32), s.2.2)).bind fun e9 =>
some (.inl (e9.1, (s.2.1 + (1 : Int32)), e9.2))))
set_option maxRecDepth 20000 in
set_option maxHeartbeats 1000000 in
theorem t_X2_travel_b21 {κ : Kx} {P : Wd → Prop} (K0 : ∀ e, P e → J κ RX2 cX2_travel 6 none (rmk 2 47) 104 [] [] e) (s : (Int32 × Int32 × Wd)) (h : ok (lp (X2_travel_b21  ) s) P) : J κ RX2 cX2_travel 6 none (rmk 2 47) 21 [(0, .ref (ad (gm κ) 5)), (3, .int s.1), (4, .int s.2.1)] [] s.2.2 := by
  refine lp_ind (fun s => J κ RX2 cX2_travel 6 none (rmk 2 47) 21 [(0, .ref (ad (gm κ) 5)), (3, .int s.1), (4, .int s.2.1)] [] s.2.2) (fun s h => ?_) s h
  unfold X2_travel_b21 at h
  refine j_iload 2 dX2_travel_21 rfl ?_
  refine j_bipush (16 : Int32) dX2_travel_23 kb_16 ?_
  refine j_ic_ge 104 dX2_travel_25 (by decide) h (fun h => ?_) (fun h => ?_)
  · refine j_loc [] [] rfl ?_
    have h := sel_r h
    have h := K0 _ h
    exact h
  · refine j_iload_n 1 dX2_travel_28 rfl rfl ?_
    refine j_if_eq 104 dX2_travel_29 (by decide) h (fun h => ?_) (fun h => ?_)
    · refine j_loc [] [] rfl ?_
      have h := sel_r h
      have h := K0 _ h
      exact h
    · refine j_iconst (0 : Int32) dX2_travel_32 ki_0 ?_
      refine j_istore_n [(3, .int (0 : Int32)), (0, .ref (ad (gm κ) 5)), (4, .int s.2.1)] dX2_travel_33 rfl (by decide) rfl ?_
      refine j_iconst (0 : Int32) dX2_travel_34 ki_0 ?_
      refine j_istore [(5, .int (0 : Int32)), (3, .int (0 : Int32)), (0, .ref (ad (gm κ) 5)), (4, .int s.2.1)] dX2_travel_35 (by decide) rfl ?_
      refine j_loc [(0, .ref (ad (gm κ) 5)), (3, .int (0 : Int32)), (4, .int s.2.1), (5, .int (0 : Int32))] [2, 1, 3, 0] rfl ?_
      refine t_X2_travel_b37 s.2.1 (fun e9 h => ?_) ((0 : Int32), (0 : Int32), s.2.2) (ok_bb h)
      · refine j_iinc (s.2.1 + (1 : Int32)) 2 [(4, .int (s.2.1 + (1 : Int32))), (0, .ref (ad (gm κ) 5)), (3, .int e9.1)] dX2_travel_98 rfl (by rw [kn_1]) (by decide) rfl ?_
        refine j_goto 21 dX2_travel_101 (by decide) ?_
        refine j_loc [(0, .ref (ad (gm κ) 5)), (3, .int e9.1), (4, .int (s.2.1 + (1 : Int32)))] [1, 2, 0] rfl ?_
        have h := sel_l h
        exact h
noncomputable def X2_travel (a1 : Int32) (a2 : Int32) (w : Wd) : Option (Wd) :=
(J7_fill_53178 18 16 (60 : Int32) w).bind fun q1 =>
gd (vp_in a1 16) <|
(some (puI q1 18 (ix a1) a2)).bind fun w3 =>
(lp (X2_travel_b21 ) ((1 : Int32), (0 : Int32), w3)).bind fun e10 =>
some e10
set_option maxRecDepth 20000 in
set_option maxHeartbeats 1000000 in
theorem t_X2_travel {κ : Kx} (a1 : Int32) (a2 : Int32) (w : Wd) (h : ok (X2_travel  a1 a2 w) (PVw κ)) : J κ RX2 cX2_travel 6 none (rmk 2 47) 0 [(0, .ref (ad (gm κ) 5)), (1, .int a1), (2, .int a2)] [] w := by
  unfold X2_travel at h
  refine j_aload_n 0 dX2_travel_0 rfl rfl ?_
  refine j_getA 18 fl_RX2_48 sh_5 fk_5_17 (by decide) dX2_travel_1 ?_
  refine j_bipush (60 : Int32) dX2_travel_4 kb_60 ?_
  obtain ⟨q1, e2, h⟩ := ok_b h
  refine j_callS (As := [.ref (ad (gm κ) 18), .int (60 : Int32)]) (st := []) [] (c_J7_fill_53178 (kl κ) (gm κ) (kA κ) 18 16 sh_18 (60 : Int32) w q1 e2) ck_RX2_75 st_J7_fill_53178 ⟨rfl, rfl⟩ ⟨by decide, by decide⟩ rfl rfl (Nat.le_of_ble_eq_true rfl) dX2_travel_6 _ rfl ?_
  refine j_aload_n 0 dX2_travel_9 rfl rfl ?_
  refine j_getA 18 fl_RX2_48 sh_5 fk_5_17 (by decide) dX2_travel_10 ?_
  refine j_iload_n 1 dX2_travel_13 rfl rfl ?_
  refine j_iload_n 2 dX2_travel_14 rfl rfl ?_
  refine j_iast sh_18 dX2_travel_15 h (fun h => ?_)
  refine j_lW h (fun w3 h => ?_)
  refine j_iconst (1 : Int32) dX2_travel_16 ki_1 ?_
  refine j_istore_n [(3, .int (1 : Int32)), (0, .ref (ad (gm κ) 5)), (1, .int a1), (2, .int a2)] dX2_travel_17 rfl (by decide) rfl ?_
  refine j_iconst (0 : Int32) dX2_travel_18 ki_0 ?_
  refine j_istore [(4, .int (0 : Int32)), (3, .int (1 : Int32)), (0, .ref (ad (gm κ) 5)), (1, .int a1), (2, .int a2)] dX2_travel_19 (by decide) rfl ?_
  refine j_loc [(0, .ref (ad (gm κ) 5)), (3, .int (1 : Int32)), (4, .int (0 : Int32))] [2, 1, 0] rfl ?_
  refine t_X2_travel_b21  (fun e10 h => ?_) ((1 : Int32), (0 : Int32), w3) (ok_bb h)
  · have h := ok_s h
    exact j_vret dX2_travel_104 rfl h
theorem c_X2_travel (l : Launch) (γ : Gm) (A : Nat → Prop) (a1 : Int32) (a2 : Int32) (w : Wd) (q : Wd) (e : X2_travel  a1 a2 w = some q) : MetG l γ A yX2_travel cX2_travel 6 none (rmk 2 47) [.ref (ad (γ) 5), .int a1, .int a2] w none q := by
  refine met_of pn_RX2 (Nat.le_of_ble_eq_true rfl) ?_
  intro κ hl hγ hA hρ
  subst hl; subst hγ; subst hA
  exact t_X2_travel   a1 a2 w ⟨q, e, pVw hρ rfl rfl⟩
theorem dX2_reached_0 : decode cX2_reached 0 = .ok (.aload_n 0, 1) := by decide +kernel
theorem dX2_reached_1 : decode cX2_reached 1 = .ok (.getfield 48, 3) := by decide +kernel
theorem dX2_reached_4 : decode cX2_reached 4 = .ok (.iload_n 1, 1) := by decide +kernel
theorem dX2_reached_5 : decode cX2_reached 5 = .ok (.iaload, 1) := by decide +kernel
theorem dX2_reached_6 : decode cX2_reached 6 = .ok (.bipush 60, 2) := by decide +kernel
theorem dX2_reached_8 : decode cX2_reached 8 = .ok (.if_icmp .ge 12, 3) := by decide +kernel
theorem dX2_reached_11 : decode cX2_reached 11 = .ok (.aload_n 0, 1) := by decide +kernel
theorem dX2_reached_12 : decode cX2_reached 12 = .ok (.getfield 48, 3) := by decide +kernel
theorem dX2_reached_15 : decode cX2_reached 15 = .ok (.iload_n 1, 1) := by decide +kernel
theorem dX2_reached_16 : decode cX2_reached 16 = .ok (.iaload, 1) := by decide +kernel
theorem dX2_reached_17 : decode cX2_reached 17 = .ok (.goto 4, 3) := by decide +kernel
theorem dX2_reached_20 : decode cX2_reached 20 = .ok (.iconst (-1), 1) := by decide +kernel
theorem dX2_reached_21 : decode cX2_reached 21 = .ok (.ireturn, 1) := by decide +kernel
noncomputable def X2_reached (a1 : Int32) (w : Wd) : Option (Int32) :=
gd (vp_in a1 16) <|
(if (60 : Int32) ≤ (w.1 18 (ix a1)) then
some (-1 : Int32)
else
gd (vp_in a1 16) <|
some (w.1 18 (ix a1)))
set_option maxRecDepth 20000 in
set_option maxHeartbeats 1000000 in
theorem t_X2_reached {κ : Kx} (a1 : Int32) (w : Wd) (h : ok (X2_reached  a1 w) (PI κ w)) : J κ RX2 cX2_reached 2 (some .int) (rmk 0 0) 0 [(0, .ref (ad (gm κ) 5)), (1, .int a1)] [] w := by
  unfold X2_reached at h
  refine j_aload_n 0 dX2_reached_0 rfl rfl ?_
  refine j_getA 18 fl_RX2_48 sh_5 fk_5_17 (by decide) dX2_reached_1 ?_
  refine j_iload_n 1 dX2_reached_4 rfl rfl ?_
  refine j_iald sh_18 dX2_reached_5 h (fun h => ?_)
  refine j_bipush (60 : Int32) dX2_reached_6 kb_60 ?_
  refine j_ic_ge 20 dX2_reached_8 (by decide) h (fun h => ?_) (fun h => ?_)
  · refine j_iconst (-1 : Int32) dX2_reached_20 ki_m1 ?_
    have h := ok_s h
    exact j_iret dX2_reached_21 rfl rfl h
  · refine j_aload_n 0 dX2_reached_11 rfl rfl ?_
    refine j_getA 18 fl_RX2_48 sh_5 fk_5_17 (by decide) dX2_reached_12 ?_
    refine j_iload_n 1 dX2_reached_15 rfl rfl ?_
    refine j_iald sh_18 dX2_reached_16 h (fun h => ?_)
    refine j_goto 21 dX2_reached_17 (by decide) ?_
    have h := ok_s h
    exact j_iret dX2_reached_21 rfl rfl h
theorem c_X2_reached (l : Launch) (γ : Gm) (A : Nat → Prop) (a1 : Int32) (w : Wd) (q : Int32) (e : X2_reached  a1 w = some q) : MetG l γ A yX2_reached cX2_reached 2 (some .int) (rmk 0 0) [.ref (ad (γ) 5), .int a1] w (some (.int q)) w := by
  refine met_of pn_RX2 (Nat.le_of_ble_eq_true rfl) ?_
  intro κ hl hγ hA hρ
  subst hl; subst hγ; subst hA
  exact t_X2_reached   a1 w ⟨q, e, pI hρ rfl rfl⟩
theorem dX3_set_0 : decode cX3_set 0 = .ok (.aload_n 0, 1) := by decide +kernel
theorem dX3_set_1 : decode cX3_set 1 = .ok (.getfield 9, 3) := by decide +kernel
theorem dX3_set_4 : decode cX3_set 4 = .ok (.iload_n 1, 1) := by decide +kernel
theorem dX3_set_5 : decode cX3_set 5 = .ok (.iload_n 2, 1) := by decide +kernel
theorem dX3_set_6 : decode cX3_set 6 = .ok (.iastore, 1) := by decide +kernel
theorem dX3_set_7 : decode cX3_set 7 = .ok (.aload_n 0, 1) := by decide +kernel
theorem dX3_set_8 : decode cX3_set 8 = .ok (.getfield 15, 3) := by decide +kernel
theorem dX3_set_11 : decode cX3_set 11 = .ok (.iload_n 1, 1) := by decide +kernel
theorem dX3_set_12 : decode cX3_set 12 = .ok (.iload_n 3, 1) := by decide +kernel
theorem dX3_set_13 : decode cX3_set 13 = .ok (.iastore, 1) := by decide +kernel
theorem dX3_set_14 : decode cX3_set 14 = .ok (.aload_n 0, 1) := by decide +kernel
theorem dX3_set_15 : decode cX3_set 15 = .ok (.getfield 18, 3) := by decide +kernel
theorem dX3_set_18 : decode cX3_set 18 = .ok (.iload_n 1, 1) := by decide +kernel
theorem dX3_set_19 : decode cX3_set 19 = .ok (.iload 4, 2) := by decide +kernel
theorem dX3_set_21 : decode cX3_set 21 = .ok (.iastore, 1) := by decide +kernel
theorem dX3_set_22 : decode cX3_set 22 = .ok (.return_, 1) := by decide +kernel
noncomputable def X3_set (a1 : Int32) (a2 : Int32) (a3 : Int32) (a4 : Int32) (w : Wd) : Option (Wd) :=
gd (vp_in a1 15) <|
(some (puI w 70 (ix a1) a2)).bind fun w1 =>
gd (vp_in a1 15) <|
(some (puI w1 71 (ix a1) a3)).bind fun w2 =>
gd (vp_in a1 15) <|
(some (puI w2 72 (ix a1) a4)).bind fun w3 =>
some w3
set_option maxRecDepth 20000 in
set_option maxHeartbeats 1000000 in
theorem t_X3_set {κ : Kx} (a1 : Int32) (a2 : Int32) (a3 : Int32) (a4 : Int32) (w : Wd) (h : ok (X3_set  a1 a2 a3 a4 w) (PVw κ)) : J κ RX3 cX3_set 5 none (rmk 0 0) 0 [(0, .ref (ad (gm κ) 69)), (1, .int a1), (2, .int a2), (3, .int a3), (4, .int a4)] [] w := by
  unfold X3_set at h
  refine j_aload_n 0 dX3_set_0 rfl rfl ?_
  refine j_getA 70 fl_RX3_9 sh_69 fk_69_0 (by decide) dX3_set_1 ?_
  refine j_iload_n 1 dX3_set_4 rfl rfl ?_
  refine j_iload_n 2 dX3_set_5 rfl rfl ?_
  refine j_iast sh_70 dX3_set_6 h (fun h => ?_)
  refine j_lW h (fun w1 h => ?_)
  refine j_aload_n 0 dX3_set_7 rfl rfl ?_
  refine j_getA 71 fl_RX3_15 sh_69 fk_69_1 (by decide) dX3_set_8 ?_
  refine j_iload_n 1 dX3_set_11 rfl rfl ?_
  refine j_iload_n 3 dX3_set_12 rfl rfl ?_
  refine j_iast sh_71 dX3_set_13 h (fun h => ?_)
  refine j_lW h (fun w2 h => ?_)
  refine j_aload_n 0 dX3_set_14 rfl rfl ?_
  refine j_getA 72 fl_RX3_18 sh_69 fk_69_2 (by decide) dX3_set_15 ?_
  refine j_iload_n 1 dX3_set_18 rfl rfl ?_
  refine j_iload 4 dX3_set_19 rfl ?_
  refine j_iast sh_72 dX3_set_21 h (fun h => ?_)
  refine j_lW h (fun w3 h => ?_)
  have h := ok_s h
  exact j_vret dX3_set_22 rfl h
theorem c_X3_set (l : Launch) (γ : Gm) (A : Nat → Prop) (a1 : Int32) (a2 : Int32) (a3 : Int32) (a4 : Int32) (w : Wd) (q : Wd) (e : X3_set  a1 a2 a3 a4 w = some q) : MetG l γ A yX3_set cX3_set 5 none (rmk 0 0) [.ref (ad (γ) 69), .int a1, .int a2, .int a3, .int a4] w none q := by
  refine met_of pn_RX3 (Nat.le_of_ble_eq_true rfl) ?_
  intro κ hl hγ hA hρ
  subst hl; subst hγ; subst hA
  exact t_X3_set   a1 a2 a3 a4 w ⟨q, e, pVw hρ rfl rfl⟩
theorem dX3_firstFor_0 : decode cX3_firstFor 0 = .ok (.iconst 0, 1) := by decide +kernel
theorem dX3_firstFor_1 : decode cX3_firstFor 1 = .ok (.istore_n 2, 1) := by decide +kernel
theorem dX3_firstFor_2 : decode cX3_firstFor 2 = .ok (.iload_n 2, 1) := by decide +kernel
theorem dX3_firstFor_3 : decode cX3_firstFor 3 = .ok (.bipush 15, 2) := by decide +kernel
theorem dX3_firstFor_5 : decode cX3_firstFor 5 = .ok (.if_icmp .ge 24, 3) := by decide +kernel
theorem dX3_firstFor_8 : decode cX3_firstFor 8 = .ok (.aload_n 0, 1) := by decide +kernel
theorem dX3_firstFor_9 : decode cX3_firstFor 9 = .ok (.getfield 18, 3) := by decide +kernel
theorem dX3_firstFor_12 : decode cX3_firstFor 12 = .ok (.iload_n 2, 1) := by decide +kernel
theorem dX3_firstFor_13 : decode cX3_firstFor 13 = .ok (.iaload, 1) := by decide +kernel
theorem dX3_firstFor_14 : decode cX3_firstFor 14 = .ok (.iload_n 1, 1) := by decide +kernel
theorem dX3_firstFor_15 : decode cX3_firstFor 15 = .ok (.ishr, 1) := by decide +kernel
theorem dX3_firstFor_16 : decode cX3_firstFor 16 = .ok (.iconst 1, 1) := by decide +kernel
theorem dX3_firstFor_17 : decode cX3_firstFor 17 = .ok (.iand, 1) := by decide +kernel
theorem dX3_firstFor_18 : decode cX3_firstFor 18 = .ok (.ifCond .eq 5, 3) := by decide +kernel
theorem dX3_firstFor_21 : decode cX3_firstFor 21 = .ok (.iload_n 2, 1) := by decide +kernel
theorem dX3_firstFor_22 : decode cX3_firstFor 22 = .ok (.ireturn, 1) := by decide +kernel
theorem dX3_firstFor_23 : decode cX3_firstFor 23 = .ok (.iinc 2 1, 3) := by decide +kernel
theorem dX3_firstFor_26 : decode cX3_firstFor 26 = .ok (.goto (-24), 3) := by decide +kernel
theorem dX3_firstFor_29 : decode cX3_firstFor 29 = .ok (.iconst (-1), 1) := by decide +kernel
theorem dX3_firstFor_30 : decode cX3_firstFor 30 = .ok (.ireturn, 1) := by decide +kernel
noncomputable def X3_firstFor_b2 (a1 : Int32) (w : Wd) (s : Int32) : Option (Int32 ⊕ (Int32 ⊕ Unit)) :=
(if (15 : Int32) ≤ s then
some (.inr (.inr ()))
else
gd (vp_in s 15) <|
(if (((w.1 72 (ix s)) >>> (a1 &&& 31)) &&& (1 : Int32)) = 0 then
some (.inl (s + (1 : Int32)))
else
some (.inr (.inl s))))
set_option maxRecDepth 20000 in
set_option maxHeartbeats 1000000 in
theorem t_X3_firstFor_b2 {κ : Kx} (a1 : Int32) (w : Wd) {P : (Int32 ⊕ Unit) → Prop} (K0 : ∀ e, P (.inl e) → J κ RX3 cX3_firstFor 3 (some .int) (rmk 0 0) 21 [(2, .int e)] [] w) (K1 : ∀ e, P (.inr e) → J κ RX3 cX3_firstFor 3 (some .int) (rmk 0 0) 29 [] [] w) (s : Int32) (h : ok (lp (X3_firstFor_b2  a1 w) s) P) : J κ RX3 cX3_firstFor 3 (some .int) (rmk 0 0) 2 [(0, .ref (ad (gm κ) 69)), (1, .int a1), (2, .int s)] [] w := by
  refine lp_ind (fun s => J κ RX3 cX3_firstFor 3 (some .int) (rmk 0 0) 2 [(0, .ref (ad (gm κ) 69)), (1, .int a1), (2, .int s)] [] w) (fun s h => ?_) s h
  unfold X3_firstFor_b2 at h
  refine j_iload_n 2 dX3_firstFor_2 rfl rfl ?_
  refine j_bipush (15 : Int32) dX3_firstFor_3 kb_15 ?_
  refine j_ic_ge 29 dX3_firstFor_5 (by decide) h (fun h => ?_) (fun h => ?_)
  · refine j_loc [] [] rfl ?_
    have h := sel_r h
    have h := K1 _ h
    exact h
  · refine j_aload_n 0 dX3_firstFor_8 rfl rfl ?_
    refine j_getA 72 fl_RX3_18 sh_69 fk_69_2 (by decide) dX3_firstFor_9 ?_
    refine j_iload_n 2 dX3_firstFor_12 rfl rfl ?_
    refine j_iald sh_72 dX3_firstFor_13 h (fun h => ?_)
    refine j_iload_n 1 dX3_firstFor_14 rfl rfl ?_
    refine j_ishr dX3_firstFor_15 ?_
    refine j_iconst (1 : Int32) dX3_firstFor_16 ki_1 ?_
    refine j_iand dX3_firstFor_17 ?_
    refine j_if_eq 23 dX3_firstFor_18 (by decide) h (fun h => ?_) (fun h => ?_)
    · refine j_iinc (s + (1 : Int32)) 2 [(2, .int (s + (1 : Int32))), (0, .ref (ad (gm κ) 69)), (1, .int a1)] dX3_firstFor_23 rfl (by rw [kn_1]) (by decide) rfl ?_
      refine j_goto 2 dX3_firstFor_26 (by decide) ?_
      refine j_loc [(0, .ref (ad (gm κ) 69)), (1, .int a1), (2, .int (s + (1 : Int32)))] [1, 2, 0] rfl ?_
      have h := sel_l h
      exact h
    · refine j_loc [(2, .int s)] [2] rfl ?_
      have h := sel_r h
      have h := K0 _ h
      exact h
noncomputable def X3_firstFor (a1 : Int32) (w : Wd) : Option (Int32) :=
(lp (X3_firstFor_b2 a1 w) (0 : Int32)).bind fun e1 => match e1 with
| (.inl e2) => (some e2)
| (.inr e3) => (some (-1 : Int32))
set_option maxRecDepth 20000 in
set_option maxHeartbeats 1000000 in
theorem t_X3_firstFor {κ : Kx} (a1 : Int32) (w : Wd) (h : ok (X3_firstFor  a1 w) (PI κ w)) : J κ RX3 cX3_firstFor 3 (some .int) (rmk 0 0) 0 [(0, .ref (ad (gm κ) 69)), (1, .int a1)] [] w := by
  unfold X3_firstFor at h
  refine j_iconst (0 : Int32) dX3_firstFor_0 ki_0 ?_
  refine j_istore_n [(2, .int (0 : Int32)), (0, .ref (ad (gm κ) 69)), (1, .int a1)] dX3_firstFor_1 rfl (by decide) rfl ?_
  refine j_loc [(0, .ref (ad (gm κ) 69)), (1, .int a1), (2, .int (0 : Int32))] [1, 2, 0] rfl ?_
  refine t_X3_firstFor_b2 a1 w (fun e2 h => ?_) (fun e3 h => ?_) (0 : Int32) (ok_bb h)
  · refine j_iload_n 0 dX3_firstFor_21 rfl rfl ?_
    have h := ok_s h
    exact j_iret dX3_firstFor_22 rfl rfl h
  · refine j_iconst (-1 : Int32) dX3_firstFor_29 ki_m1 ?_
    have h := ok_s h
    exact j_iret dX3_firstFor_30 rfl rfl h
theorem c_X3_firstFor (l : Launch) (γ : Gm) (A : Nat → Prop) (a1 : Int32) (w : Wd) (q : Int32) (e : X3_firstFor  a1 w = some q) : MetG l γ A yX3_firstFor cX3_firstFor 3 (some .int) (rmk 0 0) [.ref (ad (γ) 69), .int a1] w (some (.int q)) w := by
  refine met_of pn_RX3 (Nat.le_of_ble_eq_true rfl) ?_
  intro κ hl hγ hA hρ
  subst hl; subst hγ; subst hA
  exact t_X3_firstFor   a1 w ⟨q, e, pI hρ rfl rfl⟩
theorem dX3_worthAt_0 : decode cX3_worthAt 0 = .ok (.iload_n 0, 1) := by decide +kernel
theorem dX3_worthAt_1 : decode cX3_worthAt 1 = .ok (.bipush 40, 2) := by decide +kernel
theorem dX3_worthAt_3 : decode cX3_worthAt 3 = .ok (.if_icmp .ge 5, 3) := by decide +kernel
theorem dX3_worthAt_6 : decode cX3_worthAt 6 = .ok (.iload_n 1, 1) := by decide +kernel
theorem dX3_worthAt_7 : decode cX3_worthAt 7 = .ok (.ireturn, 1) := by decide +kernel
theorem dX3_worthAt_8 : decode cX3_worthAt 8 = .ok (.iload_n 0, 1) := by decide +kernel
theorem dX3_worthAt_9 : decode cX3_worthAt 9 = .ok (.bipush 60, 2) := by decide +kernel
theorem dX3_worthAt_11 : decode cX3_worthAt 11 = .ok (.if_icmp .ge 11, 3) := by decide +kernel
theorem dX3_worthAt_14 : decode cX3_worthAt 14 = .ok (.iload_n 1, 1) := by decide +kernel
theorem dX3_worthAt_15 : decode cX3_worthAt 15 = .ok (.iconst 3, 1) := by decide +kernel
theorem dX3_worthAt_16 : decode cX3_worthAt 16 = .ok (.imul, 1) := by decide +kernel
theorem dX3_worthAt_17 : decode cX3_worthAt 17 = .ok (.iconst 4, 1) := by decide +kernel
theorem dX3_worthAt_18 : decode cX3_worthAt 18 = .ok (.idiv, 1) := by decide +kernel
theorem dX3_worthAt_19 : decode cX3_worthAt 19 = .ok (.goto 6, 3) := by decide +kernel
theorem dX3_worthAt_22 : decode cX3_worthAt 22 = .ok (.iload_n 1, 1) := by decide +kernel
theorem dX3_worthAt_23 : decode cX3_worthAt 23 = .ok (.iconst 2, 1) := by decide +kernel
theorem dX3_worthAt_24 : decode cX3_worthAt 24 = .ok (.idiv, 1) := by decide +kernel
theorem dX3_worthAt_25 : decode cX3_worthAt 25 = .ok (.ireturn, 1) := by decide +kernel
noncomputable def X3_worthAt (a0 : Int32) (a1 : Int32) (w : Wd) : Option (Int32) :=
(if (40 : Int32) ≤ a0 then
(if (60 : Int32) ≤ a0 then
gd (¬ (2 : Int32) = 0) <|
some (a1 / (2 : Int32))
else
gd (¬ (4 : Int32) = 0) <|
some ((a1 * (3 : Int32)) / (4 : Int32)))
else
some a1)
set_option maxRecDepth 20000 in
set_option maxHeartbeats 1000000 in
theorem t_X3_worthAt {κ : Kx} (a0 : Int32) (a1 : Int32) (w : Wd) (h : ok (X3_worthAt  a0 a1 w) (PI κ w)) : J κ RX3 cX3_worthAt 2 (some .int) (rmk 0 0) 0 [(0, .int a0), (1, .int a1)] [] w := by
  unfold X3_worthAt at h
  refine j_iload_n 0 dX3_worthAt_0 rfl rfl ?_
  refine j_bipush (40 : Int32) dX3_worthAt_1 kb_40 ?_
  refine j_ic_ge 8 dX3_worthAt_3 (by decide) h (fun h => ?_) (fun h => ?_)
  · refine j_iload_n 0 dX3_worthAt_8 rfl rfl ?_
    refine j_bipush (60 : Int32) dX3_worthAt_9 kb_60 ?_
    refine j_ic_ge 22 dX3_worthAt_11 (by decide) h (fun h => ?_) (fun h => ?_)
    · refine j_iload_n 1 dX3_worthAt_22 rfl rfl ?_
      refine j_iconst (2 : Int32) dX3_worthAt_23 ki_2 ?_
      obtain ⟨hz, h⟩ := ok_g h
      refine j_idiv dX3_worthAt_24 hz ?_
      have h := ok_s h
      exact j_iret dX3_worthAt_25 rfl rfl h
    · refine j_iload_n 1 dX3_worthAt_14 rfl rfl ?_
      refine j_iconst (3 : Int32) dX3_worthAt_15 ki_3 ?_
      refine j_imul dX3_worthAt_16 ?_
      refine j_iconst (4 : Int32) dX3_worthAt_17 ki_4 ?_
      obtain ⟨hz, h⟩ := ok_g h
      refine j_idiv dX3_worthAt_18 hz ?_
      refine j_goto 25 dX3_worthAt_19 (by decide) ?_
      have h := ok_s h
      exact j_iret dX3_worthAt_25 rfl rfl h
  · refine j_iload_n 1 dX3_worthAt_6 rfl rfl ?_
    have h := ok_s h
    exact j_iret dX3_worthAt_7 rfl rfl h
theorem c_X3_worthAt (l : Launch) (γ : Gm) (A : Nat → Prop) (a0 : Int32) (a1 : Int32) (w : Wd) (q : Int32) (e : X3_worthAt  a0 a1 w = some q) : MetG l γ A yX3_worthAt cX3_worthAt 2 (some .int) (rmk 0 0) [.int a0, .int a1] w (some (.int q)) w := by
  refine met_of pn_RX3 (Nat.le_of_ble_eq_true rfl) ?_
  intro κ hl hγ hA hρ
  subst hl; subst hγ; subst hA
  exact t_X3_worthAt   a0 a1 w ⟨q, e, pI hρ rfl rfl⟩
theorem dX3_doneIn_0 : decode cX3_doneIn 0 = .ok (.iconst 0, 1) := by decide +kernel
theorem dX3_doneIn_1 : decode cX3_doneIn 1 = .ok (.istore_n 3, 1) := by decide +kernel
theorem dX3_doneIn_2 : decode cX3_doneIn 2 = .ok (.iconst 0, 1) := by decide +kernel
theorem dX3_doneIn_3 : decode cX3_doneIn 3 = .ok (.istore 4, 2) := by decide +kernel
theorem dX3_doneIn_5 : decode cX3_doneIn 5 = .ok (.iload 4, 2) := by decide +kernel
theorem dX3_doneIn_7 : decode cX3_doneIn 7 = .ok (.bipush 15, 2) := by decide +kernel
theorem dX3_doneIn_9 : decode cX3_doneIn 9 = .ok (.if_icmp .ge 32, 3) := by decide +kernel
theorem dX3_doneIn_12 : decode cX3_doneIn 12 = .ok (.aload_n 1, 1) := by decide +kernel
theorem dX3_doneIn_13 : decode cX3_doneIn 13 = .ok (.iload_n 2, 1) := by decide +kernel
theorem dX3_doneIn_14 : decode cX3_doneIn 14 = .ok (.iload 4, 2) := by decide +kernel
theorem dX3_doneIn_16 : decode cX3_doneIn 16 = .ok (.iadd, 1) := by decide +kernel
theorem dX3_doneIn_17 : decode cX3_doneIn 17 = .ok (.baload, 1) := by decide +kernel
theorem dX3_doneIn_18 : decode cX3_doneIn 18 = .ok (.aload_n 0, 1) := by decide +kernel
theorem dX3_doneIn_19 : decode cX3_doneIn 19 = .ok (.getfield 9, 3) := by decide +kernel
theorem dX3_doneIn_22 : decode cX3_doneIn 22 = .ok (.iload 4, 2) := by decide +kernel
theorem dX3_doneIn_24 : decode cX3_doneIn 24 = .ok (.iaload, 1) := by decide +kernel
theorem dX3_doneIn_25 : decode cX3_doneIn 25 = .ok (.if_icmp .lt 10, 3) := by decide +kernel
theorem dX3_doneIn_28 : decode cX3_doneIn 28 = .ok (.iload_n 3, 1) := by decide +kernel
theorem dX3_doneIn_29 : decode cX3_doneIn 29 = .ok (.iconst 1, 1) := by decide +kernel
theorem dX3_doneIn_30 : decode cX3_doneIn 30 = .ok (.iload 4, 2) := by decide +kernel
theorem dX3_doneIn_32 : decode cX3_doneIn 32 = .ok (.ishl, 1) := by decide +kernel
theorem dX3_doneIn_33 : decode cX3_doneIn 33 = .ok (.ior, 1) := by decide +kernel
theorem dX3_doneIn_34 : decode cX3_doneIn 34 = .ok (.istore_n 3, 1) := by decide +kernel
theorem dX3_doneIn_35 : decode cX3_doneIn 35 = .ok (.iinc 4 1, 3) := by decide +kernel
theorem dX3_doneIn_38 : decode cX3_doneIn 38 = .ok (.goto (-33), 3) := by decide +kernel
theorem dX3_doneIn_41 : decode cX3_doneIn 41 = .ok (.iload_n 3, 1) := by decide +kernel
theorem dX3_doneIn_42 : decode cX3_doneIn 42 = .ok (.ireturn, 1) := by decide +kernel
noncomputable def X3_doneIn_j35 (kv : Nat) (nv : Nat) (a2 : Int32) (a3 : Int32) (a4 : Int32) (w : Wd) : Option ((Int32 × Int32) ⊕ Int32) :=
some (.inl (a3, (a4 + (1 : Int32))))
set_option maxRecDepth 20000 in
set_option maxHeartbeats 1000000 in
theorem t_X3_doneIn_j35 {κ : Kx} (kv : Nat) (nv : Nat) (hkv : sh kv = (1, nv)) (a2 : Int32) (a3 : Int32) (a4 : Int32) (w : Wd) {G : (Int32 × Int32) → Prop} {P : Int32 → Prop} (KG : ∀ s, G s → J κ RX3 cX3_doneIn 5 (some .int) (rmk 0 0) 5 [(0, .ref (ad (gm κ) 69)), (1, .ref (ad (gm κ) kv)), (2, .int a2), (3, .int s.1), (4, .int s.2)] [] w) (K0 : ∀ e, P e → J κ RX3 cX3_doneIn 5 (some .int) (rmk 0 0) 41 [(3, .int e)] [] w) (h : ok (X3_doneIn_j35 kv nv a2 a3 a4 w) (sel G P)) : J κ RX3 cX3_doneIn 5 (some .int) (rmk 0 0) 35 [(0, .ref (ad (gm κ) 69)), (1, .ref (ad (gm κ) kv)), (2, .int a2), (3, .int a3), (4, .int a4)] [] w := by
  unfold X3_doneIn_j35 at h
  refine j_iinc (a4 + (1 : Int32)) 4 [(4, .int (a4 + (1 : Int32))), (0, .ref (ad (gm κ) 69)), (1, .ref (ad (gm κ) kv)), (2, .int a2), (3, .int a3)] dX3_doneIn_35 rfl (by rw [kn_1]) (by decide) rfl ?_
  refine j_goto 5 dX3_doneIn_38 (by decide) ?_
  refine j_loc [(0, .ref (ad (gm κ) 69)), (1, .ref (ad (gm κ) kv)), (2, .int a2), (3, .int a3), (4, .int (a4 + (1 : Int32)))] [1, 2, 3, 4, 0] rfl ?_
  have h := sel_l h
  have h := KG _ h
  exact h
noncomputable def X3_doneIn_b5 (kv : Nat) (nv : Nat) (a2 : Int32) (w : Wd) (s : (Int32 × Int32)) : Option ((Int32 × Int32) ⊕ Int32) :=
(if (15 : Int32) ≤ s.2 then
some (.inr s.1)
else
gd (vp_in (a2 + s.2) nv) <|
gd (vp_in s.2 15) <|
(if (w.1 kv (ix (a2 + s.2))) < (w.1 70 (ix s.2)) then
X3_doneIn_j35 kv nv a2 s.1 s.2 w
else
(some (s.1 ||| ((1 : Int32) <<< (s.2 &&& 31)))).bind fun z1 =>
X3_doneIn_j35 kv nv a2 z1 s.2 w))
set_option maxRecDepth 20000 in
set_option maxHeartbeats 1000000 in
theorem t_X3_doneIn_b5 {κ : Kx} (kv : Nat) (nv : Nat) (hkv : sh kv = (1, nv)) (a2 : Int32) (w : Wd) {P : Int32 → Prop} (K0 : ∀ e, P e → J κ RX3 cX3_doneIn 5 (some .int) (rmk 0 0) 41 [(3, .int e)] [] w) (s : (Int32 × Int32)) (h : ok (lp (X3_doneIn_b5 kv nv a2 w) s) P) : J κ RX3 cX3_doneIn 5 (some .int) (rmk 0 0) 5 [(0, .ref (ad (gm κ) 69)), (1, .ref (ad (gm κ) kv)), (2, .int a2), (3, .int s.1), (4, .int s.2)] [] w := by
  refine lp_ind (fun s => J κ RX3 cX3_doneIn 5 (some .int) (rmk 0 0) 5 [(0, .ref (ad (gm κ) 69)), (1, .ref (ad (gm κ) kv)), (2, .int a2), (3, .int s.1), (4, .int s.2)] [] w) (fun s h => ?_) s h
  unfold X3_doneIn_b5 at h
  refine j_iload 4 dX3_doneIn_5 rfl ?_
  refine j_bipush (15 : Int32) dX3_doneIn_7 kb_15 ?_
  refine j_ic_ge 41 dX3_doneIn_9 (by decide) h (fun h => ?_) (fun h => ?_)
  · refine j_loc [(3, .int s.1)] [3] rfl ?_
    have h := sel_r h
    have h := K0 _ h
    exact h
  · refine j_aload_n 1 dX3_doneIn_12 rfl rfl ?_
    refine j_iload_n 2 dX3_doneIn_13 rfl rfl ?_
    refine j_iload 4 dX3_doneIn_14 rfl ?_
    refine j_iadd dX3_doneIn_16 ?_
    refine j_bald hkv dX3_doneIn_17 h (fun h => ?_)
    refine j_aload_n 0 dX3_doneIn_18 rfl rfl ?_
    refine j_getA 70 fl_RX3_9 sh_69 fk_69_0 (by decide) dX3_doneIn_19 ?_
    refine j_iload 4 dX3_doneIn_22 rfl ?_
    refine j_iald sh_70 dX3_doneIn_24 h (fun h => ?_)
    refine j_ic_lt 35 dX3_doneIn_25 (by decide) h (fun h => ?_) (fun h => ?_)
    · refine j_loc [(0, .ref (ad (gm κ) 69)), (1, .ref (ad (gm κ) kv)), (2, .int a2), (3, .int s.1), (4, .int s.2)] [0, 1, 2, 3, 4] rfl ?_
      exact t_X3_doneIn_j35 kv nv hkv a2 s.1 s.2 w (fun _ h => h) K0 h
    · refine j_iload_n 3 dX3_doneIn_28 rfl rfl ?_
      refine j_iconst (1 : Int32) dX3_doneIn_29 ki_1 ?_
      refine j_iload 4 dX3_doneIn_30 rfl ?_
      refine j_ishl dX3_doneIn_32 ?_
      refine j_ior dX3_doneIn_33 ?_
      refine j_lI h (fun z1 h => ?_)
      refine j_istore_n [(3, .int z1), (0, .ref (ad (gm κ) 69)), (1, .ref (ad (gm κ) kv)), (2, .int a2), (4, .int s.2)] dX3_doneIn_34 rfl (by decide) rfl ?_
      refine j_loc [(0, .ref (ad (gm κ) 69)), (1, .ref (ad (gm κ) kv)), (2, .int a2), (3, .int z1), (4, .int s.2)] [1, 2, 3, 0, 4] rfl ?_
      exact t_X3_doneIn_j35 kv nv hkv a2 z1 s.2 w (fun _ h => h) K0 h
noncomputable def X3_doneIn (kv : Nat) (nv : Nat) (a2 : Int32) (w : Wd) : Option (Int32) :=
(lp (X3_doneIn_b5 kv nv a2 w) ((0 : Int32), (0 : Int32))).bind fun e2 =>
some e2
set_option maxRecDepth 20000 in
set_option maxHeartbeats 1000000 in
theorem t_X3_doneIn {κ : Kx} (kv : Nat) (nv : Nat) (hkv : sh kv = (1, nv)) (a2 : Int32) (w : Wd) (h : ok (X3_doneIn kv nv a2 w) (PI κ w)) : J κ RX3 cX3_doneIn 5 (some .int) (rmk 0 0) 0 [(0, .ref (ad (gm κ) 69)), (1, .ref (ad (gm κ) kv)), (2, .int a2)] [] w := by
  unfold X3_doneIn at h
  refine j_iconst (0 : Int32) dX3_doneIn_0 ki_0 ?_
  refine j_istore_n [(3, .int (0 : Int32)), (0, .ref (ad (gm κ) 69)), (1, .ref (ad (gm κ) kv)), (2, .int a2)] dX3_doneIn_1 rfl (by decide) rfl ?_
  refine j_iconst (0 : Int32) dX3_doneIn_2 ki_0 ?_
  refine j_istore [(4, .int (0 : Int32)), (3, .int (0 : Int32)), (0, .ref (ad (gm κ) 69)), (1, .ref (ad (gm κ) kv)), (2, .int a2)] dX3_doneIn_3 (by decide) rfl ?_
  refine j_loc [(0, .ref (ad (gm κ) 69)), (1, .ref (ad (gm κ) kv)), (2, .int a2), (3, .int (0 : Int32)), (4, .int (0 : Int32))] [2, 3, 4, 1, 0] rfl ?_
  refine t_X3_doneIn_b5 kv nv hkv a2 w (fun e2 h => ?_) ((0 : Int32), (0 : Int32)) (ok_bb h)
  · refine j_iload_n 0 dX3_doneIn_41 rfl rfl ?_
    have h := ok_s h
    exact j_iret dX3_doneIn_42 rfl rfl h
theorem c_X3_doneIn (l : Launch) (γ : Gm) (A : Nat → Prop) (kv : Nat) (nv : Nat) (hkv : sh kv = (1, nv)) (a2 : Int32) (w : Wd) (q : Int32) (e : X3_doneIn kv nv a2 w = some q) : MetG l γ A yX3_doneIn cX3_doneIn 5 (some .int) (rmk 0 0) [.ref (ad (γ) 69), .ref (ad (γ) kv), .int a2] w (some (.int q)) w := by
  refine met_of pn_RX3 (Nat.le_of_ble_eq_true rfl) ?_
  intro κ hl hγ hA hρ
  subst hl; subst hγ; subst hA
  exact t_X3_doneIn kv nv hkv a2 w ⟨q, e, pI hρ rfl rfl⟩
theorem dX3_learn_0 : decode cX3_learn 0 = .ok (.aload_n 0, 1) := by decide +kernel
theorem dX3_learn_1 : decode cX3_learn 1 = .ok (.aload_n 1, 1) := by decide +kernel
theorem dX3_learn_2 : decode cX3_learn 2 = .ok (.iload_n 2, 1) := by decide +kernel
theorem dX3_learn_3 : decode cX3_learn 3 = .ok (.invokevirtual 25, 3) := by decide +kernel
theorem dX3_learn_6 : decode cX3_learn 6 = .ok (.istore 4, 2) := by decide +kernel
theorem dX3_learn_8 : decode cX3_learn 8 = .ok (.iload_n 3, 1) := by decide +kernel
theorem dX3_learn_9 : decode cX3_learn 9 = .ok (.istore 5, 2) := by decide +kernel
theorem dX3_learn_11 : decode cX3_learn 11 = .ok (.iconst 0, 1) := by decide +kernel
theorem dX3_learn_12 : decode cX3_learn 12 = .ok (.istore 6, 2) := by decide +kernel
theorem dX3_learn_14 : decode cX3_learn 14 = .ok (.iload 6, 2) := by decide +kernel
theorem dX3_learn_16 : decode cX3_learn 16 = .ok (.bipush 15, 2) := by decide +kernel
theorem dX3_learn_18 : decode cX3_learn 18 = .ok (.if_icmp .ge 107, 3) := by decide +kernel
theorem dX3_learn_21 : decode cX3_learn 21 = .ok (.iload 5, 2) := by decide +kernel
theorem dX3_learn_23 : decode cX3_learn 23 = .ok (.ifCond .le 102, 3) := by decide +kernel
theorem dX3_learn_26 : decode cX3_learn 26 = .ok (.iconst 1, 1) := by decide +kernel
theorem dX3_learn_27 : decode cX3_learn 27 = .ok (.iload 6, 2) := by decide +kernel
theorem dX3_learn_29 : decode cX3_learn 29 = .ok (.ishl, 1) := by decide +kernel
theorem dX3_learn_30 : decode cX3_learn 30 = .ok (.istore 7, 2) := by decide +kernel
theorem dX3_learn_32 : decode cX3_learn 32 = .ok (.iload 4, 2) := by decide +kernel
theorem dX3_learn_34 : decode cX3_learn 34 = .ok (.iload 7, 2) := by decide +kernel
theorem dX3_learn_36 : decode cX3_learn 36 = .ok (.iand, 1) := by decide +kernel
theorem dX3_learn_37 : decode cX3_learn 37 = .ok (.ifCond .ne 82, 3) := by decide +kernel
theorem dX3_learn_40 : decode cX3_learn 40 = .ok (.aload_n 0, 1) := by decide +kernel
theorem dX3_learn_41 : decode cX3_learn 41 = .ok (.getfield 15, 3) := by decide +kernel
theorem dX3_learn_44 : decode cX3_learn 44 = .ok (.iload 6, 2) := by decide +kernel
theorem dX3_learn_46 : decode cX3_learn 46 = .ok (.iaload, 1) := by decide +kernel
theorem dX3_learn_47 : decode cX3_learn 47 = .ok (.iload 4, 2) := by decide +kernel
theorem dX3_learn_49 : decode cX3_learn 49 = .ok (.iconst (-1), 1) := by decide +kernel
theorem dX3_learn_50 : decode cX3_learn 50 = .ok (.ixor, 1) := by decide +kernel
theorem dX3_learn_51 : decode cX3_learn 51 = .ok (.iand, 1) := by decide +kernel
theorem dX3_learn_52 : decode cX3_learn 52 = .ok (.ifCond .ne 67, 3) := by decide +kernel
theorem dX3_learn_55 : decode cX3_learn 55 = .ok (.iload 5, 2) := by decide +kernel
theorem dX3_learn_57 : decode cX3_learn 57 = .ok (.aload_n 0, 1) := by decide +kernel
theorem dX3_learn_58 : decode cX3_learn 58 = .ok (.getfield 9, 3) := by decide +kernel
theorem dX3_learn_61 : decode cX3_learn 61 = .ok (.iload 6, 2) := by decide +kernel
theorem dX3_learn_63 : decode cX3_learn 63 = .ok (.iaload, 1) := by decide +kernel
theorem dX3_learn_64 : decode cX3_learn 64 = .ok (.aload_n 1, 1) := by decide +kernel
theorem dX3_learn_65 : decode cX3_learn 65 = .ok (.iload_n 2, 1) := by decide +kernel
theorem dX3_learn_66 : decode cX3_learn 66 = .ok (.iload 6, 2) := by decide +kernel
theorem dX3_learn_68 : decode cX3_learn 68 = .ok (.iadd, 1) := by decide +kernel
theorem dX3_learn_69 : decode cX3_learn 69 = .ok (.baload, 1) := by decide +kernel
theorem dX3_learn_70 : decode cX3_learn 70 = .ok (.isub, 1) := by decide +kernel
theorem dX3_learn_71 : decode cX3_learn 71 = .ok (.invokestatic 29, 3) := by decide +kernel
theorem dX3_learn_74 : decode cX3_learn 74 = .ok (.istore 8, 2) := by decide +kernel
theorem dX3_learn_76 : decode cX3_learn 76 = .ok (.aload_n 1, 1) := by decide +kernel
theorem dX3_learn_77 : decode cX3_learn 77 = .ok (.iload_n 2, 1) := by decide +kernel
theorem dX3_learn_78 : decode cX3_learn 78 = .ok (.iload 6, 2) := by decide +kernel
theorem dX3_learn_80 : decode cX3_learn 80 = .ok (.iadd, 1) := by decide +kernel
theorem dX3_learn_81 : decode cX3_learn 81 = .ok (.dup2, 1) := by decide +kernel
theorem dX3_learn_82 : decode cX3_learn 82 = .ok (.baload, 1) := by decide +kernel
theorem dX3_learn_83 : decode cX3_learn 83 = .ok (.iload 8, 2) := by decide +kernel
theorem dX3_learn_85 : decode cX3_learn 85 = .ok (.i2b, 1) := by decide +kernel
theorem dX3_learn_86 : decode cX3_learn 86 = .ok (.iadd, 1) := by decide +kernel
theorem dX3_learn_87 : decode cX3_learn 87 = .ok (.i2b, 1) := by decide +kernel
theorem dX3_learn_88 : decode cX3_learn 88 = .ok (.bastore, 1) := by decide +kernel
theorem dX3_learn_89 : decode cX3_learn 89 = .ok (.iload 5, 2) := by decide +kernel
theorem dX3_learn_91 : decode cX3_learn 91 = .ok (.iload 8, 2) := by decide +kernel
theorem dX3_learn_93 : decode cX3_learn 93 = .ok (.isub, 1) := by decide +kernel
theorem dX3_learn_94 : decode cX3_learn 94 = .ok (.istore 5, 2) := by decide +kernel
theorem dX3_learn_96 : decode cX3_learn 96 = .ok (.aload_n 1, 1) := by decide +kernel
theorem dX3_learn_97 : decode cX3_learn 97 = .ok (.iload_n 2, 1) := by decide +kernel
theorem dX3_learn_98 : decode cX3_learn 98 = .ok (.iload 6, 2) := by decide +kernel
theorem dX3_learn_100 : decode cX3_learn 100 = .ok (.iadd, 1) := by decide +kernel
theorem dX3_learn_101 : decode cX3_learn 101 = .ok (.baload, 1) := by decide +kernel
theorem dX3_learn_102 : decode cX3_learn 102 = .ok (.aload_n 0, 1) := by decide +kernel
theorem dX3_learn_103 : decode cX3_learn 103 = .ok (.getfield 9, 3) := by decide +kernel
theorem dX3_learn_106 : decode cX3_learn 106 = .ok (.iload 6, 2) := by decide +kernel
theorem dX3_learn_108 : decode cX3_learn 108 = .ok (.iaload, 1) := by decide +kernel
theorem dX3_learn_109 : decode cX3_learn 109 = .ok (.if_icmp .lt 10, 3) := by decide +kernel
theorem dX3_learn_112 : decode cX3_learn 112 = .ok (.iload 4, 2) := by decide +kernel
theorem dX3_learn_114 : decode cX3_learn 114 = .ok (.iload 7, 2) := by decide +kernel
theorem dX3_learn_116 : decode cX3_learn 116 = .ok (.ior, 1) := by decide +kernel
theorem dX3_learn_117 : decode cX3_learn 117 = .ok (.istore 4, 2) := by decide +kernel
theorem dX3_learn_119 : decode cX3_learn 119 = .ok (.iinc 6 1, 3) := by decide +kernel
theorem dX3_learn_122 : decode cX3_learn 122 = .ok (.goto (-108), 3) := by decide +kernel
theorem dX3_learn_125 : decode cX3_learn 125 = .ok (.return_, 1) := by decide +kernel
noncomputable def X3_learn_j119 (kv : Nat) (nv : Nat) (a2 : Int32) (a4 : Int32) (a5 : Int32) (a6 : Int32) (w : Wd) : Option ((Int32 × Int32 × Int32 × Wd) ⊕ Wd) :=
some (.inl (a4, a5, (a6 + (1 : Int32)), w))
set_option maxRecDepth 20000 in
set_option maxHeartbeats 1000000 in
theorem t_X3_learn_j119 {κ : Kx} (kv : Nat) (nv : Nat) (hkv : sh kv = (1, nv)) (a2 : Int32) (a4 : Int32) (a5 : Int32) (a6 : Int32) (w : Wd) {G : (Int32 × Int32 × Int32 × Wd) → Prop} {P : Wd → Prop} (KG : ∀ s, G s → J κ RX3 cX3_learn 9 none (rmk 1 24) 14 [(0, .ref (ad (gm κ) 69)), (1, .ref (ad (gm κ) kv)), (2, .int a2), (4, .int s.1), (5, .int s.2.1), (6, .int s.2.2.1)] [] s.2.2.2) (K0 : ∀ e, P e → J κ RX3 cX3_learn 9 none (rmk 1 24) 125 [] [] e) (h : ok (X3_learn_j119 kv nv a2 a4 a5 a6 w) (sel G P)) : J κ RX3 cX3_learn 9 none (rmk 1 24) 119 [(0, .ref (ad (gm κ) 69)), (1, .ref (ad (gm κ) kv)), (2, .int a2), (4, .int a4), (5, .int a5), (6, .int a6)] [] w := by
  unfold X3_learn_j119 at h
  refine j_iinc (a6 + (1 : Int32)) 5 [(6, .int (a6 + (1 : Int32))), (0, .ref (ad (gm κ) 69)), (1, .ref (ad (gm κ) kv)), (2, .int a2), (4, .int a4), (5, .int a5)] dX3_learn_119 rfl (by rw [kn_1]) (by decide) rfl ?_
  refine j_goto 14 dX3_learn_122 (by decide) ?_
  refine j_loc [(0, .ref (ad (gm κ) 69)), (1, .ref (ad (gm κ) kv)), (2, .int a2), (4, .int a4), (5, .int a5), (6, .int (a6 + (1 : Int32)))] [1, 2, 3, 4, 5, 0] rfl ?_
  have h := sel_l h
  have h := KG _ h
  exact h
noncomputable def X3_learn_b14 (kv : Nat) (nv : Nat) (a2 : Int32) (s : (Int32 × Int32 × Int32 × Wd)) : Option ((Int32 × Int32 × Int32 × Wd) ⊕ Wd) :=
(if (15 : Int32) ≤ s.2.2.1 then
some (.inr s.2.2.2)
else
(if s.2.1 ≤ 0 then
some (.inr s.2.2.2)
else
(some ((1 : Int32) <<< (s.2.2.1 &&& 31))).bind fun z3 =>
(if (s.1 &&& z3) = 0 then
gd (vp_in s.2.2.1 15) <|
(if ((s.2.2.2.1 71 (ix s.2.2.1)) &&& (s.1 ^^^ (-1 : Int32))) = 0 then
gd (vp_in s.2.2.1 15) <|
gd (vp_in (a2 + s.2.2.1) nv) <|
(some (mnI s.2.1 ((s.2.2.2.1 70 (ix s.2.2.1)) - (s.2.2.2.1 kv (ix (a2 + s.2.2.1)))))).bind fun z4 =>
gd (vp_in (a2 + s.2.2.1) nv) <|
gd (vp_in (a2 + s.2.2.1) nv) <|
(some (puI s.2.2.2 kv (ix (a2 + s.2.2.1)) (vp_nar .byte (Int32.toInt8 ((s.2.2.2.1 kv (ix (a2 + s.2.2.1))) + (Int32.toInt8 z4).toInt32)).toInt32))).bind fun w5 =>
gd (vp_in (a2 + s.2.2.1) nv) <|
gd (vp_in s.2.2.1 15) <|
(if (w5.1 kv (ix (a2 + s.2.2.1))) < (w5.1 70 (ix s.2.2.1)) then
X3_learn_j119 kv nv a2 s.1 (s.2.1 - z4) s.2.2.1 w5
else
X3_learn_j119 kv nv a2 (s.1 ||| z3) (s.2.1 - z4) s.2.2.1 w5)
else
X3_learn_j119 kv nv a2 s.1 s.2.1 s.2.2.1 s.2.2.2)
else
X3_learn_j119 kv nv a2 s.1 s.2.1 s.2.2.1 s.2.2.2)))
set_option maxRecDepth 20000 in
set_option maxHeartbeats 1000000 in
theorem t_X3_learn_b14 {κ : Kx} (kv : Nat) (nv : Nat) (hkv : sh kv = (1, nv)) (a2 : Int32) {P : Wd → Prop} (K0 : ∀ e, P e → J κ RX3 cX3_learn 9 none (rmk 1 24) 125 [] [] e) (s : (Int32 × Int32 × Int32 × Wd)) (h : ok (lp (X3_learn_b14 kv nv a2) s) P) : J κ RX3 cX3_learn 9 none (rmk 1 24) 14 [(0, .ref (ad (gm κ) 69)), (1, .ref (ad (gm κ) kv)), (2, .int a2), (4, .int s.1), (5, .int s.2.1), (6, .int s.2.2.1)] [] s.2.2.2 := by
  refine lp_ind (fun s => J κ RX3 cX3_learn 9 none (rmk 1 24) 14 [(0, .ref (ad (gm κ) 69)), (1, .ref (ad (gm κ) kv)), (2, .int a2), (4, .int s.1), (5, .int s.2.1), (6, .int s.2.2.1)] [] s.2.2.2) (fun s h => ?_) s h
  unfold X3_learn_b14 at h
  refine j_iload 5 dX3_learn_14 rfl ?_
  refine j_bipush (15 : Int32) dX3_learn_16 kb_15 ?_
  refine j_ic_ge 125 dX3_learn_18 (by decide) h (fun h => ?_) (fun h => ?_)
  · refine j_loc [] [] rfl ?_
    have h := sel_r h
    have h := K0 _ h
    exact h
  · refine j_iload 4 dX3_learn_21 rfl ?_
    refine j_if_le 125 dX3_learn_23 (by decide) h (fun h => ?_) (fun h => ?_)
    · refine j_loc [] [] rfl ?_
      have h := sel_r h
      have h := K0 _ h
      exact h
    · refine j_iconst (1 : Int32) dX3_learn_26 ki_1 ?_
      refine j_iload 5 dX3_learn_27 rfl ?_
      refine j_ishl dX3_learn_29 ?_
      refine j_lI h (fun z3 h => ?_)
      refine j_istore [(7, .int z3), (0, .ref (ad (gm κ) 69)), (1, .ref (ad (gm κ) kv)), (2, .int a2), (4, .int s.1), (5, .int s.2.1), (6, .int s.2.2.1)] dX3_learn_30 (by decide) rfl ?_
      refine j_iload 4 dX3_learn_32 rfl ?_
      refine j_iload 0 dX3_learn_34 rfl ?_
      refine j_iand dX3_learn_36 ?_
      refine j_if_ne 119 dX3_learn_37 (by decide) h (fun h => ?_) (fun h => ?_)
      · refine j_loc [(0, .ref (ad (gm κ) 69)), (1, .ref (ad (gm κ) kv)), (2, .int a2), (4, .int s.1), (5, .int s.2.1), (6, .int s.2.2.1)] [1, 2, 3, 4, 5, 6] rfl ?_
        exact t_X3_learn_j119 kv nv hkv a2 s.1 s.2.1 s.2.2.1 s.2.2.2 (fun _ h => h) K0 h
      · refine j_aload_n 1 dX3_learn_40 rfl rfl ?_
        refine j_getA 71 fl_RX3_15 sh_69 fk_69_1 (by decide) dX3_learn_41 ?_
        refine j_iload 6 dX3_learn_44 rfl ?_
        refine j_iald sh_71 dX3_learn_46 h (fun h => ?_)
        refine j_iload 4 dX3_learn_47 rfl ?_
        refine j_iconst (-1 : Int32) dX3_learn_49 ki_m1 ?_
        refine j_ixor dX3_learn_50 ?_
        refine j_iand dX3_learn_51 ?_
        refine j_if_ne 119 dX3_learn_52 (by decide) h (fun h => ?_) (fun h => ?_)
        · refine j_loc [(0, .ref (ad (gm κ) 69)), (1, .ref (ad (gm κ) kv)), (2, .int a2), (4, .int s.1), (5, .int s.2.1), (6, .int s.2.2.1)] [1, 2, 3, 4, 5, 6] rfl ?_
          exact t_X3_learn_j119 kv nv hkv a2 s.1 s.2.1 s.2.2.1 s.2.2.2 (fun _ h => h) K0 h
        · refine j_iload 5 dX3_learn_55 rfl ?_
          refine j_aload_n 1 dX3_learn_57 rfl rfl ?_
          refine j_getA 70 fl_RX3_9 sh_69 fk_69_0 (by decide) dX3_learn_58 ?_
          refine j_iload 6 dX3_learn_61 rfl ?_
          refine j_iald sh_70 dX3_learn_63 h (fun h => ?_)
          refine j_aload_n 2 dX3_learn_64 rfl rfl ?_
          refine j_iload_n 3 dX3_learn_65 rfl rfl ?_
          refine j_iload 6 dX3_learn_66 rfl ?_
          refine j_iadd dX3_learn_68 ?_
          refine j_bald hkv dX3_learn_69 h (fun h => ?_)
          refine j_isub dX3_learn_70 ?_
          refine j_mnI mt_RX3_29 (by decide) (Nat.le_of_ble_eq_true rfl) dX3_learn_71 ?_
          refine j_lI h (fun z4 h => ?_)
          refine j_istore [(8, .int z4), (7, .int z3), (0, .ref (ad (gm κ) 69)), (1, .ref (ad (gm κ) kv)), (2, .int a2), (4, .int s.1), (5, .int s.2.1), (6, .int s.2.2.1)] dX3_learn_74 (by decide) rfl ?_
          refine j_aload_n 3 dX3_learn_76 rfl rfl ?_
          refine j_iload_n 4 dX3_learn_77 rfl rfl ?_
          refine j_iload 7 dX3_learn_78 rfl ?_
          refine j_iadd dX3_learn_80 ?_
          refine j_dup2 dX3_learn_81 rfl rfl ?_
          refine j_bald hkv dX3_learn_82 h (fun h => ?_)
          refine j_iload 0 dX3_learn_83 rfl ?_
          refine j_i2b dX3_learn_85 ?_
          refine j_iadd dX3_learn_86 ?_
          refine j_i2b dX3_learn_87 ?_
          refine j_bast hkv dX3_learn_88 h (fun h => ?_)
          refine j_lW h (fun w5 h => ?_)
          refine j_iload 6 dX3_learn_89 rfl ?_
          refine j_iload 0 dX3_learn_91 rfl ?_
          refine j_isub dX3_learn_93 ?_
          refine j_istore [(5, .int (s.2.1 - z4)), (8, .int z4), (7, .int z3), (0, .ref (ad (gm κ) 69)), (1, .ref (ad (gm κ) kv)), (2, .int a2), (4, .int s.1), (6, .int s.2.2.1)] dX3_learn_94 (by decide) rfl ?_
          refine j_aload_n 4 dX3_learn_96 rfl rfl ?_
          refine j_iload_n 5 dX3_learn_97 rfl rfl ?_
          refine j_iload 7 dX3_learn_98 rfl ?_
          refine j_iadd dX3_learn_100 ?_
          refine j_bald hkv dX3_learn_101 h (fun h => ?_)
          refine j_aload_n 3 dX3_learn_102 rfl rfl ?_
          refine j_getA 70 fl_RX3_9 sh_69 fk_69_0 (by decide) dX3_learn_103 ?_
          refine j_iload 7 dX3_learn_106 rfl ?_
          refine j_iald sh_70 dX3_learn_108 h (fun h => ?_)
          refine j_ic_lt 119 dX3_learn_109 (by decide) h (fun h => ?_) (fun h => ?_)
          · refine j_loc [(0, .ref (ad (gm κ) 69)), (1, .ref (ad (gm κ) kv)), (2, .int a2), (4, .int s.1), (5, .int (s.2.1 - z4)), (6, .int s.2.2.1)] [3, 4, 5, 6, 0, 7] rfl ?_
            exact t_X3_learn_j119 kv nv hkv a2 s.1 (s.2.1 - z4) s.2.2.1 w5 (fun _ h => h) K0 h
          · refine j_iload 6 dX3_learn_112 rfl ?_
            refine j_iload 2 dX3_learn_114 rfl ?_
            refine j_ior dX3_learn_116 ?_
            refine j_istore [(4, .int (s.1 ||| z3)), (5, .int (s.2.1 - z4)), (8, .int z4), (7, .int z3), (0, .ref (ad (gm κ) 69)), (1, .ref (ad (gm κ) kv)), (2, .int a2), (6, .int s.2.2.1)] dX3_learn_117 (by decide) rfl ?_
            refine j_loc [(0, .ref (ad (gm κ) 69)), (1, .ref (ad (gm κ) kv)), (2, .int a2), (4, .int (s.1 ||| z3)), (5, .int (s.2.1 - z4)), (6, .int s.2.2.1)] [4, 5, 6, 0, 1, 7] rfl ?_
            exact t_X3_learn_j119 kv nv hkv a2 (s.1 ||| z3) (s.2.1 - z4) s.2.2.1 w5 (fun _ h => h) K0 h
noncomputable def X3_learn (kv : Nat) (nv : Nat) (a2 : Int32) (a3 : Int32) (w : Wd) : Option (Wd) :=
(X3_doneIn kv nv a2 w).bind fun q1 =>
(lp (X3_learn_b14 kv nv a2) (q1, a3, (0 : Int32), w)).bind fun e6 =>
some e6
set_option maxRecDepth 20000 in
set_option maxHeartbeats 1000000 in
theorem t_X3_learn {κ : Kx} (kv : Nat) (nv : Nat) (hkv : sh kv = (1, nv)) (a2 : Int32) (a3 : Int32) (w : Wd) (h : ok (X3_learn kv nv a2 a3 w) (PVw κ)) : J κ RX3 cX3_learn 9 none (rmk 1 24) 0 [(0, .ref (ad (gm κ) 69)), (1, .ref (ad (gm κ) kv)), (2, .int a2), (3, .int a3)] [] w := by
  unfold X3_learn at h
  refine j_aload_n 0 dX3_learn_0 rfl rfl ?_
  refine j_aload_n 1 dX3_learn_1 rfl rfl ?_
  refine j_iload_n 2 dX3_learn_2 rfl rfl ?_
  obtain ⟨q1, e2, h⟩ := ok_b h
  refine j_callV (As := [.ref (ad (gm κ) kv), .int a2]) (st := []) [.int q1] (c_X3_doneIn (kl κ) (gm κ) (kA κ) kv nv hkv a2 w q1 e2) ck_RX3_25 im_X3_doneIn se_X3_doneIn sh_69 cx_3 ⟨rfl, rfl⟩ ⟨by decide, by decide⟩ rfl rfl (Nat.le_of_ble_eq_true rfl) dX3_learn_3 _ rfl ?_
  refine j_istore [(4, .int q1), (0, .ref (ad (gm κ) 69)), (1, .ref (ad (gm κ) kv)), (2, .int a2), (3, .int a3)] dX3_learn_6 (by decide) rfl ?_
  refine j_iload_n 4 dX3_learn_8 rfl rfl ?_
  refine j_istore [(5, .int a3), (4, .int q1), (0, .ref (ad (gm κ) 69)), (1, .ref (ad (gm κ) kv)), (2, .int a2), (3, .int a3)] dX3_learn_9 (by decide) rfl ?_
  refine j_iconst (0 : Int32) dX3_learn_11 ki_0 ?_
  refine j_istore [(6, .int (0 : Int32)), (5, .int a3), (4, .int q1), (0, .ref (ad (gm κ) 69)), (1, .ref (ad (gm κ) kv)), (2, .int a2), (3, .int a3)] dX3_learn_12 (by decide) rfl ?_
  refine j_loc [(0, .ref (ad (gm κ) 69)), (1, .ref (ad (gm κ) kv)), (2, .int a2), (4, .int q1), (5, .int a3), (6, .int (0 : Int32))] [3, 4, 5, 2, 1, 0] rfl ?_
  refine t_X3_learn_b14 kv nv hkv a2 (fun e6 h => ?_) (q1, a3, (0 : Int32), w) (ok_bb h)
  · have h := ok_s h
    exact j_vret dX3_learn_125 rfl h
theorem c_X3_learn (l : Launch) (γ : Gm) (A : Nat → Prop) (kv : Nat) (nv : Nat) (hkv : sh kv = (1, nv)) (a2 : Int32) (a3 : Int32) (w : Wd) (q : Wd) (e : X3_learn kv nv a2 a3 w = some q) : MetG l γ A yX3_learn cX3_learn 9 none (rmk 1 24) [.ref (ad (γ) 69), .ref (ad (γ) kv), .int a2, .int a3] w none q := by
  refine met_of pn_RX3 (Nat.le_of_ble_eq_true rfl) ?_
  intro κ hl hγ hA hρ
  subst hl; subst hγ; subst hA
  exact t_X3_learn kv nv hkv a2 a3 w ⟨q, e, pVw hρ rfl rfl⟩
theorem dX3_forget_0 : decode cX3_forget 0 = .ok (.aload_n 0, 1) := by decide +kernel
theorem dX3_forget_1 : decode cX3_forget 1 = .ok (.aload_n 1, 1) := by decide +kernel
theorem dX3_forget_2 : decode cX3_forget 2 = .ok (.iload_n 2, 1) := by decide +kernel
theorem dX3_forget_3 : decode cX3_forget 3 = .ok (.invokevirtual 25, 3) := by decide +kernel
theorem dX3_forget_6 : decode cX3_forget 6 = .ok (.istore_n 3, 1) := by decide +kernel
theorem dX3_forget_7 : decode cX3_forget 7 = .ok (.bipush 14, 2) := by decide +kernel
theorem dX3_forget_9 : decode cX3_forget 9 = .ok (.istore 4, 2) := by decide +kernel
theorem dX3_forget_11 : decode cX3_forget 11 = .ok (.iload 4, 2) := by decide +kernel
theorem dX3_forget_13 : decode cX3_forget 13 = .ok (.ifCond .lt 26, 3) := by decide +kernel
theorem dX3_forget_16 : decode cX3_forget 16 = .ok (.iload_n 3, 1) := by decide +kernel
theorem dX3_forget_17 : decode cX3_forget 17 = .ok (.iload 4, 2) := by decide +kernel
theorem dX3_forget_19 : decode cX3_forget 19 = .ok (.ishr, 1) := by decide +kernel
theorem dX3_forget_20 : decode cX3_forget 20 = .ok (.iconst 1, 1) := by decide +kernel
theorem dX3_forget_21 : decode cX3_forget 21 = .ok (.iand, 1) := by decide +kernel
theorem dX3_forget_22 : decode cX3_forget 22 = .ok (.ifCond .eq 11, 3) := by decide +kernel
theorem dX3_forget_25 : decode cX3_forget 25 = .ok (.aload_n 1, 1) := by decide +kernel
theorem dX3_forget_26 : decode cX3_forget 26 = .ok (.iload_n 2, 1) := by decide +kernel
theorem dX3_forget_27 : decode cX3_forget 27 = .ok (.iload 4, 2) := by decide +kernel
theorem dX3_forget_29 : decode cX3_forget 29 = .ok (.iadd, 1) := by decide +kernel
theorem dX3_forget_30 : decode cX3_forget 30 = .ok (.iconst 0, 1) := by decide +kernel
theorem dX3_forget_31 : decode cX3_forget 31 = .ok (.bastore, 1) := by decide +kernel
theorem dX3_forget_32 : decode cX3_forget 32 = .ok (.return_, 1) := by decide +kernel
theorem dX3_forget_33 : decode cX3_forget 33 = .ok (.iinc 4 (-1), 3) := by decide +kernel
theorem dX3_forget_36 : decode cX3_forget 36 = .ok (.goto (-25), 3) := by decide +kernel
theorem dX3_forget_39 : decode cX3_forget 39 = .ok (.return_, 1) := by decide +kernel
noncomputable def X3_forget_b11 (kv : Nat) (nv : Nat) (a2 : Int32) (a3 : Int32) (w : Wd) (s : Int32) : Option (Int32 ⊕ (Int32 ⊕ Unit)) :=
(if s < 0 then
some (.inr (.inr ()))
else
(if ((a3 >>> (s &&& 31)) &&& (1 : Int32)) = 0 then
some (.inl (s + (-1 : Int32)))
else
some (.inr (.inl s))))
set_option maxRecDepth 20000 in
set_option maxHeartbeats 1000000 in
theorem t_X3_forget_b11 {κ : Kx} (kv : Nat) (nv : Nat) (hkv : sh kv = (1, nv)) (a2 : Int32) (a3 : Int32) (w : Wd) {P : (Int32 ⊕ Unit) → Prop} (K0 : ∀ e, P (.inl e) → J κ RX3 cX3_forget 5 none (rmk 1 24) 25 [(1, .ref (ad (gm κ) kv)), (2, .int a2), (4, .int e)] [] w) (K1 : ∀ e, P (.inr e) → J κ RX3 cX3_forget 5 none (rmk 1 24) 39 [] [] w) (s : Int32) (h : ok (lp (X3_forget_b11 kv nv a2 a3 w) s) P) : J κ RX3 cX3_forget 5 none (rmk 1 24) 11 [(1, .ref (ad (gm κ) kv)), (2, .int a2), (3, .int a3), (4, .int s)] [] w := by
  refine lp_ind (fun s => J κ RX3 cX3_forget 5 none (rmk 1 24) 11 [(1, .ref (ad (gm κ) kv)), (2, .int a2), (3, .int a3), (4, .int s)] [] w) (fun s h => ?_) s h
  unfold X3_forget_b11 at h
  refine j_iload 3 dX3_forget_11 rfl ?_
  refine j_if_lt 39 dX3_forget_13 (by decide) h (fun h => ?_) (fun h => ?_)
  · refine j_loc [] [] rfl ?_
    have h := sel_r h
    have h := K1 _ h
    exact h
  · refine j_iload_n 2 dX3_forget_16 rfl rfl ?_
    refine j_iload 3 dX3_forget_17 rfl ?_
    refine j_ishr dX3_forget_19 ?_
    refine j_iconst (1 : Int32) dX3_forget_20 ki_1 ?_
    refine j_iand dX3_forget_21 ?_
    refine j_if_eq 33 dX3_forget_22 (by decide) h (fun h => ?_) (fun h => ?_)
    · refine j_iinc (s + (-1 : Int32)) 3 [(4, .int (s + (-1 : Int32))), (1, .ref (ad (gm κ) kv)), (2, .int a2), (3, .int a3)] dX3_forget_33 rfl (by rw [kn_m1]) (by decide) rfl ?_
      refine j_goto 11 dX3_forget_36 (by decide) ?_
      refine j_loc [(1, .ref (ad (gm κ) kv)), (2, .int a2), (3, .int a3), (4, .int (s + (-1 : Int32)))] [1, 2, 3, 0] rfl ?_
      have h := sel_l h
      exact h
    · refine j_loc [(1, .ref (ad (gm κ) kv)), (2, .int a2), (4, .int s)] [0, 1, 3] rfl ?_
      have h := sel_r h
      have h := K0 _ h
      exact h
noncomputable def X3_forget (kv : Nat) (nv : Nat) (a2 : Int32) (w : Wd) : Option (Wd) :=
(X3_doneIn kv nv a2 w).bind fun q1 =>
(lp (X3_forget_b11 kv nv a2 q1 w) (14 : Int32)).bind fun e3 => match e3 with
| (.inl e4) => (gd (vp_in (a2 + e4) nv) <|
(some (puI w kv (ix (a2 + e4)) (vp_nar .byte (0 : Int32)))).bind fun w5 =>
some w5)
| (.inr e6) => (some w)
set_option maxRecDepth 20000 in
set_option maxHeartbeats 1000000 in
theorem t_X3_forget {κ : Kx} (kv : Nat) (nv : Nat) (hkv : sh kv = (1, nv)) (a2 : Int32) (w : Wd) (h : ok (X3_forget kv nv a2 w) (PVw κ)) : J κ RX3 cX3_forget 5 none (rmk 1 24) 0 [(0, .ref (ad (gm κ) 69)), (1, .ref (ad (gm κ) kv)), (2, .int a2)] [] w := by
  unfold X3_forget at h
  refine j_aload_n 0 dX3_forget_0 rfl rfl ?_
  refine j_aload_n 1 dX3_forget_1 rfl rfl ?_
  refine j_iload_n 2 dX3_forget_2 rfl rfl ?_
  obtain ⟨q1, e2, h⟩ := ok_b h
  refine j_callV (As := [.ref (ad (gm κ) kv), .int a2]) (st := []) [.int q1] (c_X3_doneIn (kl κ) (gm κ) (kA κ) kv nv hkv a2 w q1 e2) ck_RX3_25 im_X3_doneIn se_X3_doneIn sh_69 cx_3 ⟨rfl, rfl⟩ ⟨by decide, by decide⟩ rfl rfl (Nat.le_of_ble_eq_true rfl) dX3_forget_3 _ rfl ?_
  refine j_istore_n [(3, .int q1), (0, .ref (ad (gm κ) 69)), (1, .ref (ad (gm κ) kv)), (2, .int a2)] dX3_forget_6 rfl (by decide) rfl ?_
  refine j_bipush (14 : Int32) dX3_forget_7 kb_14 ?_
  refine j_istore [(4, .int (14 : Int32)), (3, .int q1), (0, .ref (ad (gm κ) 69)), (1, .ref (ad (gm κ) kv)), (2, .int a2)] dX3_forget_9 (by decide) rfl ?_
  refine j_loc [(1, .ref (ad (gm κ) kv)), (2, .int a2), (3, .int q1), (4, .int (14 : Int32))] [3, 4, 1, 0] rfl ?_
  refine t_X3_forget_b11 kv nv hkv a2 q1 w (fun e4 h => ?_) (fun e6 h => ?_) (14 : Int32) (ok_bb h)
  · refine j_aload_n 0 dX3_forget_25 rfl rfl ?_
    refine j_iload_n 1 dX3_forget_26 rfl rfl ?_
    refine j_iload 2 dX3_forget_27 rfl ?_
    refine j_iadd dX3_forget_29 ?_
    refine j_iconst (0 : Int32) dX3_forget_30 ki_0 ?_
    refine j_bast hkv dX3_forget_31 h (fun h => ?_)
    refine j_lW h (fun w5 h => ?_)
    have h := ok_s h
    exact j_vret dX3_forget_32 rfl h
  · have h := ok_s h
    exact j_vret dX3_forget_39 rfl h
theorem c_X3_forget (l : Launch) (γ : Gm) (A : Nat → Prop) (kv : Nat) (nv : Nat) (hkv : sh kv = (1, nv)) (a2 : Int32) (w : Wd) (q : Wd) (e : X3_forget kv nv a2 w = some q) : MetG l γ A yX3_forget cX3_forget 5 none (rmk 1 24) [.ref (ad (γ) 69), .ref (ad (γ) kv), .int a2] w none q := by
  refine met_of pn_RX3 (Nat.le_of_ble_eq_true rfl) ?_
  intro κ hl hγ hA hρ
  subst hl; subst hγ; subst hA
  exact t_X3_forget kv nv hkv a2 w ⟨q, e, pVw hρ rfl rfl⟩
theorem dX4_latestKnown_0 : decode cX4_latestKnown 0 = .ok (.aload_n 0, 1) := by decide +kernel
theorem dX4_latestKnown_1 : decode cX4_latestKnown 1 = .ok (.getfield 49, 3) := by decide +kernel
theorem dX4_latestKnown_4 : decode cX4_latestKnown 4 = .ok (.ifCond .ne 7, 3) := by decide +kernel
theorem dX4_latestKnown_7 : decode cX4_latestKnown 7 = .ok (.iconst 0, 1) := by decide +kernel
theorem dX4_latestKnown_8 : decode cX4_latestKnown 8 = .ok (.goto 14, 3) := by decide +kernel
theorem dX4_latestKnown_11 : decode cX4_latestKnown 11 = .ok (.aload_n 0, 1) := by decide +kernel
theorem dX4_latestKnown_12 : decode cX4_latestKnown 12 = .ok (.getfield 27, 3) := by decide +kernel
theorem dX4_latestKnown_15 : decode cX4_latestKnown 15 = .ok (.aload_n 0, 1) := by decide +kernel
theorem dX4_latestKnown_16 : decode cX4_latestKnown 16 = .ok (.getfield 49, 3) := by decide +kernel
theorem dX4_latestKnown_19 : decode cX4_latestKnown 19 = .ok (.iconst 1, 1) := by decide +kernel
theorem dX4_latestKnown_20 : decode cX4_latestKnown 20 = .ok (.isub, 1) := by decide +kernel
theorem dX4_latestKnown_21 : decode cX4_latestKnown 21 = .ok (.iaload, 1) := by decide +kernel
theorem dX4_latestKnown_22 : decode cX4_latestKnown 22 = .ok (.ireturn, 1) := by decide +kernel
noncomputable def X4_latestKnown (w : Wd) : Option (Int32) :=
(if (w.1 19 0) = 0 then
some (0 : Int32)
else
gd (vp_in ((w.1 19 0) - (1 : Int32)) 160) <|
some (w.1 25 (ix ((w.1 19 0) - (1 : Int32)))))
set_option maxRecDepth 20000 in
set_option maxHeartbeats 1000000 in
theorem t_X4_latestKnown {κ : Kx} (w : Wd) (h : ok (X4_latestKnown   w) (PI κ w)) : J κ RX4 cX4_latestKnown 1 (some .int) (rmk 0 0) 0 [(0, .ref (ad (gm κ) 19))] [] w := by
  unfold X4_latestKnown at h
  refine j_aload_n 0 dX4_latestKnown_0 rfl rfl ?_
  refine j_getI fl_RX4_49 sh_19 fk_19_0 dX4_latestKnown_1 ?_
  refine j_if_ne 11 dX4_latestKnown_4 (by decide) h (fun h => ?_) (fun h => ?_)
  · refine j_aload_n 0 dX4_latestKnown_11 rfl rfl ?_
    refine j_getA 25 fl_RX4_27 sh_19 fk_19_6 (by decide) dX4_latestKnown_12 ?_
    refine j_aload_n 0 dX4_latestKnown_15 rfl rfl ?_
    refine j_getI fl_RX4_49 sh_19 fk_19_0 dX4_latestKnown_16 ?_
    refine j_iconst (1 : Int32) dX4_latestKnown_19 ki_1 ?_
    refine j_isub dX4_latestKnown_20 ?_
    refine j_iald sh_25 dX4_latestKnown_21 h (fun h => ?_)
    have h := ok_s h
    exact j_iret dX4_latestKnown_22 rfl rfl h
  · refine j_iconst (0 : Int32) dX4_latestKnown_7 ki_0 ?_
    refine j_goto 22 dX4_latestKnown_8 (by decide) ?_
    have h := ok_s h
    exact j_iret dX4_latestKnown_22 rfl rfl h
theorem c_X4_latestKnown (l : Launch) (γ : Gm) (A : Nat → Prop) (w : Wd) (q : Int32) (e : X4_latestKnown   w = some q) : MetG l γ A yX4_latestKnown cX4_latestKnown 1 (some .int) (rmk 0 0) [.ref (ad (γ) 19)] w (some (.int q)) w := by
  refine met_of pn_RX4 (Nat.le_of_ble_eq_true rfl) ?_
  intro κ hl hγ hA hρ
  subst hl; subst hγ; subst hA
  exact t_X4_latestKnown    w ⟨q, e, pI hρ rfl rfl⟩
theorem dX4_add_0 : decode cX4_add 0 = .ok (.aload_n 0, 1) := by decide +kernel
theorem dX4_add_1 : decode cX4_add 1 = .ok (.getfield 9, 3) := by decide +kernel
theorem dX4_add_4 : decode cX4_add 4 = .ok (.aload_n 0, 1) := by decide +kernel
theorem dX4_add_5 : decode cX4_add 5 = .ok (.getfield 49, 3) := by decide +kernel
theorem dX4_add_8 : decode cX4_add 8 = .ok (.iload_n 1, 1) := by decide +kernel
theorem dX4_add_9 : decode cX4_add 9 = .ok (.iastore, 1) := by decide +kernel
theorem dX4_add_10 : decode cX4_add 10 = .ok (.aload_n 0, 1) := by decide +kernel
theorem dX4_add_11 : decode cX4_add 11 = .ok (.getfield 15, 3) := by decide +kernel
theorem dX4_add_14 : decode cX4_add 14 = .ok (.aload_n 0, 1) := by decide +kernel
theorem dX4_add_15 : decode cX4_add 15 = .ok (.getfield 49, 3) := by decide +kernel
theorem dX4_add_18 : decode cX4_add 18 = .ok (.iload_n 2, 1) := by decide +kernel
theorem dX4_add_19 : decode cX4_add 19 = .ok (.iastore, 1) := by decide +kernel
theorem dX4_add_20 : decode cX4_add 20 = .ok (.aload_n 0, 1) := by decide +kernel
theorem dX4_add_21 : decode cX4_add 21 = .ok (.getfield 18, 3) := by decide +kernel
theorem dX4_add_24 : decode cX4_add 24 = .ok (.aload_n 0, 1) := by decide +kernel
theorem dX4_add_25 : decode cX4_add 25 = .ok (.getfield 49, 3) := by decide +kernel
theorem dX4_add_28 : decode cX4_add 28 = .ok (.iload_n 3, 1) := by decide +kernel
theorem dX4_add_29 : decode cX4_add 29 = .ok (.iastore, 1) := by decide +kernel
theorem dX4_add_30 : decode cX4_add 30 = .ok (.aload_n 0, 1) := by decide +kernel
theorem dX4_add_31 : decode cX4_add 31 = .ok (.getfield 21, 3) := by decide +kernel
theorem dX4_add_34 : decode cX4_add 34 = .ok (.aload_n 0, 1) := by decide +kernel
theorem dX4_add_35 : decode cX4_add 35 = .ok (.getfield 49, 3) := by decide +kernel
theorem dX4_add_38 : decode cX4_add 38 = .ok (.iload 4, 2) := by decide +kernel
theorem dX4_add_40 : decode cX4_add 40 = .ok (.iastore, 1) := by decide +kernel
theorem dX4_add_41 : decode cX4_add 41 = .ok (.aload_n 0, 1) := by decide +kernel
theorem dX4_add_42 : decode cX4_add 42 = .ok (.getfield 24, 3) := by decide +kernel
theorem dX4_add_45 : decode cX4_add 45 = .ok (.aload_n 0, 1) := by decide +kernel
theorem dX4_add_46 : decode cX4_add 46 = .ok (.getfield 49, 3) := by decide +kernel
theorem dX4_add_49 : decode cX4_add 49 = .ok (.iload 5, 2) := by decide +kernel
theorem dX4_add_51 : decode cX4_add 51 = .ok (.iastore, 1) := by decide +kernel
theorem dX4_add_52 : decode cX4_add 52 = .ok (.aload_n 0, 1) := by decide +kernel
theorem dX4_add_53 : decode cX4_add 53 = .ok (.getfield 27, 3) := by decide +kernel
theorem dX4_add_56 : decode cX4_add 56 = .ok (.aload_n 0, 1) := by decide +kernel
theorem dX4_add_57 : decode cX4_add 57 = .ok (.getfield 49, 3) := by decide +kernel
theorem dX4_add_60 : decode cX4_add 60 = .ok (.iload 6, 2) := by decide +kernel
theorem dX4_add_62 : decode cX4_add 62 = .ok (.iastore, 1) := by decide +kernel
theorem dX4_add_63 : decode cX4_add 63 = .ok (.aload_n 0, 1) := by decide +kernel
theorem dX4_add_64 : decode cX4_add 64 = .ok (.dup, 1) := by decide +kernel
theorem dX4_add_65 : decode cX4_add 65 = .ok (.getfield 49, 3) := by decide +kernel
theorem dX4_add_68 : decode cX4_add 68 = .ok (.iconst 1, 1) := by decide +kernel
theorem dX4_add_69 : decode cX4_add 69 = .ok (.iadd, 1) := by decide +kernel
theorem dX4_add_70 : decode cX4_add 70 = .ok (.putfield 49, 3) := by decide +kernel
theorem dX4_add_73 : decode cX4_add 73 = .ok (.aload_n 0, 1) := by decide +kernel
theorem dX4_add_74 : decode cX4_add 74 = .ok (.iconst (-1), 1) := by decide +kernel
theorem dX4_add_75 : decode cX4_add 75 = .ok (.putfield 34, 3) := by decide +kernel
theorem dX4_add_78 : decode cX4_add 78 = .ok (.return_, 1) := by decide +kernel
noncomputable def X4_add (a1 : Int32) (a2 : Int32) (a3 : Int32) (a4 : Int32) (a5 : Int32) (a6 : Int32) (w : Wd) : Option (Wd) :=
gd (vp_in (w.1 19 0) 160) <|
(some (puI w 20 (ix (w.1 19 0)) a1)).bind fun w1 =>
gd (vp_in (w1.1 19 0) 160) <|
(some (puI w1 21 (ix (w1.1 19 0)) a2)).bind fun w2 =>
gd (vp_in (w2.1 19 0) 160) <|
(some (puI w2 22 (ix (w2.1 19 0)) a3)).bind fun w3 =>
gd (vp_in (w3.1 19 0) 160) <|
(some (puI w3 23 (ix (w3.1 19 0)) a4)).bind fun w4 =>
gd (vp_in (w4.1 19 0) 160) <|
(some (puI w4 24 (ix (w4.1 19 0)) a5)).bind fun w5 =>
gd (vp_in (w5.1 19 0) 160) <|
(some (puI w5 25 (ix (w5.1 19 0)) a6)).bind fun w6 =>
(some (puI w6 19 0 ((w6.1 19 0) + (1 : Int32)))).bind fun w7 =>
(some (puI w7 19 8 (-1 : Int32))).bind fun w8 =>
some w8
set_option maxRecDepth 20000 in
set_option maxHeartbeats 1000000 in
theorem t_X4_add {κ : Kx} (a1 : Int32) (a2 : Int32) (a3 : Int32) (a4 : Int32) (a5 : Int32) (a6 : Int32) (w : Wd) (h : ok (X4_add  a1 a2 a3 a4 a5 a6 w) (PVw κ)) : J κ RX4 cX4_add 7 none (rmk 0 0) 0 [(0, .ref (ad (gm κ) 19)), (1, .int a1), (2, .int a2), (3, .int a3), (4, .int a4), (5, .int a5), (6, .int a6)] [] w := by
  unfold X4_add at h
  refine j_aload_n 0 dX4_add_0 rfl rfl ?_
  refine j_getA 20 fl_RX4_9 sh_19 fk_19_1 (by decide) dX4_add_1 ?_
  refine j_aload_n 0 dX4_add_4 rfl rfl ?_
  refine j_getI fl_RX4_49 sh_19 fk_19_0 dX4_add_5 ?_
  refine j_iload_n 1 dX4_add_8 rfl rfl ?_
  refine j_iast sh_20 dX4_add_9 h (fun h => ?_)
  refine j_lW h (fun w1 h => ?_)
  refine j_aload_n 0 dX4_add_10 rfl rfl ?_
  refine j_getA 21 fl_RX4_15 sh_19 fk_19_2 (by decide) dX4_add_11 ?_
  refine j_aload_n 0 dX4_add_14 rfl rfl ?_
  refine j_getI fl_RX4_49 sh_19 fk_19_0 dX4_add_15 ?_
  refine j_iload_n 2 dX4_add_18 rfl rfl ?_
  refine j_iast sh_21 dX4_add_19 h (fun h => ?_)
  refine j_lW h (fun w2 h => ?_)
  refine j_aload_n 0 dX4_add_20 rfl rfl ?_
  refine j_getA 22 fl_RX4_18 sh_19 fk_19_3 (by decide) dX4_add_21 ?_
  refine j_aload_n 0 dX4_add_24 rfl rfl ?_
  refine j_getI fl_RX4_49 sh_19 fk_19_0 dX4_add_25 ?_
  refine j_iload_n 3 dX4_add_28 rfl rfl ?_
  refine j_iast sh_22 dX4_add_29 h (fun h => ?_)
  refine j_lW h (fun w3 h => ?_)
  refine j_aload_n 0 dX4_add_30 rfl rfl ?_
  refine j_getA 23 fl_RX4_21 sh_19 fk_19_4 (by decide) dX4_add_31 ?_
  refine j_aload_n 0 dX4_add_34 rfl rfl ?_
  refine j_getI fl_RX4_49 sh_19 fk_19_0 dX4_add_35 ?_
  refine j_iload 4 dX4_add_38 rfl ?_
  refine j_iast sh_23 dX4_add_40 h (fun h => ?_)
  refine j_lW h (fun w4 h => ?_)
  refine j_aload_n 0 dX4_add_41 rfl rfl ?_
  refine j_getA 24 fl_RX4_24 sh_19 fk_19_5 (by decide) dX4_add_42 ?_
  refine j_aload_n 0 dX4_add_45 rfl rfl ?_
  refine j_getI fl_RX4_49 sh_19 fk_19_0 dX4_add_46 ?_
  refine j_iload 5 dX4_add_49 rfl ?_
  refine j_iast sh_24 dX4_add_51 h (fun h => ?_)
  refine j_lW h (fun w5 h => ?_)
  refine j_aload_n 0 dX4_add_52 rfl rfl ?_
  refine j_getA 25 fl_RX4_27 sh_19 fk_19_6 (by decide) dX4_add_53 ?_
  refine j_aload_n 0 dX4_add_56 rfl rfl ?_
  refine j_getI fl_RX4_49 sh_19 fk_19_0 dX4_add_57 ?_
  refine j_iload 6 dX4_add_60 rfl ?_
  refine j_iast sh_25 dX4_add_62 h (fun h => ?_)
  refine j_lW h (fun w6 h => ?_)
  refine j_aload_n 0 dX4_add_63 rfl rfl ?_
  refine j_dup dX4_add_64 rfl ?_
  refine j_getI fl_RX4_49 sh_19 fk_19_0 dX4_add_65 ?_
  refine j_iconst (1 : Int32) dX4_add_68 ki_1 ?_
  refine j_iadd dX4_add_69 ?_
  refine j_putI fp_RX4_49 sh_19 fk_19_0 dX4_add_70 ?_
  refine j_lW h (fun w7 h => ?_)
  refine j_aload_n 0 dX4_add_73 rfl rfl ?_
  refine j_iconst (-1 : Int32) dX4_add_74 ki_m1 ?_
  refine j_putI fp_RX4_34 sh_19 fk_19_8 dX4_add_75 ?_
  refine j_lW h (fun w8 h => ?_)
  have h := ok_s h
  exact j_vret dX4_add_78 rfl h
theorem c_X4_add (l : Launch) (γ : Gm) (A : Nat → Prop) (a1 : Int32) (a2 : Int32) (a3 : Int32) (a4 : Int32) (a5 : Int32) (a6 : Int32) (w : Wd) (q : Wd) (e : X4_add  a1 a2 a3 a4 a5 a6 w = some q) : MetG l γ A yX4_add cX4_add 7 none (rmk 0 0) [.ref (ad (γ) 19), .int a1, .int a2, .int a3, .int a4, .int a5, .int a6] w none q := by
  refine met_of pn_RX4 (Nat.le_of_ble_eq_true rfl) ?_
  intro κ hl hγ hA hρ
  subst hl; subst hγ; subst hA
  exact t_X4_add   a1 a2 a3 a4 a5 a6 w ⟨q, e, pVw hρ rfl rfl⟩
