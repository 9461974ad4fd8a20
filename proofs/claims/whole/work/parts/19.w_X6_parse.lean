theorem dX6_parse_0 : decode cX6_parse 0 = .ok (.aload_n 0, 1) := by decide +kernel
theorem dX6_parse_1 : decode cX6_parse 1 = .ok (.getfield 32, 3) := by decide +kernel
theorem dX6_parse_4 : decode cX6_parse 4 = .ok (.invokevirtual 54, 3) := by decide +kernel
theorem dX6_parse_7 : decode cX6_parse 7 = .ok (.aload_n 0, 1) := by decide +kernel
theorem dX6_parse_8 : decode cX6_parse 8 = .ok (.iconst 0, 1) := by decide +kernel
theorem dX6_parse_9 : decode cX6_parse 9 = .ok (.putfield 57, 3) := by decide +kernel
theorem dX6_parse_12 : decode cX6_parse 12 = .ok (.aload_n 0, 1) := by decide +kernel
theorem dX6_parse_13 : decode cX6_parse 13 = .ok (.iconst 0, 1) := by decide +kernel
theorem dX6_parse_14 : decode cX6_parse 14 = .ok (.putfield 60, 3) := by decide +kernel
theorem dX6_parse_17 : decode cX6_parse 17 = .ok (.aload_n 0, 1) := by decide +kernel
theorem dX6_parse_18 : decode cX6_parse 18 = .ok (.iconst 0, 1) := by decide +kernel
theorem dX6_parse_19 : decode cX6_parse 19 = .ok (.putfield 21, 3) := by decide +kernel
theorem dX6_parse_22 : decode cX6_parse 22 = .ok (.aload_n 0, 1) := by decide +kernel
theorem dX6_parse_23 : decode cX6_parse 23 = .ok (.iconst (-1), 1) := by decide +kernel
theorem dX6_parse_24 : decode cX6_parse 24 = .ok (.putfield 25, 3) := by decide +kernel
theorem dX6_parse_27 : decode cX6_parse 27 = .ok (.iconst 0, 1) := by decide +kernel
theorem dX6_parse_28 : decode cX6_parse 28 = .ok (.istore_n 2, 1) := by decide +kernel
theorem dX6_parse_29 : decode cX6_parse 29 = .ok (.iconst 0, 1) := by decide +kernel
theorem dX6_parse_30 : decode cX6_parse 30 = .ok (.istore_n 3, 1) := by decide +kernel
theorem dX6_parse_31 : decode cX6_parse 31 = .ok (.iload_n 3, 1) := by decide +kernel
theorem dX6_parse_32 : decode cX6_parse 32 = .ok (.iload_n 1, 1) := by decide +kernel
theorem dX6_parse_33 : decode cX6_parse 33 = .ok (.if_icmp .gt 73, 3) := by decide +kernel
theorem dX6_parse_36 : decode cX6_parse 36 = .ok (.iload_n 2, 1) := by decide +kernel
theorem dX6_parse_37 : decode cX6_parse 37 = .ok (.ifCond .ne 69, 3) := by decide +kernel
theorem dX6_parse_40 : decode cX6_parse 40 = .ok (.aload_n 0, 1) := by decide +kernel
theorem dX6_parse_41 : decode cX6_parse 41 = .ok (.iload_n 1, 1) := by decide +kernel
theorem dX6_parse_42 : decode cX6_parse 42 = .ok (.invokevirtual 63, 3) := by decide +kernel
theorem dX6_parse_45 : decode cX6_parse 45 = .ok (.aload_n 0, 1) := by decide +kernel
theorem dX6_parse_46 : decode cX6_parse 46 = .ok (.getfield 67, 3) := by decide +kernel
theorem dX6_parse_49 : decode cX6_parse 49 = .ok (.ifCond .ne 7, 3) := by decide +kernel
theorem dX6_parse_52 : decode cX6_parse 52 = .ok (.iconst 1, 1) := by decide +kernel
theorem dX6_parse_53 : decode cX6_parse 53 = .ok (.goto 7, 3) := by decide +kernel
theorem dX6_parse_56 : decode cX6_parse 56 = .ok (.aload_n 0, 1) := by decide +kernel
theorem dX6_parse_57 : decode cX6_parse 57 = .ok (.invokevirtual 70, 3) := by decide +kernel
theorem dX6_parse_60 : decode cX6_parse 60 = .ok (.istore 4, 2) := by decide +kernel
theorem dX6_parse_62 : decode cX6_parse 62 = .ok (.iload 4, 2) := by decide +kernel
theorem dX6_parse_64 : decode cX6_parse 64 = .ok (.ifCond .eq 17, 3) := by decide +kernel
theorem dX6_parse_67 : decode cX6_parse 67 = .ok (.aload_n 0, 1) := by decide +kernel
theorem dX6_parse_68 : decode cX6_parse 68 = .ok (.iload 4, 2) := by decide +kernel
theorem dX6_parse_70 : decode cX6_parse 70 = .ok (.putfield 21, 3) := by decide +kernel
theorem dX6_parse_73 : decode cX6_parse 73 = .ok (.aload_n 0, 1) := by decide +kernel
theorem dX6_parse_74 : decode cX6_parse 74 = .ok (.aload_n 0, 1) := by decide +kernel
theorem dX6_parse_75 : decode cX6_parse 75 = .ok (.getfield 73, 3) := by decide +kernel
theorem dX6_parse_78 : decode cX6_parse 78 = .ok (.putfield 25, 3) := by decide +kernel
theorem dX6_parse_81 : decode cX6_parse 81 = .ok (.iload 4, 2) := by decide +kernel
theorem dX6_parse_83 : decode cX6_parse 83 = .ok (.ifCond .ne 11, 3) := by decide +kernel
theorem dX6_parse_86 : decode cX6_parse 86 = .ok (.aload_n 0, 1) := by decide +kernel
theorem dX6_parse_87 : decode cX6_parse 87 = .ok (.getfield 67, 3) := by decide +kernel
theorem dX6_parse_90 : decode cX6_parse 90 = .ok (.iconst 1, 1) := by decide +kernel
theorem dX6_parse_91 : decode cX6_parse 91 = .ok (.if_icmp .ne 7, 3) := by decide +kernel
theorem dX6_parse_94 : decode cX6_parse 94 = .ok (.iconst 1, 1) := by decide +kernel
theorem dX6_parse_95 : decode cX6_parse 95 = .ok (.goto 4, 3) := by decide +kernel
theorem dX6_parse_98 : decode cX6_parse 98 = .ok (.iconst 0, 1) := by decide +kernel
theorem dX6_parse_99 : decode cX6_parse 99 = .ok (.istore_n 2, 1) := by decide +kernel
theorem dX6_parse_100 : decode cX6_parse 100 = .ok (.iinc 3 1, 3) := by decide +kernel
theorem dX6_parse_103 : decode cX6_parse 103 = .ok (.goto (-72), 3) := by decide +kernel
theorem dX6_parse_106 : decode cX6_parse 106 = .ok (.return_, 1) := by decide +kernel
noncomputable def X6_parse_j99 (a1 : Int32) (a3 : Int32) (s0 : Int32) (w : Wd) : Option ((Int32 × Int32 × Wd) ⊕ Wd) :=
some (.inl (s0, (a3 + (1 : Int32)), w))
set_option maxRecDepth 20000 in
set_option maxHeartbeats 1000000 in
theorem t_X6_parse_j99 {κ : Kx} (a1 : Int32) (a3 : Int32) (s0 : Int32) (w : Wd) {G : (Int32 × Int32 × Wd) → Prop} {P : Wd → Prop} (KG : ∀ s, G s → J κ RX6 cX6_parse 5 none (rmk 6 124) 31 [(0, .ref (ad (gm κ) 65)), (1, .int a1), (2, .int s.1), (3, .int s.2.1)] [] s.2.2) (K0 : ∀ e, P e → J κ RX6 cX6_parse 5 none (rmk 6 124) 106 [] [] e) (h : ok (X6_parse_j99  a1 a3 s0 w) (sel G P)) : J κ RX6 cX6_parse 5 none (rmk 6 124) 99 [(0, .ref (ad (gm κ) 65)), (1, .int a1), (3, .int a3)] [.int s0] w := by
  unfold X6_parse_j99 at h
  refine j_istore_n [(2, .int s0), (0, .ref (ad (gm κ) 65)), (1, .int a1), (3, .int a3)] dX6_parse_99 rfl (by decide) rfl ?_
  refine j_iinc (a3 + (1 : Int32)) 3 [(3, .int (a3 + (1 : Int32))), (2, .int s0), (0, .ref (ad (gm κ) 65)), (1, .int a1)] dX6_parse_100 rfl (by rw [kn_1]) (by decide) rfl ?_
  refine j_goto 31 dX6_parse_103 (by decide) ?_
  refine j_loc [(0, .ref (ad (gm κ) 65)), (1, .int a1), (2, .int s0), (3, .int (a3 + (1 : Int32)))] [2, 3, 1, 0] rfl ?_
  have h := sel_l h
  have h := KG _ h
  exact h
noncomputable def X6_parse_j94 (a1 : Int32) (a3 : Int32) (w : Wd) : Option ((Int32 × Int32 × Wd) ⊕ Wd) :=
X6_parse_j99 a1 a3 (1 : Int32) w
set_option maxRecDepth 20000 in
set_option maxHeartbeats 1000000 in
theorem t_X6_parse_j94 {κ : Kx} (a1 : Int32) (a3 : Int32) (w : Wd) {G : (Int32 × Int32 × Wd) → Prop} {P : Wd → Prop} (KG : ∀ s, G s → J κ RX6 cX6_parse 5 none (rmk 6 124) 31 [(0, .ref (ad (gm κ) 65)), (1, .int a1), (2, .int s.1), (3, .int s.2.1)] [] s.2.2) (K0 : ∀ e, P e → J κ RX6 cX6_parse 5 none (rmk 6 124) 106 [] [] e) (h : ok (X6_parse_j94  a1 a3 w) (sel G P)) : J κ RX6 cX6_parse 5 none (rmk 6 124) 94 [(0, .ref (ad (gm κ) 65)), (1, .int a1), (3, .int a3)] [] w := by
  unfold X6_parse_j94 at h
  refine j_iconst (1 : Int32) dX6_parse_94 ki_1 ?_
  refine j_goto 99 dX6_parse_95 (by decide) ?_
  refine j_loc [(0, .ref (ad (gm κ) 65)), (1, .int a1), (3, .int a3)] [0, 1, 2] rfl ?_
  exact t_X6_parse_j99 a1 a3 (1 : Int32) w KG K0 h
noncomputable def X6_parse_j81 (a1 : Int32) (a3 : Int32) (a4 : Int32) (w : Wd) : Option ((Int32 × Int32 × Wd) ⊕ Wd) :=
(if a4 = 0 then
(if (w.1 65 7) = (1 : Int32) then
X6_parse_j94 a1 a3 w
else
X6_parse_j99 a1 a3 (0 : Int32) w)
else
X6_parse_j94 a1 a3 w)
set_option maxRecDepth 20000 in
set_option maxHeartbeats 1000000 in
theorem t_X6_parse_j81 {κ : Kx} (a1 : Int32) (a3 : Int32) (a4 : Int32) (w : Wd) {G : (Int32 × Int32 × Wd) → Prop} {P : Wd → Prop} (KG : ∀ s, G s → J κ RX6 cX6_parse 5 none (rmk 6 124) 31 [(0, .ref (ad (gm κ) 65)), (1, .int a1), (2, .int s.1), (3, .int s.2.1)] [] s.2.2) (K0 : ∀ e, P e → J κ RX6 cX6_parse 5 none (rmk 6 124) 106 [] [] e) (h : ok (X6_parse_j81  a1 a3 a4 w) (sel G P)) : J κ RX6 cX6_parse 5 none (rmk 6 124) 81 [(0, .ref (ad (gm κ) 65)), (1, .int a1), (3, .int a3), (4, .int a4)] [] w := by
  unfold X6_parse_j81 at h
  refine j_iload 3 dX6_parse_81 rfl ?_
  refine j_if_ne 94 dX6_parse_83 (by decide) h (fun h => ?_) (fun h => ?_)
  · refine j_loc [(0, .ref (ad (gm κ) 65)), (1, .int a1), (3, .int a3)] [0, 1, 2] rfl ?_
    exact t_X6_parse_j94 a1 a3 w KG K0 h
  · refine j_aload_n 0 dX6_parse_86 rfl rfl ?_
    refine j_getI fl_RX6_67 sh_65 fk_65_7 dX6_parse_87 ?_
    refine j_iconst (1 : Int32) dX6_parse_90 ki_1 ?_
    refine j_ic_ne 98 dX6_parse_91 (by decide) h (fun h => ?_) (fun h => ?_)
    · refine j_iconst (0 : Int32) dX6_parse_98 ki_0 ?_
      refine j_loc [(0, .ref (ad (gm κ) 65)), (1, .int a1), (3, .int a3)] [0, 1, 2] rfl ?_
      exact t_X6_parse_j99 a1 a3 (0 : Int32) w KG K0 h
    · refine j_loc [(0, .ref (ad (gm κ) 65)), (1, .int a1), (3, .int a3)] [0, 1, 2] rfl ?_
      exact t_X6_parse_j94 a1 a3 w KG K0 h
noncomputable def X6_parse_j60 (a1 : Int32) (a3 : Int32) (s0 : Int32) (w : Wd) : Option ((Int32 × Int32 × Wd) ⊕ Wd) :=
(if s0 = 0 then
X6_parse_j81 a1 a3 s0 w
else
(some (puI w 65 4 s0)).bind fun w11 =>
(some (puI w11 65 5 (w11.1 65 8))).bind fun w12 =>
X6_parse_j81 a1 a3 s0 w12)
set_option maxRecDepth 20000 in
set_option maxHeartbeats 1000000 in
theorem t_X6_parse_j60 {κ : Kx} (a1 : Int32) (a3 : Int32) (s0 : Int32) (w : Wd) {G : (Int32 × Int32 × Wd) → Prop} {P : Wd → Prop} (KG : ∀ s, G s → J κ RX6 cX6_parse 5 none (rmk 6 124) 31 [(0, .ref (ad (gm κ) 65)), (1, .int a1), (2, .int s.1), (3, .int s.2.1)] [] s.2.2) (K0 : ∀ e, P e → J κ RX6 cX6_parse 5 none (rmk 6 124) 106 [] [] e) (h : ok (X6_parse_j60  a1 a3 s0 w) (sel G P)) : J κ RX6 cX6_parse 5 none (rmk 6 124) 60 [(0, .ref (ad (gm κ) 65)), (1, .int a1), (3, .int a3)] [.int s0] w := by
  unfold X6_parse_j60 at h
  refine j_istore [(4, .int s0), (0, .ref (ad (gm κ) 65)), (1, .int a1), (3, .int a3)] dX6_parse_60 (by decide) rfl ?_
  refine j_iload 0 dX6_parse_62 rfl ?_
  refine j_if_eq 81 dX6_parse_64 (by decide) h (fun h => ?_) (fun h => ?_)
  · refine j_loc [(0, .ref (ad (gm κ) 65)), (1, .int a1), (3, .int a3), (4, .int s0)] [1, 2, 3, 0] rfl ?_
    exact t_X6_parse_j81 a1 a3 s0 w KG K0 h
  · refine j_aload_n 1 dX6_parse_67 rfl rfl ?_
    refine j_iload 0 dX6_parse_68 rfl ?_
    refine j_putI fp_RX6_21 sh_65 fk_65_4 dX6_parse_70 ?_
    refine j_lW h (fun w11 h => ?_)
    refine j_aload_n 1 dX6_parse_73 rfl rfl ?_
    refine j_aload_n 1 dX6_parse_74 rfl rfl ?_
    refine j_getI fl_RX6_73 sh_65 fk_65_8 dX6_parse_75 ?_
    refine j_putI fp_RX6_25 sh_65 fk_65_5 dX6_parse_78 ?_
    refine j_lW h (fun w12 h => ?_)
    refine j_loc [(0, .ref (ad (gm κ) 65)), (1, .int a1), (3, .int a3), (4, .int s0)] [1, 2, 3, 0] rfl ?_
    exact t_X6_parse_j81 a1 a3 s0 w12 KG K0 h
noncomputable def X6_parse_b31 (a1 : Int32) (s : (Int32 × Int32 × Wd)) : Option ((Int32 × Int32 × Wd) ⊕ Wd) :=
(if a1 < s.2.1 then
some (.inr s.2.2)
else
(if s.1 = 0 then
(X6_scan a1 s.2.2).bind fun q7 =>
(if (q7.1 65 7) = 0 then
X6_parse_j60 a1 s.2.1 (1 : Int32) q7
else
(X6_take q7).bind fun q9 =>
X6_parse_j60 a1 s.2.1 q9.1 q9.2)
else
some (.inr s.2.2)))
set_option maxRecDepth 20000 in
set_option maxHeartbeats 1000000 in
theorem t_X6_parse_b31 {κ : Kx} (a1 : Int32) {P : Wd → Prop} (K0 : ∀ e, P e → J κ RX6 cX6_parse 5 none (rmk 6 124) 106 [] [] e) (s : (Int32 × Int32 × Wd)) (h : ok (lp (X6_parse_b31  a1) s) P) : J κ RX6 cX6_parse 5 none (rmk 6 124) 31 [(0, .ref (ad (gm κ) 65)), (1, .int a1), (2, .int s.1), (3, .int s.2.1)] [] s.2.2 := by
  refine lp_ind (fun s => J κ RX6 cX6_parse 5 none (rmk 6 124) 31 [(0, .ref (ad (gm κ) 65)), (1, .int a1), (2, .int s.1), (3, .int s.2.1)] [] s.2.2) (fun s h => ?_) s h
  unfold X6_parse_b31 at h
  refine j_iload_n 3 dX6_parse_31 rfl rfl ?_
  refine j_iload_n 1 dX6_parse_32 rfl rfl ?_
  refine j_ic_gt 106 dX6_parse_33 (by decide) h (fun h => ?_) (fun h => ?_)
  · refine j_loc [] [] rfl ?_
    have h := sel_r h
    have h := K0 _ h
    exact h
  · refine j_iload_n 2 dX6_parse_36 rfl rfl ?_
    refine j_if_ne 106 dX6_parse_37 (by decide) h (fun h => ?_) (fun h => ?_)
    · refine j_loc [] [] rfl ?_
      have h := sel_r h
      have h := K0 _ h
      exact h
    · refine j_aload_n 0 dX6_parse_40 rfl rfl ?_
      refine j_iload_n 1 dX6_parse_41 rfl rfl ?_
      obtain ⟨q7, e8, h⟩ := ok_b h
      refine j_callV (As := [.int a1]) (st := []) [] (c_X6_scan (kl κ) (gm κ) (kA κ) a1 s.2.2 q7 e8) ck_RX6_63 im_X6_scan se_X6_scan sh_65 cx_6 ⟨rfl, rfl⟩ ⟨by decide, by decide⟩ rfl rfl (Nat.le_of_ble_eq_true rfl) dX6_parse_42 _ rfl ?_
      refine j_aload_n 0 dX6_parse_45 rfl rfl ?_
      refine j_getI fl_RX6_67 sh_65 fk_65_7 dX6_parse_46 ?_
      refine j_if_ne 56 dX6_parse_49 (by decide) h (fun h => ?_) (fun h => ?_)
      · refine j_aload_n 0 dX6_parse_56 rfl rfl ?_
        obtain ⟨q9, e10, h⟩ := ok_b h
        refine j_callV (As := []) (st := []) [.int q9.1] (c_X6_take (kl κ) (gm κ) (kA κ) q7 q9 e10) ck_RX6_70 im_X6_take se_X6_take sh_65 cx_6 ⟨rfl, rfl⟩ ⟨by decide, by decide⟩ rfl rfl (Nat.le_of_ble_eq_true rfl) dX6_parse_57 _ rfl ?_
        refine j_loc [(0, .ref (ad (gm κ) 65)), (1, .int a1), (3, .int s.2.1)] [0, 1, 3] rfl ?_
        exact t_X6_parse_j60 a1 s.2.1 q9.1 q9.2 (fun _ h => h) K0 h
      · refine j_iconst (1 : Int32) dX6_parse_52 ki_1 ?_
        refine j_goto 60 dX6_parse_53 (by decide) ?_
        refine j_loc [(0, .ref (ad (gm κ) 65)), (1, .int a1), (3, .int s.2.1)] [0, 1, 3] rfl ?_
        exact t_X6_parse_j60 a1 s.2.1 (1 : Int32) q7 (fun _ h => h) K0 h
noncomputable def X6_parse (a1 : Int32) (w : Wd) : Option (Wd) :=
(X0_openText w).bind fun q1 =>
(some (puI q1 65 6 (0 : Int32))).bind fun w3 =>
(some (puI w3 65 11 (0 : Int32))).bind fun w4 =>
(some (puI w4 65 4 (0 : Int32))).bind fun w5 =>
(some (puI w5 65 5 (-1 : Int32))).bind fun w6 =>
(lp (X6_parse_b31 a1) ((0 : Int32), (0 : Int32), w6)).bind fun e13 =>
some e13
set_option maxRecDepth 20000 in
set_option maxHeartbeats 1000000 in
theorem t_X6_parse {κ : Kx} (a1 : Int32) (w : Wd) (h : ok (X6_parse  a1 w) (PVw κ)) : J κ RX6 cX6_parse 5 none (rmk 6 124) 0 [(0, .ref (ad (gm κ) 65)), (1, .int a1)] [] w := by
  unfold X6_parse at h
  refine j_aload_n 0 dX6_parse_0 rfl rfl ?_
  refine j_getA 30 fl_RX6_32 sh_65 fk_65_0 (by decide) dX6_parse_1 ?_
  obtain ⟨q1, e2, h⟩ := ok_b h
  refine j_callV (As := []) (st := []) [] (c_X0_openText (kl κ) (gm κ) (kA κ) w q1 e2) ck_RX6_54 im_X0_openText se_X0_openText sh_30 cx_0 ⟨rfl, rfl⟩ ⟨by decide, by decide⟩ rfl rfl (Nat.le_of_ble_eq_true rfl) dX6_parse_4 _ rfl ?_
  refine j_aload_n 0 dX6_parse_7 rfl rfl ?_
  refine j_iconst (0 : Int32) dX6_parse_8 ki_0 ?_
  refine j_putI fp_RX6_57 sh_65 fk_65_6 dX6_parse_9 ?_
  refine j_lW h (fun w3 h => ?_)
  refine j_aload_n 0 dX6_parse_12 rfl rfl ?_
  refine j_iconst (0 : Int32) dX6_parse_13 ki_0 ?_
  refine j_putI fp_RX6_60 sh_65 fk_65_11 dX6_parse_14 ?_
  refine j_lW h (fun w4 h => ?_)
  refine j_aload_n 0 dX6_parse_17 rfl rfl ?_
  refine j_iconst (0 : Int32) dX6_parse_18 ki_0 ?_
  refine j_putI fp_RX6_21 sh_65 fk_65_4 dX6_parse_19 ?_
  refine j_lW h (fun w5 h => ?_)
  refine j_aload_n 0 dX6_parse_22 rfl rfl ?_
  refine j_iconst (-1 : Int32) dX6_parse_23 ki_m1 ?_
  refine j_putI fp_RX6_25 sh_65 fk_65_5 dX6_parse_24 ?_
  refine j_lW h (fun w6 h => ?_)
  refine j_iconst (0 : Int32) dX6_parse_27 ki_0 ?_
  refine j_istore_n [(2, .int (0 : Int32)), (0, .ref (ad (gm κ) 65)), (1, .int a1)] dX6_parse_28 rfl (by decide) rfl ?_
  refine j_iconst (0 : Int32) dX6_parse_29 ki_0 ?_
  refine j_istore_n [(3, .int (0 : Int32)), (2, .int (0 : Int32)), (0, .ref (ad (gm κ) 65)), (1, .int a1)] dX6_parse_30 rfl (by decide) rfl ?_
  refine j_loc [(0, .ref (ad (gm κ) 65)), (1, .int a1), (2, .int (0 : Int32)), (3, .int (0 : Int32))] [2, 3, 1, 0] rfl ?_
  refine t_X6_parse_b31 a1 (fun e13 h => ?_) ((0 : Int32), (0 : Int32), w6) (ok_bb h)
  · have h := ok_s h
    exact j_vret dX6_parse_106 rfl h
theorem c_X6_parse (l : Launch) (γ : Gm) (A : Nat → Prop) (a1 : Int32) (w : Wd) (q : Wd) (e : X6_parse  a1 w = some q) : MetG l γ A yX6_parse cX6_parse 5 none (rmk 6 124) [.ref (ad (γ) 65), .int a1] w none q := by
  refine met_of pn_RX6 (Nat.le_of_ble_eq_true rfl) ?_
  intro κ hl hγ hA hρ
  subst hl; subst hγ; subst hA
  exact t_X6_parse   a1 w ⟨q, e, pVw hρ rfl rfl⟩
theorem dX7_begin_0 : decode cX7_begin 0 = .ok (.aload_n 0, 1) := by decide +kernel
theorem dX7_begin_1 : decode cX7_begin 1 = .ok (.iload_n 1, 1) := by decide +kernel
theorem dX7_begin_2 : decode cX7_begin 2 = .ok (.putfield 30, 3) := by decide +kernel
theorem dX7_begin_5 : decode cX7_begin 5 = .ok (.return_, 1) := by decide +kernel
noncomputable def X7_begin (a1 : Int32) (w : Wd) : Option (Wd) :=
(some (puI w 88 0 a1)).bind fun w1 =>
some w1
set_option maxRecDepth 20000 in
set_option maxHeartbeats 1000000 in
theorem t_X7_begin {κ : Kx} (a1 : Int32) (w : Wd) (h : ok (X7_begin  a1 w) (PVw κ)) : J κ RX7 cX7_begin 2 none (rmk 0 0) 0 [(0, .ref (ad (gm κ) 88)), (1, .int a1)] [] w := by
  unfold X7_begin at h
  refine j_aload_n 0 dX7_begin_0 rfl rfl ?_
  refine j_iload_n 1 dX7_begin_1 rfl rfl ?_
  refine j_putI fp_RX7_30 sh_88 fk_88_0 dX7_begin_2 ?_
  refine j_lW h (fun w1 h => ?_)
  have h := ok_s h
  exact j_vret dX7_begin_5 rfl h
theorem c_X7_begin (l : Launch) (γ : Gm) (A : Nat → Prop) (a1 : Int32) (w : Wd) (q : Wd) (e : X7_begin  a1 w = some q) : MetG l γ A yX7_begin cX7_begin 2 none (rmk 0 0) [.ref (ad (γ) 88), .int a1] w none q := by
  refine met_of pn_RX7 (Nat.le_of_ble_eq_true rfl) ?_
  intro κ hl hγ hA hρ
  subst hl; subst hγ; subst hA
  exact t_X7_begin   a1 w ⟨q, e, pVw hρ rfl rfl⟩
theorem dX7_name_0 : decode cX7_name 0 = .ok (.aload_n 0, 1) := by decide +kernel
theorem dX7_name_1 : decode cX7_name 1 = .ok (.getfield 9, 3) := by decide +kernel
theorem dX7_name_4 : decode cX7_name 4 = .ok (.iload_n 1, 1) := by decide +kernel
theorem dX7_name_5 : decode cX7_name 5 = .ok (.iload_n 2, 1) := by decide +kernel
theorem dX7_name_6 : decode cX7_name 6 = .ok (.iastore, 1) := by decide +kernel
theorem dX7_name_7 : decode cX7_name 7 = .ok (.aload_n 0, 1) := by decide +kernel
theorem dX7_name_8 : decode cX7_name 8 = .ok (.getfield 15, 3) := by decide +kernel
theorem dX7_name_11 : decode cX7_name 11 = .ok (.iload_n 1, 1) := by decide +kernel
theorem dX7_name_12 : decode cX7_name 12 = .ok (.iload_n 3, 1) := by decide +kernel
theorem dX7_name_13 : decode cX7_name 13 = .ok (.iastore, 1) := by decide +kernel
theorem dX7_name_14 : decode cX7_name 14 = .ok (.return_, 1) := by decide +kernel
noncomputable def X7_name (a1 : Int32) (a2 : Int32) (a3 : Int32) (w : Wd) : Option (Wd) :=
gd (vp_in a1 7) <|
(some (puI w 89 (ix a1) a2)).bind fun w1 =>
gd (vp_in a1 7) <|
(some (puI w1 90 (ix a1) a3)).bind fun w2 =>
some w2
set_option maxRecDepth 20000 in
set_option maxHeartbeats 1000000 in
theorem t_X7_name {κ : Kx} (a1 : Int32) (a2 : Int32) (a3 : Int32) (w : Wd) (h : ok (X7_name  a1 a2 a3 w) (PVw κ)) : J κ RX7 cX7_name 4 none (rmk 0 0) 0 [(0, .ref (ad (gm κ) 88)), (1, .int a1), (2, .int a2), (3, .int a3)] [] w := by
  unfold X7_name at h
  refine j_aload_n 0 dX7_name_0 rfl rfl ?_
  refine j_getA 89 fl_RX7_9 sh_88 fk_88_1 (by decide) dX7_name_1 ?_
  refine j_iload_n 1 dX7_name_4 rfl rfl ?_
  refine j_iload_n 2 dX7_name_5 rfl rfl ?_
  refine j_iast sh_89 dX7_name_6 h (fun h => ?_)
  refine j_lW h (fun w1 h => ?_)
  refine j_aload_n 0 dX7_name_7 rfl rfl ?_
  refine j_getA 90 fl_RX7_15 sh_88 fk_88_2 (by decide) dX7_name_8 ?_
  refine j_iload_n 1 dX7_name_11 rfl rfl ?_
  refine j_iload_n 3 dX7_name_12 rfl rfl ?_
  refine j_iast sh_90 dX7_name_13 h (fun h => ?_)
  refine j_lW h (fun w2 h => ?_)
  have h := ok_s h
  exact j_vret dX7_name_14 rfl h
theorem c_X7_name (l : Launch) (γ : Gm) (A : Nat → Prop) (a1 : Int32) (a2 : Int32) (a3 : Int32) (w : Wd) (q : Wd) (e : X7_name  a1 a2 a3 w = some q) : MetG l γ A yX7_name cX7_name 4 none (rmk 0 0) [.ref (ad (γ) 88), .int a1, .int a2, .int a3] w none q := by
  refine met_of pn_RX7 (Nat.le_of_ble_eq_true rfl) ?_
  intro κ hl hγ hA hρ
  subst hl; subst hγ; subst hA
  exact t_X7_name   a1 a2 a3 w ⟨q, e, pVw hρ rfl rfl⟩
theorem dX7_speaks_0 : decode cX7_speaks 0 = .ok (.iconst (-1), 1) := by decide +kernel
theorem dX7_speaks_1 : decode cX7_speaks 1 = .ok (.istore 4, 2) := by decide +kernel
theorem dX7_speaks_3 : decode cX7_speaks 3 = .ok (.iconst 0, 1) := by decide +kernel
theorem dX7_speaks_4 : decode cX7_speaks 4 = .ok (.istore 5, 2) := by decide +kernel
theorem dX7_speaks_6 : decode cX7_speaks 6 = .ok (.iconst 0, 1) := by decide +kernel
theorem dX7_speaks_7 : decode cX7_speaks 7 = .ok (.istore 6, 2) := by decide +kernel
theorem dX7_speaks_9 : decode cX7_speaks 9 = .ok (.iload 6, 2) := by decide +kernel
theorem dX7_speaks_11 : decode cX7_speaks 11 = .ok (.iconst 5, 1) := by decide +kernel
theorem dX7_speaks_12 : decode cX7_speaks 12 = .ok (.if_icmp .ge 71, 3) := by decide +kernel
theorem dX7_speaks_15 : decode cX7_speaks 15 = .ok (.iconst 0, 1) := by decide +kernel
theorem dX7_speaks_16 : decode cX7_speaks 16 = .ok (.istore 7, 2) := by decide +kernel
theorem dX7_speaks_18 : decode cX7_speaks 18 = .ok (.iconst 0, 1) := by decide +kernel
theorem dX7_speaks_19 : decode cX7_speaks 19 = .ok (.istore 8, 2) := by decide +kernel
theorem dX7_speaks_21 : decode cX7_speaks 21 = .ok (.iload 8, 2) := by decide +kernel
theorem dX7_speaks_23 : decode cX7_speaks 23 = .ok (.aload_n 0, 1) := by decide +kernel
theorem dX7_speaks_24 : decode cX7_speaks 24 = .ok (.getfield 54, 3) := by decide +kernel
theorem dX7_speaks_27 : decode cX7_speaks 27 = .ok (.if_icmp .ge 35, 3) := by decide +kernel
theorem dX7_speaks_30 : decode cX7_speaks 30 = .ok (.aload_n 1, 1) := by decide +kernel
theorem dX7_speaks_31 : decode cX7_speaks 31 = .ok (.getfield 57, 3) := by decide +kernel
theorem dX7_speaks_34 : decode cX7_speaks 34 = .ok (.iload 8, 2) := by decide +kernel
theorem dX7_speaks_36 : decode cX7_speaks 36 = .ok (.iaload, 1) := by decide +kernel
theorem dX7_speaks_37 : decode cX7_speaks 37 = .ok (.iload_n 3, 1) := by decide +kernel
theorem dX7_speaks_38 : decode cX7_speaks 38 = .ok (.if_icmp .ne 18, 3) := by decide +kernel
theorem dX7_speaks_41 : decode cX7_speaks 41 = .ok (.aload_n 0, 1) := by decide +kernel
theorem dX7_speaks_42 : decode cX7_speaks 42 = .ok (.getfield 62, 3) := by decide +kernel
theorem dX7_speaks_45 : decode cX7_speaks 45 = .ok (.iload 8, 2) := by decide +kernel
theorem dX7_speaks_47 : decode cX7_speaks 47 = .ok (.iaload, 1) := by decide +kernel
theorem dX7_speaks_48 : decode cX7_speaks 48 = .ok (.iload 6, 2) := by decide +kernel
theorem dX7_speaks_50 : decode cX7_speaks 50 = .ok (.if_icmp .ne 6, 3) := by decide +kernel
theorem dX7_speaks_53 : decode cX7_speaks 53 = .ok (.iinc 7 1, 3) := by decide +kernel
theorem dX7_speaks_56 : decode cX7_speaks 56 = .ok (.iinc 8 1, 3) := by decide +kernel
theorem dX7_speaks_59 : decode cX7_speaks 59 = .ok (.goto (-38), 3) := by decide +kernel
theorem dX7_speaks_62 : decode cX7_speaks 62 = .ok (.iload 7, 2) := by decide +kernel
theorem dX7_speaks_64 : decode cX7_speaks 64 = .ok (.iload 5, 2) := by decide +kernel
theorem dX7_speaks_66 : decode cX7_speaks 66 = .ok (.if_icmp .le 11, 3) := by decide +kernel
theorem dX7_speaks_69 : decode cX7_speaks 69 = .ok (.iload 6, 2) := by decide +kernel
theorem dX7_speaks_71 : decode cX7_speaks 71 = .ok (.istore 4, 2) := by decide +kernel
theorem dX7_speaks_73 : decode cX7_speaks 73 = .ok (.iload 7, 2) := by decide +kernel
theorem dX7_speaks_75 : decode cX7_speaks 75 = .ok (.istore 5, 2) := by decide +kernel
theorem dX7_speaks_77 : decode cX7_speaks 77 = .ok (.iinc 6 1, 3) := by decide +kernel
theorem dX7_speaks_80 : decode cX7_speaks 80 = .ok (.goto (-71), 3) := by decide +kernel
theorem dX7_speaks_83 : decode cX7_speaks 83 = .ok (.iload 4, 2) := by decide +kernel
theorem dX7_speaks_85 : decode cX7_speaks 85 = .ok (.iconst (-1), 1) := by decide +kernel
theorem dX7_speaks_86 : decode cX7_speaks 86 = .ok (.if_icmp .eq 17, 3) := by decide +kernel
theorem dX7_speaks_89 : decode cX7_speaks 89 = .ok (.aload_n 0, 1) := by decide +kernel
theorem dX7_speaks_90 : decode cX7_speaks 90 = .ok (.getfield 65, 3) := by decide +kernel
theorem dX7_speaks_93 : decode cX7_speaks 93 = .ok (.iload_n 2, 1) := by decide +kernel
theorem dX7_speaks_94 : decode cX7_speaks 94 = .ok (.iaload, 1) := by decide +kernel
theorem dX7_speaks_95 : decode cX7_speaks 95 = .ok (.iload 4, 2) := by decide +kernel
theorem dX7_speaks_97 : decode cX7_speaks 97 = .ok (.ishr, 1) := by decide +kernel
theorem dX7_speaks_98 : decode cX7_speaks 98 = .ok (.iconst 1, 1) := by decide +kernel
theorem dX7_speaks_99 : decode cX7_speaks 99 = .ok (.iand, 1) := by decide +kernel
theorem dX7_speaks_100 : decode cX7_speaks 100 = .ok (.ifCond .eq 7, 3) := by decide +kernel
theorem dX7_speaks_103 : decode cX7_speaks 103 = .ok (.iconst 1, 1) := by decide +kernel
theorem dX7_speaks_104 : decode cX7_speaks 104 = .ok (.goto 4, 3) := by decide +kernel
theorem dX7_speaks_107 : decode cX7_speaks 107 = .ok (.iconst 0, 1) := by decide +kernel
theorem dX7_speaks_108 : decode cX7_speaks 108 = .ok (.ireturn, 1) := by decide +kernel
noncomputable def X7_speaks_j56 (a2 : Int32) (a3 : Int32) (a4 : Int32) (a5 : Int32) (a6 : Int32) (a7 : Int32) (a8 : Int32) (w : Wd) : Option ((Int32 × Int32) ⊕ Int32) :=
some (.inl (a7, (a8 + (1 : Int32))))
set_option maxRecDepth 20000 in
set_option maxHeartbeats 1000000 in
theorem t_X7_speaks_j56 {κ : Kx} (a2 : Int32) (a3 : Int32) (a4 : Int32) (a5 : Int32) (a6 : Int32) (a7 : Int32) (a8 : Int32) (w : Wd) {G : (Int32 × Int32) → Prop} {P : Int32 → Prop} (KG : ∀ s, G s → J κ RX7 cX7_speaks 9 (some .boolean) (rmk 0 0) 21 [(0, .ref (ad (gm κ) 5)), (1, .ref (ad (gm κ) 19)), (2, .int a2), (3, .int a3), (4, .int a4), (5, .int a5), (6, .int a6), (7, .int s.1), (8, .int s.2)] [] w) (K0 : ∀ e, P e → J κ RX7 cX7_speaks 9 (some .boolean) (rmk 0 0) 62 [(0, .ref (ad (gm κ) 5)), (1, .ref (ad (gm κ) 19)), (2, .int a2), (3, .int a3), (4, .int a4), (5, .int a5), (6, .int a6), (7, .int e)] [] w) (h : ok (X7_speaks_j56  a2 a3 a4 a5 a6 a7 a8 w) (sel G P)) : J κ RX7 cX7_speaks 9 (some .boolean) (rmk 0 0) 56 [(0, .ref (ad (gm κ) 5)), (1, .ref (ad (gm κ) 19)), (2, .int a2), (3, .int a3), (4, .int a4), (5, .int a5), (6, .int a6), (7, .int a7), (8, .int a8)] [] w := by
  unfold X7_speaks_j56 at h
  refine j_iinc (a8 + (1 : Int32)) 8 [(8, .int (a8 + (1 : Int32))), (0, .ref (ad (gm κ) 5)), (1, .ref (ad (gm κ) 19)), (2, .int a2), (3, .int a3), (4, .int a4), (5, .int a5), (6, .int a6), (7, .int a7)] dX7_speaks_56 rfl (by rw [kn_1]) (by decide) rfl ?_
  refine j_goto 21 dX7_speaks_59 (by decide) ?_
  refine j_loc [(0, .ref (ad (gm κ) 5)), (1, .ref (ad (gm κ) 19)), (2, .int a2), (3, .int a3), (4, .int a4), (5, .int a5), (6, .int a6), (7, .int a7), (8, .int (a8 + (1 : Int32)))] [1, 2, 3, 4, 5, 6, 7, 8, 0] rfl ?_
  have h := sel_l h
  have h := KG _ h
  exact h
noncomputable def X7_speaks_b21 (a2 : Int32) (a3 : Int32) (a4 : Int32) (a5 : Int32) (a6 : Int32) (w : Wd) (s : (Int32 × Int32)) : Option ((Int32 × Int32) ⊕ Int32) :=
(if (w.1 5 8) ≤ s.2 then
some (.inr s.1)
else
gd (vp_in s.2 40) <|
(if (w.1 27 (ix s.2)) = a3 then
gd (vp_in s.2 40) <|
(if (w.1 14 (ix s.2)) = a6 then
X7_speaks_j56 a2 a3 a4 a5 a6 (s.1 + (1 : Int32)) s.2 w
else
X7_speaks_j56 a2 a3 a4 a5 a6 s.1 s.2 w)
else
X7_speaks_j56 a2 a3 a4 a5 a6 s.1 s.2 w))
set_option maxRecDepth 20000 in
set_option maxHeartbeats 1000000 in
theorem t_X7_speaks_b21 {κ : Kx} (a2 : Int32) (a3 : Int32) (a4 : Int32) (a5 : Int32) (a6 : Int32) (w : Wd) {P : Int32 → Prop} (K0 : ∀ e, P e → J κ RX7 cX7_speaks 9 (some .boolean) (rmk 0 0) 62 [(0, .ref (ad (gm κ) 5)), (1, .ref (ad (gm κ) 19)), (2, .int a2), (3, .int a3), (4, .int a4), (5, .int a5), (6, .int a6), (7, .int e)] [] w) (s : (Int32 × Int32)) (h : ok (lp (X7_speaks_b21  a2 a3 a4 a5 a6 w) s) P) : J κ RX7 cX7_speaks 9 (some .boolean) (rmk 0 0) 21 [(0, .ref (ad (gm κ) 5)), (1, .ref (ad (gm κ) 19)), (2, .int a2), (3, .int a3), (4, .int a4), (5, .int a5), (6, .int a6), (7, .int s.1), (8, .int s.2)] [] w := by
  refine lp_ind (fun s => J κ RX7 cX7_speaks 9 (some .boolean) (rmk 0 0) 21 [(0, .ref (ad (gm κ) 5)), (1, .ref (ad (gm κ) 19)), (2, .int a2), (3, .int a3), (4, .int a4), (5, .int a5), (6, .int a6), (7, .int s.1), (8, .int s.2)] [] w) (fun s h => ?_) s h
  unfold X7_speaks_b21 at h
  refine j_iload 8 dX7_speaks_21 rfl ?_
  refine j_aload_n 0 dX7_speaks_23 rfl rfl ?_
  refine j_getI fl_RX7_54 sh_5 fk_5_8 dX7_speaks_24 ?_
  refine j_ic_ge 62 dX7_speaks_27 (by decide) h (fun h => ?_) (fun h => ?_)
  · refine j_loc [(0, .ref (ad (gm κ) 5)), (1, .ref (ad (gm κ) 19)), (2, .int a2), (3, .int a3), (4, .int a4), (5, .int a5), (6, .int a6), (7, .int s.1)] [0, 1, 2, 3, 4, 5, 6, 7] rfl ?_
    have h := sel_r h
    have h := K0 _ h
    exact h
  · refine j_aload_n 1 dX7_speaks_30 rfl rfl ?_
    refine j_getA 27 fl_RX7_57 sh_19 fk_19_10 (by decide) dX7_speaks_31 ?_
    refine j_iload 8 dX7_speaks_34 rfl ?_
    refine j_iald sh_27 dX7_speaks_36 h (fun h => ?_)
    refine j_iload_n 3 dX7_speaks_37 rfl rfl ?_
    refine j_ic_ne 56 dX7_speaks_38 (by decide) h (fun h => ?_) (fun h => ?_)
    · refine j_loc [(0, .ref (ad (gm κ) 5)), (1, .ref (ad (gm κ) 19)), (2, .int a2), (3, .int a3), (4, .int a4), (5, .int a5), (6, .int a6), (7, .int s.1), (8, .int s.2)] [0, 1, 2, 3, 4, 5, 6, 7, 8] rfl ?_
      exact t_X7_speaks_j56 a2 a3 a4 a5 a6 s.1 s.2 w (fun _ h => h) K0 h
    · refine j_aload_n 0 dX7_speaks_41 rfl rfl ?_
      refine j_getA 14 fl_RX7_62 sh_5 fk_5_11 (by decide) dX7_speaks_42 ?_
      refine j_iload 8 dX7_speaks_45 rfl ?_
      refine j_iald sh_14 dX7_speaks_47 h (fun h => ?_)
      refine j_iload 6 dX7_speaks_48 rfl ?_
      refine j_ic_ne 56 dX7_speaks_50 (by decide) h (fun h => ?_) (fun h => ?_)
      · refine j_loc [(0, .ref (ad (gm κ) 5)), (1, .ref (ad (gm κ) 19)), (2, .int a2), (3, .int a3), (4, .int a4), (5, .int a5), (6, .int a6), (7, .int s.1), (8, .int s.2)] [0, 1, 2, 3, 4, 5, 6, 7, 8] rfl ?_
        exact t_X7_speaks_j56 a2 a3 a4 a5 a6 s.1 s.2 w (fun _ h => h) K0 h
      · refine j_iinc (s.1 + (1 : Int32)) 7 [(7, .int (s.1 + (1 : Int32))), (0, .ref (ad (gm κ) 5)), (1, .ref (ad (gm κ) 19)), (2, .int a2), (3, .int a3), (4, .int a4), (5, .int a5), (6, .int a6), (8, .int s.2)] dX7_speaks_53 rfl (by rw [kn_1]) (by decide) rfl ?_
        refine j_loc [(0, .ref (ad (gm κ) 5)), (1, .ref (ad (gm κ) 19)), (2, .int a2), (3, .int a3), (4, .int a4), (5, .int a5), (6, .int a6), (7, .int (s.1 + (1 : Int32))), (8, .int s.2)] [1, 2, 3, 4, 5, 6, 7, 0, 8] rfl ?_
        exact t_X7_speaks_j56 a2 a3 a4 a5 a6 (s.1 + (1 : Int32)) s.2 w (fun _ h => h) K0 h
noncomputable def X7_speaks_j77 (a2 : Int32) (a3 : Int32) (a4 : Int32) (a5 : Int32) (a6 : Int32) (w : Wd) : Option ((Int32 × Int32 × Int32) ⊕ Int32) :=
some (.inl (a4, a5, (a6 + (1 : Int32))))
set_option maxRecDepth 20000 in
set_option maxHeartbeats 1000000 in
theorem t_X7_speaks_j77 {κ : Kx} (a2 : Int32) (a3 : Int32) (a4 : Int32) (a5 : Int32) (a6 : Int32) (w : Wd) {G : (Int32 × Int32 × Int32) → Prop} {P : Int32 → Prop} (KG : ∀ s, G s → J κ RX7 cX7_speaks 9 (some .boolean) (rmk 0 0) 9 [(0, .ref (ad (gm κ) 5)), (1, .ref (ad (gm κ) 19)), (2, .int a2), (3, .int a3), (4, .int s.1), (5, .int s.2.1), (6, .int s.2.2)] [] w) (K0 : ∀ e, P e → J κ RX7 cX7_speaks 9 (some .boolean) (rmk 0 0) 83 [(0, .ref (ad (gm κ) 5)), (2, .int a2), (4, .int e)] [] w) (h : ok (X7_speaks_j77  a2 a3 a4 a5 a6 w) (sel G P)) : J κ RX7 cX7_speaks 9 (some .boolean) (rmk 0 0) 77 [(0, .ref (ad (gm κ) 5)), (1, .ref (ad (gm κ) 19)), (2, .int a2), (3, .int a3), (4, .int a4), (5, .int a5), (6, .int a6)] [] w := by
  unfold X7_speaks_j77 at h
  refine j_iinc (a6 + (1 : Int32)) 6 [(6, .int (a6 + (1 : Int32))), (0, .ref (ad (gm κ) 5)), (1, .ref (ad (gm κ) 19)), (2, .int a2), (3, .int a3), (4, .int a4), (5, .int a5)] dX7_speaks_77 rfl (by rw [kn_1]) (by decide) rfl ?_
  refine j_goto 9 dX7_speaks_80 (by decide) ?_
  refine j_loc [(0, .ref (ad (gm κ) 5)), (1, .ref (ad (gm κ) 19)), (2, .int a2), (3, .int a3), (4, .int a4), (5, .int a5), (6, .int (a6 + (1 : Int32)))] [1, 2, 3, 4, 5, 6, 0] rfl ?_
  have h := sel_l h
  have h := KG _ h
  exact h
noncomputable def X7_speaks_b9 (a2 : Int32) (a3 : Int32) (w : Wd) (s : (Int32 × Int32 × Int32)) : Option ((Int32 × Int32 × Int32) ⊕ Int32) :=
(if (5 : Int32) ≤ s.2.2 then
some (.inr s.1)
else
(lp (X7_speaks_b21 a2 a3 s.1 s.2.1 s.2.2 w) ((0 : Int32), (0 : Int32))).bind fun e1 =>
(if e1 ≤ s.2.1 then
X7_speaks_j77 a2 a3 s.1 s.2.1 s.2.2 w
else
X7_speaks_j77 a2 a3 s.2.2 e1 s.2.2 w))
set_option maxRecDepth 20000 in
set_option maxHeartbeats 1000000 in
theorem t_X7_speaks_b9 {κ : Kx} (a2 : Int32) (a3 : Int32) (w : Wd) {P : Int32 → Prop} (K0 : ∀ e, P e → J κ RX7 cX7_speaks 9 (some .boolean) (rmk 0 0) 83 [(0, .ref (ad (gm κ) 5)), (2, .int a2), (4, .int e)] [] w) (s : (Int32 × Int32 × Int32)) (h : ok (lp (X7_speaks_b9  a2 a3 w) s) P) : J κ RX7 cX7_speaks 9 (some .boolean) (rmk 0 0) 9 [(0, .ref (ad (gm κ) 5)), (1, .ref (ad (gm κ) 19)), (2, .int a2), (3, .int a3), (4, .int s.1), (5, .int s.2.1), (6, .int s.2.2)] [] w := by
  refine lp_ind (fun s => J κ RX7 cX7_speaks 9 (some .boolean) (rmk 0 0) 9 [(0, .ref (ad (gm κ) 5)), (1, .ref (ad (gm κ) 19)), (2, .int a2), (3, .int a3), (4, .int s.1), (5, .int s.2.1), (6, .int s.2.2)] [] w) (fun s h => ?_) s h
  unfold X7_speaks_b9 at h
  refine j_iload 6 dX7_speaks_9 rfl ?_
  refine j_iconst (5 : Int32) dX7_speaks_11 ki_5 ?_
  refine j_ic_ge 83 dX7_speaks_12 (by decide) h (fun h => ?_) (fun h => ?_)
  · refine j_loc [(0, .ref (ad (gm κ) 5)), (2, .int a2), (4, .int s.1)] [0, 2, 4] rfl ?_
    have h := sel_r h
    have h := K0 _ h
    exact h
  · refine j_iconst (0 : Int32) dX7_speaks_15 ki_0 ?_
    refine j_istore [(7, .int (0 : Int32)), (0, .ref (ad (gm κ) 5)), (1, .ref (ad (gm κ) 19)), (2, .int a2), (3, .int a3), (4, .int s.1), (5, .int s.2.1), (6, .int s.2.2)] dX7_speaks_16 (by decide) rfl ?_
    refine j_iconst (0 : Int32) dX7_speaks_18 ki_0 ?_
    refine j_istore [(8, .int (0 : Int32)), (7, .int (0 : Int32)), (0, .ref (ad (gm κ) 5)), (1, .ref (ad (gm κ) 19)), (2, .int a2), (3, .int a3), (4, .int s.1), (5, .int s.2.1), (6, .int s.2.2)] dX7_speaks_19 (by decide) rfl ?_
    refine j_loc [(0, .ref (ad (gm κ) 5)), (1, .ref (ad (gm κ) 19)), (2, .int a2), (3, .int a3), (4, .int s.1), (5, .int s.2.1), (6, .int s.2.2), (7, .int (0 : Int32)), (8, .int (0 : Int32))] [2, 3, 4, 5, 6, 7, 8, 1, 0] rfl ?_
    refine t_X7_speaks_b21 a2 a3 s.1 s.2.1 s.2.2 w (fun e1 h => ?_) ((0 : Int32), (0 : Int32)) (ok_bb h)
    · refine j_iload 7 dX7_speaks_62 rfl ?_
      refine j_iload 5 dX7_speaks_64 rfl ?_
      refine j_ic_le 77 dX7_speaks_66 (by decide) h (fun h => ?_) (fun h => ?_)
      · refine j_loc [(0, .ref (ad (gm κ) 5)), (1, .ref (ad (gm κ) 19)), (2, .int a2), (3, .int a3), (4, .int s.1), (5, .int s.2.1), (6, .int s.2.2)] [0, 1, 2, 3, 4, 5, 6] rfl ?_
        exact t_X7_speaks_j77 a2 a3 s.1 s.2.1 s.2.2 w (fun _ h => h) K0 h
      · refine j_iload 6 dX7_speaks_69 rfl ?_
        refine j_istore [(4, .int s.2.2), (0, .ref (ad (gm κ) 5)), (1, .ref (ad (gm κ) 19)), (2, .int a2), (3, .int a3), (5, .int s.2.1), (6, .int s.2.2), (7, .int e1)] dX7_speaks_71 (by decide) rfl ?_
        refine j_iload 7 dX7_speaks_73 rfl ?_
        refine j_istore [(5, .int e1), (4, .int s.2.2), (0, .ref (ad (gm κ) 5)), (1, .ref (ad (gm κ) 19)), (2, .int a2), (3, .int a3), (6, .int s.2.2), (7, .int e1)] dX7_speaks_75 (by decide) rfl ?_
        refine j_loc [(0, .ref (ad (gm κ) 5)), (1, .ref (ad (gm κ) 19)), (2, .int a2), (3, .int a3), (4, .int s.2.2), (5, .int e1), (6, .int s.2.2)] [2, 3, 4, 5, 1, 0, 6] rfl ?_
        exact t_X7_speaks_j77 a2 a3 s.2.2 e1 s.2.2 w (fun _ h => h) K0 h
noncomputable def X7_speaks (a2 : Int32) (a3 : Int32) (w : Wd) : Option (Int32) :=
(lp (X7_speaks_b9 a2 a3 w) ((-1 : Int32), (0 : Int32), (0 : Int32))).bind fun e2 =>
(if e2 = (-1 : Int32) then
some (1 : Int32)
else
gd (vp_in a2 20) <|
(if (((w.1 15 (ix a2)) >>> (e2 &&& 31)) &&& (1 : Int32)) = 0 then
some (0 : Int32)
else
some (1 : Int32)))
set_option maxRecDepth 20000 in
set_option maxHeartbeats 1000000 in
theorem t_X7_speaks {κ : Kx} (a2 : Int32) (a3 : Int32) (w : Wd) (h : ok (X7_speaks  a2 a3 w) (PI κ w)) : J κ RX7 cX7_speaks 9 (some .boolean) (rmk 0 0) 0 [(0, .ref (ad (gm κ) 5)), (1, .ref (ad (gm κ) 19)), (2, .int a2), (3, .int a3)] [] w := by
  unfold X7_speaks at h
  refine j_iconst (-1 : Int32) dX7_speaks_0 ki_m1 ?_
  refine j_istore [(4, .int (-1 : Int32)), (0, .ref (ad (gm κ) 5)), (1, .ref (ad (gm κ) 19)), (2, .int a2), (3, .int a3)] dX7_speaks_1 (by decide) rfl ?_
  refine j_iconst (0 : Int32) dX7_speaks_3 ki_0 ?_
  refine j_istore [(5, .int (0 : Int32)), (4, .int (-1 : Int32)), (0, .ref (ad (gm κ) 5)), (1, .ref (ad (gm κ) 19)), (2, .int a2), (3, .int a3)] dX7_speaks_4 (by decide) rfl ?_
  refine j_iconst (0 : Int32) dX7_speaks_6 ki_0 ?_
  refine j_istore [(6, .int (0 : Int32)), (5, .int (0 : Int32)), (4, .int (-1 : Int32)), (0, .ref (ad (gm κ) 5)), (1, .ref (ad (gm κ) 19)), (2, .int a2), (3, .int a3)] dX7_speaks_7 (by decide) rfl ?_
  refine j_loc [(0, .ref (ad (gm κ) 5)), (1, .ref (ad (gm κ) 19)), (2, .int a2), (3, .int a3), (4, .int (-1 : Int32)), (5, .int (0 : Int32)), (6, .int (0 : Int32))] [3, 4, 5, 6, 2, 1, 0] rfl ?_
  refine t_X7_speaks_b9 a2 a3 w (fun e2 h => ?_) ((-1 : Int32), (0 : Int32), (0 : Int32)) (ok_bb h)
  · refine j_iload 2 dX7_speaks_83 rfl ?_
    refine j_iconst (-1 : Int32) dX7_speaks_85 ki_m1 ?_
    refine j_ic_eq 103 dX7_speaks_86 (by decide) h (fun h => ?_) (fun h => ?_)
    · refine j_iconst (1 : Int32) dX7_speaks_103 ki_1 ?_
      refine j_goto 108 dX7_speaks_104 (by decide) ?_
      have h := ok_s h
      exact j_iret dX7_speaks_108 rfl (by decide) h
    · refine j_aload_n 0 dX7_speaks_89 rfl rfl ?_
      refine j_getA 15 fl_RX7_65 sh_5 fk_5_13 (by decide) dX7_speaks_90 ?_
      refine j_iload_n 1 dX7_speaks_93 rfl rfl ?_
      refine j_iald sh_15 dX7_speaks_94 h (fun h => ?_)
      refine j_iload 2 dX7_speaks_95 rfl ?_
      refine j_ishr dX7_speaks_97 ?_
      refine j_iconst (1 : Int32) dX7_speaks_98 ki_1 ?_
      refine j_iand dX7_speaks_99 ?_
      refine j_if_eq 107 dX7_speaks_100 (by decide) h (fun h => ?_) (fun h => ?_)
      · refine j_iconst (0 : Int32) dX7_speaks_107 ki_0 ?_
        have h := ok_s h
        exact j_iret dX7_speaks_108 rfl (by decide) h
      · refine j_iconst (1 : Int32) dX7_speaks_103 ki_1 ?_
        refine j_goto 108 dX7_speaks_104 (by decide) ?_
        have h := ok_s h
        exact j_iret dX7_speaks_108 rfl (by decide) h
theorem c_X7_speaks (l : Launch) (γ : Gm) (A : Nat → Prop) (a2 : Int32) (a3 : Int32) (w : Wd) (q : Int32) (e : X7_speaks  a2 a3 w = some q) : MetG l γ A yX7_speaks cX7_speaks 9 (some .boolean) (rmk 0 0) [.ref (ad (γ) 5), .ref (ad (γ) 19), .int a2, .int a3] w (some (.int q)) w := by
  refine met_of pn_RX7 (Nat.le_of_ble_eq_true rfl) ?_
  intro κ hl hγ hA hρ
  subst hl; subst hγ; subst hA
  exact t_X7_speaks   a2 a3 w ⟨q, e, pI hρ rfl rfl⟩
theorem dX7_measure_0 : decode cX7_measure 0 = .ok (.iconst 0, 1) := by decide +kernel
theorem dX7_measure_1 : decode cX7_measure 1 = .ok (.istore 4, 2) := by decide +kernel
theorem dX7_measure_3 : decode cX7_measure 3 = .ok (.iload 4, 2) := by decide +kernel
theorem dX7_measure_5 : decode cX7_measure 5 = .ok (.aload_n 0, 1) := by decide +kernel
theorem dX7_measure_6 : decode cX7_measure 6 = .ok (.getfield 30, 3) := by decide +kernel
theorem dX7_measure_9 : decode cX7_measure 9 = .ok (.if_icmp .ge 123, 3) := by decide +kernel
theorem dX7_measure_12 : decode cX7_measure 12 = .ok (.aload_n 1, 1) := by decide +kernel
theorem dX7_measure_13 : decode cX7_measure 13 = .ok (.aload_n 1, 1) := by decide +kernel
theorem dX7_measure_14 : decode cX7_measure 14 = .ok (.getfield 34, 3) := by decide +kernel
theorem dX7_measure_17 : decode cX7_measure 17 = .ok (.aload_n 0, 1) := by decide +kernel
theorem dX7_measure_18 : decode cX7_measure 18 = .ok (.getfield 15, 3) := by decide +kernel
theorem dX7_measure_21 : decode cX7_measure 21 = .ok (.iload 4, 2) := by decide +kernel
theorem dX7_measure_23 : decode cX7_measure 23 = .ok (.iaload, 1) := by decide +kernel
theorem dX7_measure_24 : decode cX7_measure 24 = .ok (.iaload, 1) := by decide +kernel
theorem dX7_measure_25 : decode cX7_measure 25 = .ok (.iload_n 3, 1) := by decide +kernel
theorem dX7_measure_26 : decode cX7_measure 26 = .ok (.invokevirtual 39, 3) := by decide +kernel
theorem dX7_measure_29 : decode cX7_measure 29 = .ok (.iconst 0, 1) := by decide +kernel
theorem dX7_measure_30 : decode cX7_measure 30 = .ok (.istore 5, 2) := by decide +kernel
theorem dX7_measure_32 : decode cX7_measure 32 = .ok (.iload 5, 2) := by decide +kernel
theorem dX7_measure_34 : decode cX7_measure 34 = .ok (.aload_n 0, 1) := by decide +kernel
theorem dX7_measure_35 : decode cX7_measure 35 = .ok (.getfield 30, 3) := by decide +kernel
theorem dX7_measure_38 : decode cX7_measure 38 = .ok (.if_icmp .ge 88, 3) := by decide +kernel
theorem dX7_measure_41 : decode cX7_measure 41 = .ok (.aload_n 1, 1) := by decide +kernel
theorem dX7_measure_42 : decode cX7_measure 42 = .ok (.aload_n 1, 1) := by decide +kernel
theorem dX7_measure_43 : decode cX7_measure 43 = .ok (.getfield 43, 3) := by decide +kernel
theorem dX7_measure_46 : decode cX7_measure 46 = .ok (.aload_n 0, 1) := by decide +kernel
theorem dX7_measure_47 : decode cX7_measure 47 = .ok (.getfield 9, 3) := by decide +kernel
theorem dX7_measure_50 : decode cX7_measure 50 = .ok (.iload 5, 2) := by decide +kernel
theorem dX7_measure_52 : decode cX7_measure 52 = .ok (.iaload, 1) := by decide +kernel
theorem dX7_measure_53 : decode cX7_measure 53 = .ok (.iaload, 1) := by decide +kernel
theorem dX7_measure_54 : decode cX7_measure 54 = .ok (.invokevirtual 46, 3) := by decide +kernel
theorem dX7_measure_57 : decode cX7_measure 57 = .ok (.istore 6, 2) := by decide +kernel
theorem dX7_measure_59 : decode cX7_measure 59 = .ok (.iload 6, 2) := by decide +kernel
theorem dX7_measure_61 : decode cX7_measure 61 = .ok (.iconst (-1), 1) := by decide +kernel
theorem dX7_measure_62 : decode cX7_measure 62 = .ok (.if_icmp .eq 29, 3) := by decide +kernel
theorem dX7_measure_65 : decode cX7_measure 65 = .ok (.aload_n 1, 1) := by decide +kernel
theorem dX7_measure_66 : decode cX7_measure 66 = .ok (.aload_n 2, 1) := by decide +kernel
theorem dX7_measure_67 : decode cX7_measure 67 = .ok (.aload_n 0, 1) := by decide +kernel
theorem dX7_measure_68 : decode cX7_measure 68 = .ok (.getfield 15, 3) := by decide +kernel
theorem dX7_measure_71 : decode cX7_measure 71 = .ok (.iload 4, 2) := by decide +kernel
theorem dX7_measure_73 : decode cX7_measure 73 = .ok (.iaload, 1) := by decide +kernel
theorem dX7_measure_74 : decode cX7_measure 74 = .ok (.aload_n 0, 1) := by decide +kernel
theorem dX7_measure_75 : decode cX7_measure 75 = .ok (.getfield 9, 3) := by decide +kernel
theorem dX7_measure_78 : decode cX7_measure 78 = .ok (.iload 5, 2) := by decide +kernel
theorem dX7_measure_80 : decode cX7_measure 80 = .ok (.iaload, 1) := by decide +kernel
theorem dX7_measure_81 : decode cX7_measure 81 = .ok (.invokestatic 50, 3) := by decide +kernel
theorem dX7_measure_84 : decode cX7_measure 84 = .ok (.ifCond .eq 7, 3) := by decide +kernel
theorem dX7_measure_87 : decode cX7_measure 87 = .ok (.iconst 1, 1) := by decide +kernel
theorem dX7_measure_88 : decode cX7_measure 88 = .ok (.goto 4, 3) := by decide +kernel
theorem dX7_measure_91 : decode cX7_measure 91 = .ok (.iconst 0, 1) := by decide +kernel
theorem dX7_measure_92 : decode cX7_measure 92 = .ok (.istore 7, 2) := by decide +kernel
theorem dX7_measure_94 : decode cX7_measure 94 = .ok (.aload_n 0, 1) := by decide +kernel
theorem dX7_measure_95 : decode cX7_measure 95 = .ok (.getfield 18, 3) := by decide +kernel
theorem dX7_measure_98 : decode cX7_measure 98 = .ok (.iload 5, 2) := by decide +kernel
theorem dX7_measure_100 : decode cX7_measure 100 = .ok (.bipush 7, 2) := by decide +kernel
theorem dX7_measure_102 : decode cX7_measure 102 = .ok (.imul, 1) := by decide +kernel
theorem dX7_measure_103 : decode cX7_measure 103 = .ok (.iload 4, 2) := by decide +kernel
theorem dX7_measure_105 : decode cX7_measure 105 = .ok (.iadd, 1) := by decide +kernel
theorem dX7_measure_106 : decode cX7_measure 106 = .ok (.iload 7, 2) := by decide +kernel
theorem dX7_measure_108 : decode cX7_measure 108 = .ok (.ifCond .eq 8, 3) := by decide +kernel
theorem dX7_measure_111 : decode cX7_measure 111 = .ok (.iload 6, 2) := by decide +kernel
theorem dX7_measure_113 : decode cX7_measure 113 = .ok (.goto 6, 3) := by decide +kernel
theorem dX7_measure_116 : decode cX7_measure 116 = .ok (.sipush 1000, 3) := by decide +kernel
theorem dX7_measure_119 : decode cX7_measure 119 = .ok (.iastore, 1) := by decide +kernel
theorem dX7_measure_120 : decode cX7_measure 120 = .ok (.iinc 5 1, 3) := by decide +kernel
theorem dX7_measure_123 : decode cX7_measure 123 = .ok (.goto (-91), 3) := by decide +kernel
theorem dX7_measure_126 : decode cX7_measure 126 = .ok (.iinc 4 1, 3) := by decide +kernel
theorem dX7_measure_129 : decode cX7_measure 129 = .ok (.goto (-126), 3) := by decide +kernel
theorem dX7_measure_132 : decode cX7_measure 132 = .ok (.return_, 1) := by decide +kernel
noncomputable def X7_measure_j119 (a3 : Int32) (a4 : Int32) (a5 : Int32) (s0 : Int32) (s1 : Int32) (w : Wd) : Option ((Int32 × Wd) ⊕ Wd) :=
gd (vp_in s1 49) <|
(some (puI w 91 (ix s1) s0)).bind fun w5 =>
some (.inl ((a5 + (1 : Int32)), w5))
set_option maxRecDepth 20000 in
set_option maxHeartbeats 1000000 in
theorem t_X7_measure_j119 {κ : Kx} (a3 : Int32) (a4 : Int32) (a5 : Int32) (s0 : Int32) (s1 : Int32) (w : Wd) {G : (Int32 × Wd) → Prop} {P : Wd → Prop} (KG : ∀ s, G s → J κ RX7 cX7_measure 8 none (rmk 3 72) 32 [(0, .ref (ad (gm κ) 88)), (1, .ref (ad (gm κ) 5)), (2, .ref (ad (gm κ) 19)), (3, .int a3), (4, .int a4), (5, .int s.1)] [] s.2) (K0 : ∀ e, P e → J κ RX7 cX7_measure 8 none (rmk 3 72) 126 [(0, .ref (ad (gm κ) 88)), (1, .ref (ad (gm κ) 5)), (2, .ref (ad (gm κ) 19)), (3, .int a3), (4, .int a4)] [] e) (h : ok (X7_measure_j119  a3 a4 a5 s0 s1 w) (sel G P)) : J κ RX7 cX7_measure 8 none (rmk 3 72) 119 [(0, .ref (ad (gm κ) 88)), (1, .ref (ad (gm κ) 5)), (2, .ref (ad (gm κ) 19)), (3, .int a3), (4, .int a4), (5, .int a5)] [.int s0, .int s1, .ref (ad (gm κ) 91)] w := by
  unfold X7_measure_j119 at h
  refine j_iast sh_91 dX7_measure_119 h (fun h => ?_)
  refine j_lW h (fun w5 h => ?_)
  refine j_iinc (a5 + (1 : Int32)) 5 [(5, .int (a5 + (1 : Int32))), (0, .ref (ad (gm κ) 88)), (1, .ref (ad (gm κ) 5)), (2, .ref (ad (gm κ) 19)), (3, .int a3), (4, .int a4)] dX7_measure_120 rfl (by rw [kn_1]) (by decide) rfl ?_
  refine j_goto 32 dX7_measure_123 (by decide) ?_
  refine j_loc [(0, .ref (ad (gm κ) 88)), (1, .ref (ad (gm κ) 5)), (2, .ref (ad (gm κ) 19)), (3, .int a3), (4, .int a4), (5, .int (a5 + (1 : Int32)))] [1, 2, 3, 4, 5, 0] rfl ?_
  have h := sel_l h
  have h := KG _ h
  exact h
noncomputable def X7_measure_j92 (a3 : Int32) (a4 : Int32) (a5 : Int32) (a6 : Int32) (s0 : Int32) (w : Wd) : Option ((Int32 × Wd) ⊕ Wd) :=
(if s0 = 0 then
X7_measure_j119 a3 a4 a5 (1000 : Int32) ((a5 * (7 : Int32)) + a4) w
else
X7_measure_j119 a3 a4 a5 a6 ((a5 * (7 : Int32)) + a4) w)
set_option maxRecDepth 20000 in
set_option maxHeartbeats 1000000 in
theorem t_X7_measure_j92 {κ : Kx} (a3 : Int32) (a4 : Int32) (a5 : Int32) (a6 : Int32) (s0 : Int32) (w : Wd) {G : (Int32 × Wd) → Prop} {P : Wd → Prop} (KG : ∀ s, G s → J κ RX7 cX7_measure 8 none (rmk 3 72) 32 [(0, .ref (ad (gm κ) 88)), (1, .ref (ad (gm κ) 5)), (2, .ref (ad (gm κ) 19)), (3, .int a3), (4, .int a4), (5, .int s.1)] [] s.2) (K0 : ∀ e, P e → J κ RX7 cX7_measure 8 none (rmk 3 72) 126 [(0, .ref (ad (gm κ) 88)), (1, .ref (ad (gm κ) 5)), (2, .ref (ad (gm κ) 19)), (3, .int a3), (4, .int a4)] [] e) (h : ok (X7_measure_j92  a3 a4 a5 a6 s0 w) (sel G P)) : J κ RX7 cX7_measure 8 none (rmk 3 72) 92 [(0, .ref (ad (gm κ) 88)), (1, .ref (ad (gm κ) 5)), (2, .ref (ad (gm κ) 19)), (3, .int a3), (4, .int a4), (5, .int a5), (6, .int a6)] [.int s0] w := by
  unfold X7_measure_j92 at h
  refine j_istore [(7, .int s0), (0, .ref (ad (gm κ) 88)), (1, .ref (ad (gm κ) 5)), (2, .ref (ad (gm κ) 19)), (3, .int a3), (4, .int a4), (5, .int a5), (6, .int a6)] dX7_measure_92 (by decide) rfl ?_
  refine j_aload_n 1 dX7_measure_94 rfl rfl ?_
  refine j_getA 91 fl_RX7_18 sh_88 fk_88_3 (by decide) dX7_measure_95 ?_
  refine j_iload 6 dX7_measure_98 rfl ?_
  refine j_bipush (7 : Int32) dX7_measure_100 kb_7 ?_
  refine j_imul dX7_measure_102 ?_
  refine j_iload 5 dX7_measure_103 rfl ?_
  refine j_iadd dX7_measure_105 ?_
  refine j_iload 0 dX7_measure_106 rfl ?_
  refine j_if_eq 116 dX7_measure_108 (by decide) h (fun h => ?_) (fun h => ?_)
  · refine j_sipush (1000 : Int32) dX7_measure_116 ks_1000 ?_
    refine j_loc [(0, .ref (ad (gm κ) 88)), (1, .ref (ad (gm κ) 5)), (2, .ref (ad (gm κ) 19)), (3, .int a3), (4, .int a4), (5, .int a5)] [1, 2, 3, 4, 5, 6] rfl ?_
    exact t_X7_measure_j119 a3 a4 a5 (1000 : Int32) ((a5 * (7 : Int32)) + a4) w KG K0 h
  · refine j_iload 7 dX7_measure_111 rfl ?_
    refine j_goto 119 dX7_measure_113 (by decide) ?_
    refine j_loc [(0, .ref (ad (gm κ) 88)), (1, .ref (ad (gm κ) 5)), (2, .ref (ad (gm κ) 19)), (3, .int a3), (4, .int a4), (5, .int a5)] [1, 2, 3, 4, 5, 6] rfl ?_
    exact t_X7_measure_j119 a3 a4 a5 a6 ((a5 * (7 : Int32)) + a4) w KG K0 h
noncomputable def X7_measure_j91 (a3 : Int32) (a4 : Int32) (a5 : Int32) (a6 : Int32) (w : Wd) : Option ((Int32 × Wd) ⊕ Wd) :=
X7_measure_j92 a3 a4 a5 a6 (0 : Int32) w
set_option maxRecDepth 20000 in
set_option maxHeartbeats 1000000 in
theorem t_X7_measure_j91 {κ : Kx} (a3 : Int32) (a4 : Int32) (a5 : Int32) (a6 : Int32) (w : Wd) {G : (Int32 × Wd) → Prop} {P : Wd → Prop} (KG : ∀ s, G s → J κ RX7 cX7_measure 8 none (rmk 3 72) 32 [(0, .ref (ad (gm κ) 88)), (1, .ref (ad (gm κ) 5)), (2, .ref (ad (gm κ) 19)), (3, .int a3), (4, .int a4), (5, .int s.1)] [] s.2) (K0 : ∀ e, P e → J κ RX7 cX7_measure 8 none (rmk 3 72) 126 [(0, .ref (ad (gm κ) 88)), (1, .ref (ad (gm κ) 5)), (2, .ref (ad (gm κ) 19)), (3, .int a3), (4, .int a4)] [] e) (h : ok (X7_measure_j91  a3 a4 a5 a6 w) (sel G P)) : J κ RX7 cX7_measure 8 none (rmk 3 72) 91 [(0, .ref (ad (gm κ) 88)), (1, .ref (ad (gm κ) 5)), (2, .ref (ad (gm κ) 19)), (3, .int a3), (4, .int a4), (5, .int a5), (6, .int a6)] [] w := by
  unfold X7_measure_j91 at h
  refine j_iconst (0 : Int32) dX7_measure_91 ki_0 ?_
  refine j_loc [(0, .ref (ad (gm κ) 88)), (1, .ref (ad (gm κ) 5)), (2, .ref (ad (gm κ) 19)), (3, .int a3), (4, .int a4), (5, .int a5), (6, .int a6)] [0, 1, 2, 3, 4, 5, 6] rfl ?_
  exact t_X7_measure_j92 a3 a4 a5 a6 (0 : Int32) w KG K0 h
noncomputable def X7_measure_b32 (a3 : Int32) (a4 : Int32) (s : (Int32 × Wd)) : Option ((Int32 × Wd) ⊕ Wd) :=
(if (s.2.1 88 0) ≤ s.1 then
some (.inr s.2)
else
gd (vp_in s.1 7) <|
gd (vp_in (s.2.1 89 (ix s.1)) 12) <|
(X2_reached (s.2.1 17 (ix (s.2.1 89 (ix s.1)))) s.2).bind fun q3 =>
(if q3 = (-1 : Int32) then
X7_measure_j91 a3 a4 s.1 q3 s.2
else
gd (vp_in a4 7) <|
gd (vp_in s.1 7) <|
(X7_speaks (s.2.1 90 (ix a4)) (s.2.1 89 (ix s.1)) s.2).bind fun q6 =>
(if q6 = 0 then
X7_measure_j91 a3 a4 s.1 q3 s.2
else
X7_measure_j92 a3 a4 s.1 q3 (1 : Int32) s.2)))
set_option maxRecDepth 20000 in
set_option maxHeartbeats 1000000 in
theorem t_X7_measure_b32 {κ : Kx} (a3 : Int32) (a4 : Int32) {P : Wd → Prop} (K0 : ∀ e, P e → J κ RX7 cX7_measure 8 none (rmk 3 72) 126 [(0, .ref (ad (gm κ) 88)), (1, .ref (ad (gm κ) 5)), (2, .ref (ad (gm κ) 19)), (3, .int a3), (4, .int a4)] [] e) (s : (Int32 × Wd)) (h : ok (lp (X7_measure_b32  a3 a4) s) P) : J κ RX7 cX7_measure 8 none (rmk 3 72) 32 [(0, .ref (ad (gm κ) 88)), (1, .ref (ad (gm κ) 5)), (2, .ref (ad (gm κ) 19)), (3, .int a3), (4, .int a4), (5, .int s.1)] [] s.2 := by
  refine lp_ind (fun s => J κ RX7 cX7_measure 8 none (rmk 3 72) 32 [(0, .ref (ad (gm κ) 88)), (1, .ref (ad (gm κ) 5)), (2, .ref (ad (gm κ) 19)), (3, .int a3), (4, .int a4), (5, .int s.1)] [] s.2) (fun s h => ?_) s h
  unfold X7_measure_b32 at h
  refine j_iload 5 dX7_measure_32 rfl ?_
  refine j_aload_n 0 dX7_measure_34 rfl rfl ?_
  refine j_getI fl_RX7_30 sh_88 fk_88_0 dX7_measure_35 ?_
  refine j_ic_ge 126 dX7_measure_38 (by decide) h (fun h => ?_) (fun h => ?_)
  · refine j_loc [(0, .ref (ad (gm κ) 88)), (1, .ref (ad (gm κ) 5)), (2, .ref (ad (gm κ) 19)), (3, .int a3), (4, .int a4)] [0, 1, 2, 3, 4] rfl ?_
    have h := sel_r h
    have h := K0 _ h
    exact h
  · refine j_aload_n 1 dX7_measure_41 rfl rfl ?_
    refine j_aload_n 1 dX7_measure_42 rfl rfl ?_
    refine j_getA 17 fl_RX7_43 sh_5 fk_5_16 (by decide) dX7_measure_43 ?_
    refine j_aload_n 0 dX7_measure_46 rfl rfl ?_
    refine j_getA 89 fl_RX7_9 sh_88 fk_88_1 (by decide) dX7_measure_47 ?_
    refine j_iload 5 dX7_measure_50 rfl ?_
    refine j_iald sh_89 dX7_measure_52 h (fun h => ?_)
    refine j_iald sh_17 dX7_measure_53 h (fun h => ?_)
    obtain ⟨q3, e4, h⟩ := ok_b h
    refine j_callV (As := [.int (s.2.1 17 (ix (s.2.1 89 (ix s.1))))]) (st := []) [.int q3] (c_X2_reached (kl κ) (gm κ) (kA κ) (s.2.1 17 (ix (s.2.1 89 (ix s.1)))) s.2 q3 e4) ck_RX7_46 im_X2_reached se_X2_reached sh_5 cx_2 ⟨rfl, rfl⟩ ⟨by decide, by decide⟩ rfl rfl (Nat.le_of_ble_eq_true rfl) dX7_measure_54 _ rfl ?_
    refine j_istore [(6, .int q3), (0, .ref (ad (gm κ) 88)), (1, .ref (ad (gm κ) 5)), (2, .ref (ad (gm κ) 19)), (3, .int a3), (4, .int a4), (5, .int s.1)] dX7_measure_57 (by decide) rfl ?_
    refine j_iload 0 dX7_measure_59 rfl ?_
    refine j_iconst (-1 : Int32) dX7_measure_61 ki_m1 ?_
    refine j_ic_eq 91 dX7_measure_62 (by decide) h (fun h => ?_) (fun h => ?_)
    · refine j_loc [(0, .ref (ad (gm κ) 88)), (1, .ref (ad (gm κ) 5)), (2, .ref (ad (gm κ) 19)), (3, .int a3), (4, .int a4), (5, .int s.1), (6, .int q3)] [1, 2, 3, 4, 5, 6, 0] rfl ?_
      exact t_X7_measure_j91 a3 a4 s.1 q3 s.2 (fun _ h => h) K0 h
    · refine j_aload_n 2 dX7_measure_65 rfl rfl ?_
      refine j_aload_n 3 dX7_measure_66 rfl rfl ?_
      refine j_aload_n 1 dX7_measure_67 rfl rfl ?_
      refine j_getA 90 fl_RX7_15 sh_88 fk_88_2 (by decide) dX7_measure_68 ?_
      refine j_iload 5 dX7_measure_71 rfl ?_
      refine j_iald sh_90 dX7_measure_73 h (fun h => ?_)
      refine j_aload_n 1 dX7_measure_74 rfl rfl ?_
      refine j_getA 89 fl_RX7_9 sh_88 fk_88_1 (by decide) dX7_measure_75 ?_
      refine j_iload 6 dX7_measure_78 rfl ?_
      refine j_iald sh_89 dX7_measure_80 h (fun h => ?_)
      obtain ⟨q6, e7, h⟩ := ok_b h
      refine j_callS (As := [.ref (ad (gm κ) 5), .ref (ad (gm κ) 19), .int (s.2.1 90 (ix a4)), .int (s.2.1 89 (ix s.1))]) (st := []) [.int q6] (c_X7_speaks (kl κ) (gm κ) (kA κ) (s.2.1 90 (ix a4)) (s.2.1 89 (ix s.1)) s.2 q6 e7) ck_RX7_50 st_X7_speaks ⟨rfl, rfl⟩ ⟨by decide, by decide⟩ rfl rfl (Nat.le_of_ble_eq_true rfl) dX7_measure_81 _ rfl ?_
      refine j_if_eq 91 dX7_measure_84 (by decide) h (fun h => ?_) (fun h => ?_)
      · refine j_loc [(0, .ref (ad (gm κ) 88)), (1, .ref (ad (gm κ) 5)), (2, .ref (ad (gm κ) 19)), (3, .int a3), (4, .int a4), (5, .int s.1), (6, .int q3)] [1, 2, 3, 4, 5, 6, 0] rfl ?_
        exact t_X7_measure_j91 a3 a4 s.1 q3 s.2 (fun _ h => h) K0 h
      · refine j_iconst (1 : Int32) dX7_measure_87 ki_1 ?_
        refine j_goto 92 dX7_measure_88 (by decide) ?_
        refine j_loc [(0, .ref (ad (gm κ) 88)), (1, .ref (ad (gm κ) 5)), (2, .ref (ad (gm κ) 19)), (3, .int a3), (4, .int a4), (5, .int s.1), (6, .int q3)] [1, 2, 3, 4, 5, 6, 0] rfl ?_
        exact t_X7_measure_j92 a3 a4 s.1 q3 (1 : Int32) s.2 (fun _ h => h) K0 h
noncomputable def X7_measure_b3 (a3 : Int32) (s : (Int32 × Wd)) : Option ((Int32 × Wd) ⊕ Wd) :=
(if (s.2.1 88 0) ≤ s.1 then
some (.inr s.2)
else
gd (vp_in s.1 7) <|
gd (vp_in (s.2.1 90 (ix s.1)) 20) <|
(X2_travel (s.2.1 16 (ix (s.2.1 90 (ix s.1)))) a3 s.2).bind fun q1 =>
(lp (X7_measure_b32 a3 s.1) ((0 : Int32), q1)).bind fun e8 =>
some (.inl ((s.1 + (1 : Int32)), e8)))
set_option maxRecDepth 20000 in
set_option maxHeartbeats 1000000 in
theorem t_X7_measure_b3 {κ : Kx} (a3 : Int32) {P : Wd → Prop} (K0 : ∀ e, P e → J κ RX7 cX7_measure 8 none (rmk 3 72) 132 [] [] e) (s : (Int32 × Wd)) (h : ok (lp (X7_measure_b3  a3) s) P) : J κ RX7 cX7_measure 8 none (rmk 3 72) 3 [(0, .ref (ad (gm κ) 88)), (1, .ref (ad (gm κ) 5)), (2, .ref (ad (gm κ) 19)), (3, .int a3), (4, .int s.1)] [] s.2 := by
  refine lp_ind (fun s => J κ RX7 cX7_measure 8 none (rmk 3 72) 3 [(0, .ref (ad (gm κ) 88)), (1, .ref (ad (gm κ) 5)), (2, .ref (ad (gm κ) 19)), (3, .int a3), (4, .int s.1)] [] s.2) (fun s h => ?_) s h
  unfold X7_measure_b3 at h
  refine j_iload 4 dX7_measure_3 rfl ?_
  refine j_aload_n 0 dX7_measure_5 rfl rfl ?_
  refine j_getI fl_RX7_30 sh_88 fk_88_0 dX7_measure_6 ?_
  refine j_ic_ge 132 dX7_measure_9 (by decide) h (fun h => ?_) (fun h => ?_)
  · refine j_loc [] [] rfl ?_
    have h := sel_r h
    have h := K0 _ h
    exact h
  · refine j_aload_n 1 dX7_measure_12 rfl rfl ?_
    refine j_aload_n 1 dX7_measure_13 rfl rfl ?_
    refine j_getA 16 fl_RX7_34 sh_5 fk_5_14 (by decide) dX7_measure_14 ?_
    refine j_aload_n 0 dX7_measure_17 rfl rfl ?_
    refine j_getA 90 fl_RX7_15 sh_88 fk_88_2 (by decide) dX7_measure_18 ?_
    refine j_iload 4 dX7_measure_21 rfl ?_
    refine j_iald sh_90 dX7_measure_23 h (fun h => ?_)
    refine j_iald sh_16 dX7_measure_24 h (fun h => ?_)
    refine j_iload_n 3 dX7_measure_25 rfl rfl ?_
    obtain ⟨q1, e2, h⟩ := ok_b h
    refine j_callV (As := [.int (s.2.1 16 (ix (s.2.1 90 (ix s.1)))), .int a3]) (st := []) [] (c_X2_travel (kl κ) (gm κ) (kA κ) (s.2.1 16 (ix (s.2.1 90 (ix s.1)))) a3 s.2 q1 e2) ck_RX7_39 im_X2_travel se_X2_travel sh_5 cx_2 ⟨rfl, rfl⟩ ⟨by decide, by decide⟩ rfl rfl (Nat.le_of_ble_eq_true rfl) dX7_measure_26 _ rfl ?_
    refine j_iconst (0 : Int32) dX7_measure_29 ki_0 ?_
    refine j_istore [(5, .int (0 : Int32)), (0, .ref (ad (gm κ) 88)), (1, .ref (ad (gm κ) 5)), (2, .ref (ad (gm κ) 19)), (3, .int a3), (4, .int s.1)] dX7_measure_30 (by decide) rfl ?_
    refine j_loc [(0, .ref (ad (gm κ) 88)), (1, .ref (ad (gm κ) 5)), (2, .ref (ad (gm κ) 19)), (3, .int a3), (4, .int s.1), (5, .int (0 : Int32))] [1, 2, 3, 4, 5, 0] rfl ?_
    refine t_X7_measure_b32 a3 s.1 (fun e8 h => ?_) ((0 : Int32), q1) (ok_bb h)
    · refine j_iinc (s.1 + (1 : Int32)) 4 [(4, .int (s.1 + (1 : Int32))), (0, .ref (ad (gm κ) 88)), (1, .ref (ad (gm κ) 5)), (2, .ref (ad (gm κ) 19)), (3, .int a3)] dX7_measure_126 rfl (by rw [kn_1]) (by decide) rfl ?_
      refine j_goto 3 dX7_measure_129 (by decide) ?_
      refine j_loc [(0, .ref (ad (gm κ) 88)), (1, .ref (ad (gm κ) 5)), (2, .ref (ad (gm κ) 19)), (3, .int a3), (4, .int (s.1 + (1 : Int32)))] [1, 2, 3, 4, 0] rfl ?_
      have h := sel_l h
      exact h
noncomputable def X7_measure (a3 : Int32) (w : Wd) : Option (Wd) :=
(lp (X7_measure_b3 a3) ((0 : Int32), w)).bind fun e9 =>
some e9
set_option maxRecDepth 20000 in
set_option maxHeartbeats 1000000 in
theorem t_X7_measure {κ : Kx} (a3 : Int32) (w : Wd) (h : ok (X7_measure  a3 w) (PVw κ)) : J κ RX7 cX7_measure 8 none (rmk 3 72) 0 [(0, .ref (ad (gm κ) 88)), (1, .ref (ad (gm κ) 5)), (2, .ref (ad (gm κ) 19)), (3, .int a3)] [] w := by
  unfold X7_measure at h
  refine j_iconst (0 : Int32) dX7_measure_0 ki_0 ?_
  refine j_istore [(4, .int (0 : Int32)), (0, .ref (ad (gm κ) 88)), (1, .ref (ad (gm κ) 5)), (2, .ref (ad (gm κ) 19)), (3, .int a3)] dX7_measure_1 (by decide) rfl ?_
  refine j_loc [(0, .ref (ad (gm κ) 88)), (1, .ref (ad (gm κ) 5)), (2, .ref (ad (gm κ) 19)), (3, .int a3), (4, .int (0 : Int32))] [1, 2, 3, 4, 0] rfl ?_
  refine t_X7_measure_b3 a3 (fun e9 h => ?_) ((0 : Int32), w) (ok_bb h)
  · have h := ok_s h
    exact j_vret dX7_measure_132 rfl h
theorem c_X7_measure (l : Launch) (γ : Gm) (A : Nat → Prop) (a3 : Int32) (w : Wd) (q : Wd) (e : X7_measure  a3 w = some q) : MetG l γ A yX7_measure cX7_measure 8 none (rmk 3 72) [.ref (ad (γ) 88), .ref (ad (γ) 5), .ref (ad (γ) 19), .int a3] w none q := by
  refine met_of pn_RX7 (Nat.le_of_ble_eq_true rfl) ?_
  intro κ hl hγ hA hρ
  subst hl; subst hγ; subst hA
  exact t_X7_measure   a3 w ⟨q, e, pVw hρ rfl rfl⟩
theorem dJ6_bitCount_0f7a4_0 : decode cJ6_bitCount_0f7a4 0 = .ok (.iload_n 0, 1) := by decide +kernel
theorem dJ6_bitCount_0f7a4_1 : decode cJ6_bitCount_0f7a4 1 = .ok (.iload_n 0, 1) := by decide +kernel
theorem dJ6_bitCount_0f7a4_2 : decode cJ6_bitCount_0f7a4 2 = .ok (.iconst 1, 1) := by decide +kernel
theorem dJ6_bitCount_0f7a4_3 : decode cJ6_bitCount_0f7a4 3 = .ok (.iushr, 1) := by decide +kernel
theorem dJ6_bitCount_0f7a4_4 : decode cJ6_bitCount_0f7a4 4 = .ok (.ldc_w 265, 3) := by decide +kernel
theorem dJ6_bitCount_0f7a4_7 : decode cJ6_bitCount_0f7a4 7 = .ok (.iand, 1) := by decide +kernel
theorem dJ6_bitCount_0f7a4_8 : decode cJ6_bitCount_0f7a4 8 = .ok (.isub, 1) := by decide +kernel
theorem dJ6_bitCount_0f7a4_9 : decode cJ6_bitCount_0f7a4 9 = .ok (.istore_n 0, 1) := by decide +kernel
theorem dJ6_bitCount_0f7a4_10 : decode cJ6_bitCount_0f7a4 10 = .ok (.iload_n 0, 1) := by decide +kernel
theorem dJ6_bitCount_0f7a4_11 : decode cJ6_bitCount_0f7a4 11 = .ok (.ldc_w 266, 3) := by decide +kernel
theorem dJ6_bitCount_0f7a4_14 : decode cJ6_bitCount_0f7a4 14 = .ok (.iand, 1) := by decide +kernel
theorem dJ6_bitCount_0f7a4_15 : decode cJ6_bitCount_0f7a4 15 = .ok (.iload_n 0, 1) := by decide +kernel
theorem dJ6_bitCount_0f7a4_16 : decode cJ6_bitCount_0f7a4 16 = .ok (.iconst 2, 1) := by decide +kernel
theorem dJ6_bitCount_0f7a4_17 : decode cJ6_bitCount_0f7a4 17 = .ok (.iushr, 1) := by decide +kernel
theorem dJ6_bitCount_0f7a4_18 : decode cJ6_bitCount_0f7a4 18 = .ok (.ldc_w 266, 3) := by decide +kernel
theorem dJ6_bitCount_0f7a4_21 : decode cJ6_bitCount_0f7a4 21 = .ok (.iand, 1) := by decide +kernel
theorem dJ6_bitCount_0f7a4_22 : decode cJ6_bitCount_0f7a4 22 = .ok (.iadd, 1) := by decide +kernel
theorem dJ6_bitCount_0f7a4_23 : decode cJ6_bitCount_0f7a4 23 = .ok (.istore_n 0, 1) := by decide +kernel
theorem dJ6_bitCount_0f7a4_24 : decode cJ6_bitCount_0f7a4 24 = .ok (.iload_n 0, 1) := by decide +kernel
theorem dJ6_bitCount_0f7a4_25 : decode cJ6_bitCount_0f7a4 25 = .ok (.iload_n 0, 1) := by decide +kernel
theorem dJ6_bitCount_0f7a4_26 : decode cJ6_bitCount_0f7a4 26 = .ok (.iconst 4, 1) := by decide +kernel
theorem dJ6_bitCount_0f7a4_27 : decode cJ6_bitCount_0f7a4 27 = .ok (.iushr, 1) := by decide +kernel
theorem dJ6_bitCount_0f7a4_28 : decode cJ6_bitCount_0f7a4 28 = .ok (.iadd, 1) := by decide +kernel
theorem dJ6_bitCount_0f7a4_29 : decode cJ6_bitCount_0f7a4 29 = .ok (.ldc_w 267, 3) := by decide +kernel
theorem dJ6_bitCount_0f7a4_32 : decode cJ6_bitCount_0f7a4 32 = .ok (.iand, 1) := by decide +kernel
theorem dJ6_bitCount_0f7a4_33 : decode cJ6_bitCount_0f7a4 33 = .ok (.istore_n 0, 1) := by decide +kernel
theorem dJ6_bitCount_0f7a4_34 : decode cJ6_bitCount_0f7a4 34 = .ok (.iload_n 0, 1) := by decide +kernel
theorem dJ6_bitCount_0f7a4_35 : decode cJ6_bitCount_0f7a4 35 = .ok (.iload_n 0, 1) := by decide +kernel
theorem dJ6_bitCount_0f7a4_36 : decode cJ6_bitCount_0f7a4 36 = .ok (.bipush 8, 2) := by decide +kernel
theorem dJ6_bitCount_0f7a4_38 : decode cJ6_bitCount_0f7a4 38 = .ok (.iushr, 1) := by decide +kernel
theorem dJ6_bitCount_0f7a4_39 : decode cJ6_bitCount_0f7a4 39 = .ok (.iadd, 1) := by decide +kernel
theorem dJ6_bitCount_0f7a4_40 : decode cJ6_bitCount_0f7a4 40 = .ok (.istore_n 0, 1) := by decide +kernel
theorem dJ6_bitCount_0f7a4_41 : decode cJ6_bitCount_0f7a4 41 = .ok (.iload_n 0, 1) := by decide +kernel
theorem dJ6_bitCount_0f7a4_42 : decode cJ6_bitCount_0f7a4 42 = .ok (.iload_n 0, 1) := by decide +kernel
theorem dJ6_bitCount_0f7a4_43 : decode cJ6_bitCount_0f7a4 43 = .ok (.bipush 16, 2) := by decide +kernel
theorem dJ6_bitCount_0f7a4_45 : decode cJ6_bitCount_0f7a4 45 = .ok (.iushr, 1) := by decide +kernel
theorem dJ6_bitCount_0f7a4_46 : decode cJ6_bitCount_0f7a4 46 = .ok (.iadd, 1) := by decide +kernel
theorem dJ6_bitCount_0f7a4_47 : decode cJ6_bitCount_0f7a4 47 = .ok (.istore_n 0, 1) := by decide +kernel
theorem dJ6_bitCount_0f7a4_48 : decode cJ6_bitCount_0f7a4 48 = .ok (.iload_n 0, 1) := by decide +kernel
theorem dJ6_bitCount_0f7a4_49 : decode cJ6_bitCount_0f7a4 49 = .ok (.bipush 63, 2) := by decide +kernel
theorem dJ6_bitCount_0f7a4_51 : decode cJ6_bitCount_0f7a4 51 = .ok (.iand, 1) := by decide +kernel
theorem dJ6_bitCount_0f7a4_52 : decode cJ6_bitCount_0f7a4 52 = .ok (.ireturn, 1) := by decide +kernel
noncomputable def J6_bitCount_0f7a4O (a0 : Int32) (w : Wd) : Option (Int32) :=
(some (a0 - ((Int32.toUInt32 a0 >>> (Int32.toUInt32 (1 : Int32) &&& Int32.toUInt32 31)).toInt32 &&& (1431655765 : Int32)))).bind fun z1 =>
(some ((z1 &&& (858993459 : Int32)) + ((Int32.toUInt32 z1 >>> (Int32.toUInt32 (2 : Int32) &&& Int32.toUInt32 31)).toInt32 &&& (858993459 : Int32)))).bind fun z2 =>
(some ((z2 + (Int32.toUInt32 z2 >>> (Int32.toUInt32 (4 : Int32) &&& Int32.toUInt32 31)).toInt32) &&& (252645135 : Int32))).bind fun z3 =>
(some (z3 + (Int32.toUInt32 z3 >>> (Int32.toUInt32 (8 : Int32) &&& Int32.toUInt32 31)).toInt32)).bind fun z4 =>
(some (z4 + (Int32.toUInt32 z4 >>> (Int32.toUInt32 (16 : Int32) &&& Int32.toUInt32 31)).toInt32)).bind fun z5 =>
some (z5 &&& (63 : Int32))
set_option maxRecDepth 20000 in
set_option maxHeartbeats 1000000 in
theorem t_J6_bitCount_0f7a4 {κ : Kx} (a0 : Int32) (w : Wd) (h : ok (J6_bitCount_0f7a4O  a0 w) (PI κ w)) : J κ RJ6 cJ6_bitCount_0f7a4 1 (some .int) (rmk 0 0) 0 [(0, .int a0)] [] w := by
  unfold J6_bitCount_0f7a4O at h
  refine j_iload_n 0 dJ6_bitCount_0f7a4_0 rfl rfl ?_
  refine j_iload_n 0 dJ6_bitCount_0f7a4_1 rfl rfl ?_
  refine j_iconst (1 : Int32) dJ6_bitCount_0f7a4_2 ki_1 ?_
  refine j_iushr dJ6_bitCount_0f7a4_3 ?_
  refine j_ldcw cw_RJ6_265 dJ6_bitCount_0f7a4_4 ?_
  refine j_iand dJ6_bitCount_0f7a4_7 ?_
  refine j_isub dJ6_bitCount_0f7a4_8 ?_
  refine j_lI h (fun z1 h => ?_)
  refine j_istore_n [(0, .int z1)] dJ6_bitCount_0f7a4_9 rfl (by decide) rfl ?_
  refine j_iload_n 0 dJ6_bitCount_0f7a4_10 rfl rfl ?_
  refine j_ldcw cw_RJ6_266 dJ6_bitCount_0f7a4_11 ?_
  refine j_iand dJ6_bitCount_0f7a4_14 ?_
  refine j_iload_n 0 dJ6_bitCount_0f7a4_15 rfl rfl ?_
  refine j_iconst (2 : Int32) dJ6_bitCount_0f7a4_16 ki_2 ?_
  refine j_iushr dJ6_bitCount_0f7a4_17 ?_
  refine j_ldcw cw_RJ6_266 dJ6_bitCount_0f7a4_18 ?_
  refine j_iand dJ6_bitCount_0f7a4_21 ?_
  refine j_iadd dJ6_bitCount_0f7a4_22 ?_
  refine j_lI h (fun z2 h => ?_)
  refine j_istore_n [(0, .int z2)] dJ6_bitCount_0f7a4_23 rfl (by decide) rfl ?_
  refine j_iload_n 0 dJ6_bitCount_0f7a4_24 rfl rfl ?_
  refine j_iload_n 0 dJ6_bitCount_0f7a4_25 rfl rfl ?_
  refine j_iconst (4 : Int32) dJ6_bitCount_0f7a4_26 ki_4 ?_
  refine j_iushr dJ6_bitCount_0f7a4_27 ?_
  refine j_iadd dJ6_bitCount_0f7a4_28 ?_
  refine j_ldcw cw_RJ6_267 dJ6_bitCount_0f7a4_29 ?_
  refine j_iand dJ6_bitCount_0f7a4_32 ?_
  refine j_lI h (fun z3 h => ?_)
  refine j_istore_n [(0, .int z3)] dJ6_bitCount_0f7a4_33 rfl (by decide) rfl ?_
  refine j_iload_n 0 dJ6_bitCount_0f7a4_34 rfl rfl ?_
  refine j_iload_n 0 dJ6_bitCount_0f7a4_35 rfl rfl ?_
  refine j_bipush (8 : Int32) dJ6_bitCount_0f7a4_36 kb_8 ?_
  refine j_iushr dJ6_bitCount_0f7a4_38 ?_
  refine j_iadd dJ6_bitCount_0f7a4_39 ?_
  refine j_lI h (fun z4 h => ?_)
  refine j_istore_n [(0, .int z4)] dJ6_bitCount_0f7a4_40 rfl (by decide) rfl ?_
  refine j_iload_n 0 dJ6_bitCount_0f7a4_41 rfl rfl ?_
  refine j_iload_n 0 dJ6_bitCount_0f7a4_42 rfl rfl ?_
  refine j_bipush (16 : Int32) dJ6_bitCount_0f7a4_43 kb_16 ?_
  refine j_iushr dJ6_bitCount_0f7a4_45 ?_
  refine j_iadd dJ6_bitCount_0f7a4_46 ?_
  refine j_lI h (fun z5 h => ?_)
  refine j_istore_n [(0, .int z5)] dJ6_bitCount_0f7a4_47 rfl (by decide) rfl ?_
  refine j_iload_n 0 dJ6_bitCount_0f7a4_48 rfl rfl ?_
  refine j_bipush (63 : Int32) dJ6_bitCount_0f7a4_49 kb_63 ?_
  refine j_iand dJ6_bitCount_0f7a4_51 ?_
  have h := ok_s h
  exact j_iret dJ6_bitCount_0f7a4_52 rfl rfl h
noncomputable def J6_bitCount_0f7a4 (a0 : Int32) (w : Wd) : Int32 := (J6_bitCount_0f7a4O  a0 w).getD 0
theorem J6_bitCount_0f7a4_eq (a0 : Int32) (w : Wd) : J6_bitCount_0f7a4O  a0 w = some (J6_bitCount_0f7a4  a0 w) := by
  unfold J6_bitCount_0f7a4 J6_bitCount_0f7a4O
  repeat (first | rfl | split)
theorem c_J6_bitCount_0f7a4 (l : Launch) (γ : Gm) (A : Nat → Prop) (a0 : Int32) (w : Wd) : MetG l γ A yJ6_bitCount_0f7a4 cJ6_bitCount_0f7a4 1 (some .int) (rmk 0 0) [.int a0] w (some (.int (J6_bitCount_0f7a4  a0 w))) w := by
  refine met_of pn_RJ6 (Nat.le_of_ble_eq_true rfl) ?_
  intro κ hl hγ hA hρ
  subst hl; subst hγ; subst hA
  exact t_J6_bitCount_0f7a4   a0 w ⟨_, J6_bitCount_0f7a4_eq  a0 w, pI hρ rfl rfl⟩
theorem dX7_arrivalFor_0 : decode cX7_arrivalFor 0 = .ok (.aload_n 0, 1) := by decide +kernel
theorem dX7_arrivalFor_1 : decode cX7_arrivalFor 1 = .ok (.getfield 30, 3) := by decide +kernel
theorem dX7_arrivalFor_4 : decode cX7_arrivalFor 4 = .ok (.iload_n 1, 1) := by decide +kernel
theorem dX7_arrivalFor_5 : decode cX7_arrivalFor 5 = .ok (.invokestatic 79, 3) := by decide +kernel
theorem dX7_arrivalFor_8 : decode cX7_arrivalFor 8 = .ok (.isub, 1) := by decide +kernel
theorem dX7_arrivalFor_9 : decode cX7_arrivalFor 9 = .ok (.istore_n 3, 1) := by decide +kernel
theorem dX7_arrivalFor_10 : decode cX7_arrivalFor 10 = .ok (.aload_n 0, 1) := by decide +kernel
theorem dX7_arrivalFor_11 : decode cX7_arrivalFor 11 = .ok (.getfield 18, 3) := by decide +kernel
theorem dX7_arrivalFor_14 : decode cX7_arrivalFor 14 = .ok (.iload_n 3, 1) := by decide +kernel
theorem dX7_arrivalFor_15 : decode cX7_arrivalFor 15 = .ok (.bipush 7, 2) := by decide +kernel
theorem dX7_arrivalFor_17 : decode cX7_arrivalFor 17 = .ok (.imul, 1) := by decide +kernel
theorem dX7_arrivalFor_18 : decode cX7_arrivalFor 18 = .ok (.iload_n 2, 1) := by decide +kernel
theorem dX7_arrivalFor_19 : decode cX7_arrivalFor 19 = .ok (.iadd, 1) := by decide +kernel
theorem dX7_arrivalFor_20 : decode cX7_arrivalFor 20 = .ok (.iaload, 1) := by decide +kernel
theorem dX7_arrivalFor_21 : decode cX7_arrivalFor 21 = .ok (.ireturn, 1) := by decide +kernel
noncomputable def X7_arrivalFor (a1 : Int32) (a2 : Int32) (w : Wd) : Option (Int32) :=
(some ((w.1 88 0) - (J6_bitCount_0f7a4 a1 w))).bind fun z1 =>
gd (vp_in ((z1 * (7 : Int32)) + a2) 49) <|
some (w.1 91 (ix ((z1 * (7 : Int32)) + a2)))
set_option maxRecDepth 20000 in
set_option maxHeartbeats 1000000 in
theorem t_X7_arrivalFor {κ : Kx} (a1 : Int32) (a2 : Int32) (w : Wd) (h : ok (X7_arrivalFor  a1 a2 w) (PI κ w)) : J κ RX7 cX7_arrivalFor 4 (some .int) (rmk 1 20) 0 [(0, .ref (ad (gm κ) 88)), (1, .int a1), (2, .int a2)] [] w := by
  unfold X7_arrivalFor at h
  refine j_aload_n 0 dX7_arrivalFor_0 rfl rfl ?_
  refine j_getI fl_RX7_30 sh_88 fk_88_0 dX7_arrivalFor_1 ?_
  refine j_iload_n 1 dX7_arrivalFor_4 rfl rfl ?_
  refine j_callS (As := [.int a1]) (st := [.int (w.1 88 0)]) [.int (J6_bitCount_0f7a4 a1 w), .int (w.1 88 0)] (c_J6_bitCount_0f7a4 (kl κ) (gm κ) (kA κ) a1 w) ck_RX7_79 st_J6_bitCount_0f7a4 ⟨rfl, rfl⟩ ⟨by decide, by decide⟩ rfl rfl (Nat.le_of_ble_eq_true rfl) dX7_arrivalFor_5 _ rfl ?_
  refine j_isub dX7_arrivalFor_8 ?_
  refine j_lI h (fun z1 h => ?_)
  refine j_istore_n [(3, .int z1), (0, .ref (ad (gm κ) 88)), (1, .int a1), (2, .int a2)] dX7_arrivalFor_9 rfl (by decide) rfl ?_
  refine j_aload_n 1 dX7_arrivalFor_10 rfl rfl ?_
  refine j_getA 91 fl_RX7_18 sh_88 fk_88_3 (by decide) dX7_arrivalFor_11 ?_
  refine j_iload_n 0 dX7_arrivalFor_14 rfl rfl ?_
  refine j_bipush (7 : Int32) dX7_arrivalFor_15 kb_7 ?_
  refine j_imul dX7_arrivalFor_17 ?_
  refine j_iload_n 3 dX7_arrivalFor_18 rfl rfl ?_
  refine j_iadd dX7_arrivalFor_19 ?_
  refine j_iald sh_91 dX7_arrivalFor_20 h (fun h => ?_)
  have h := ok_s h
  exact j_iret dX7_arrivalFor_21 rfl rfl h
theorem c_X7_arrivalFor (l : Launch) (γ : Gm) (A : Nat → Prop) (a1 : Int32) (a2 : Int32) (w : Wd) (q : Int32) (e : X7_arrivalFor  a1 a2 w = some q) : MetG l γ A yX7_arrivalFor cX7_arrivalFor 4 (some .int) (rmk 1 20) [.ref (ad (γ) 88), .int a1, .int a2] w (some (.int q)) w := by
  refine met_of pn_RX7 (Nat.le_of_ble_eq_true rfl) ?_
  intro κ hl hγ hA hρ
  subst hl; subst hγ; subst hA
  exact t_X7_arrivalFor   a1 a2 w ⟨q, e, pI hρ rfl rfl⟩
theorem dX7_leastLatest_0 : decode cX7_leastLatest 0 = .ok (.sipush 1000, 3) := by decide +kernel
theorem dX7_leastLatest_3 : decode cX7_leastLatest 3 = .ok (.istore_n 2, 1) := by decide +kernel
theorem dX7_leastLatest_4 : decode cX7_leastLatest 4 = .ok (.iconst 0, 1) := by decide +kernel
theorem dX7_leastLatest_5 : decode cX7_leastLatest 5 = .ok (.istore_n 3, 1) := by decide +kernel
theorem dX7_leastLatest_6 : decode cX7_leastLatest 6 = .ok (.iload_n 3, 1) := by decide +kernel
theorem dX7_leastLatest_7 : decode cX7_leastLatest 7 = .ok (.aload_n 0, 1) := by decide +kernel
theorem dX7_leastLatest_8 : decode cX7_leastLatest 8 = .ok (.getfield 30, 3) := by decide +kernel
theorem dX7_leastLatest_11 : decode cX7_leastLatest 11 = .ok (.if_icmp .ge 43, 3) := by decide +kernel
theorem dX7_leastLatest_14 : decode cX7_leastLatest 14 = .ok (.iload_n 1, 1) := by decide +kernel
theorem dX7_leastLatest_15 : decode cX7_leastLatest 15 = .ok (.iload_n 3, 1) := by decide +kernel
theorem dX7_leastLatest_16 : decode cX7_leastLatest 16 = .ok (.ishr, 1) := by decide +kernel
theorem dX7_leastLatest_17 : decode cX7_leastLatest 17 = .ok (.iconst 1, 1) := by decide +kernel
theorem dX7_leastLatest_18 : decode cX7_leastLatest 18 = .ok (.iand, 1) := by decide +kernel
theorem dX7_leastLatest_19 : decode cX7_leastLatest 19 = .ok (.ifCond .eq 29, 3) := by decide +kernel
theorem dX7_leastLatest_22 : decode cX7_leastLatest 22 = .ok (.iload_n 2, 1) := by decide +kernel
theorem dX7_leastLatest_23 : decode cX7_leastLatest 23 = .ok (.aload_n 0, 1) := by decide +kernel
theorem dX7_leastLatest_24 : decode cX7_leastLatest 24 = .ok (.iload_n 1, 1) := by decide +kernel
theorem dX7_leastLatest_25 : decode cX7_leastLatest 25 = .ok (.iload_n 3, 1) := by decide +kernel
theorem dX7_leastLatest_26 : decode cX7_leastLatest 26 = .ok (.invokevirtual 84, 3) := by decide +kernel
theorem dX7_leastLatest_29 : decode cX7_leastLatest 29 = .ok (.aload_n 0, 1) := by decide +kernel
theorem dX7_leastLatest_30 : decode cX7_leastLatest 30 = .ok (.getfield 21, 3) := by decide +kernel
theorem dX7_leastLatest_33 : decode cX7_leastLatest 33 = .ok (.iload_n 1, 1) := by decide +kernel
theorem dX7_leastLatest_34 : decode cX7_leastLatest 34 = .ok (.iconst 1, 1) := by decide +kernel
theorem dX7_leastLatest_35 : decode cX7_leastLatest 35 = .ok (.iload_n 3, 1) := by decide +kernel
theorem dX7_leastLatest_36 : decode cX7_leastLatest 36 = .ok (.ishl, 1) := by decide +kernel
theorem dX7_leastLatest_37 : decode cX7_leastLatest 37 = .ok (.iconst (-1), 1) := by decide +kernel
theorem dX7_leastLatest_38 : decode cX7_leastLatest 38 = .ok (.ixor, 1) := by decide +kernel
theorem dX7_leastLatest_39 : decode cX7_leastLatest 39 = .ok (.iand, 1) := by decide +kernel
theorem dX7_leastLatest_40 : decode cX7_leastLatest 40 = .ok (.iaload, 1) := by decide +kernel
theorem dX7_leastLatest_41 : decode cX7_leastLatest 41 = .ok (.invokestatic 87, 3) := by decide +kernel
theorem dX7_leastLatest_44 : decode cX7_leastLatest 44 = .ok (.invokestatic 92, 3) := by decide +kernel
theorem dX7_leastLatest_47 : decode cX7_leastLatest 47 = .ok (.istore_n 2, 1) := by decide +kernel
theorem dX7_leastLatest_48 : decode cX7_leastLatest 48 = .ok (.iinc 3 1, 3) := by decide +kernel
theorem dX7_leastLatest_51 : decode cX7_leastLatest 51 = .ok (.goto (-45), 3) := by decide +kernel
theorem dX7_leastLatest_54 : decode cX7_leastLatest 54 = .ok (.iload_n 2, 1) := by decide +kernel
theorem dX7_leastLatest_55 : decode cX7_leastLatest 55 = .ok (.ireturn, 1) := by decide +kernel
noncomputable def X7_leastLatest_j48 (a1 : Int32) (a2 : Int32) (a3 : Int32) (w : Wd) : Option ((Int32 × Int32) ⊕ Int32) :=
some (.inl (a2, (a3 + (1 : Int32))))
set_option maxRecDepth 20000 in
set_option maxHeartbeats 1000000 in
theorem t_X7_leastLatest_j48 {κ : Kx} (a1 : Int32) (a2 : Int32) (a3 : Int32) (w : Wd) {G : (Int32 × Int32) → Prop} {P : Int32 → Prop} (KG : ∀ s, G s → J κ RX7 cX7_leastLatest 4 (some .int) (rmk 2 43) 6 [(0, .ref (ad (gm κ) 88)), (1, .int a1), (2, .int s.1), (3, .int s.2)] [] w) (K0 : ∀ e, P e → J κ RX7 cX7_leastLatest 4 (some .int) (rmk 2 43) 54 [(2, .int e)] [] w) (h : ok (X7_leastLatest_j48  a1 a2 a3 w) (sel G P)) : J κ RX7 cX7_leastLatest 4 (some .int) (rmk 2 43) 48 [(0, .ref (ad (gm κ) 88)), (1, .int a1), (2, .int a2), (3, .int a3)] [] w := by
  unfold X7_leastLatest_j48 at h
  refine j_iinc (a3 + (1 : Int32)) 3 [(3, .int (a3 + (1 : Int32))), (0, .ref (ad (gm κ) 88)), (1, .int a1), (2, .int a2)] dX7_leastLatest_48 rfl (by rw [kn_1]) (by decide) rfl ?_
  refine j_goto 6 dX7_leastLatest_51 (by decide) ?_
  refine j_loc [(0, .ref (ad (gm κ) 88)), (1, .int a1), (2, .int a2), (3, .int (a3 + (1 : Int32)))] [1, 2, 3, 0] rfl ?_
  have h := sel_l h
  have h := KG _ h
  exact h
noncomputable def X7_leastLatest_b6 (a1 : Int32) (w : Wd) (s : (Int32 × Int32)) : Option ((Int32 × Int32) ⊕ Int32) :=
(if (w.1 88 0) ≤ s.2 then
some (.inr s.1)
else
(if ((a1 >>> (s.2 &&& 31)) &&& (1 : Int32)) = 0 then
X7_leastLatest_j48 a1 s.1 s.2 w
else
(X7_arrivalFor a1 s.2 w).bind fun q1 =>
gd (vp_in (a1 &&& (((1 : Int32) <<< (s.2 &&& 31)) ^^^ (-1 : Int32))) 128) <|
(some (w.1 92 (ix (a1 &&& (((1 : Int32) <<< (s.2 &&& 31)) ^^^ (-1 : Int32)))))).bind fun z3 =>
X7_leastLatest_j48 a1 (mnI s.1 (mxI q1 z3)) s.2 w))
set_option maxRecDepth 20000 in
set_option maxHeartbeats 1000000 in
theorem t_X7_leastLatest_b6 {κ : Kx} (a1 : Int32) (w : Wd) {P : Int32 → Prop} (K0 : ∀ e, P e → J κ RX7 cX7_leastLatest 4 (some .int) (rmk 2 43) 54 [(2, .int e)] [] w) (s : (Int32 × Int32)) (h : ok (lp (X7_leastLatest_b6  a1 w) s) P) : J κ RX7 cX7_leastLatest 4 (some .int) (rmk 2 43) 6 [(0, .ref (ad (gm κ) 88)), (1, .int a1), (2, .int s.1), (3, .int s.2)] [] w := by
  refine lp_ind (fun s => J κ RX7 cX7_leastLatest 4 (some .int) (rmk 2 43) 6 [(0, .ref (ad (gm κ) 88)), (1, .int a1), (2, .int s.1), (3, .int s.2)] [] w) (fun s h => ?_) s h
  unfold X7_leastLatest_b6 at h
  refine j_iload_n 3 dX7_leastLatest_6 rfl rfl ?_
  refine j_aload_n 0 dX7_leastLatest_7 rfl rfl ?_
  refine j_getI fl_RX7_30 sh_88 fk_88_0 dX7_leastLatest_8 ?_
  refine j_ic_ge 54 dX7_leastLatest_11 (by decide) h (fun h => ?_) (fun h => ?_)
  · refine j_loc [(2, .int s.1)] [2] rfl ?_
    have h := sel_r h
    have h := K0 _ h
    exact h
  · refine j_iload_n 1 dX7_leastLatest_14 rfl rfl ?_
    refine j_iload_n 3 dX7_leastLatest_15 rfl rfl ?_
    refine j_ishr dX7_leastLatest_16 ?_
    refine j_iconst (1 : Int32) dX7_leastLatest_17 ki_1 ?_
    refine j_iand dX7_leastLatest_18 ?_
    refine j_if_eq 48 dX7_leastLatest_19 (by decide) h (fun h => ?_) (fun h => ?_)
    · refine j_loc [(0, .ref (ad (gm κ) 88)), (1, .int a1), (2, .int s.1), (3, .int s.2)] [0, 1, 2, 3] rfl ?_
      exact t_X7_leastLatest_j48 a1 s.1 s.2 w (fun _ h => h) K0 h
    · refine j_iload_n 2 dX7_leastLatest_22 rfl rfl ?_
      refine j_aload_n 0 dX7_leastLatest_23 rfl rfl ?_
      refine j_iload_n 1 dX7_leastLatest_24 rfl rfl ?_
      refine j_iload_n 3 dX7_leastLatest_25 rfl rfl ?_
      obtain ⟨q1, e2, h⟩ := ok_b h
      refine j_callV (As := [.int a1, .int s.2]) (st := [.int s.1]) [.int q1, .int s.1] (c_X7_arrivalFor (kl κ) (gm κ) (kA κ) a1 s.2 w q1 e2) ck_RX7_84 im_X7_arrivalFor se_X7_arrivalFor sh_88 cx_7 ⟨rfl, rfl⟩ ⟨by decide, by decide⟩ rfl rfl (Nat.le_of_ble_eq_true rfl) dX7_leastLatest_26 _ rfl ?_
      refine j_aload_n 0 dX7_leastLatest_29 rfl rfl ?_
      refine j_getA 92 fl_RX7_21 sh_88 fk_88_4 (by decide) dX7_leastLatest_30 ?_
      refine j_iload_n 1 dX7_leastLatest_33 rfl rfl ?_
      refine j_iconst (1 : Int32) dX7_leastLatest_34 ki_1 ?_
      refine j_iload_n 3 dX7_leastLatest_35 rfl rfl ?_
      refine j_ishl dX7_leastLatest_36 ?_
      refine j_iconst (-1 : Int32) dX7_leastLatest_37 ki_m1 ?_
      refine j_ixor dX7_leastLatest_38 ?_
      refine j_iand dX7_leastLatest_39 ?_
      refine j_iald sh_92 dX7_leastLatest_40 h (fun h => ?_)
      refine j_lI h (fun z3 h => ?_)
      refine j_mxI mt_RX7_87 (by decide) (Nat.le_of_ble_eq_true rfl) dX7_leastLatest_41 ?_
      refine j_mnI mt_RX7_92 (by decide) (Nat.le_of_ble_eq_true rfl) dX7_leastLatest_44 ?_
      refine j_istore_n [(2, .int (mnI s.1 (mxI q1 z3))), (0, .ref (ad (gm κ) 88)), (1, .int a1), (3, .int s.2)] dX7_leastLatest_47 rfl (by decide) rfl ?_
      refine j_loc [(0, .ref (ad (gm κ) 88)), (1, .int a1), (2, .int (mnI s.1 (mxI q1 z3))), (3, .int s.2)] [1, 2, 0, 3] rfl ?_
      exact t_X7_leastLatest_j48 a1 (mnI s.1 (mxI q1 z3)) s.2 w (fun _ h => h) K0 h
noncomputable def X7_leastLatest (a1 : Int32) (w : Wd) : Option (Int32) :=
(lp (X7_leastLatest_b6 a1 w) ((1000 : Int32), (0 : Int32))).bind fun e4 =>
some e4
set_option maxRecDepth 20000 in
set_option maxHeartbeats 1000000 in
theorem t_X7_leastLatest {κ : Kx} (a1 : Int32) (w : Wd) (h : ok (X7_leastLatest  a1 w) (PI κ w)) : J κ RX7 cX7_leastLatest 4 (some .int) (rmk 2 43) 0 [(0, .ref (ad (gm κ) 88)), (1, .int a1)] [] w := by
  unfold X7_leastLatest at h
  refine j_sipush (1000 : Int32) dX7_leastLatest_0 ks_1000 ?_
  refine j_istore_n [(2, .int (1000 : Int32)), (0, .ref (ad (gm κ) 88)), (1, .int a1)] dX7_leastLatest_3 rfl (by decide) rfl ?_
  refine j_iconst (0 : Int32) dX7_leastLatest_4 ki_0 ?_
  refine j_istore_n [(3, .int (0 : Int32)), (2, .int (1000 : Int32)), (0, .ref (ad (gm κ) 88)), (1, .int a1)] dX7_leastLatest_5 rfl (by decide) rfl ?_
  refine j_loc [(0, .ref (ad (gm κ) 88)), (1, .int a1), (2, .int (1000 : Int32)), (3, .int (0 : Int32))] [2, 3, 1, 0] rfl ?_
  refine t_X7_leastLatest_b6 a1 w (fun e4 h => ?_) ((1000 : Int32), (0 : Int32)) (ok_bb h)
  · refine j_iload_n 0 dX7_leastLatest_54 rfl rfl ?_
    have h := ok_s h
    exact j_iret dX7_leastLatest_55 rfl rfl h
theorem c_X7_leastLatest (l : Launch) (γ : Gm) (A : Nat → Prop) (a1 : Int32) (w : Wd) (q : Int32) (e : X7_leastLatest  a1 w = some q) : MetG l γ A yX7_leastLatest cX7_leastLatest 4 (some .int) (rmk 2 43) [.ref (ad (γ) 88), .int a1] w (some (.int q)) w := by
  refine met_of pn_RX7 (Nat.le_of_ble_eq_true rfl) ?_
  intro κ hl hγ hA hρ
  subst hl; subst hγ; subst hA
  exact t_X7_leastLatest   a1 w ⟨q, e, pI hρ rfl rfl⟩
