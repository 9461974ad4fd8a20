theorem dX12_fillChoose_0 : decode cX12_fillChoose 0 = .ok (.iconst 0, 1) := by decide +kernel
theorem dX12_fillChoose_1 : decode cX12_fillChoose 1 = .ok (.istore_n 1, 1) := by decide +kernel
theorem dX12_fillChoose_2 : decode cX12_fillChoose 2 = .ok (.iload_n 1, 1) := by decide +kernel
theorem dX12_fillChoose_3 : decode cX12_fillChoose 3 = .ok (.bipush 60, 2) := by decide +kernel
theorem dX12_fillChoose_5 : decode cX12_fillChoose 5 = .ok (.if_icmp .gt 81, 3) := by decide +kernel
theorem dX12_fillChoose_8 : decode cX12_fillChoose 8 = .ok (.aload_n 0, 1) := by decide +kernel
theorem dX12_fillChoose_9 : decode cX12_fillChoose 9 = .ok (.getfield 274, 3) := by decide +kernel
theorem dX12_fillChoose_12 : decode cX12_fillChoose 12 = .ok (.bipush 61, 2) := by decide +kernel
theorem dX12_fillChoose_14 : decode cX12_fillChoose 14 = .ok (.iload_n 1, 1) := by decide +kernel
theorem dX12_fillChoose_15 : decode cX12_fillChoose 15 = .ok (.imul, 1) := by decide +kernel
theorem dX12_fillChoose_16 : decode cX12_fillChoose 16 = .ok (.lconst 1, 1) := by decide +kernel
theorem dX12_fillChoose_17 : decode cX12_fillChoose 17 = .ok (.lastore, 1) := by decide +kernel
theorem dX12_fillChoose_18 : decode cX12_fillChoose 18 = .ok (.iconst 1, 1) := by decide +kernel
theorem dX12_fillChoose_19 : decode cX12_fillChoose 19 = .ok (.istore_n 2, 1) := by decide +kernel
theorem dX12_fillChoose_20 : decode cX12_fillChoose 20 = .ok (.iload_n 2, 1) := by decide +kernel
theorem dX12_fillChoose_21 : decode cX12_fillChoose 21 = .ok (.bipush 60, 2) := by decide +kernel
theorem dX12_fillChoose_23 : decode cX12_fillChoose 23 = .ok (.if_icmp .gt 57, 3) := by decide +kernel
theorem dX12_fillChoose_26 : decode cX12_fillChoose 26 = .ok (.aload_n 0, 1) := by decide +kernel
theorem dX12_fillChoose_27 : decode cX12_fillChoose 27 = .ok (.getfield 274, 3) := by decide +kernel
theorem dX12_fillChoose_30 : decode cX12_fillChoose 30 = .ok (.bipush 61, 2) := by decide +kernel
theorem dX12_fillChoose_32 : decode cX12_fillChoose 32 = .ok (.iload_n 1, 1) := by decide +kernel
theorem dX12_fillChoose_33 : decode cX12_fillChoose 33 = .ok (.imul, 1) := by decide +kernel
theorem dX12_fillChoose_34 : decode cX12_fillChoose 34 = .ok (.iload_n 2, 1) := by decide +kernel
theorem dX12_fillChoose_35 : decode cX12_fillChoose 35 = .ok (.iadd, 1) := by decide +kernel
theorem dX12_fillChoose_36 : decode cX12_fillChoose 36 = .ok (.iload_n 1, 1) := by decide +kernel
theorem dX12_fillChoose_37 : decode cX12_fillChoose 37 = .ok (.ifCond .ne 7, 3) := by decide +kernel
theorem dX12_fillChoose_40 : decode cX12_fillChoose 40 = .ok (.lconst 0, 1) := by decide +kernel
theorem dX12_fillChoose_41 : decode cX12_fillChoose 41 = .ok (.goto 32, 3) := by decide +kernel
theorem dX12_fillChoose_44 : decode cX12_fillChoose 44 = .ok (.aload_n 0, 1) := by decide +kernel
theorem dX12_fillChoose_45 : decode cX12_fillChoose 45 = .ok (.getfield 274, 3) := by decide +kernel
theorem dX12_fillChoose_48 : decode cX12_fillChoose 48 = .ok (.bipush 61, 2) := by decide +kernel
theorem dX12_fillChoose_50 : decode cX12_fillChoose 50 = .ok (.iload_n 1, 1) := by decide +kernel
theorem dX12_fillChoose_51 : decode cX12_fillChoose 51 = .ok (.iconst 1, 1) := by decide +kernel
theorem dX12_fillChoose_52 : decode cX12_fillChoose 52 = .ok (.isub, 1) := by decide +kernel
theorem dX12_fillChoose_53 : decode cX12_fillChoose 53 = .ok (.imul, 1) := by decide +kernel
theorem dX12_fillChoose_54 : decode cX12_fillChoose 54 = .ok (.iload_n 2, 1) := by decide +kernel
theorem dX12_fillChoose_55 : decode cX12_fillChoose 55 = .ok (.iadd, 1) := by decide +kernel
theorem dX12_fillChoose_56 : decode cX12_fillChoose 56 = .ok (.iconst 1, 1) := by decide +kernel
theorem dX12_fillChoose_57 : decode cX12_fillChoose 57 = .ok (.isub, 1) := by decide +kernel
theorem dX12_fillChoose_58 : decode cX12_fillChoose 58 = .ok (.laload, 1) := by decide +kernel
theorem dX12_fillChoose_59 : decode cX12_fillChoose 59 = .ok (.aload_n 0, 1) := by decide +kernel
theorem dX12_fillChoose_60 : decode cX12_fillChoose 60 = .ok (.getfield 274, 3) := by decide +kernel
theorem dX12_fillChoose_63 : decode cX12_fillChoose 63 = .ok (.bipush 61, 2) := by decide +kernel
theorem dX12_fillChoose_65 : decode cX12_fillChoose 65 = .ok (.iload_n 1, 1) := by decide +kernel
theorem dX12_fillChoose_66 : decode cX12_fillChoose 66 = .ok (.iconst 1, 1) := by decide +kernel
theorem dX12_fillChoose_67 : decode cX12_fillChoose 67 = .ok (.isub, 1) := by decide +kernel
theorem dX12_fillChoose_68 : decode cX12_fillChoose 68 = .ok (.imul, 1) := by decide +kernel
theorem dX12_fillChoose_69 : decode cX12_fillChoose 69 = .ok (.iload_n 2, 1) := by decide +kernel
theorem dX12_fillChoose_70 : decode cX12_fillChoose 70 = .ok (.iadd, 1) := by decide +kernel
theorem dX12_fillChoose_71 : decode cX12_fillChoose 71 = .ok (.laload, 1) := by decide +kernel
theorem dX12_fillChoose_72 : decode cX12_fillChoose 72 = .ok (.ladd, 1) := by decide +kernel
theorem dX12_fillChoose_73 : decode cX12_fillChoose 73 = .ok (.lastore, 1) := by decide +kernel
theorem dX12_fillChoose_74 : decode cX12_fillChoose 74 = .ok (.iinc 2 1, 3) := by decide +kernel
theorem dX12_fillChoose_77 : decode cX12_fillChoose 77 = .ok (.goto (-57), 3) := by decide +kernel
theorem dX12_fillChoose_80 : decode cX12_fillChoose 80 = .ok (.iinc 1 1, 3) := by decide +kernel
theorem dX12_fillChoose_83 : decode cX12_fillChoose 83 = .ok (.goto (-81), 3) := by decide +kernel
theorem dX12_fillChoose_86 : decode cX12_fillChoose 86 = .ok (.return_, 1) := by decide +kernel
noncomputable def X12_fillChoose_j73 (a1 : Int32) (a2 : Int32) (s0 : Int64) (s1 : Int32) (w : Wd) : Option ((Int32 × Wd) ⊕ Wd) :=
gd (vp_in s1 3721) <|
(some (puJ w 177 (ix s1) s0)).bind fun w4 =>
some (.inl ((a2 + (1 : Int32)), w4))
set_option maxRecDepth 20000 in
set_option maxHeartbeats 1000000 in
theorem t_X12_fillChoose_j73 {κ : Kx} (a1 : Int32) (a2 : Int32) (s0 : Int64) (s1 : Int32) (w : Wd) {G : (Int32 × Wd) → Prop} {P : Wd → Prop} (KG : ∀ s, G s → J κ RX12 cX12_fillChoose 3 none (rmk 0 0) 20 [(0, .ref (ad (gm κ) 97)), (1, .int a1), (2, .int s.1)] [] s.2) (K0 : ∀ e, P e → J κ RX12 cX12_fillChoose 3 none (rmk 0 0) 80 [(0, .ref (ad (gm κ) 97)), (1, .int a1)] [] e) (h : ok (X12_fillChoose_j73  a1 a2 s0 s1 w) (sel G P)) : J κ RX12 cX12_fillChoose 3 none (rmk 0 0) 73 [(0, .ref (ad (gm κ) 97)), (1, .int a1), (2, .int a2)] [.long s0, .int s1, .ref (ad (gm κ) 177)] w := by
  unfold X12_fillChoose_j73 at h
  refine j_last sh_177 dX12_fillChoose_73 h (fun h => ?_)
  refine j_lW h (fun w4 h => ?_)
  refine j_iinc (a2 + (1 : Int32)) 2 [(2, .int (a2 + (1 : Int32))), (0, .ref (ad (gm κ) 97)), (1, .int a1)] dX12_fillChoose_74 rfl (by rw [kn_1]) (by decide) rfl ?_
  refine j_goto 20 dX12_fillChoose_77 (by decide) ?_
  refine j_loc [(0, .ref (ad (gm κ) 97)), (1, .int a1), (2, .int (a2 + (1 : Int32)))] [1, 2, 0] rfl ?_
  have h := sel_l h
  have h := KG _ h
  exact h
noncomputable def X12_fillChoose_b20 (a1 : Int32) (s : (Int32 × Wd)) : Option ((Int32 × Wd) ⊕ Wd) :=
(if (60 : Int32) < s.1 then
some (.inr s.2)
else
(if a1 = 0 then
X12_fillChoose_j73 a1 s.1 (0 : Int64) (((61 : Int32) * a1) + s.1) s.2
else
gd (vp_in ((((61 : Int32) * (a1 - (1 : Int32))) + s.1) - (1 : Int32)) 3721) <|
(some (s.2.2 177 (ix ((((61 : Int32) * (a1 - (1 : Int32))) + s.1) - (1 : Int32))))).bind fun z2 =>
gd (vp_in (((61 : Int32) * (a1 - (1 : Int32))) + s.1) 3721) <|
(some (s.2.2 177 (ix (((61 : Int32) * (a1 - (1 : Int32))) + s.1)))).bind fun z3 =>
X12_fillChoose_j73 a1 s.1 (z2 + z3) (((61 : Int32) * a1) + s.1) s.2))
set_option maxRecDepth 20000 in
set_option maxHeartbeats 1000000 in
theorem t_X12_fillChoose_b20 {κ : Kx} (a1 : Int32) {P : Wd → Prop} (K0 : ∀ e, P e → J κ RX12 cX12_fillChoose 3 none (rmk 0 0) 80 [(0, .ref (ad (gm κ) 97)), (1, .int a1)] [] e) (s : (Int32 × Wd)) (h : ok (lp (X12_fillChoose_b20  a1) s) P) : J κ RX12 cX12_fillChoose 3 none (rmk 0 0) 20 [(0, .ref (ad (gm κ) 97)), (1, .int a1), (2, .int s.1)] [] s.2 := by
  refine lp_ind (fun s => J κ RX12 cX12_fillChoose 3 none (rmk 0 0) 20 [(0, .ref (ad (gm κ) 97)), (1, .int a1), (2, .int s.1)] [] s.2) (fun s h => ?_) s h
  unfold X12_fillChoose_b20 at h
  refine j_iload_n 2 dX12_fillChoose_20 rfl rfl ?_
  refine j_bipush (60 : Int32) dX12_fillChoose_21 kb_60 ?_
  refine j_ic_gt 80 dX12_fillChoose_23 (by decide) h (fun h => ?_) (fun h => ?_)
  · refine j_loc [(0, .ref (ad (gm κ) 97)), (1, .int a1)] [0, 1] rfl ?_
    have h := sel_r h
    have h := K0 _ h
    exact h
  · refine j_aload_n 0 dX12_fillChoose_26 rfl rfl ?_
    refine j_getA 177 fl_RX12_274 sh_97 fk_97_107 (by decide) dX12_fillChoose_27 ?_
    refine j_bipush (61 : Int32) dX12_fillChoose_30 kb_61 ?_
    refine j_iload_n 1 dX12_fillChoose_32 rfl rfl ?_
    refine j_imul dX12_fillChoose_33 ?_
    refine j_iload_n 2 dX12_fillChoose_34 rfl rfl ?_
    refine j_iadd dX12_fillChoose_35 ?_
    refine j_iload_n 1 dX12_fillChoose_36 rfl rfl ?_
    refine j_if_ne 44 dX12_fillChoose_37 (by decide) h (fun h => ?_) (fun h => ?_)
    · refine j_aload_n 0 dX12_fillChoose_44 rfl rfl ?_
      refine j_getA 177 fl_RX12_274 sh_97 fk_97_107 (by decide) dX12_fillChoose_45 ?_
      refine j_bipush (61 : Int32) dX12_fillChoose_48 kb_61 ?_
      refine j_iload_n 1 dX12_fillChoose_50 rfl rfl ?_
      refine j_iconst (1 : Int32) dX12_fillChoose_51 ki_1 ?_
      refine j_isub dX12_fillChoose_52 ?_
      refine j_imul dX12_fillChoose_53 ?_
      refine j_iload_n 2 dX12_fillChoose_54 rfl rfl ?_
      refine j_iadd dX12_fillChoose_55 ?_
      refine j_iconst (1 : Int32) dX12_fillChoose_56 ki_1 ?_
      refine j_isub dX12_fillChoose_57 ?_
      refine j_lald sh_177 dX12_fillChoose_58 h (fun h => ?_)
      refine j_lJ h (fun z2 h => ?_)
      refine j_aload_n 0 dX12_fillChoose_59 rfl rfl ?_
      refine j_getA 177 fl_RX12_274 sh_97 fk_97_107 (by decide) dX12_fillChoose_60 ?_
      refine j_bipush (61 : Int32) dX12_fillChoose_63 kb_61 ?_
      refine j_iload_n 1 dX12_fillChoose_65 rfl rfl ?_
      refine j_iconst (1 : Int32) dX12_fillChoose_66 ki_1 ?_
      refine j_isub dX12_fillChoose_67 ?_
      refine j_imul dX12_fillChoose_68 ?_
      refine j_iload_n 2 dX12_fillChoose_69 rfl rfl ?_
      refine j_iadd dX12_fillChoose_70 ?_
      refine j_lald sh_177 dX12_fillChoose_71 h (fun h => ?_)
      refine j_lJ h (fun z3 h => ?_)
      refine j_ladd dX12_fillChoose_72 ?_
      refine j_loc [(0, .ref (ad (gm κ) 97)), (1, .int a1), (2, .int s.1)] [0, 1, 2] rfl ?_
      exact t_X12_fillChoose_j73 a1 s.1 (z2 + z3) (((61 : Int32) * a1) + s.1) s.2 (fun _ h => h) K0 h
    · refine j_lconst (0 : Int64) dX12_fillChoose_40 (by decide) ?_
      refine j_goto 73 dX12_fillChoose_41 (by decide) ?_
      refine j_loc [(0, .ref (ad (gm κ) 97)), (1, .int a1), (2, .int s.1)] [0, 1, 2] rfl ?_
      exact t_X12_fillChoose_j73 a1 s.1 (0 : Int64) (((61 : Int32) * a1) + s.1) s.2 (fun _ h => h) K0 h
noncomputable def X12_fillChoose_b2 (s : (Int32 × Wd)) : Option ((Int32 × Wd) ⊕ Wd) :=
(if (60 : Int32) < s.1 then
some (.inr s.2)
else
gd (vp_in ((61 : Int32) * s.1) 3721) <|
(some (puJ s.2 177 (ix ((61 : Int32) * s.1)) (1 : Int64))).bind fun w1 =>
(lp (X12_fillChoose_b20 s.1) ((1 : Int32), w1)).bind fun e5 =>
some (.inl ((s.1 + (1 : Int32)), e5)))
set_option maxRecDepth 20000 in
set_option maxHeartbeats 1000000 in
theorem t_X12_fillChoose_b2 {κ : Kx} {P : Wd → Prop} (K0 : ∀ e, P e → J κ RX12 cX12_fillChoose 3 none (rmk 0 0) 86 [] [] e) (s : (Int32 × Wd)) (h : ok (lp (X12_fillChoose_b2  ) s) P) : J κ RX12 cX12_fillChoose 3 none (rmk 0 0) 2 [(0, .ref (ad (gm κ) 97)), (1, .int s.1)] [] s.2 := by
  refine lp_ind (fun s => J κ RX12 cX12_fillChoose 3 none (rmk 0 0) 2 [(0, .ref (ad (gm κ) 97)), (1, .int s.1)] [] s.2) (fun s h => ?_) s h
  unfold X12_fillChoose_b2 at h
  refine j_iload_n 1 dX12_fillChoose_2 rfl rfl ?_
  refine j_bipush (60 : Int32) dX12_fillChoose_3 kb_60 ?_
  refine j_ic_gt 86 dX12_fillChoose_5 (by decide) h (fun h => ?_) (fun h => ?_)
  · refine j_loc [] [] rfl ?_
    have h := sel_r h
    have h := K0 _ h
    exact h
  · refine j_aload_n 0 dX12_fillChoose_8 rfl rfl ?_
    refine j_getA 177 fl_RX12_274 sh_97 fk_97_107 (by decide) dX12_fillChoose_9 ?_
    refine j_bipush (61 : Int32) dX12_fillChoose_12 kb_61 ?_
    refine j_iload_n 1 dX12_fillChoose_14 rfl rfl ?_
    refine j_imul dX12_fillChoose_15 ?_
    refine j_lconst (1 : Int64) dX12_fillChoose_16 (by decide) ?_
    refine j_last sh_177 dX12_fillChoose_17 h (fun h => ?_)
    refine j_lW h (fun w1 h => ?_)
    refine j_iconst (1 : Int32) dX12_fillChoose_18 ki_1 ?_
    refine j_istore_n [(2, .int (1 : Int32)), (0, .ref (ad (gm κ) 97)), (1, .int s.1)] dX12_fillChoose_19 rfl (by decide) rfl ?_
    refine j_loc [(0, .ref (ad (gm κ) 97)), (1, .int s.1), (2, .int (1 : Int32))] [1, 2, 0] rfl ?_
    refine t_X12_fillChoose_b20 s.1 (fun e5 h => ?_) ((1 : Int32), w1) (ok_bb h)
    · refine j_iinc (s.1 + (1 : Int32)) 1 [(1, .int (s.1 + (1 : Int32))), (0, .ref (ad (gm κ) 97))] dX12_fillChoose_80 rfl (by rw [kn_1]) (by decide) rfl ?_
      refine j_goto 2 dX12_fillChoose_83 (by decide) ?_
      refine j_loc [(0, .ref (ad (gm κ) 97)), (1, .int (s.1 + (1 : Int32)))] [1, 0] rfl ?_
      have h := sel_l h
      exact h
noncomputable def X12_fillChoose (w : Wd) : Option (Wd) :=
(lp (X12_fillChoose_b2 ) ((0 : Int32), w)).bind fun e6 =>
some e6
set_option maxRecDepth 20000 in
set_option maxHeartbeats 1000000 in
theorem t_X12_fillChoose {κ : Kx} (w : Wd) (h : ok (X12_fillChoose   w) (PVw κ)) : J κ RX12 cX12_fillChoose 3 none (rmk 0 0) 0 [(0, .ref (ad (gm κ) 97))] [] w := by
  unfold X12_fillChoose at h
  refine j_iconst (0 : Int32) dX12_fillChoose_0 ki_0 ?_
  refine j_istore_n [(1, .int (0 : Int32)), (0, .ref (ad (gm κ) 97))] dX12_fillChoose_1 rfl (by decide) rfl ?_
  refine j_loc [(0, .ref (ad (gm κ) 97)), (1, .int (0 : Int32))] [1, 0] rfl ?_
  refine t_X12_fillChoose_b2  (fun e6 h => ?_) ((0 : Int32), w) (ok_bb h)
  · have h := ok_s h
    exact j_vret dX12_fillChoose_86 rfl h
theorem c_X12_fillChoose (l : Launch) (γ : Gm) (A : Nat → Prop) (w : Wd) (q : Wd) (e : X12_fillChoose   w = some q) : MetG l γ A yX12_fillChoose cX12_fillChoose 3 none (rmk 0 0) [.ref (ad (γ) 97)] w none q := by
  refine met_of pn_RX12 (Nat.le_of_ble_eq_true rfl) ?_
  intro κ hl hγ hA hρ
  subst hl; subst hγ; subst hA
  exact t_X12_fillChoose    w ⟨q, e, pVw hρ rfl rfl⟩
theorem dX12_count_0 : decode cX12_count 0 = .ok (.iload_n 1, 1) := by decide +kernel
theorem dX12_count_1 : decode cX12_count 1 = .ok (.iconst 1, 1) := by decide +kernel
theorem dX12_count_2 : decode cX12_count 2 = .ok (.if_icmp .lt 39, 3) := by decide +kernel
theorem dX12_count_5 : decode cX12_count 5 = .ok (.iload_n 1, 1) := by decide +kernel
theorem dX12_count_6 : decode cX12_count 6 = .ok (.bipush 60, 2) := by decide +kernel
theorem dX12_count_8 : decode cX12_count 8 = .ok (.if_icmp .gt 33, 3) := by decide +kernel
theorem dX12_count_11 : decode cX12_count 11 = .ok (.iload_n 2, 1) := by decide +kernel
theorem dX12_count_12 : decode cX12_count 12 = .ok (.iconst 1, 1) := by decide +kernel
theorem dX12_count_13 : decode cX12_count 13 = .ok (.if_icmp .lt 28, 3) := by decide +kernel
theorem dX12_count_16 : decode cX12_count 16 = .ok (.iload_n 2, 1) := by decide +kernel
theorem dX12_count_17 : decode cX12_count 17 = .ok (.iload_n 1, 1) := by decide +kernel
theorem dX12_count_18 : decode cX12_count 18 = .ok (.if_icmp .gt 23, 3) := by decide +kernel
theorem dX12_count_21 : decode cX12_count 21 = .ok (.iload_n 3, 1) := by decide +kernel
theorem dX12_count_22 : decode cX12_count 22 = .ok (.ifCond .lt 19, 3) := by decide +kernel
theorem dX12_count_25 : decode cX12_count 25 = .ok (.iload_n 3, 1) := by decide +kernel
theorem dX12_count_26 : decode cX12_count 26 = .ok (.iload_n 2, 1) := by decide +kernel
theorem dX12_count_27 : decode cX12_count 27 = .ok (.if_icmp .gt 14, 3) := by decide +kernel
theorem dX12_count_30 : decode cX12_count 30 = .ok (.iload 4, 2) := by decide +kernel
theorem dX12_count_32 : decode cX12_count 32 = .ok (.ifCond .lt 9, 3) := by decide +kernel
theorem dX12_count_35 : decode cX12_count 35 = .ok (.iload 4, 2) := by decide +kernel
theorem dX12_count_37 : decode cX12_count 37 = .ok (.iconst 1, 1) := by decide +kernel
theorem dX12_count_38 : decode cX12_count 38 = .ok (.if_icmp .le 9, 3) := by decide +kernel
theorem dX12_count_41 : decode cX12_count 41 = .ok (.aload_n 0, 1) := by decide +kernel
theorem dX12_count_42 : decode cX12_count 42 = .ok (.iconst 1, 1) := by decide +kernel
theorem dX12_count_43 : decode cX12_count 43 = .ok (.invokevirtual 312, 3) := by decide +kernel
theorem dX12_count_46 : decode cX12_count 46 = .ok (.ireturn, 1) := by decide +kernel
theorem dX12_count_47 : decode cX12_count 47 = .ok (.aload_n 0, 1) := by decide +kernel
theorem dX12_count_48 : decode cX12_count 48 = .ok (.invokevirtual 588, 3) := by decide +kernel
theorem dX12_count_51 : decode cX12_count 51 = .ok (.iconst (-1), 1) := by decide +kernel
theorem dX12_count_52 : decode cX12_count 52 = .ok (.istore 5, 2) := by decide +kernel
theorem dX12_count_54 : decode cX12_count 54 = .ok (.iconst 0, 1) := by decide +kernel
theorem dX12_count_55 : decode cX12_count 55 = .ok (.istore 6, 2) := by decide +kernel
theorem dX12_count_57 : decode cX12_count 57 = .ok (.iload 6, 2) := by decide +kernel
theorem dX12_count_59 : decode cX12_count 59 = .ok (.iload_n 1, 1) := by decide +kernel
theorem dX12_count_60 : decode cX12_count 60 = .ok (.if_icmp .gt 149, 3) := by decide +kernel
theorem dX12_count_63 : decode cX12_count 63 = .ok (.lconst 0, 1) := by decide +kernel
theorem dX12_count_64 : decode cX12_count 64 = .ok (.lstore 7, 2) := by decide +kernel
theorem dX12_count_66 : decode cX12_count 66 = .ok (.iconst 0, 1) := by decide +kernel
theorem dX12_count_67 : decode cX12_count 67 = .ok (.istore 9, 2) := by decide +kernel
theorem dX12_count_69 : decode cX12_count 69 = .ok (.iload 9, 2) := by decide +kernel
theorem dX12_count_71 : decode cX12_count 71 = .ok (.iload_n 2, 1) := by decide +kernel
theorem dX12_count_72 : decode cX12_count 72 = .ok (.if_icmp .gt 82, 3) := by decide +kernel
theorem dX12_count_75 : decode cX12_count 75 = .ok (.iload 4, 2) := by decide +kernel
theorem dX12_count_77 : decode cX12_count 77 = .ok (.ifCond .ne 17, 3) := by decide +kernel
theorem dX12_count_80 : decode cX12_count 80 = .ok (.iload 9, 2) := by decide +kernel
theorem dX12_count_82 : decode cX12_count 82 = .ok (.iload_n 3, 1) := by decide +kernel
theorem dX12_count_83 : decode cX12_count 83 = .ok (.if_icmp .lt 7, 3) := by decide +kernel
theorem dX12_count_86 : decode cX12_count 86 = .ok (.iconst 1, 1) := by decide +kernel
theorem dX12_count_87 : decode cX12_count 87 = .ok (.goto 18, 3) := by decide +kernel
theorem dX12_count_90 : decode cX12_count 90 = .ok (.iconst 0, 1) := by decide +kernel
theorem dX12_count_91 : decode cX12_count 91 = .ok (.goto 14, 3) := by decide +kernel
theorem dX12_count_94 : decode cX12_count 94 = .ok (.iload 9, 2) := by decide +kernel
theorem dX12_count_96 : decode cX12_count 96 = .ok (.iload_n 3, 1) := by decide +kernel
theorem dX12_count_97 : decode cX12_count 97 = .ok (.if_icmp .gt 7, 3) := by decide +kernel
theorem dX12_count_100 : decode cX12_count 100 = .ok (.iconst 1, 1) := by decide +kernel
theorem dX12_count_101 : decode cX12_count 101 = .ok (.goto 4, 3) := by decide +kernel
theorem dX12_count_104 : decode cX12_count 104 = .ok (.iconst 0, 1) := by decide +kernel
theorem dX12_count_105 : decode cX12_count 105 = .ok (.istore 10, 2) := by decide +kernel
theorem dX12_count_107 : decode cX12_count 107 = .ok (.iload 10, 2) := by decide +kernel
theorem dX12_count_109 : decode cX12_count 109 = .ok (.ifCond .eq 39, 3) := by decide +kernel
theorem dX12_count_112 : decode cX12_count 112 = .ok (.lload 7, 2) := by decide +kernel
theorem dX12_count_114 : decode cX12_count 114 = .ok (.aload_n 0, 1) := by decide +kernel
theorem dX12_count_115 : decode cX12_count 115 = .ok (.getfield 274, 3) := by decide +kernel
theorem dX12_count_118 : decode cX12_count 118 = .ok (.bipush 61, 2) := by decide +kernel
theorem dX12_count_120 : decode cX12_count 120 = .ok (.iload 6, 2) := by decide +kernel
theorem dX12_count_122 : decode cX12_count 122 = .ok (.imul, 1) := by decide +kernel
theorem dX12_count_123 : decode cX12_count 123 = .ok (.iload 9, 2) := by decide +kernel
theorem dX12_count_125 : decode cX12_count 125 = .ok (.iadd, 1) := by decide +kernel
theorem dX12_count_126 : decode cX12_count 126 = .ok (.laload, 1) := by decide +kernel
theorem dX12_count_127 : decode cX12_count 127 = .ok (.aload_n 0, 1) := by decide +kernel
theorem dX12_count_128 : decode cX12_count 128 = .ok (.getfield 274, 3) := by decide +kernel
theorem dX12_count_131 : decode cX12_count 131 = .ok (.bipush 61, 2) := by decide +kernel
theorem dX12_count_133 : decode cX12_count 133 = .ok (.iload_n 1, 1) := by decide +kernel
theorem dX12_count_134 : decode cX12_count 134 = .ok (.iload 6, 2) := by decide +kernel
theorem dX12_count_136 : decode cX12_count 136 = .ok (.isub, 1) := by decide +kernel
theorem dX12_count_137 : decode cX12_count 137 = .ok (.imul, 1) := by decide +kernel
theorem dX12_count_138 : decode cX12_count 138 = .ok (.iload_n 2, 1) := by decide +kernel
theorem dX12_count_139 : decode cX12_count 139 = .ok (.iadd, 1) := by decide +kernel
theorem dX12_count_140 : decode cX12_count 140 = .ok (.iload 9, 2) := by decide +kernel
theorem dX12_count_142 : decode cX12_count 142 = .ok (.isub, 1) := by decide +kernel
theorem dX12_count_143 : decode cX12_count 143 = .ok (.laload, 1) := by decide +kernel
theorem dX12_count_144 : decode cX12_count 144 = .ok (.lmul, 1) := by decide +kernel
theorem dX12_count_145 : decode cX12_count 145 = .ok (.ladd, 1) := by decide +kernel
theorem dX12_count_146 : decode cX12_count 146 = .ok (.lstore 7, 2) := by decide +kernel
theorem dX12_count_148 : decode cX12_count 148 = .ok (.iinc 9 1, 3) := by decide +kernel
theorem dX12_count_151 : decode cX12_count 151 = .ok (.goto (-82), 3) := by decide +kernel
theorem dX12_count_154 : decode cX12_count 154 = .ok (.ldc2_w 591, 3) := by decide +kernel
theorem dX12_count_157 : decode cX12_count 157 = .ok (.lload 7, 2) := by decide +kernel
theorem dX12_count_159 : decode cX12_count 159 = .ok (.lmul, 1) := by decide +kernel
theorem dX12_count_160 : decode cX12_count 160 = .ok (.aload_n 0, 1) := by decide +kernel
theorem dX12_count_161 : decode cX12_count 161 = .ok (.getfield 274, 3) := by decide +kernel
theorem dX12_count_164 : decode cX12_count 164 = .ok (.bipush 61, 2) := by decide +kernel
theorem dX12_count_166 : decode cX12_count 166 = .ok (.iload_n 1, 1) := by decide +kernel
theorem dX12_count_167 : decode cX12_count 167 = .ok (.imul, 1) := by decide +kernel
theorem dX12_count_168 : decode cX12_count 168 = .ok (.iload_n 2, 1) := by decide +kernel
theorem dX12_count_169 : decode cX12_count 169 = .ok (.iadd, 1) := by decide +kernel
theorem dX12_count_170 : decode cX12_count 170 = .ok (.laload, 1) := by decide +kernel
theorem dX12_count_171 : decode cX12_count 171 = .ok (.lcmp, 1) := by decide +kernel
theorem dX12_count_172 : decode cX12_count 172 = .ok (.ifCond .le 7, 3) := by decide +kernel
theorem dX12_count_175 : decode cX12_count 175 = .ok (.iconst 1, 1) := by decide +kernel
theorem dX12_count_176 : decode cX12_count 176 = .ok (.goto 4, 3) := by decide +kernel
theorem dX12_count_179 : decode cX12_count 179 = .ok (.iconst 0, 1) := by decide +kernel
theorem dX12_count_180 : decode cX12_count 180 = .ok (.istore 9, 2) := by decide +kernel
theorem dX12_count_182 : decode cX12_count 182 = .ok (.iload 9, 2) := by decide +kernel
theorem dX12_count_184 : decode cX12_count 184 = .ok (.ifCond .eq 19, 3) := by decide +kernel
theorem dX12_count_187 : decode cX12_count 187 = .ok (.iload 5, 2) := by decide +kernel
theorem dX12_count_189 : decode cX12_count 189 = .ok (.iconst (-1), 1) := by decide +kernel
theorem dX12_count_190 : decode cX12_count 190 = .ok (.if_icmp .eq 9, 3) := by decide +kernel
theorem dX12_count_193 : decode cX12_count 193 = .ok (.iload 4, 2) := by decide +kernel
theorem dX12_count_195 : decode cX12_count 195 = .ok (.iconst 1, 1) := by decide +kernel
theorem dX12_count_196 : decode cX12_count 196 = .ok (.if_icmp .ne 7, 3) := by decide +kernel
theorem dX12_count_199 : decode cX12_count 199 = .ok (.iload 6, 2) := by decide +kernel
theorem dX12_count_201 : decode cX12_count 201 = .ok (.istore 5, 2) := by decide +kernel
theorem dX12_count_203 : decode cX12_count 203 = .ok (.iinc 6 1, 3) := by decide +kernel
theorem dX12_count_206 : decode cX12_count 206 = .ok (.goto (-149), 3) := by decide +kernel
theorem dX12_count_209 : decode cX12_count 209 = .ok (.aload_n 0, 1) := by decide +kernel
theorem dX12_count_210 : decode cX12_count 210 = .ok (.iload 5, 2) := by decide +kernel
theorem dX12_count_212 : decode cX12_count 212 = .ok (.invokevirtual 316, 3) := by decide +kernel
theorem dX12_count_215 : decode cX12_count 215 = .ok (.ireturn, 1) := by decide +kernel
noncomputable def X12_count_j41 (w : Wd) : Option (Int32 × Wd) :=
(X12_refuse (1 : Int32) w).bind fun q1 =>
some (q1.1, q1.2)
set_option maxRecDepth 20000 in
set_option maxHeartbeats 1000000 in
theorem t_X12_count_j41 {κ : Kx} (w : Wd) (h : ok (X12_count_j41  w) (PIw κ)) : J κ RX12 cX12_count 11 (some .int) (rmk 1 22) 41 [(0, .ref (ad (gm κ) 97))] [] w := by
  unfold X12_count_j41 at h
  refine j_aload_n 0 dX12_count_41 rfl rfl ?_
  refine j_iconst (1 : Int32) dX12_count_42 ki_1 ?_
  obtain ⟨q1, e2, h⟩ := ok_b h
  refine j_callV (As := [.int (1 : Int32)]) (st := []) [.int q1.1] (c_X12_refuse (kl κ) (gm κ) (kA κ) (1 : Int32) w q1 e2) ck_RX12_312 im_X12_refuse se_X12_refuse sh_97 cx_12 ⟨rfl, rfl⟩ ⟨by decide, by decide⟩ rfl rfl (Nat.le_of_ble_eq_true rfl) dX12_count_43 _ rfl ?_
  have h := ok_s h
  exact j_iret dX12_count_46 rfl rfl h
noncomputable def X12_count_j148 (a1 : Int32) (a2 : Int32) (a3 : Int32) (a4 : Int32) (a5 : Int32) (a6 : Int32) (a7 : Int64) (a9 : Int32) (w : Wd) : Option ((Int64 × Int32) ⊕ Int64) :=
some (.inl (a7, (a9 + (1 : Int32))))
set_option maxRecDepth 20000 in
set_option maxHeartbeats 1000000 in
theorem t_X12_count_j148 {κ : Kx} (a1 : Int32) (a2 : Int32) (a3 : Int32) (a4 : Int32) (a5 : Int32) (a6 : Int32) (a7 : Int64) (a9 : Int32) (w : Wd) {G : (Int64 × Int32) → Prop} {P : Int64 → Prop} (KG : ∀ s, G s → J κ RX12 cX12_count 11 (some .int) (rmk 1 22) 69 [(0, .ref (ad (gm κ) 97)), (1, .int a1), (2, .int a2), (3, .int a3), (4, .int a4), (5, .int a5), (6, .int a6), (7, .long s.1), (9, .int s.2)] [] w) (K0 : ∀ e, P e → J κ RX12 cX12_count 11 (some .int) (rmk 1 22) 154 [(0, .ref (ad (gm κ) 97)), (1, .int a1), (2, .int a2), (3, .int a3), (4, .int a4), (5, .int a5), (6, .int a6), (7, .long e)] [] w) (h : ok (X12_count_j148  a1 a2 a3 a4 a5 a6 a7 a9 w) (sel G P)) : J κ RX12 cX12_count 11 (some .int) (rmk 1 22) 148 [(0, .ref (ad (gm κ) 97)), (1, .int a1), (2, .int a2), (3, .int a3), (4, .int a4), (5, .int a5), (6, .int a6), (7, .long a7), (9, .int a9)] [] w := by
  unfold X12_count_j148 at h
  refine j_iinc (a9 + (1 : Int32)) 8 [(9, .int (a9 + (1 : Int32))), (0, .ref (ad (gm κ) 97)), (1, .int a1), (2, .int a2), (3, .int a3), (4, .int a4), (5, .int a5), (6, .int a6), (7, .long a7)] dX12_count_148 rfl (by rw [kn_1]) (by decide) rfl ?_
  refine j_goto 69 dX12_count_151 (by decide) ?_
  refine j_loc [(0, .ref (ad (gm κ) 97)), (1, .int a1), (2, .int a2), (3, .int a3), (4, .int a4), (5, .int a5), (6, .int a6), (7, .long a7), (9, .int (a9 + (1 : Int32)))] [1, 2, 3, 4, 5, 6, 7, 8, 0] rfl ?_
  have h := sel_l h
  have h := KG _ h
  exact h
noncomputable def X12_count_j105 (a1 : Int32) (a2 : Int32) (a3 : Int32) (a4 : Int32) (a5 : Int32) (a6 : Int32) (a7 : Int64) (a9 : Int32) (s0 : Int32) (w : Wd) : Option ((Int64 × Int32) ⊕ Int64) :=
(if s0 = 0 then
X12_count_j148 a1 a2 a3 a4 a5 a6 a7 a9 w
else
gd (vp_in (((61 : Int32) * a6) + a9) 3721) <|
gd (vp_in ((((61 : Int32) * (a1 - a6)) + a2) - a9) 3721) <|
(some (w.2 177 (ix ((((61 : Int32) * (a1 - a6)) + a2) - a9)))).bind fun z5 =>
(some (a7 + ((w.2 177 (ix (((61 : Int32) * a6) + a9))) * z5))).bind fun z6 =>
X12_count_j148 a1 a2 a3 a4 a5 a6 z6 a9 w)
set_option maxRecDepth 20000 in
set_option maxHeartbeats 1000000 in
theorem t_X12_count_j105 {κ : Kx} (a1 : Int32) (a2 : Int32) (a3 : Int32) (a4 : Int32) (a5 : Int32) (a6 : Int32) (a7 : Int64) (a9 : Int32) (s0 : Int32) (w : Wd) {G : (Int64 × Int32) → Prop} {P : Int64 → Prop} (KG : ∀ s, G s → J κ RX12 cX12_count 11 (some .int) (rmk 1 22) 69 [(0, .ref (ad (gm κ) 97)), (1, .int a1), (2, .int a2), (3, .int a3), (4, .int a4), (5, .int a5), (6, .int a6), (7, .long s.1), (9, .int s.2)] [] w) (K0 : ∀ e, P e → J κ RX12 cX12_count 11 (some .int) (rmk 1 22) 154 [(0, .ref (ad (gm κ) 97)), (1, .int a1), (2, .int a2), (3, .int a3), (4, .int a4), (5, .int a5), (6, .int a6), (7, .long e)] [] w) (h : ok (X12_count_j105  a1 a2 a3 a4 a5 a6 a7 a9 s0 w) (sel G P)) : J κ RX12 cX12_count 11 (some .int) (rmk 1 22) 105 [(0, .ref (ad (gm κ) 97)), (1, .int a1), (2, .int a2), (3, .int a3), (4, .int a4), (5, .int a5), (6, .int a6), (7, .long a7), (9, .int a9)] [.int s0] w := by
  unfold X12_count_j105 at h
  refine j_istore [(10, .int s0), (0, .ref (ad (gm κ) 97)), (1, .int a1), (2, .int a2), (3, .int a3), (4, .int a4), (5, .int a5), (6, .int a6), (7, .long a7), (9, .int a9)] dX12_count_105 (by decide) rfl ?_
  refine j_iload 0 dX12_count_107 rfl ?_
  refine j_if_eq 148 dX12_count_109 (by decide) h (fun h => ?_) (fun h => ?_)
  · refine j_loc [(0, .ref (ad (gm κ) 97)), (1, .int a1), (2, .int a2), (3, .int a3), (4, .int a4), (5, .int a5), (6, .int a6), (7, .long a7), (9, .int a9)] [1, 2, 3, 4, 5, 6, 7, 8, 9] rfl ?_
    exact t_X12_count_j148 a1 a2 a3 a4 a5 a6 a7 a9 w KG K0 h
  · refine j_lload 8 dX12_count_112 rfl ?_
    refine j_aload_n 1 dX12_count_114 rfl rfl ?_
    refine j_getA 177 fl_RX12_274 sh_97 fk_97_107 (by decide) dX12_count_115 ?_
    refine j_bipush (61 : Int32) dX12_count_118 kb_61 ?_
    refine j_iload 7 dX12_count_120 rfl ?_
    refine j_imul dX12_count_122 ?_
    refine j_iload 9 dX12_count_123 rfl ?_
    refine j_iadd dX12_count_125 ?_
    refine j_lald sh_177 dX12_count_126 h (fun h => ?_)
    refine j_aload_n 1 dX12_count_127 rfl rfl ?_
    refine j_getA 177 fl_RX12_274 sh_97 fk_97_107 (by decide) dX12_count_128 ?_
    refine j_bipush (61 : Int32) dX12_count_131 kb_61 ?_
    refine j_iload_n 2 dX12_count_133 rfl rfl ?_
    refine j_iload 7 dX12_count_134 rfl ?_
    refine j_isub dX12_count_136 ?_
    refine j_imul dX12_count_137 ?_
    refine j_iload_n 3 dX12_count_138 rfl rfl ?_
    refine j_iadd dX12_count_139 ?_
    refine j_iload 9 dX12_count_140 rfl ?_
    refine j_isub dX12_count_142 ?_
    refine j_lald sh_177 dX12_count_143 h (fun h => ?_)
    refine j_lJ h (fun z5 h => ?_)
    refine j_lmul dX12_count_144 ?_
    refine j_ladd dX12_count_145 ?_
    refine j_lJ h (fun z6 h => ?_)
    refine j_lstore [(7, .long z6), (10, .int s0), (0, .ref (ad (gm κ) 97)), (1, .int a1), (2, .int a2), (3, .int a3), (4, .int a4), (5, .int a5), (6, .int a6), (9, .int a9)] dX12_count_146 (by decide) rfl ?_
    refine j_loc [(0, .ref (ad (gm κ) 97)), (1, .int a1), (2, .int a2), (3, .int a3), (4, .int a4), (5, .int a5), (6, .int a6), (7, .long z6), (9, .int a9)] [2, 3, 4, 5, 6, 7, 8, 0, 9] rfl ?_
    exact t_X12_count_j148 a1 a2 a3 a4 a5 a6 z6 a9 w KG K0 h
noncomputable def X12_count_b69 (a1 : Int32) (a2 : Int32) (a3 : Int32) (a4 : Int32) (a5 : Int32) (a6 : Int32) (w : Wd) (s : (Int64 × Int32)) : Option ((Int64 × Int32) ⊕ Int64) :=
(if a2 < s.2 then
some (.inr s.1)
else
(if a4 = 0 then
(if s.2 < a3 then
X12_count_j105 a1 a2 a3 a4 a5 a6 s.1 s.2 (0 : Int32) w
else
X12_count_j105 a1 a2 a3 a4 a5 a6 s.1 s.2 (1 : Int32) w)
else
(if a3 < s.2 then
X12_count_j105 a1 a2 a3 a4 a5 a6 s.1 s.2 (0 : Int32) w
else
X12_count_j105 a1 a2 a3 a4 a5 a6 s.1 s.2 (1 : Int32) w)))
set_option maxRecDepth 20000 in
set_option maxHeartbeats 1000000 in
theorem t_X12_count_b69 {κ : Kx} (a1 : Int32) (a2 : Int32) (a3 : Int32) (a4 : Int32) (a5 : Int32) (a6 : Int32) (w : Wd) {P : Int64 → Prop} (K0 : ∀ e, P e → J κ RX12 cX12_count 11 (some .int) (rmk 1 22) 154 [(0, .ref (ad (gm κ) 97)), (1, .int a1), (2, .int a2), (3, .int a3), (4, .int a4), (5, .int a5), (6, .int a6), (7, .long e)] [] w) (s : (Int64 × Int32)) (h : ok (lp (X12_count_b69  a1 a2 a3 a4 a5 a6 w) s) P) : J κ RX12 cX12_count 11 (some .int) (rmk 1 22) 69 [(0, .ref (ad (gm κ) 97)), (1, .int a1), (2, .int a2), (3, .int a3), (4, .int a4), (5, .int a5), (6, .int a6), (7, .long s.1), (9, .int s.2)] [] w := by
  refine lp_ind (fun s => J κ RX12 cX12_count 11 (some .int) (rmk 1 22) 69 [(0, .ref (ad (gm κ) 97)), (1, .int a1), (2, .int a2), (3, .int a3), (4, .int a4), (5, .int a5), (6, .int a6), (7, .long s.1), (9, .int s.2)] [] w) (fun s h => ?_) s h
  unfold X12_count_b69 at h
  refine j_iload 8 dX12_count_69 rfl ?_
  refine j_iload_n 2 dX12_count_71 rfl rfl ?_
  refine j_ic_gt 154 dX12_count_72 (by decide) h (fun h => ?_) (fun h => ?_)
  · refine j_loc [(0, .ref (ad (gm κ) 97)), (1, .int a1), (2, .int a2), (3, .int a3), (4, .int a4), (5, .int a5), (6, .int a6), (7, .long s.1)] [0, 1, 2, 3, 4, 5, 6, 7] rfl ?_
    have h := sel_r h
    have h := K0 _ h
    exact h
  · refine j_iload 4 dX12_count_75 rfl ?_
    refine j_if_ne 94 dX12_count_77 (by decide) h (fun h => ?_) (fun h => ?_)
    · refine j_iload 8 dX12_count_94 rfl ?_
      refine j_iload_n 3 dX12_count_96 rfl rfl ?_
      refine j_ic_gt 104 dX12_count_97 (by decide) h (fun h => ?_) (fun h => ?_)
      · refine j_iconst (0 : Int32) dX12_count_104 ki_0 ?_
        refine j_loc [(0, .ref (ad (gm κ) 97)), (1, .int a1), (2, .int a2), (3, .int a3), (4, .int a4), (5, .int a5), (6, .int a6), (7, .long s.1), (9, .int s.2)] [0, 1, 2, 3, 4, 5, 6, 7, 8] rfl ?_
        exact t_X12_count_j105 a1 a2 a3 a4 a5 a6 s.1 s.2 (0 : Int32) w (fun _ h => h) K0 h
      · refine j_iconst (1 : Int32) dX12_count_100 ki_1 ?_
        refine j_goto 105 dX12_count_101 (by decide) ?_
        refine j_loc [(0, .ref (ad (gm κ) 97)), (1, .int a1), (2, .int a2), (3, .int a3), (4, .int a4), (5, .int a5), (6, .int a6), (7, .long s.1), (9, .int s.2)] [0, 1, 2, 3, 4, 5, 6, 7, 8] rfl ?_
        exact t_X12_count_j105 a1 a2 a3 a4 a5 a6 s.1 s.2 (1 : Int32) w (fun _ h => h) K0 h
    · refine j_iload 8 dX12_count_80 rfl ?_
      refine j_iload_n 3 dX12_count_82 rfl rfl ?_
      refine j_ic_lt 90 dX12_count_83 (by decide) h (fun h => ?_) (fun h => ?_)
      · refine j_iconst (0 : Int32) dX12_count_90 ki_0 ?_
        refine j_goto 105 dX12_count_91 (by decide) ?_
        refine j_loc [(0, .ref (ad (gm κ) 97)), (1, .int a1), (2, .int a2), (3, .int a3), (4, .int a4), (5, .int a5), (6, .int a6), (7, .long s.1), (9, .int s.2)] [0, 1, 2, 3, 4, 5, 6, 7, 8] rfl ?_
        exact t_X12_count_j105 a1 a2 a3 a4 a5 a6 s.1 s.2 (0 : Int32) w (fun _ h => h) K0 h
      · refine j_iconst (1 : Int32) dX12_count_86 ki_1 ?_
        refine j_goto 105 dX12_count_87 (by decide) ?_
        refine j_loc [(0, .ref (ad (gm κ) 97)), (1, .int a1), (2, .int a2), (3, .int a3), (4, .int a4), (5, .int a5), (6, .int a6), (7, .long s.1), (9, .int s.2)] [0, 1, 2, 3, 4, 5, 6, 7, 8] rfl ?_
        exact t_X12_count_j105 a1 a2 a3 a4 a5 a6 s.1 s.2 (1 : Int32) w (fun _ h => h) K0 h
noncomputable def X12_count_j203 (a1 : Int32) (a2 : Int32) (a3 : Int32) (a4 : Int32) (a5 : Int32) (a6 : Int32) (w : Wd) : Option ((Int32 × Int32) ⊕ Int32) :=
some (.inl (a5, (a6 + (1 : Int32))))
set_option maxRecDepth 20000 in
set_option maxHeartbeats 1000000 in
theorem t_X12_count_j203 {κ : Kx} (a1 : Int32) (a2 : Int32) (a3 : Int32) (a4 : Int32) (a5 : Int32) (a6 : Int32) (w : Wd) {G : (Int32 × Int32) → Prop} {P : Int32 → Prop} (KG : ∀ s, G s → J κ RX12 cX12_count 11 (some .int) (rmk 1 22) 57 [(0, .ref (ad (gm κ) 97)), (1, .int a1), (2, .int a2), (3, .int a3), (4, .int a4), (5, .int s.1), (6, .int s.2)] [] w) (K0 : ∀ e, P e → J κ RX12 cX12_count 11 (some .int) (rmk 1 22) 209 [(0, .ref (ad (gm κ) 97)), (5, .int e)] [] w) (h : ok (X12_count_j203  a1 a2 a3 a4 a5 a6 w) (sel G P)) : J κ RX12 cX12_count 11 (some .int) (rmk 1 22) 203 [(0, .ref (ad (gm κ) 97)), (1, .int a1), (2, .int a2), (3, .int a3), (4, .int a4), (5, .int a5), (6, .int a6)] [] w := by
  unfold X12_count_j203 at h
  refine j_iinc (a6 + (1 : Int32)) 6 [(6, .int (a6 + (1 : Int32))), (0, .ref (ad (gm κ) 97)), (1, .int a1), (2, .int a2), (3, .int a3), (4, .int a4), (5, .int a5)] dX12_count_203 rfl (by rw [kn_1]) (by decide) rfl ?_
  refine j_goto 57 dX12_count_206 (by decide) ?_
  refine j_loc [(0, .ref (ad (gm κ) 97)), (1, .int a1), (2, .int a2), (3, .int a3), (4, .int a4), (5, .int a5), (6, .int (a6 + (1 : Int32)))] [1, 2, 3, 4, 5, 6, 0] rfl ?_
  have h := sel_l h
  have h := KG _ h
  exact h
noncomputable def X12_count_j199 (a1 : Int32) (a2 : Int32) (a3 : Int32) (a4 : Int32) (a6 : Int32) (w : Wd) : Option ((Int32 × Int32) ⊕ Int32) :=
X12_count_j203 a1 a2 a3 a4 a6 a6 w
set_option maxRecDepth 20000 in
set_option maxHeartbeats 1000000 in
theorem t_X12_count_j199 {κ : Kx} (a1 : Int32) (a2 : Int32) (a3 : Int32) (a4 : Int32) (a6 : Int32) (w : Wd) {G : (Int32 × Int32) → Prop} {P : Int32 → Prop} (KG : ∀ s, G s → J κ RX12 cX12_count 11 (some .int) (rmk 1 22) 57 [(0, .ref (ad (gm κ) 97)), (1, .int a1), (2, .int a2), (3, .int a3), (4, .int a4), (5, .int s.1), (6, .int s.2)] [] w) (K0 : ∀ e, P e → J κ RX12 cX12_count 11 (some .int) (rmk 1 22) 209 [(0, .ref (ad (gm κ) 97)), (5, .int e)] [] w) (h : ok (X12_count_j199  a1 a2 a3 a4 a6 w) (sel G P)) : J κ RX12 cX12_count 11 (some .int) (rmk 1 22) 199 [(0, .ref (ad (gm κ) 97)), (1, .int a1), (2, .int a2), (3, .int a3), (4, .int a4), (6, .int a6)] [] w := by
  unfold X12_count_j199 at h
  refine j_iload 5 dX12_count_199 rfl ?_
  refine j_istore [(5, .int a6), (0, .ref (ad (gm κ) 97)), (1, .int a1), (2, .int a2), (3, .int a3), (4, .int a4), (6, .int a6)] dX12_count_201 (by decide) rfl ?_
  refine j_loc [(0, .ref (ad (gm κ) 97)), (1, .int a1), (2, .int a2), (3, .int a3), (4, .int a4), (5, .int a6), (6, .int a6)] [1, 2, 3, 4, 5, 0, 6] rfl ?_
  exact t_X12_count_j203 a1 a2 a3 a4 a6 a6 w KG K0 h
noncomputable def X12_count_j180 (a1 : Int32) (a2 : Int32) (a3 : Int32) (a4 : Int32) (a5 : Int32) (a6 : Int32) (s0 : Int32) (w : Wd) : Option ((Int32 × Int32) ⊕ Int32) :=
(if s0 = 0 then
X12_count_j203 a1 a2 a3 a4 a5 a6 w
else
(if a5 = (-1 : Int32) then
X12_count_j199 a1 a2 a3 a4 a6 w
else
(if a4 = (1 : Int32) then
X12_count_j199 a1 a2 a3 a4 a6 w
else
X12_count_j203 a1 a2 a3 a4 a5 a6 w)))
set_option maxRecDepth 20000 in
set_option maxHeartbeats 1000000 in
theorem t_X12_count_j180 {κ : Kx} (a1 : Int32) (a2 : Int32) (a3 : Int32) (a4 : Int32) (a5 : Int32) (a6 : Int32) (s0 : Int32) (w : Wd) {G : (Int32 × Int32) → Prop} {P : Int32 → Prop} (KG : ∀ s, G s → J κ RX12 cX12_count 11 (some .int) (rmk 1 22) 57 [(0, .ref (ad (gm κ) 97)), (1, .int a1), (2, .int a2), (3, .int a3), (4, .int a4), (5, .int s.1), (6, .int s.2)] [] w) (K0 : ∀ e, P e → J κ RX12 cX12_count 11 (some .int) (rmk 1 22) 209 [(0, .ref (ad (gm κ) 97)), (5, .int e)] [] w) (h : ok (X12_count_j180  a1 a2 a3 a4 a5 a6 s0 w) (sel G P)) : J κ RX12 cX12_count 11 (some .int) (rmk 1 22) 180 [(0, .ref (ad (gm κ) 97)), (1, .int a1), (2, .int a2), (3, .int a3), (4, .int a4), (5, .int a5), (6, .int a6)] [.int s0] w := by
  unfold X12_count_j180 at h
  refine j_istore [(9, .int s0), (0, .ref (ad (gm κ) 97)), (1, .int a1), (2, .int a2), (3, .int a3), (4, .int a4), (5, .int a5), (6, .int a6)] dX12_count_180 (by decide) rfl ?_
  refine j_iload 0 dX12_count_182 rfl ?_
  refine j_if_eq 203 dX12_count_184 (by decide) h (fun h => ?_) (fun h => ?_)
  · refine j_loc [(0, .ref (ad (gm κ) 97)), (1, .int a1), (2, .int a2), (3, .int a3), (4, .int a4), (5, .int a5), (6, .int a6)] [1, 2, 3, 4, 5, 6, 7] rfl ?_
    exact t_X12_count_j203 a1 a2 a3 a4 a5 a6 w KG K0 h
  · refine j_iload 6 dX12_count_187 rfl ?_
    refine j_iconst (-1 : Int32) dX12_count_189 ki_m1 ?_
    refine j_ic_eq 199 dX12_count_190 (by decide) h (fun h => ?_) (fun h => ?_)
    · refine j_loc [(0, .ref (ad (gm κ) 97)), (1, .int a1), (2, .int a2), (3, .int a3), (4, .int a4), (6, .int a6)] [1, 2, 3, 4, 5, 7] rfl ?_
      exact t_X12_count_j199 a1 a2 a3 a4 a6 w KG K0 h
    · refine j_iload 5 dX12_count_193 rfl ?_
      refine j_iconst (1 : Int32) dX12_count_195 ki_1 ?_
      refine j_ic_ne 203 dX12_count_196 (by decide) h (fun h => ?_) (fun h => ?_)
      · refine j_loc [(0, .ref (ad (gm κ) 97)), (1, .int a1), (2, .int a2), (3, .int a3), (4, .int a4), (5, .int a5), (6, .int a6)] [1, 2, 3, 4, 5, 6, 7] rfl ?_
        exact t_X12_count_j203 a1 a2 a3 a4 a5 a6 w KG K0 h
      · refine j_loc [(0, .ref (ad (gm κ) 97)), (1, .int a1), (2, .int a2), (3, .int a3), (4, .int a4), (6, .int a6)] [1, 2, 3, 4, 5, 7] rfl ?_
        exact t_X12_count_j199 a1 a2 a3 a4 a6 w KG K0 h
noncomputable def X12_count_b57 (a1 : Int32) (a2 : Int32) (a3 : Int32) (a4 : Int32) (w : Wd) (s : (Int32 × Int32)) : Option ((Int32 × Int32) ⊕ Int32) :=
(if a1 < s.2 then
some (.inr s.1)
else
(lp (X12_count_b69 a1 a2 a3 a4 s.1 s.2 w) ((0 : Int64), (0 : Int32))).bind fun e7 =>
gd (vp_in (((61 : Int32) * a1) + a2) 3721) <|
(if (lg_cmp ((20 : Int64) * e7) (w.2 177 (ix (((61 : Int32) * a1) + a2)))) ≤ 0 then
X12_count_j180 a1 a2 a3 a4 s.1 s.2 (0 : Int32) w
else
X12_count_j180 a1 a2 a3 a4 s.1 s.2 (1 : Int32) w))
set_option maxRecDepth 20000 in
set_option maxHeartbeats 1000000 in
theorem t_X12_count_b57 {κ : Kx} (a1 : Int32) (a2 : Int32) (a3 : Int32) (a4 : Int32) (w : Wd) {P : Int32 → Prop} (K0 : ∀ e, P e → J κ RX12 cX12_count 11 (some .int) (rmk 1 22) 209 [(0, .ref (ad (gm κ) 97)), (5, .int e)] [] w) (s : (Int32 × Int32)) (h : ok (lp (X12_count_b57  a1 a2 a3 a4 w) s) P) : J κ RX12 cX12_count 11 (some .int) (rmk 1 22) 57 [(0, .ref (ad (gm κ) 97)), (1, .int a1), (2, .int a2), (3, .int a3), (4, .int a4), (5, .int s.1), (6, .int s.2)] [] w := by
  refine lp_ind (fun s => J κ RX12 cX12_count 11 (some .int) (rmk 1 22) 57 [(0, .ref (ad (gm κ) 97)), (1, .int a1), (2, .int a2), (3, .int a3), (4, .int a4), (5, .int s.1), (6, .int s.2)] [] w) (fun s h => ?_) s h
  unfold X12_count_b57 at h
  refine j_iload 6 dX12_count_57 rfl ?_
  refine j_iload_n 1 dX12_count_59 rfl rfl ?_
  refine j_ic_gt 209 dX12_count_60 (by decide) h (fun h => ?_) (fun h => ?_)
  · refine j_loc [(0, .ref (ad (gm κ) 97)), (5, .int s.1)] [0, 5] rfl ?_
    have h := sel_r h
    have h := K0 _ h
    exact h
  · refine j_lconst (0 : Int64) dX12_count_63 (by decide) ?_
    refine j_lstore [(7, .long (0 : Int64)), (0, .ref (ad (gm κ) 97)), (1, .int a1), (2, .int a2), (3, .int a3), (4, .int a4), (5, .int s.1), (6, .int s.2)] dX12_count_64 (by decide) rfl ?_
    refine j_iconst (0 : Int32) dX12_count_66 ki_0 ?_
    refine j_istore [(9, .int (0 : Int32)), (7, .long (0 : Int64)), (0, .ref (ad (gm κ) 97)), (1, .int a1), (2, .int a2), (3, .int a3), (4, .int a4), (5, .int s.1), (6, .int s.2)] dX12_count_67 (by decide) rfl ?_
    refine j_loc [(0, .ref (ad (gm κ) 97)), (1, .int a1), (2, .int a2), (3, .int a3), (4, .int a4), (5, .int s.1), (6, .int s.2), (7, .long (0 : Int64)), (9, .int (0 : Int32))] [2, 3, 4, 5, 6, 7, 8, 1, 0] rfl ?_
    refine t_X12_count_b69 a1 a2 a3 a4 s.1 s.2 w (fun e7 h => ?_) ((0 : Int64), (0 : Int32)) (ok_bb h)
    · refine j_ldc2 cl_RX12_591 dX12_count_154 ?_
      refine j_lload 7 dX12_count_157 rfl ?_
      refine j_lmul dX12_count_159 ?_
      refine j_aload_n 0 dX12_count_160 rfl rfl ?_
      refine j_getA 177 fl_RX12_274 sh_97 fk_97_107 (by decide) dX12_count_161 ?_
      refine j_bipush (61 : Int32) dX12_count_164 kb_61 ?_
      refine j_iload_n 1 dX12_count_166 rfl rfl ?_
      refine j_imul dX12_count_167 ?_
      refine j_iload_n 2 dX12_count_168 rfl rfl ?_
      refine j_iadd dX12_count_169 ?_
      refine j_lald sh_177 dX12_count_170 h (fun h => ?_)
      refine j_lcmp dX12_count_171 ?_
      refine j_if_le 179 dX12_count_172 (by decide) h (fun h => ?_) (fun h => ?_)
      · refine j_iconst (0 : Int32) dX12_count_179 ki_0 ?_
        refine j_loc [(0, .ref (ad (gm κ) 97)), (1, .int a1), (2, .int a2), (3, .int a3), (4, .int a4), (5, .int s.1), (6, .int s.2)] [0, 1, 2, 3, 4, 5, 6] rfl ?_
        exact t_X12_count_j180 a1 a2 a3 a4 s.1 s.2 (0 : Int32) w (fun _ h => h) K0 h
      · refine j_iconst (1 : Int32) dX12_count_175 ki_1 ?_
        refine j_goto 180 dX12_count_176 (by decide) ?_
        refine j_loc [(0, .ref (ad (gm κ) 97)), (1, .int a1), (2, .int a2), (3, .int a3), (4, .int a4), (5, .int s.1), (6, .int s.2)] [0, 1, 2, 3, 4, 5, 6] rfl ?_
        exact t_X12_count_j180 a1 a2 a3 a4 s.1 s.2 (1 : Int32) w (fun _ h => h) K0 h
noncomputable def X12_count (a1 : Int32) (a2 : Int32) (a3 : Int32) (a4 : Int32) (w : Wd) : Option (Int32 × Wd) :=
(if a1 < (1 : Int32) then
X12_count_j41 w
else
(if (60 : Int32) < a1 then
X12_count_j41 w
else
(if a2 < (1 : Int32) then
X12_count_j41 w
else
(if a1 < a2 then
X12_count_j41 w
else
(if a3 < 0 then
X12_count_j41 w
else
(if a2 < a3 then
X12_count_j41 w
else
(if a4 < 0 then
X12_count_j41 w
else
(if a4 ≤ (1 : Int32) then
(X12_fillChoose w).bind fun q3 =>
(lp (X12_count_b57 a1 a2 a3 a4 q3) ((-1 : Int32), (0 : Int32))).bind fun e8 =>
(X12_gives e8 q3).bind fun q9 =>
some (q9.1, q9.2)
else
X12_count_j41 w))))))))
set_option maxRecDepth 20000 in
set_option maxHeartbeats 1000000 in
theorem t_X12_count {κ : Kx} (a1 : Int32) (a2 : Int32) (a3 : Int32) (a4 : Int32) (w : Wd) (h : ok (X12_count  a1 a2 a3 a4 w) (PIw κ)) : J κ RX12 cX12_count 11 (some .int) (rmk 1 22) 0 [(0, .ref (ad (gm κ) 97)), (1, .int a1), (2, .int a2), (3, .int a3), (4, .int a4)] [] w := by
  unfold X12_count at h
  refine j_iload_n 1 dX12_count_0 rfl rfl ?_
  refine j_iconst (1 : Int32) dX12_count_1 ki_1 ?_
  refine j_ic_lt 41 dX12_count_2 (by decide) h (fun h => ?_) (fun h => ?_)
  · refine j_loc [(0, .ref (ad (gm κ) 97))] [0] rfl ?_
    exact t_X12_count_j41 w h
  · refine j_iload_n 1 dX12_count_5 rfl rfl ?_
    refine j_bipush (60 : Int32) dX12_count_6 kb_60 ?_
    refine j_ic_gt 41 dX12_count_8 (by decide) h (fun h => ?_) (fun h => ?_)
    · refine j_loc [(0, .ref (ad (gm κ) 97))] [0] rfl ?_
      exact t_X12_count_j41 w h
    · refine j_iload_n 2 dX12_count_11 rfl rfl ?_
      refine j_iconst (1 : Int32) dX12_count_12 ki_1 ?_
      refine j_ic_lt 41 dX12_count_13 (by decide) h (fun h => ?_) (fun h => ?_)
      · refine j_loc [(0, .ref (ad (gm κ) 97))] [0] rfl ?_
        exact t_X12_count_j41 w h
      · refine j_iload_n 2 dX12_count_16 rfl rfl ?_
        refine j_iload_n 1 dX12_count_17 rfl rfl ?_
        refine j_ic_gt 41 dX12_count_18 (by decide) h (fun h => ?_) (fun h => ?_)
        · refine j_loc [(0, .ref (ad (gm κ) 97))] [0] rfl ?_
          exact t_X12_count_j41 w h
        · refine j_iload_n 3 dX12_count_21 rfl rfl ?_
          refine j_if_lt 41 dX12_count_22 (by decide) h (fun h => ?_) (fun h => ?_)
          · refine j_loc [(0, .ref (ad (gm κ) 97))] [0] rfl ?_
            exact t_X12_count_j41 w h
          · refine j_iload_n 3 dX12_count_25 rfl rfl ?_
            refine j_iload_n 2 dX12_count_26 rfl rfl ?_
            refine j_ic_gt 41 dX12_count_27 (by decide) h (fun h => ?_) (fun h => ?_)
            · refine j_loc [(0, .ref (ad (gm κ) 97))] [0] rfl ?_
              exact t_X12_count_j41 w h
            · refine j_iload 4 dX12_count_30 rfl ?_
              refine j_if_lt 41 dX12_count_32 (by decide) h (fun h => ?_) (fun h => ?_)
              · refine j_loc [(0, .ref (ad (gm κ) 97))] [0] rfl ?_
                exact t_X12_count_j41 w h
              · refine j_iload 4 dX12_count_35 rfl ?_
                refine j_iconst (1 : Int32) dX12_count_37 ki_1 ?_
                refine j_ic_le 47 dX12_count_38 (by decide) h (fun h => ?_) (fun h => ?_)
                · refine j_aload_n 0 dX12_count_47 rfl rfl ?_
                  obtain ⟨q3, e4, h⟩ := ok_b h
                  refine j_callV (As := []) (st := []) [] (c_X12_fillChoose (kl κ) (gm κ) (kA κ) w q3 e4) ck_RX12_588 im_X12_fillChoose se_X12_fillChoose sh_97 cx_12 ⟨rfl, rfl⟩ ⟨by decide, by decide⟩ rfl rfl (Nat.le_of_ble_eq_true rfl) dX12_count_48 _ rfl ?_
                  refine j_iconst (-1 : Int32) dX12_count_51 ki_m1 ?_
                  refine j_istore [(5, .int (-1 : Int32)), (0, .ref (ad (gm κ) 97)), (1, .int a1), (2, .int a2), (3, .int a3), (4, .int a4)] dX12_count_52 (by decide) rfl ?_
                  refine j_iconst (0 : Int32) dX12_count_54 ki_0 ?_
                  refine j_istore [(6, .int (0 : Int32)), (5, .int (-1 : Int32)), (0, .ref (ad (gm κ) 97)), (1, .int a1), (2, .int a2), (3, .int a3), (4, .int a4)] dX12_count_55 (by decide) rfl ?_
                  refine j_loc [(0, .ref (ad (gm κ) 97)), (1, .int a1), (2, .int a2), (3, .int a3), (4, .int a4), (5, .int (-1 : Int32)), (6, .int (0 : Int32))] [2, 3, 4, 5, 6, 1, 0] rfl ?_
                  refine t_X12_count_b57 a1 a2 a3 a4 q3 (fun e8 h => ?_) ((-1 : Int32), (0 : Int32)) (ok_bb h)
                  · refine j_aload_n 0 dX12_count_209 rfl rfl ?_
                    refine j_iload 1 dX12_count_210 rfl ?_
                    obtain ⟨q9, e10, h⟩ := ok_b h
                    refine j_callV (As := [.int e8]) (st := []) [.int q9.1] (c_X12_gives (kl κ) (gm κ) (kA κ) e8 q3 q9 e10) ck_RX12_316 im_X12_gives se_X12_gives sh_97 cx_12 ⟨rfl, rfl⟩ ⟨by decide, by decide⟩ rfl rfl (Nat.le_of_ble_eq_true rfl) dX12_count_212 _ rfl ?_
                    have h := ok_s h
                    exact j_iret dX12_count_215 rfl rfl h
                · refine j_loc [(0, .ref (ad (gm κ) 97))] [0] rfl ?_
                  exact t_X12_count_j41 w h
theorem c_X12_count (l : Launch) (γ : Gm) (A : Nat → Prop) (a1 : Int32) (a2 : Int32) (a3 : Int32) (a4 : Int32) (w : Wd) (q : Int32 × Wd) (e : X12_count  a1 a2 a3 a4 w = some q) : MetG l γ A yX12_count cX12_count 11 (some .int) (rmk 1 22) [.ref (ad (γ) 97), .int a1, .int a2, .int a3, .int a4] w (some (.int q.1)) q.2 := by
  refine met_of pn_RX12 (Nat.le_of_ble_eq_true rfl) ?_
  intro κ hl hγ hA hρ
  subst hl; subst hγ; subst hA
  exact t_X12_count   a1 a2 a3 a4 w ⟨q, e, pIw hρ rfl rfl⟩
theorem dX12_near_0 : decode cX12_near 0 = .ok (.aload_n 0, 1) := by decide +kernel
theorem dX12_near_1 : decode cX12_near 1 = .ok (.iload_n 1, 1) := by decide +kernel
theorem dX12_near_2 : decode cX12_near 2 = .ok (.invokevirtual 342, 3) := by decide +kernel
theorem dX12_near_5 : decode cX12_near 5 = .ok (.ifCond .eq 10, 3) := by decide +kernel
theorem dX12_near_8 : decode cX12_near 8 = .ok (.iload_n 2, 1) := by decide +kernel
theorem dX12_near_9 : decode cX12_near 9 = .ok (.invokestatic 322, 3) := by decide +kernel
theorem dX12_near_12 : decode cX12_near 12 = .ok (.ifCond .ne 9, 3) := by decide +kernel
theorem dX12_near_15 : decode cX12_near 15 = .ok (.aload_n 0, 1) := by decide +kernel
theorem dX12_near_16 : decode cX12_near 16 = .ok (.iconst 1, 1) := by decide +kernel
theorem dX12_near_17 : decode cX12_near 17 = .ok (.invokevirtual 312, 3) := by decide +kernel
theorem dX12_near_20 : decode cX12_near 20 = .ok (.ireturn, 1) := by decide +kernel
theorem dX12_near_21 : decode cX12_near 21 = .ok (.aload_n 0, 1) := by decide +kernel
theorem dX12_near_22 : decode cX12_near 22 = .ok (.iload_n 1, 1) := by decide +kernel
theorem dX12_near_23 : decode cX12_near 23 = .ok (.iload_n 2, 1) := by decide +kernel
theorem dX12_near_24 : decode cX12_near 24 = .ok (.invokevirtual 355, 3) := by decide +kernel
theorem dX12_near_27 : decode cX12_near 27 = .ok (.iconst (-1), 1) := by decide +kernel
theorem dX12_near_28 : decode cX12_near 28 = .ok (.if_icmp .eq 10, 3) := by decide +kernel
theorem dX12_near_31 : decode cX12_near 31 = .ok (.aload_n 0, 1) := by decide +kernel
theorem dX12_near_32 : decode cX12_near 32 = .ok (.bipush 7, 2) := by decide +kernel
theorem dX12_near_34 : decode cX12_near 34 = .ok (.invokevirtual 312, 3) := by decide +kernel
theorem dX12_near_37 : decode cX12_near 37 = .ok (.ireturn, 1) := by decide +kernel
theorem dX12_near_38 : decode cX12_near 38 = .ok (.aload_n 0, 1) := by decide +kernel
theorem dX12_near_39 : decode cX12_near 39 = .ok (.aload_n 0, 1) := by decide +kernel
theorem dX12_near_40 : decode cX12_near 40 = .ok (.getfield 60, 3) := by decide +kernel
theorem dX12_near_43 : decode cX12_near 43 = .ok (.iload_n 1, 1) := by decide +kernel
theorem dX12_near_44 : decode cX12_near 44 = .ok (.iaload, 1) := by decide +kernel
theorem dX12_near_45 : decode cX12_near 45 = .ok (.iload_n 2, 1) := by decide +kernel
theorem dX12_near_46 : decode cX12_near 46 = .ok (.invokevirtual 332, 3) := by decide +kernel
theorem dX12_near_49 : decode cX12_near 49 = .ok (.iconst (-1), 1) := by decide +kernel
theorem dX12_near_50 : decode cX12_near 50 = .ok (.istore_n 3, 1) := by decide +kernel
theorem dX12_near_51 : decode cX12_near 51 = .ok (.iconst 0, 1) := by decide +kernel
theorem dX12_near_52 : decode cX12_near 52 = .ok (.istore 4, 2) := by decide +kernel
theorem dX12_near_54 : decode cX12_near 54 = .ok (.iload 4, 2) := by decide +kernel
theorem dX12_near_56 : decode cX12_near 56 = .ok (.aload_n 0, 1) := by decide +kernel
theorem dX12_near_57 : decode cX12_near 57 = .ok (.getfield 306, 3) := by decide +kernel
theorem dX12_near_60 : decode cX12_near 60 = .ok (.if_icmp .ge 151, 3) := by decide +kernel
theorem dX12_near_63 : decode cX12_near 63 = .ok (.aload_n 0, 1) := by decide +kernel
theorem dX12_near_64 : decode cX12_near 64 = .ok (.iload 4, 2) := by decide +kernel
theorem dX12_near_66 : decode cX12_near 66 = .ok (.iload_n 2, 1) := by decide +kernel
theorem dX12_near_67 : decode cX12_near 67 = .ok (.invokevirtual 355, 3) := by decide +kernel
theorem dX12_near_70 : decode cX12_near 70 = .ok (.iconst (-1), 1) := by decide +kernel
theorem dX12_near_71 : decode cX12_near 71 = .ok (.if_icmp .eq 134, 3) := by decide +kernel
theorem dX12_near_74 : decode cX12_near 74 = .ok (.aload_n 0, 1) := by decide +kernel
theorem dX12_near_75 : decode cX12_near 75 = .ok (.getfield 42, 3) := by decide +kernel
theorem dX12_near_78 : decode cX12_near 78 = .ok (.aload_n 0, 1) := by decide +kernel
theorem dX12_near_79 : decode cX12_near 79 = .ok (.getfield 60, 3) := by decide +kernel
theorem dX12_near_82 : decode cX12_near 82 = .ok (.iload 4, 2) := by decide +kernel
theorem dX12_near_84 : decode cX12_near 84 = .ok (.iaload, 1) := by decide +kernel
theorem dX12_near_85 : decode cX12_near 85 = .ok (.iaload, 1) := by decide +kernel
theorem dX12_near_86 : decode cX12_near 86 = .ok (.sipush 1000, 3) := by decide +kernel
theorem dX12_near_89 : decode cX12_near 89 = .ok (.if_icmp .ne 6, 3) := by decide +kernel
theorem dX12_near_92 : decode cX12_near 92 = .ok (.goto 113, 3) := by decide +kernel
theorem dX12_near_95 : decode cX12_near 95 = .ok (.aload_n 0, 1) := by decide +kernel
theorem dX12_near_96 : decode cX12_near 96 = .ok (.aload_n 0, 1) := by decide +kernel
theorem dX12_near_97 : decode cX12_near 97 = .ok (.getfield 24, 3) := by decide +kernel
theorem dX12_near_100 : decode cX12_near 100 = .ok (.aload_n 0, 1) := by decide +kernel
theorem dX12_near_101 : decode cX12_near 101 = .ok (.getfield 60, 3) := by decide +kernel
theorem dX12_near_104 : decode cX12_near 104 = .ok (.iload 4, 2) := by decide +kernel
theorem dX12_near_106 : decode cX12_near 106 = .ok (.iaload, 1) := by decide +kernel
theorem dX12_near_107 : decode cX12_near 107 = .ok (.iaload, 1) := by decide +kernel
theorem dX12_near_108 : decode cX12_near 108 = .ok (.iload_n 2, 1) := by decide +kernel
theorem dX12_near_109 : decode cX12_near 109 = .ok (.invokevirtual 471, 3) := by decide +kernel
theorem dX12_near_112 : decode cX12_near 112 = .ok (.iconst 0, 1) := by decide +kernel
theorem dX12_near_113 : decode cX12_near 113 = .ok (.istore 5, 2) := by decide +kernel
theorem dX12_near_115 : decode cX12_near 115 = .ok (.iconst 0, 1) := by decide +kernel
theorem dX12_near_116 : decode cX12_near 116 = .ok (.istore 6, 2) := by decide +kernel
theorem dX12_near_118 : decode cX12_near 118 = .ok (.iload 6, 2) := by decide +kernel
theorem dX12_near_120 : decode cX12_near 120 = .ok (.aload_n 0, 1) := by decide +kernel
theorem dX12_near_121 : decode cX12_near 121 = .ok (.getfield 300, 3) := by decide +kernel
theorem dX12_near_124 : decode cX12_near 124 = .ok (.if_icmp .ge 32, 3) := by decide +kernel
theorem dX12_near_127 : decode cX12_near 127 = .ok (.iload 5, 2) := by decide +kernel
theorem dX12_near_129 : decode cX12_near 129 = .ok (.aload_n 0, 1) := by decide +kernel
theorem dX12_near_130 : decode cX12_near 130 = .ok (.iconst 1, 1) := by decide +kernel
theorem dX12_near_131 : decode cX12_near 131 = .ok (.iload 6, 2) := by decide +kernel
theorem dX12_near_133 : decode cX12_near 133 = .ok (.iload_n 2, 1) := by decide +kernel
theorem dX12_near_134 : decode cX12_near 134 = .ok (.invokevirtual 351, 3) := by decide +kernel
theorem dX12_near_137 : decode cX12_near 137 = .ok (.iload 4, 2) := by decide +kernel
theorem dX12_near_139 : decode cX12_near 139 = .ok (.if_icmp .ne 7, 3) := by decide +kernel
theorem dX12_near_142 : decode cX12_near 142 = .ok (.iconst 1, 1) := by decide +kernel
theorem dX12_near_143 : decode cX12_near 143 = .ok (.goto 4, 3) := by decide +kernel
theorem dX12_near_146 : decode cX12_near 146 = .ok (.iconst 0, 1) := by decide +kernel
theorem dX12_near_147 : decode cX12_near 147 = .ok (.iadd, 1) := by decide +kernel
theorem dX12_near_148 : decode cX12_near 148 = .ok (.istore 5, 2) := by decide +kernel
theorem dX12_near_150 : decode cX12_near 150 = .ok (.iinc 6 1, 3) := by decide +kernel
theorem dX12_near_153 : decode cX12_near 153 = .ok (.goto (-35), 3) := by decide +kernel
theorem dX12_near_156 : decode cX12_near 156 = .ok (.iload 5, 2) := by decide +kernel
theorem dX12_near_158 : decode cX12_near 158 = .ok (.aload_n 0, 1) := by decide +kernel
theorem dX12_near_159 : decode cX12_near 159 = .ok (.iconst 3, 1) := by decide +kernel
theorem dX12_near_160 : decode cX12_near 160 = .ok (.bipush 40, 2) := by decide +kernel
theorem dX12_near_162 : decode cX12_near 162 = .ok (.invokevirtual 474, 3) := by decide +kernel
theorem dX12_near_165 : decode cX12_near 165 = .ok (.if_icmp .ge 40, 3) := by decide +kernel
theorem dX12_near_168 : decode cX12_near 168 = .ok (.iload_n 3, 1) := by decide +kernel
theorem dX12_near_169 : decode cX12_near 169 = .ok (.iconst (-1), 1) := by decide +kernel
theorem dX12_near_170 : decode cX12_near 170 = .ok (.if_icmp .eq 32, 3) := by decide +kernel
theorem dX12_near_173 : decode cX12_near 173 = .ok (.aload_n 0, 1) := by decide +kernel
theorem dX12_near_174 : decode cX12_near 174 = .ok (.getfield 42, 3) := by decide +kernel
theorem dX12_near_177 : decode cX12_near 177 = .ok (.aload_n 0, 1) := by decide +kernel
theorem dX12_near_178 : decode cX12_near 178 = .ok (.getfield 60, 3) := by decide +kernel
theorem dX12_near_181 : decode cX12_near 181 = .ok (.iload 4, 2) := by decide +kernel
theorem dX12_near_183 : decode cX12_near 183 = .ok (.iaload, 1) := by decide +kernel
theorem dX12_near_184 : decode cX12_near 184 = .ok (.iaload, 1) := by decide +kernel
theorem dX12_near_185 : decode cX12_near 185 = .ok (.aload_n 0, 1) := by decide +kernel
theorem dX12_near_186 : decode cX12_near 186 = .ok (.getfield 42, 3) := by decide +kernel
theorem dX12_near_189 : decode cX12_near 189 = .ok (.aload_n 0, 1) := by decide +kernel
theorem dX12_near_190 : decode cX12_near 190 = .ok (.getfield 60, 3) := by decide +kernel
theorem dX12_near_193 : decode cX12_near 193 = .ok (.iload_n 3, 1) := by decide +kernel
theorem dX12_near_194 : decode cX12_near 194 = .ok (.iaload, 1) := by decide +kernel
theorem dX12_near_195 : decode cX12_near 195 = .ok (.iaload, 1) := by decide +kernel
theorem dX12_near_196 : decode cX12_near 196 = .ok (.if_icmp .lt 6, 3) := by decide +kernel
theorem dX12_near_199 : decode cX12_near 199 = .ok (.goto 6, 3) := by decide +kernel
theorem dX12_near_202 : decode cX12_near 202 = .ok (.iload 4, 2) := by decide +kernel
theorem dX12_near_204 : decode cX12_near 204 = .ok (.istore_n 3, 1) := by decide +kernel
theorem dX12_near_205 : decode cX12_near 205 = .ok (.iinc 4 1, 3) := by decide +kernel
theorem dX12_near_208 : decode cX12_near 208 = .ok (.goto (-154), 3) := by decide +kernel
theorem dX12_near_211 : decode cX12_near 211 = .ok (.iload_n 3, 1) := by decide +kernel
theorem dX12_near_212 : decode cX12_near 212 = .ok (.iconst (-1), 1) := by decide +kernel
theorem dX12_near_213 : decode cX12_near 213 = .ok (.if_icmp .ne 12, 3) := by decide +kernel
theorem dX12_near_216 : decode cX12_near 216 = .ok (.aload_n 0, 1) := by decide +kernel
theorem dX12_near_217 : decode cX12_near 217 = .ok (.bipush 6, 2) := by decide +kernel
theorem dX12_near_219 : decode cX12_near 219 = .ok (.invokevirtual 312, 3) := by decide +kernel
theorem dX12_near_222 : decode cX12_near 222 = .ok (.goto 8, 3) := by decide +kernel
theorem dX12_near_225 : decode cX12_near 225 = .ok (.aload_n 0, 1) := by decide +kernel
theorem dX12_near_226 : decode cX12_near 226 = .ok (.iload_n 3, 1) := by decide +kernel
theorem dX12_near_227 : decode cX12_near 227 = .ok (.invokevirtual 316, 3) := by decide +kernel
theorem dX12_near_230 : decode cX12_near 230 = .ok (.ireturn, 1) := by decide +kernel
noncomputable def X12_near_j15 (w : Wd) : Option (Int32 × Wd) :=
(X12_refuse (1 : Int32) w).bind fun q1 =>
some (q1.1, q1.2)
set_option maxRecDepth 20000 in
set_option maxHeartbeats 1000000 in
theorem t_X12_near_j15 {κ : Kx} (w : Wd) (h : ok (X12_near_j15  w) (PIw κ)) : J κ RX12 cX12_near 7 (some .int) (rmk 2 50) 15 [(0, .ref (ad (gm κ) 97))] [] w := by
  unfold X12_near_j15 at h
  refine j_aload_n 0 dX12_near_15 rfl rfl ?_
  refine j_iconst (1 : Int32) dX12_near_16 ki_1 ?_
  obtain ⟨q1, e2, h⟩ := ok_b h
  refine j_callV (As := [.int (1 : Int32)]) (st := []) [.int q1.1] (c_X12_refuse (kl κ) (gm κ) (kA κ) (1 : Int32) w q1 e2) ck_RX12_312 im_X12_refuse se_X12_refuse sh_97 cx_12 ⟨rfl, rfl⟩ ⟨by decide, by decide⟩ rfl rfl (Nat.le_of_ble_eq_true rfl) dX12_near_17 _ rfl ?_
  have h := ok_s h
  exact j_iret dX12_near_20 rfl rfl h
noncomputable def X12_near_j205 (a2 : Int32) (a3 : Int32) (a4 : Int32) (w : Wd) : Option ((Int32 × Int32 × Wd) ⊕ (Int32 × Wd)) :=
some (.inl (a3, (a4 + (1 : Int32)), w))
set_option maxRecDepth 20000 in
set_option maxHeartbeats 1000000 in
theorem t_X12_near_j205 {κ : Kx} (a2 : Int32) (a3 : Int32) (a4 : Int32) (w : Wd) {G : (Int32 × Int32 × Wd) → Prop} {P : (Int32 × Wd) → Prop} (KG : ∀ s, G s → J κ RX12 cX12_near 7 (some .int) (rmk 2 50) 54 [(0, .ref (ad (gm κ) 97)), (2, .int a2), (3, .int s.1), (4, .int s.2.1)] [] s.2.2) (K0 : ∀ e, P e → J κ RX12 cX12_near 7 (some .int) (rmk 2 50) 211 [(0, .ref (ad (gm κ) 97)), (3, .int e.1)] [] e.2) (h : ok (X12_near_j205  a2 a3 a4 w) (sel G P)) : J κ RX12 cX12_near 7 (some .int) (rmk 2 50) 205 [(0, .ref (ad (gm κ) 97)), (2, .int a2), (3, .int a3), (4, .int a4)] [] w := by
  unfold X12_near_j205 at h
  refine j_iinc (a4 + (1 : Int32)) 3 [(4, .int (a4 + (1 : Int32))), (0, .ref (ad (gm κ) 97)), (2, .int a2), (3, .int a3)] dX12_near_205 rfl (by rw [kn_1]) (by decide) rfl ?_
  refine j_goto 54 dX12_near_208 (by decide) ?_
  refine j_loc [(0, .ref (ad (gm κ) 97)), (2, .int a2), (3, .int a3), (4, .int (a4 + (1 : Int32)))] [1, 2, 3, 0] rfl ?_
  have h := sel_l h
  have h := KG _ h
  exact h
noncomputable def X12_near_j147 (a2 : Int32) (a3 : Int32) (a4 : Int32) (a6 : Int32) (s0 : Int32) (s1 : Int32) (w : Wd) : Option ((Int32 × Int32) ⊕ Int32) :=
some (.inl ((s1 + s0), (a6 + (1 : Int32))))
set_option maxRecDepth 20000 in
set_option maxHeartbeats 1000000 in
theorem t_X12_near_j147 {κ : Kx} (a2 : Int32) (a3 : Int32) (a4 : Int32) (a6 : Int32) (s0 : Int32) (s1 : Int32) (w : Wd) {G : (Int32 × Int32) → Prop} {P : Int32 → Prop} (KG : ∀ s, G s → J κ RX12 cX12_near 7 (some .int) (rmk 2 50) 118 [(0, .ref (ad (gm κ) 97)), (2, .int a2), (3, .int a3), (4, .int a4), (5, .int s.1), (6, .int s.2)] [] w) (K0 : ∀ e, P e → J κ RX12 cX12_near 7 (some .int) (rmk 2 50) 156 [(0, .ref (ad (gm κ) 97)), (2, .int a2), (3, .int a3), (4, .int a4), (5, .int e)] [] w) (h : ok (X12_near_j147  a2 a3 a4 a6 s0 s1 w) (sel G P)) : J κ RX12 cX12_near 7 (some .int) (rmk 2 50) 147 [(0, .ref (ad (gm κ) 97)), (2, .int a2), (3, .int a3), (4, .int a4), (6, .int a6)] [.int s0, .int s1] w := by
  unfold X12_near_j147 at h
  refine j_iadd dX12_near_147 ?_
  refine j_istore [(5, .int (s1 + s0)), (0, .ref (ad (gm κ) 97)), (2, .int a2), (3, .int a3), (4, .int a4), (6, .int a6)] dX12_near_148 (by decide) rfl ?_
  refine j_iinc (a6 + (1 : Int32)) 5 [(6, .int (a6 + (1 : Int32))), (5, .int (s1 + s0)), (0, .ref (ad (gm κ) 97)), (2, .int a2), (3, .int a3), (4, .int a4)] dX12_near_150 rfl (by rw [kn_1]) (by decide) rfl ?_
  refine j_goto 118 dX12_near_153 (by decide) ?_
  refine j_loc [(0, .ref (ad (gm κ) 97)), (2, .int a2), (3, .int a3), (4, .int a4), (5, .int (s1 + s0)), (6, .int (a6 + (1 : Int32)))] [2, 3, 4, 5, 1, 0] rfl ?_
  have h := sel_l h
  have h := KG _ h
  exact h
noncomputable def X12_near_b118 (a2 : Int32) (a3 : Int32) (a4 : Int32) (w : Wd) (s : (Int32 × Int32)) : Option ((Int32 × Int32) ⊕ Int32) :=
(if (w.1 97 6) ≤ s.2 then
some (.inr s.1)
else
(X12_lampOf (1 : Int32) s.2 a2 w).bind fun q11 =>
(if q11 = a4 then
X12_near_j147 a2 a3 a4 s.2 (1 : Int32) s.1 w
else
X12_near_j147 a2 a3 a4 s.2 (0 : Int32) s.1 w))
set_option maxRecDepth 20000 in
set_option maxHeartbeats 1000000 in
theorem t_X12_near_b118 {κ : Kx} (a2 : Int32) (a3 : Int32) (a4 : Int32) (w : Wd) {P : Int32 → Prop} (K0 : ∀ e, P e → J κ RX12 cX12_near 7 (some .int) (rmk 2 50) 156 [(0, .ref (ad (gm κ) 97)), (2, .int a2), (3, .int a3), (4, .int a4), (5, .int e)] [] w) (s : (Int32 × Int32)) (h : ok (lp (X12_near_b118  a2 a3 a4 w) s) P) : J κ RX12 cX12_near 7 (some .int) (rmk 2 50) 118 [(0, .ref (ad (gm κ) 97)), (2, .int a2), (3, .int a3), (4, .int a4), (5, .int s.1), (6, .int s.2)] [] w := by
  refine lp_ind (fun s => J κ RX12 cX12_near 7 (some .int) (rmk 2 50) 118 [(0, .ref (ad (gm κ) 97)), (2, .int a2), (3, .int a3), (4, .int a4), (5, .int s.1), (6, .int s.2)] [] w) (fun s h => ?_) s h
  unfold X12_near_b118 at h
  refine j_iload 5 dX12_near_118 rfl ?_
  refine j_aload_n 0 dX12_near_120 rfl rfl ?_
  refine j_getI fl_RX12_300 sh_97 fk_97_6 dX12_near_121 ?_
  refine j_ic_ge 156 dX12_near_124 (by decide) h (fun h => ?_) (fun h => ?_)
  · refine j_loc [(0, .ref (ad (gm κ) 97)), (2, .int a2), (3, .int a3), (4, .int a4), (5, .int s.1)] [0, 1, 2, 3, 4] rfl ?_
    have h := sel_r h
    have h := K0 _ h
    exact h
  · refine j_iload 4 dX12_near_127 rfl ?_
    refine j_aload_n 0 dX12_near_129 rfl rfl ?_
    refine j_iconst (1 : Int32) dX12_near_130 ki_1 ?_
    refine j_iload 5 dX12_near_131 rfl ?_
    refine j_iload_n 1 dX12_near_133 rfl rfl ?_
    obtain ⟨q11, e12, h⟩ := ok_b h
    refine j_callV (As := [.int (1 : Int32), .int s.2, .int a2]) (st := [.int s.1]) [.int q11, .int s.1] (c_X12_lampOf (kl κ) (gm κ) (kA κ) (1 : Int32) s.2 a2 w q11 e12) ck_RX12_351 im_X12_lampOf se_X12_lampOf sh_97 cx_12 ⟨rfl, rfl⟩ ⟨by decide, by decide⟩ rfl rfl (Nat.le_of_ble_eq_true rfl) dX12_near_134 _ rfl ?_
    refine j_iload 3 dX12_near_137 rfl ?_
    refine j_ic_ne 146 dX12_near_139 (by decide) h (fun h => ?_) (fun h => ?_)
    · refine j_iconst (0 : Int32) dX12_near_146 ki_0 ?_
      refine j_loc [(0, .ref (ad (gm κ) 97)), (2, .int a2), (3, .int a3), (4, .int a4), (6, .int s.2)] [0, 1, 2, 3, 5] rfl ?_
      exact t_X12_near_j147 a2 a3 a4 s.2 (0 : Int32) s.1 w (fun _ h => h) K0 h
    · refine j_iconst (1 : Int32) dX12_near_142 ki_1 ?_
      refine j_goto 147 dX12_near_143 (by decide) ?_
      refine j_loc [(0, .ref (ad (gm κ) 97)), (2, .int a2), (3, .int a3), (4, .int a4), (6, .int s.2)] [0, 1, 2, 3, 5] rfl ?_
      exact t_X12_near_j147 a2 a3 a4 s.2 (1 : Int32) s.1 w (fun _ h => h) K0 h
noncomputable def X12_near_j202 (a2 : Int32) (a4 : Int32) (w : Wd) : Option ((Int32 × Int32 × Wd) ⊕ (Int32 × Wd)) :=
X12_near_j205 a2 a4 a4 w
set_option maxRecDepth 20000 in
set_option maxHeartbeats 1000000 in
theorem t_X12_near_j202 {κ : Kx} (a2 : Int32) (a4 : Int32) (w : Wd) {G : (Int32 × Int32 × Wd) → Prop} {P : (Int32 × Wd) → Prop} (KG : ∀ s, G s → J κ RX12 cX12_near 7 (some .int) (rmk 2 50) 54 [(0, .ref (ad (gm κ) 97)), (2, .int a2), (3, .int s.1), (4, .int s.2.1)] [] s.2.2) (K0 : ∀ e, P e → J κ RX12 cX12_near 7 (some .int) (rmk 2 50) 211 [(0, .ref (ad (gm κ) 97)), (3, .int e.1)] [] e.2) (h : ok (X12_near_j202  a2 a4 w) (sel G P)) : J κ RX12 cX12_near 7 (some .int) (rmk 2 50) 202 [(0, .ref (ad (gm κ) 97)), (2, .int a2), (4, .int a4)] [] w := by
  unfold X12_near_j202 at h
  refine j_iload 2 dX12_near_202 rfl ?_
  refine j_istore_n [(3, .int a4), (0, .ref (ad (gm κ) 97)), (2, .int a2), (4, .int a4)] dX12_near_204 rfl (by decide) rfl ?_
  refine j_loc [(0, .ref (ad (gm κ) 97)), (2, .int a2), (3, .int a4), (4, .int a4)] [1, 2, 0, 3] rfl ?_
  exact t_X12_near_j205 a2 a4 a4 w KG K0 h
noncomputable def X12_near_b54 (a2 : Int32) (s : (Int32 × Int32 × Wd)) : Option ((Int32 × Int32 × Wd) ⊕ (Int32 × Wd)) :=
(if (s.2.2.1 97 8) ≤ s.2.1 then
some (.inr (s.1, s.2.2))
else
(X12_teacherAt s.2.1 a2 s.2.2).bind fun q7 =>
(if q7 = (-1 : Int32) then
X12_near_j205 a2 s.1 s.2.1 s.2.2
else
gd (vp_in s.2.1 12) <|
gd (vp_in (s.2.2.1 113 (ix s.2.1)) 16) <|
(if (s.2.2.1 107 (ix (s.2.2.1 113 (ix s.2.1)))) = (1000 : Int32) then
X12_near_j205 a2 s.1 s.2.1 s.2.2
else
gd (vp_in s.2.1 12) <|
gd (vp_in (s.2.2.1 113 (ix s.2.1)) 16) <|
(X12_stand (s.2.2.1 101 (ix (s.2.2.1 113 (ix s.2.1)))) a2 s.2.2).bind fun q9 =>
(lp (X12_near_b118 a2 s.1 s.2.1 q9) ((0 : Int32), (0 : Int32))).bind fun e13 =>
(X12_lastOf (3 : Int32) (40 : Int32) q9).bind fun q14 =>
(if q14 ≤ e13 then
X12_near_j205 a2 s.1 s.2.1 q9
else
(if s.1 = (-1 : Int32) then
X12_near_j202 a2 s.2.1 q9
else
gd (vp_in s.2.1 12) <|
gd (vp_in (q9.1 113 (ix s.2.1)) 16) <|
gd (vp_in s.1 12) <|
gd (vp_in (q9.1 113 (ix s.1)) 16) <|
(if (q9.1 107 (ix (q9.1 113 (ix s.2.1)))) < (q9.1 107 (ix (q9.1 113 (ix s.1)))) then
X12_near_j202 a2 s.2.1 q9
else
X12_near_j205 a2 s.1 s.2.1 q9))))))
set_option maxRecDepth 20000 in
set_option maxHeartbeats 1000000 in
theorem t_X12_near_b54 {κ : Kx} (a2 : Int32) {P : (Int32 × Wd) → Prop} (K0 : ∀ e, P e → J κ RX12 cX12_near 7 (some .int) (rmk 2 50) 211 [(0, .ref (ad (gm κ) 97)), (3, .int e.1)] [] e.2) (s : (Int32 × Int32 × Wd)) (h : ok (lp (X12_near_b54  a2) s) P) : J κ RX12 cX12_near 7 (some .int) (rmk 2 50) 54 [(0, .ref (ad (gm κ) 97)), (2, .int a2), (3, .int s.1), (4, .int s.2.1)] [] s.2.2 := by
  refine lp_ind (fun s => J κ RX12 cX12_near 7 (some .int) (rmk 2 50) 54 [(0, .ref (ad (gm κ) 97)), (2, .int a2), (3, .int s.1), (4, .int s.2.1)] [] s.2.2) (fun s h => ?_) s h
  unfold X12_near_b54 at h
  refine j_iload 3 dX12_near_54 rfl ?_
  refine j_aload_n 0 dX12_near_56 rfl rfl ?_
  refine j_getI fl_RX12_306 sh_97 fk_97_8 dX12_near_57 ?_
  refine j_ic_ge 211 dX12_near_60 (by decide) h (fun h => ?_) (fun h => ?_)
  · refine j_loc [(0, .ref (ad (gm κ) 97)), (3, .int s.1)] [0, 2] rfl ?_
    have h := sel_r h
    have h := K0 _ h
    exact h
  · refine j_aload_n 0 dX12_near_63 rfl rfl ?_
    refine j_iload 3 dX12_near_64 rfl ?_
    refine j_iload_n 1 dX12_near_66 rfl rfl ?_
    obtain ⟨q7, e8, h⟩ := ok_b h
    refine j_callV (As := [.int s.2.1, .int a2]) (st := []) [.int q7] (c_X12_teacherAt (kl κ) (gm κ) (kA κ) s.2.1 a2 s.2.2 q7 e8) ck_RX12_355 im_X12_teacherAt se_X12_teacherAt sh_97 cx_12 ⟨rfl, rfl⟩ ⟨by decide, by decide⟩ rfl rfl (Nat.le_of_ble_eq_true rfl) dX12_near_67 _ rfl ?_
    refine j_iconst (-1 : Int32) dX12_near_70 ki_m1 ?_
    refine j_ic_eq 205 dX12_near_71 (by decide) h (fun h => ?_) (fun h => ?_)
    · refine j_loc [(0, .ref (ad (gm κ) 97)), (2, .int a2), (3, .int s.1), (4, .int s.2.1)] [0, 1, 2, 3] rfl ?_
      exact t_X12_near_j205 a2 s.1 s.2.1 s.2.2 (fun _ h => h) K0 h
    · refine j_aload_n 0 dX12_near_74 rfl rfl ?_
      refine j_getA 107 fl_RX12_42 sh_97 fk_97_18 (by decide) dX12_near_75 ?_
      refine j_aload_n 0 dX12_near_78 rfl rfl ?_
      refine j_getA 113 fl_RX12_60 sh_97 fk_97_24 (by decide) dX12_near_79 ?_
      refine j_iload 3 dX12_near_82 rfl ?_
      refine j_iald sh_113 dX12_near_84 h (fun h => ?_)
      refine j_iald sh_107 dX12_near_85 h (fun h => ?_)
      refine j_sipush (1000 : Int32) dX12_near_86 ks_1000 ?_
      refine j_ic_ne 95 dX12_near_89 (by decide) h (fun h => ?_) (fun h => ?_)
      · refine j_aload_n 0 dX12_near_95 rfl rfl ?_
        refine j_aload_n 0 dX12_near_96 rfl rfl ?_
        refine j_getA 101 fl_RX12_24 sh_97 fk_97_12 (by decide) dX12_near_97 ?_
        refine j_aload_n 0 dX12_near_100 rfl rfl ?_
        refine j_getA 113 fl_RX12_60 sh_97 fk_97_24 (by decide) dX12_near_101 ?_
        refine j_iload 3 dX12_near_104 rfl ?_
        refine j_iald sh_113 dX12_near_106 h (fun h => ?_)
        refine j_iald sh_101 dX12_near_107 h (fun h => ?_)
        refine j_iload_n 1 dX12_near_108 rfl rfl ?_
        obtain ⟨q9, e10, h⟩ := ok_b h
        refine j_callV (As := [.int (s.2.2.1 101 (ix (s.2.2.1 113 (ix s.2.1)))), .int a2]) (st := []) [] (c_X12_stand (kl κ) (gm κ) (kA κ) (s.2.2.1 101 (ix (s.2.2.1 113 (ix s.2.1)))) a2 s.2.2 q9 e10) ck_RX12_471 im_X12_stand se_X12_stand sh_97 cx_12 ⟨rfl, rfl⟩ ⟨by decide, by decide⟩ rfl rfl (Nat.le_of_ble_eq_true rfl) dX12_near_109 _ rfl ?_
        refine j_iconst (0 : Int32) dX12_near_112 ki_0 ?_
        refine j_istore [(5, .int (0 : Int32)), (0, .ref (ad (gm κ) 97)), (2, .int a2), (3, .int s.1), (4, .int s.2.1)] dX12_near_113 (by decide) rfl ?_
        refine j_iconst (0 : Int32) dX12_near_115 ki_0 ?_
        refine j_istore [(6, .int (0 : Int32)), (5, .int (0 : Int32)), (0, .ref (ad (gm κ) 97)), (2, .int a2), (3, .int s.1), (4, .int s.2.1)] dX12_near_116 (by decide) rfl ?_
        refine j_loc [(0, .ref (ad (gm κ) 97)), (2, .int a2), (3, .int s.1), (4, .int s.2.1), (5, .int (0 : Int32)), (6, .int (0 : Int32))] [2, 3, 4, 5, 1, 0] rfl ?_
        refine t_X12_near_b118 a2 s.1 s.2.1 q9 (fun e13 h => ?_) ((0 : Int32), (0 : Int32)) (ok_bb h)
        · refine j_iload 4 dX12_near_156 rfl ?_
          refine j_aload_n 0 dX12_near_158 rfl rfl ?_
          refine j_iconst (3 : Int32) dX12_near_159 ki_3 ?_
          refine j_bipush (40 : Int32) dX12_near_160 kb_40 ?_
          obtain ⟨q14, e15, h⟩ := ok_b h
          refine j_callV (As := [.int (3 : Int32), .int (40 : Int32)]) (st := [.int e13]) [.int q14, .int e13] (c_X12_lastOf (kl κ) (gm κ) (kA κ) (3 : Int32) (40 : Int32) q9 q14 e15) ck_RX12_474 im_X12_lastOf se_X12_lastOf sh_97 cx_12 ⟨rfl, rfl⟩ ⟨by decide, by decide⟩ rfl rfl (Nat.le_of_ble_eq_true rfl) dX12_near_162 _ rfl ?_
          refine j_ic_ge 205 dX12_near_165 (by decide) h (fun h => ?_) (fun h => ?_)
          · refine j_loc [(0, .ref (ad (gm κ) 97)), (2, .int a2), (3, .int s.1), (4, .int s.2.1)] [0, 1, 2, 3] rfl ?_
            exact t_X12_near_j205 a2 s.1 s.2.1 q9 (fun _ h => h) K0 h
          · refine j_iload_n 2 dX12_near_168 rfl rfl ?_
            refine j_iconst (-1 : Int32) dX12_near_169 ki_m1 ?_
            refine j_ic_eq 202 dX12_near_170 (by decide) h (fun h => ?_) (fun h => ?_)
            · refine j_loc [(0, .ref (ad (gm κ) 97)), (2, .int a2), (4, .int s.2.1)] [0, 1, 3] rfl ?_
              exact t_X12_near_j202 a2 s.2.1 q9 (fun _ h => h) K0 h
            · refine j_aload_n 0 dX12_near_173 rfl rfl ?_
              refine j_getA 107 fl_RX12_42 sh_97 fk_97_18 (by decide) dX12_near_174 ?_
              refine j_aload_n 0 dX12_near_177 rfl rfl ?_
              refine j_getA 113 fl_RX12_60 sh_97 fk_97_24 (by decide) dX12_near_178 ?_
              refine j_iload 3 dX12_near_181 rfl ?_
              refine j_iald sh_113 dX12_near_183 h (fun h => ?_)
              refine j_iald sh_107 dX12_near_184 h (fun h => ?_)
              refine j_aload_n 0 dX12_near_185 rfl rfl ?_
              refine j_getA 107 fl_RX12_42 sh_97 fk_97_18 (by decide) dX12_near_186 ?_
              refine j_aload_n 0 dX12_near_189 rfl rfl ?_
              refine j_getA 113 fl_RX12_60 sh_97 fk_97_24 (by decide) dX12_near_190 ?_
              refine j_iload_n 2 dX12_near_193 rfl rfl ?_
              refine j_iald sh_113 dX12_near_194 h (fun h => ?_)
              refine j_iald sh_107 dX12_near_195 h (fun h => ?_)
              refine j_ic_lt 202 dX12_near_196 (by decide) h (fun h => ?_) (fun h => ?_)
              · refine j_loc [(0, .ref (ad (gm κ) 97)), (2, .int a2), (4, .int s.2.1)] [0, 1, 3] rfl ?_
                exact t_X12_near_j202 a2 s.2.1 q9 (fun _ h => h) K0 h
              · refine j_goto 205 dX12_near_199 (by decide) ?_
                refine j_loc [(0, .ref (ad (gm κ) 97)), (2, .int a2), (3, .int s.1), (4, .int s.2.1)] [0, 1, 2, 3] rfl ?_
                exact t_X12_near_j205 a2 s.1 s.2.1 q9 (fun _ h => h) K0 h
      · refine j_goto 205 dX12_near_92 (by decide) ?_
        refine j_loc [(0, .ref (ad (gm κ) 97)), (2, .int a2), (3, .int s.1), (4, .int s.2.1)] [0, 1, 2, 3] rfl ?_
        exact t_X12_near_j205 a2 s.1 s.2.1 s.2.2 (fun _ h => h) K0 h
noncomputable def X12_near (a1 : Int32) (a2 : Int32) (w : Wd) : Option (Int32 × Wd) :=
(if (X12_isLamp a1 w) = 0 then
X12_near_j15 w
else
(if (X12_isWeek a2 w) = 0 then
X12_near_j15 w
else
(X12_teacherAt a1 a2 w).bind fun q3 =>
(if q3 = (-1 : Int32) then
gd (vp_in a1 12) <|
(X12_travel (w.1 113 (ix a1)) a2 w).bind fun q5 =>
(lp (X12_near_b54 a2) ((-1 : Int32), (0 : Int32), q5)).bind fun e16 =>
(if e16.1 = (-1 : Int32) then
(X12_refuse (6 : Int32) e16.2).bind fun q19 =>
some (q19.1, q19.2)
else
(X12_gives e16.1 e16.2).bind fun q17 =>
some (q17.1, q17.2))
else
(X12_refuse (7 : Int32) w).bind fun q21 =>
some (q21.1, q21.2))))
set_option maxRecDepth 20000 in
set_option maxHeartbeats 1000000 in
theorem t_X12_near {κ : Kx} (a1 : Int32) (a2 : Int32) (w : Wd) (h : ok (X12_near  a1 a2 w) (PIw κ)) : J κ RX12 cX12_near 7 (some .int) (rmk 2 50) 0 [(0, .ref (ad (gm κ) 97)), (1, .int a1), (2, .int a2)] [] w := by
  unfold X12_near at h
  refine j_aload_n 0 dX12_near_0 rfl rfl ?_
  refine j_iload_n 1 dX12_near_1 rfl rfl ?_
  refine j_callV (As := [.int a1]) (st := []) [.int (X12_isLamp a1 w)] (c_X12_isLamp (kl κ) (gm κ) (kA κ) a1 w) ck_RX12_342 im_X12_isLamp se_X12_isLamp sh_97 cx_12 ⟨rfl, rfl⟩ ⟨by decide, by decide⟩ rfl rfl (Nat.le_of_ble_eq_true rfl) dX12_near_2 _ rfl ?_
  refine j_if_eq 15 dX12_near_5 (by decide) h (fun h => ?_) (fun h => ?_)
  · refine j_loc [(0, .ref (ad (gm κ) 97))] [0] rfl ?_
    exact t_X12_near_j15 w h
  · refine j_iload_n 2 dX12_near_8 rfl rfl ?_
    refine j_callS (As := [.int a2]) (st := []) [.int (X12_isWeek a2 w)] (c_X12_isWeek (kl κ) (gm κ) (kA κ) a2 w) ck_RX12_322 st_X12_isWeek ⟨rfl, rfl⟩ ⟨by decide, by decide⟩ rfl rfl (Nat.le_of_ble_eq_true rfl) dX12_near_9 _ rfl ?_
    refine j_if_ne 21 dX12_near_12 (by decide) h (fun h => ?_) (fun h => ?_)
    · refine j_aload_n 0 dX12_near_21 rfl rfl ?_
      refine j_iload_n 1 dX12_near_22 rfl rfl ?_
      refine j_iload_n 2 dX12_near_23 rfl rfl ?_
      obtain ⟨q3, e4, h⟩ := ok_b h
      refine j_callV (As := [.int a1, .int a2]) (st := []) [.int q3] (c_X12_teacherAt (kl κ) (gm κ) (kA κ) a1 a2 w q3 e4) ck_RX12_355 im_X12_teacherAt se_X12_teacherAt sh_97 cx_12 ⟨rfl, rfl⟩ ⟨by decide, by decide⟩ rfl rfl (Nat.le_of_ble_eq_true rfl) dX12_near_24 _ rfl ?_
      refine j_iconst (-1 : Int32) dX12_near_27 ki_m1 ?_
      refine j_ic_eq 38 dX12_near_28 (by decide) h (fun h => ?_) (fun h => ?_)
      · refine j_aload_n 0 dX12_near_38 rfl rfl ?_
        refine j_aload_n 0 dX12_near_39 rfl rfl ?_
        refine j_getA 113 fl_RX12_60 sh_97 fk_97_24 (by decide) dX12_near_40 ?_
        refine j_iload_n 1 dX12_near_43 rfl rfl ?_
        refine j_iald sh_113 dX12_near_44 h (fun h => ?_)
        refine j_iload_n 2 dX12_near_45 rfl rfl ?_
        obtain ⟨q5, e6, h⟩ := ok_b h
        refine j_callV (As := [.int (w.1 113 (ix a1)), .int a2]) (st := []) [] (c_X12_travel (kl κ) (gm κ) (kA κ) (w.1 113 (ix a1)) a2 w q5 e6) ck_RX12_332 im_X12_travel se_X12_travel sh_97 cx_12 ⟨rfl, rfl⟩ ⟨by decide, by decide⟩ rfl rfl (Nat.le_of_ble_eq_true rfl) dX12_near_46 _ rfl ?_
        refine j_iconst (-1 : Int32) dX12_near_49 ki_m1 ?_
        refine j_istore_n [(3, .int (-1 : Int32)), (0, .ref (ad (gm κ) 97)), (1, .int a1), (2, .int a2)] dX12_near_50 rfl (by decide) rfl ?_
        refine j_iconst (0 : Int32) dX12_near_51 ki_0 ?_
        refine j_istore [(4, .int (0 : Int32)), (3, .int (-1 : Int32)), (0, .ref (ad (gm κ) 97)), (1, .int a1), (2, .int a2)] dX12_near_52 (by decide) rfl ?_
        refine j_loc [(0, .ref (ad (gm κ) 97)), (2, .int a2), (3, .int (-1 : Int32)), (4, .int (0 : Int32))] [2, 4, 1, 0] rfl ?_
        refine t_X12_near_b54 a2 (fun e16 h => ?_) ((-1 : Int32), (0 : Int32), q5) (ok_bb h)
        · refine j_iload_n 1 dX12_near_211 rfl rfl ?_
          refine j_iconst (-1 : Int32) dX12_near_212 ki_m1 ?_
          refine j_ic_ne 225 dX12_near_213 (by decide) h (fun h => ?_) (fun h => ?_)
          · refine j_aload_n 0 dX12_near_225 rfl rfl ?_
            refine j_iload_n 1 dX12_near_226 rfl rfl ?_
            obtain ⟨q17, e18, h⟩ := ok_b h
            refine j_callV (As := [.int e16.1]) (st := []) [.int q17.1] (c_X12_gives (kl κ) (gm κ) (kA κ) e16.1 e16.2 q17 e18) ck_RX12_316 im_X12_gives se_X12_gives sh_97 cx_12 ⟨rfl, rfl⟩ ⟨by decide, by decide⟩ rfl rfl (Nat.le_of_ble_eq_true rfl) dX12_near_227 _ rfl ?_
            have h := ok_s h
            exact j_iret dX12_near_230 rfl rfl h
          · refine j_aload_n 0 dX12_near_216 rfl rfl ?_
            refine j_bipush (6 : Int32) dX12_near_217 kb_6 ?_
            obtain ⟨q19, e20, h⟩ := ok_b h
            refine j_callV (As := [.int (6 : Int32)]) (st := []) [.int q19.1] (c_X12_refuse (kl κ) (gm κ) (kA κ) (6 : Int32) e16.2 q19 e20) ck_RX12_312 im_X12_refuse se_X12_refuse sh_97 cx_12 ⟨rfl, rfl⟩ ⟨by decide, by decide⟩ rfl rfl (Nat.le_of_ble_eq_true rfl) dX12_near_219 _ rfl ?_
            refine j_goto 230 dX12_near_222 (by decide) ?_
            have h := ok_s h
            exact j_iret dX12_near_230 rfl rfl h
      · refine j_aload_n 0 dX12_near_31 rfl rfl ?_
        refine j_bipush (7 : Int32) dX12_near_32 kb_7 ?_
        obtain ⟨q21, e22, h⟩ := ok_b h
        refine j_callV (As := [.int (7 : Int32)]) (st := []) [.int q21.1] (c_X12_refuse (kl κ) (gm κ) (kA κ) (7 : Int32) w q21 e22) ck_RX12_312 im_X12_refuse se_X12_refuse sh_97 cx_12 ⟨rfl, rfl⟩ ⟨by decide, by decide⟩ rfl rfl (Nat.le_of_ble_eq_true rfl) dX12_near_34 _ rfl ?_
        have h := ok_s h
        exact j_iret dX12_near_37 rfl rfl h
    · refine j_loc [(0, .ref (ad (gm κ) 97))] [0] rfl ?_
      exact t_X12_near_j15 w h
theorem c_X12_near (l : Launch) (γ : Gm) (A : Nat → Prop) (a1 : Int32) (a2 : Int32) (w : Wd) (q : Int32 × Wd) (e : X12_near  a1 a2 w = some q) : MetG l γ A yX12_near cX12_near 7 (some .int) (rmk 2 50) [.ref (ad (γ) 97), .int a1, .int a2] w (some (.int q.1)) q.2 := by
  refine met_of pn_RX12 (Nat.le_of_ble_eq_true rfl) ?_
  intro κ hl hγ hA hρ
  subst hl; subst hγ; subst hA
  exact t_X12_near   a1 a2 w ⟨q, e, pIw hρ rfl rfl⟩
