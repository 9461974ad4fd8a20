theorem dX12_owe_0 : decode cX12_owe 0 = .ok (.aload_n 0, 1) := by decide +kernel
theorem dX12_owe_1 : decode cX12_owe 1 = .ok (.iload_n 1, 1) := by decide +kernel
theorem dX12_owe_2 : decode cX12_owe 2 = .ok (.invokevirtual 555, 3) := by decide +kernel
theorem dX12_owe_5 : decode cX12_owe 5 = .ok (.aload_n 0, 1) := by decide +kernel
theorem dX12_owe_6 : decode cX12_owe 6 = .ok (.aload_n 0, 1) := by decide +kernel
theorem dX12_owe_7 : decode cX12_owe 7 = .ok (.getfield 229, 3) := by decide +kernel
theorem dX12_owe_10 : decode cX12_owe 10 = .ok (.iload_n 1, 1) := by decide +kernel
theorem dX12_owe_11 : decode cX12_owe 11 = .ok (.iaload, 1) := by decide +kernel
theorem dX12_owe_12 : decode cX12_owe 12 = .ok (.iconst 1, 1) := by decide +kernel
theorem dX12_owe_13 : decode cX12_owe 13 = .ok (.isub, 1) := by decide +kernel
theorem dX12_owe_14 : decode cX12_owe 14 = .ok (.invokevirtual 520, 3) := by decide +kernel
theorem dX12_owe_17 : decode cX12_owe 17 = .ok (.aload_n 0, 1) := by decide +kernel
theorem dX12_owe_18 : decode cX12_owe 18 = .ok (.aload_n 0, 1) := by decide +kernel
theorem dX12_owe_19 : decode cX12_owe 19 = .ok (.getfield 226, 3) := by decide +kernel
theorem dX12_owe_22 : decode cX12_owe 22 = .ok (.iload_n 1, 1) := by decide +kernel
theorem dX12_owe_23 : decode cX12_owe 23 = .ok (.iaload, 1) := by decide +kernel
theorem dX12_owe_24 : decode cX12_owe 24 = .ok (.invokevirtual 481, 3) := by decide +kernel
theorem dX12_owe_27 : decode cX12_owe 27 = .ok (.istore_n 2, 1) := by decide +kernel
theorem dX12_owe_28 : decode cX12_owe 28 = .ok (.iconst 0, 1) := by decide +kernel
theorem dX12_owe_29 : decode cX12_owe 29 = .ok (.istore_n 3, 1) := by decide +kernel
theorem dX12_owe_30 : decode cX12_owe 30 = .ok (.iload_n 3, 1) := by decide +kernel
theorem dX12_owe_31 : decode cX12_owe 31 = .ok (.aload_n 0, 1) := by decide +kernel
theorem dX12_owe_32 : decode cX12_owe 32 = .ok (.getfield 549, 3) := by decide +kernel
theorem dX12_owe_35 : decode cX12_owe 35 = .ok (.if_icmp .ge 84, 3) := by decide +kernel
theorem dX12_owe_38 : decode cX12_owe 38 = .ok (.iconst (-1), 1) := by decide +kernel
theorem dX12_owe_39 : decode cX12_owe 39 = .ok (.istore 4, 2) := by decide +kernel
theorem dX12_owe_41 : decode cX12_owe 41 = .ok (.bipush 14, 2) := by decide +kernel
theorem dX12_owe_43 : decode cX12_owe 43 = .ok (.istore 5, 2) := by decide +kernel
theorem dX12_owe_45 : decode cX12_owe 45 = .ok (.iload 5, 2) := by decide +kernel
theorem dX12_owe_47 : decode cX12_owe 47 = .ok (.ifCond .lt 38, 3) := by decide +kernel
theorem dX12_owe_50 : decode cX12_owe 50 = .ok (.aload_n 0, 1) := by decide +kernel
theorem dX12_owe_51 : decode cX12_owe 51 = .ok (.getfield 187, 3) := by decide +kernel
theorem dX12_owe_54 : decode cX12_owe 54 = .ok (.iload 5, 2) := by decide +kernel
theorem dX12_owe_56 : decode cX12_owe 56 = .ok (.iaload, 1) := by decide +kernel
theorem dX12_owe_57 : decode cX12_owe 57 = .ok (.aload_n 0, 1) := by decide +kernel
theorem dX12_owe_58 : decode cX12_owe 58 = .ok (.getfield 241, 3) := by decide +kernel
theorem dX12_owe_61 : decode cX12_owe 61 = .ok (.iload_n 3, 1) := by decide +kernel
theorem dX12_owe_62 : decode cX12_owe 62 = .ok (.iaload, 1) := by decide +kernel
theorem dX12_owe_63 : decode cX12_owe 63 = .ok (.ishr, 1) := by decide +kernel
theorem dX12_owe_64 : decode cX12_owe 64 = .ok (.iconst 1, 1) := by decide +kernel
theorem dX12_owe_65 : decode cX12_owe 65 = .ok (.iand, 1) := by decide +kernel
theorem dX12_owe_66 : decode cX12_owe 66 = .ok (.iconst 1, 1) := by decide +kernel
theorem dX12_owe_67 : decode cX12_owe 67 = .ok (.if_icmp .ne 8, 3) := by decide +kernel
theorem dX12_owe_70 : decode cX12_owe 70 = .ok (.iload 5, 2) := by decide +kernel
theorem dX12_owe_72 : decode cX12_owe 72 = .ok (.goto 5, 3) := by decide +kernel
theorem dX12_owe_75 : decode cX12_owe 75 = .ok (.iload 4, 2) := by decide +kernel
theorem dX12_owe_77 : decode cX12_owe 77 = .ok (.istore 4, 2) := by decide +kernel
theorem dX12_owe_79 : decode cX12_owe 79 = .ok (.iinc 5 (-1), 3) := by decide +kernel
theorem dX12_owe_82 : decode cX12_owe 82 = .ok (.goto (-37), 3) := by decide +kernel
theorem dX12_owe_85 : decode cX12_owe 85 = .ok (.aload_n 0, 1) := by decide +kernel
theorem dX12_owe_86 : decode cX12_owe 86 = .ok (.getfield 244, 3) := by decide +kernel
theorem dX12_owe_89 : decode cX12_owe 89 = .ok (.iload_n 3, 1) := by decide +kernel
theorem dX12_owe_90 : decode cX12_owe 90 = .ok (.iload 4, 2) := by decide +kernel
theorem dX12_owe_92 : decode cX12_owe 92 = .ok (.iconst (-1), 1) := by decide +kernel
theorem dX12_owe_93 : decode cX12_owe 93 = .ok (.if_icmp .eq 13, 3) := by decide +kernel
theorem dX12_owe_96 : decode cX12_owe 96 = .ok (.iload_n 2, 1) := by decide +kernel
theorem dX12_owe_97 : decode cX12_owe 97 = .ok (.iload 4, 2) := by decide +kernel
theorem dX12_owe_99 : decode cX12_owe 99 = .ok (.ishr, 1) := by decide +kernel
theorem dX12_owe_100 : decode cX12_owe 100 = .ok (.iconst 1, 1) := by decide +kernel
theorem dX12_owe_101 : decode cX12_owe 101 = .ok (.iand, 1) := by decide +kernel
theorem dX12_owe_102 : decode cX12_owe 102 = .ok (.iconst 1, 1) := by decide +kernel
theorem dX12_owe_103 : decode cX12_owe 103 = .ok (.if_icmp .ne 7, 3) := by decide +kernel
theorem dX12_owe_106 : decode cX12_owe 106 = .ok (.iconst (-1), 1) := by decide +kernel
theorem dX12_owe_107 : decode cX12_owe 107 = .ok (.goto 5, 3) := by decide +kernel
theorem dX12_owe_110 : decode cX12_owe 110 = .ok (.iload 4, 2) := by decide +kernel
theorem dX12_owe_112 : decode cX12_owe 112 = .ok (.iastore, 1) := by decide +kernel
theorem dX12_owe_113 : decode cX12_owe 113 = .ok (.iinc 3 1, 3) := by decide +kernel
theorem dX12_owe_116 : decode cX12_owe 116 = .ok (.goto (-86), 3) := by decide +kernel
theorem dX12_owe_119 : decode cX12_owe 119 = .ok (.return_, 1) := by decide +kernel
noncomputable def X12_owe_j77 (a2 : Int32) (a3 : Int32) (a5 : Int32) (s0 : Int32) (w : Wd) : Option ((Int32 × Int32) ⊕ Int32) :=
some (.inl (s0, (a5 + (-1 : Int32))))
set_option maxRecDepth 20000 in
set_option maxHeartbeats 1000000 in
theorem t_X12_owe_j77 {κ : Kx} (a2 : Int32) (a3 : Int32) (a5 : Int32) (s0 : Int32) (w : Wd) {G : (Int32 × Int32) → Prop} {P : Int32 → Prop} (KG : ∀ s, G s → J κ RX12 cX12_owe 6 none (rmk 6 157) 45 [(0, .ref (ad (gm κ) 97)), (2, .int a2), (3, .int a3), (4, .int s.1), (5, .int s.2)] [] w) (K0 : ∀ e, P e → J κ RX12 cX12_owe 6 none (rmk 6 157) 85 [(0, .ref (ad (gm κ) 97)), (2, .int a2), (3, .int a3), (4, .int e)] [] w) (h : ok (X12_owe_j77  a2 a3 a5 s0 w) (sel G P)) : J κ RX12 cX12_owe 6 none (rmk 6 157) 77 [(0, .ref (ad (gm κ) 97)), (2, .int a2), (3, .int a3), (5, .int a5)] [.int s0] w := by
  unfold X12_owe_j77 at h
  refine j_istore [(4, .int s0), (0, .ref (ad (gm κ) 97)), (2, .int a2), (3, .int a3), (5, .int a5)] dX12_owe_77 (by decide) rfl ?_
  refine j_iinc (a5 + (-1 : Int32)) 4 [(5, .int (a5 + (-1 : Int32))), (4, .int s0), (0, .ref (ad (gm κ) 97)), (2, .int a2), (3, .int a3)] dX12_owe_79 rfl (by rw [kn_m1]) (by decide) rfl ?_
  refine j_goto 45 dX12_owe_82 (by decide) ?_
  refine j_loc [(0, .ref (ad (gm κ) 97)), (2, .int a2), (3, .int a3), (4, .int s0), (5, .int (a5 + (-1 : Int32)))] [2, 3, 4, 1, 0] rfl ?_
  have h := sel_l h
  have h := KG _ h
  exact h
noncomputable def X12_owe_b45 (a2 : Int32) (a3 : Int32) (w : Wd) (s : (Int32 × Int32)) : Option ((Int32 × Int32) ⊕ Int32) :=
(if s.2 < 0 then
some (.inr s.1)
else
gd (vp_in s.2 15) <|
gd (vp_in a3 16) <|
(if (((w.1 149 (ix s.2)) >>> ((w.1 166 (ix a3)) &&& 31)) &&& (1 : Int32)) = (1 : Int32) then
X12_owe_j77 a2 a3 s.2 s.2 w
else
X12_owe_j77 a2 a3 s.2 s.1 w))
set_option maxRecDepth 20000 in
set_option maxHeartbeats 1000000 in
theorem t_X12_owe_b45 {κ : Kx} (a2 : Int32) (a3 : Int32) (w : Wd) {P : Int32 → Prop} (K0 : ∀ e, P e → J κ RX12 cX12_owe 6 none (rmk 6 157) 85 [(0, .ref (ad (gm κ) 97)), (2, .int a2), (3, .int a3), (4, .int e)] [] w) (s : (Int32 × Int32)) (h : ok (lp (X12_owe_b45  a2 a3 w) s) P) : J κ RX12 cX12_owe 6 none (rmk 6 157) 45 [(0, .ref (ad (gm κ) 97)), (2, .int a2), (3, .int a3), (4, .int s.1), (5, .int s.2)] [] w := by
  refine lp_ind (fun s => J κ RX12 cX12_owe 6 none (rmk 6 157) 45 [(0, .ref (ad (gm κ) 97)), (2, .int a2), (3, .int a3), (4, .int s.1), (5, .int s.2)] [] w) (fun s h => ?_) s h
  unfold X12_owe_b45 at h
  refine j_iload 4 dX12_owe_45 rfl ?_
  refine j_if_lt 85 dX12_owe_47 (by decide) h (fun h => ?_) (fun h => ?_)
  · refine j_loc [(0, .ref (ad (gm κ) 97)), (2, .int a2), (3, .int a3), (4, .int s.1)] [0, 1, 2, 3] rfl ?_
    have h := sel_r h
    have h := K0 _ h
    exact h
  · refine j_aload_n 0 dX12_owe_50 rfl rfl ?_
    refine j_getA 149 fl_RX12_187 sh_97 fk_97_73 (by decide) dX12_owe_51 ?_
    refine j_iload 4 dX12_owe_54 rfl ?_
    refine j_iald sh_149 dX12_owe_56 h (fun h => ?_)
    refine j_aload_n 0 dX12_owe_57 rfl rfl ?_
    refine j_getA 166 fl_RX12_241 sh_97 fk_97_92 (by decide) dX12_owe_58 ?_
    refine j_iload_n 2 dX12_owe_61 rfl rfl ?_
    refine j_iald sh_166 dX12_owe_62 h (fun h => ?_)
    refine j_ishr dX12_owe_63 ?_
    refine j_iconst (1 : Int32) dX12_owe_64 ki_1 ?_
    refine j_iand dX12_owe_65 ?_
    refine j_iconst (1 : Int32) dX12_owe_66 ki_1 ?_
    refine j_ic_ne 75 dX12_owe_67 (by decide) h (fun h => ?_) (fun h => ?_)
    · refine j_iload 3 dX12_owe_75 rfl ?_
      refine j_loc [(0, .ref (ad (gm κ) 97)), (2, .int a2), (3, .int a3), (5, .int s.2)] [0, 1, 2, 4] rfl ?_
      exact t_X12_owe_j77 a2 a3 s.2 s.1 w (fun _ h => h) K0 h
    · refine j_iload 4 dX12_owe_70 rfl ?_
      refine j_goto 77 dX12_owe_72 (by decide) ?_
      refine j_loc [(0, .ref (ad (gm κ) 97)), (2, .int a2), (3, .int a3), (5, .int s.2)] [0, 1, 2, 4] rfl ?_
      exact t_X12_owe_j77 a2 a3 s.2 s.2 w (fun _ h => h) K0 h
noncomputable def X12_owe_j112 (a2 : Int32) (a3 : Int32) (s0 : Int32) (s1 : Int32) (w : Wd) : Option ((Int32 × Wd) ⊕ Wd) :=
gd (vp_in s1 16) <|
(some (puI w 167 (ix s1) s0)).bind fun w8 =>
some (.inl ((a3 + (1 : Int32)), w8))
set_option maxRecDepth 20000 in
set_option maxHeartbeats 1000000 in
theorem t_X12_owe_j112 {κ : Kx} (a2 : Int32) (a3 : Int32) (s0 : Int32) (s1 : Int32) (w : Wd) {G : (Int32 × Wd) → Prop} {P : Wd → Prop} (KG : ∀ s, G s → J κ RX12 cX12_owe 6 none (rmk 6 157) 30 [(0, .ref (ad (gm κ) 97)), (2, .int a2), (3, .int s.1)] [] s.2) (K0 : ∀ e, P e → J κ RX12 cX12_owe 6 none (rmk 6 157) 119 [] [] e) (h : ok (X12_owe_j112  a2 a3 s0 s1 w) (sel G P)) : J κ RX12 cX12_owe 6 none (rmk 6 157) 112 [(0, .ref (ad (gm κ) 97)), (2, .int a2), (3, .int a3)] [.int s0, .int s1, .ref (ad (gm κ) 167)] w := by
  unfold X12_owe_j112 at h
  refine j_iast sh_167 dX12_owe_112 h (fun h => ?_)
  refine j_lW h (fun w8 h => ?_)
  refine j_iinc (a3 + (1 : Int32)) 2 [(3, .int (a3 + (1 : Int32))), (0, .ref (ad (gm κ) 97)), (2, .int a2)] dX12_owe_113 rfl (by rw [kn_1]) (by decide) rfl ?_
  refine j_goto 30 dX12_owe_116 (by decide) ?_
  refine j_loc [(0, .ref (ad (gm κ) 97)), (2, .int a2), (3, .int (a3 + (1 : Int32)))] [1, 2, 0] rfl ?_
  have h := sel_l h
  have h := KG _ h
  exact h
noncomputable def X12_owe_j106 (a2 : Int32) (a3 : Int32) (s0 : Int32) (w : Wd) : Option ((Int32 × Wd) ⊕ Wd) :=
X12_owe_j112 a2 a3 (-1 : Int32) s0 w
set_option maxRecDepth 20000 in
set_option maxHeartbeats 1000000 in
theorem t_X12_owe_j106 {κ : Kx} (a2 : Int32) (a3 : Int32) (s0 : Int32) (w : Wd) {G : (Int32 × Wd) → Prop} {P : Wd → Prop} (KG : ∀ s, G s → J κ RX12 cX12_owe 6 none (rmk 6 157) 30 [(0, .ref (ad (gm κ) 97)), (2, .int a2), (3, .int s.1)] [] s.2) (K0 : ∀ e, P e → J κ RX12 cX12_owe 6 none (rmk 6 157) 119 [] [] e) (h : ok (X12_owe_j106  a2 a3 s0 w) (sel G P)) : J κ RX12 cX12_owe 6 none (rmk 6 157) 106 [(0, .ref (ad (gm κ) 97)), (2, .int a2), (3, .int a3)] [.int s0, .ref (ad (gm κ) 167)] w := by
  unfold X12_owe_j106 at h
  refine j_iconst (-1 : Int32) dX12_owe_106 ki_m1 ?_
  refine j_goto 112 dX12_owe_107 (by decide) ?_
  refine j_loc [(0, .ref (ad (gm κ) 97)), (2, .int a2), (3, .int a3)] [0, 1, 2] rfl ?_
  exact t_X12_owe_j112 a2 a3 (-1 : Int32) s0 w KG K0 h
noncomputable def X12_owe_b30 (a2 : Int32) (s : (Int32 × Wd)) : Option ((Int32 × Wd) ⊕ Wd) :=
(if (s.2.1 97 98) ≤ s.1 then
some (.inr s.2)
else
(lp (X12_owe_b45 a2 s.1 s.2) ((-1 : Int32), (14 : Int32))).bind fun e7 =>
(if e7 = (-1 : Int32) then
X12_owe_j106 a2 s.1 s.1 s.2
else
(if ((a2 >>> (e7 &&& 31)) &&& (1 : Int32)) = (1 : Int32) then
X12_owe_j106 a2 s.1 s.1 s.2
else
X12_owe_j112 a2 s.1 e7 s.1 s.2)))
set_option maxRecDepth 20000 in
set_option maxHeartbeats 1000000 in
theorem t_X12_owe_b30 {κ : Kx} (a2 : Int32) {P : Wd → Prop} (K0 : ∀ e, P e → J κ RX12 cX12_owe 6 none (rmk 6 157) 119 [] [] e) (s : (Int32 × Wd)) (h : ok (lp (X12_owe_b30  a2) s) P) : J κ RX12 cX12_owe 6 none (rmk 6 157) 30 [(0, .ref (ad (gm κ) 97)), (2, .int a2), (3, .int s.1)] [] s.2 := by
  refine lp_ind (fun s => J κ RX12 cX12_owe 6 none (rmk 6 157) 30 [(0, .ref (ad (gm κ) 97)), (2, .int a2), (3, .int s.1)] [] s.2) (fun s h => ?_) s h
  unfold X12_owe_b30 at h
  refine j_iload_n 2 dX12_owe_30 rfl rfl ?_
  refine j_aload_n 0 dX12_owe_31 rfl rfl ?_
  refine j_getI fl_RX12_549 sh_97 fk_97_98 dX12_owe_32 ?_
  refine j_ic_ge 119 dX12_owe_35 (by decide) h (fun h => ?_) (fun h => ?_)
  · refine j_loc [] [] rfl ?_
    have h := sel_r h
    have h := K0 _ h
    exact h
  · refine j_iconst (-1 : Int32) dX12_owe_38 ki_m1 ?_
    refine j_istore [(4, .int (-1 : Int32)), (0, .ref (ad (gm κ) 97)), (2, .int a2), (3, .int s.1)] dX12_owe_39 (by decide) rfl ?_
    refine j_bipush (14 : Int32) dX12_owe_41 kb_14 ?_
    refine j_istore [(5, .int (14 : Int32)), (4, .int (-1 : Int32)), (0, .ref (ad (gm κ) 97)), (2, .int a2), (3, .int s.1)] dX12_owe_43 (by decide) rfl ?_
    refine j_loc [(0, .ref (ad (gm κ) 97)), (2, .int a2), (3, .int s.1), (4, .int (-1 : Int32)), (5, .int (14 : Int32))] [2, 3, 4, 1, 0] rfl ?_
    refine t_X12_owe_b45 a2 s.1 s.2 (fun e7 h => ?_) ((-1 : Int32), (14 : Int32)) (ok_bb h)
    · refine j_aload_n 0 dX12_owe_85 rfl rfl ?_
      refine j_getA 167 fl_RX12_244 sh_97 fk_97_93 (by decide) dX12_owe_86 ?_
      refine j_iload_n 2 dX12_owe_89 rfl rfl ?_
      refine j_iload 3 dX12_owe_90 rfl ?_
      refine j_iconst (-1 : Int32) dX12_owe_92 ki_m1 ?_
      refine j_ic_eq 106 dX12_owe_93 (by decide) h (fun h => ?_) (fun h => ?_)
      · refine j_loc [(0, .ref (ad (gm κ) 97)), (2, .int a2), (3, .int s.1)] [0, 1, 2] rfl ?_
        exact t_X12_owe_j106 a2 s.1 s.1 s.2 (fun _ h => h) K0 h
      · refine j_iload_n 1 dX12_owe_96 rfl rfl ?_
        refine j_iload 3 dX12_owe_97 rfl ?_
        refine j_ishr dX12_owe_99 ?_
        refine j_iconst (1 : Int32) dX12_owe_100 ki_1 ?_
        refine j_iand dX12_owe_101 ?_
        refine j_iconst (1 : Int32) dX12_owe_102 ki_1 ?_
        refine j_ic_ne 110 dX12_owe_103 (by decide) h (fun h => ?_) (fun h => ?_)
        · refine j_iload 3 dX12_owe_110 rfl ?_
          refine j_loc [(0, .ref (ad (gm κ) 97)), (2, .int a2), (3, .int s.1)] [0, 1, 2] rfl ?_
          exact t_X12_owe_j112 a2 s.1 e7 s.1 s.2 (fun _ h => h) K0 h
        · refine j_loc [(0, .ref (ad (gm κ) 97)), (2, .int a2), (3, .int s.1)] [0, 1, 2] rfl ?_
          exact t_X12_owe_j106 a2 s.1 s.1 s.2 (fun _ h => h) K0 h
noncomputable def X12_owe (a1 : Int32) (w : Wd) : Option (Wd) :=
(X12_spellOut a1 w).bind fun q1 =>
gd (vp_in a1 60) <|
(X12_goAlong ((q1.1 162 (ix a1)) - (1 : Int32)) q1).bind fun q3 =>
gd (vp_in a1 60) <|
(X12_doneSet (q3.1 161 (ix a1)) q3).bind fun q5 =>
(lp (X12_owe_b30 q5) ((0 : Int32), q3)).bind fun e9 =>
some e9
set_option maxRecDepth 20000 in
set_option maxHeartbeats 1000000 in
theorem t_X12_owe {κ : Kx} (a1 : Int32) (w : Wd) (h : ok (X12_owe  a1 w) (PVw κ)) : J κ RX12 cX12_owe 6 none (rmk 6 157) 0 [(0, .ref (ad (gm κ) 97)), (1, .int a1)] [] w := by
  unfold X12_owe at h
  refine j_aload_n 0 dX12_owe_0 rfl rfl ?_
  refine j_iload_n 1 dX12_owe_1 rfl rfl ?_
  obtain ⟨q1, e2, h⟩ := ok_b h
  refine j_callV (As := [.int a1]) (st := []) [] (c_X12_spellOut (kl κ) (gm κ) (kA κ) a1 w q1 e2) ck_RX12_555 im_X12_spellOut se_X12_spellOut sh_97 cx_12 ⟨rfl, rfl⟩ ⟨by decide, by decide⟩ rfl rfl (Nat.le_of_ble_eq_true rfl) dX12_owe_2 _ rfl ?_
  refine j_aload_n 0 dX12_owe_5 rfl rfl ?_
  refine j_aload_n 0 dX12_owe_6 rfl rfl ?_
  refine j_getA 162 fl_RX12_229 sh_97 fk_97_88 (by decide) dX12_owe_7 ?_
  refine j_iload_n 1 dX12_owe_10 rfl rfl ?_
  refine j_iald sh_162 dX12_owe_11 h (fun h => ?_)
  refine j_iconst (1 : Int32) dX12_owe_12 ki_1 ?_
  refine j_isub dX12_owe_13 ?_
  obtain ⟨q3, e4, h⟩ := ok_b h
  refine j_callV (As := [.int ((q1.1 162 (ix a1)) - (1 : Int32))]) (st := []) [] (c_X12_goAlong (kl κ) (gm κ) (kA κ) ((q1.1 162 (ix a1)) - (1 : Int32)) q1 q3 e4) ck_RX12_520 im_X12_goAlong se_X12_goAlong sh_97 cx_12 ⟨rfl, rfl⟩ ⟨by decide, by decide⟩ rfl rfl (Nat.le_of_ble_eq_true rfl) dX12_owe_14 _ rfl ?_
  refine j_aload_n 0 dX12_owe_17 rfl rfl ?_
  refine j_aload_n 0 dX12_owe_18 rfl rfl ?_
  refine j_getA 161 fl_RX12_226 sh_97 fk_97_87 (by decide) dX12_owe_19 ?_
  refine j_iload_n 1 dX12_owe_22 rfl rfl ?_
  refine j_iald sh_161 dX12_owe_23 h (fun h => ?_)
  obtain ⟨q5, e6, h⟩ := ok_b h
  refine j_callV (As := [.int (q3.1 161 (ix a1))]) (st := []) [.int q5] (c_X12_doneSet (kl κ) (gm κ) (kA κ) (q3.1 161 (ix a1)) q3 q5 e6) ck_RX12_481 im_X12_doneSet se_X12_doneSet sh_97 cx_12 ⟨rfl, rfl⟩ ⟨by decide, by decide⟩ rfl rfl (Nat.le_of_ble_eq_true rfl) dX12_owe_24 _ rfl ?_
  refine j_istore_n [(2, .int q5), (0, .ref (ad (gm κ) 97)), (1, .int a1)] dX12_owe_27 rfl (by decide) rfl ?_
  refine j_iconst (0 : Int32) dX12_owe_28 ki_0 ?_
  refine j_istore_n [(3, .int (0 : Int32)), (2, .int q5), (0, .ref (ad (gm κ) 97)), (1, .int a1)] dX12_owe_29 rfl (by decide) rfl ?_
  refine j_loc [(0, .ref (ad (gm κ) 97)), (2, .int q5), (3, .int (0 : Int32))] [2, 1, 0] rfl ?_
  refine t_X12_owe_b30 q5 (fun e9 h => ?_) ((0 : Int32), q3) (ok_bb h)
  · have h := ok_s h
    exact j_vret dX12_owe_119 rfl h
theorem c_X12_owe (l : Launch) (γ : Gm) (A : Nat → Prop) (a1 : Int32) (w : Wd) (q : Wd) (e : X12_owe  a1 w = some q) : MetG l γ A yX12_owe cX12_owe 6 none (rmk 6 157) [.ref (ad (γ) 97), .int a1] w none q := by
  refine met_of pn_RX12 (Nat.le_of_ble_eq_true rfl) ?_
  intro κ hl hγ hA hρ
  subst hl; subst hγ; subst hA
  exact t_X12_owe   a1 w ⟨q, e, pVw hρ rfl rfl⟩
theorem dX12_isPassed_0 : decode cX12_isPassed 0 = .ok (.aload_n 0, 1) := by decide +kernel
theorem dX12_isPassed_1 : decode cX12_isPassed 1 = .ok (.iload_n 1, 1) := by decide +kernel
theorem dX12_isPassed_2 : decode cX12_isPassed 2 = .ok (.invokevirtual 555, 3) := by decide +kernel
theorem dX12_isPassed_5 : decode cX12_isPassed 5 = .ok (.aload_n 0, 1) := by decide +kernel
theorem dX12_isPassed_6 : decode cX12_isPassed 6 = .ok (.aload_n 0, 1) := by decide +kernel
theorem dX12_isPassed_7 : decode cX12_isPassed 7 = .ok (.getfield 24, 3) := by decide +kernel
theorem dX12_isPassed_10 : decode cX12_isPassed 10 = .ok (.aload_n 0, 1) := by decide +kernel
theorem dX12_isPassed_11 : decode cX12_isPassed 11 = .ok (.getfield 45, 3) := by decide +kernel
theorem dX12_isPassed_14 : decode cX12_isPassed 14 = .ok (.aload_n 0, 1) := by decide +kernel
theorem dX12_isPassed_15 : decode cX12_isPassed 15 = .ok (.getfield 226, 3) := by decide +kernel
theorem dX12_isPassed_18 : decode cX12_isPassed 18 = .ok (.iload_n 1, 1) := by decide +kernel
theorem dX12_isPassed_19 : decode cX12_isPassed 19 = .ok (.iaload, 1) := by decide +kernel
theorem dX12_isPassed_20 : decode cX12_isPassed 20 = .ok (.iaload, 1) := by decide +kernel
theorem dX12_isPassed_21 : decode cX12_isPassed 21 = .ok (.iaload, 1) := by decide +kernel
theorem dX12_isPassed_22 : decode cX12_isPassed 22 = .ok (.aload_n 0, 1) := by decide +kernel
theorem dX12_isPassed_23 : decode cX12_isPassed 23 = .ok (.getfield 229, 3) := by decide +kernel
theorem dX12_isPassed_26 : decode cX12_isPassed 26 = .ok (.iload_n 1, 1) := by decide +kernel
theorem dX12_isPassed_27 : decode cX12_isPassed 27 = .ok (.iaload, 1) := by decide +kernel
theorem dX12_isPassed_28 : decode cX12_isPassed 28 = .ok (.invokevirtual 471, 3) := by decide +kernel
theorem dX12_isPassed_31 : decode cX12_isPassed 31 = .ok (.aload_n 0, 1) := by decide +kernel
theorem dX12_isPassed_32 : decode cX12_isPassed 32 = .ok (.getfield 549, 3) := by decide +kernel
theorem dX12_isPassed_35 : decode cX12_isPassed 35 = .ok (.aload_n 0, 1) := by decide +kernel
theorem dX12_isPassed_36 : decode cX12_isPassed 36 = .ok (.iconst 4, 1) := by decide +kernel
theorem dX12_isPassed_37 : decode cX12_isPassed 37 = .ok (.iconst 0, 1) := by decide +kernel
theorem dX12_isPassed_38 : decode cX12_isPassed 38 = .ok (.invokevirtual 474, 3) := by decide +kernel
theorem dX12_isPassed_41 : decode cX12_isPassed 41 = .ok (.if_icmp .gt 7, 3) := by decide +kernel
theorem dX12_isPassed_44 : decode cX12_isPassed 44 = .ok (.iconst 1, 1) := by decide +kernel
theorem dX12_isPassed_45 : decode cX12_isPassed 45 = .ok (.goto 4, 3) := by decide +kernel
theorem dX12_isPassed_48 : decode cX12_isPassed 48 = .ok (.iconst 0, 1) := by decide +kernel
theorem dX12_isPassed_49 : decode cX12_isPassed 49 = .ok (.ireturn, 1) := by decide +kernel
noncomputable def X12_isPassed (a1 : Int32) (w : Wd) : Option (Int32 × Wd) :=
(X12_spellOut a1 w).bind fun q1 =>
gd (vp_in a1 60) <|
gd (vp_in (q1.1 161 (ix a1)) 40) <|
gd (vp_in (q1.1 108 (ix (q1.1 161 (ix a1)))) 16) <|
(some (q1.1 101 (ix (q1.1 108 (ix (q1.1 161 (ix a1))))))).bind fun z3 =>
gd (vp_in a1 60) <|
(X12_stand z3 (q1.1 162 (ix a1)) q1).bind fun q4 =>
(X12_lastOf (4 : Int32) (0 : Int32) q4).bind fun q6 =>
(if q6 < (q4.1 97 98) then
some ((0 : Int32), q4)
else
some ((1 : Int32), q4))
set_option maxRecDepth 20000 in
set_option maxHeartbeats 1000000 in
theorem t_X12_isPassed {κ : Kx} (a1 : Int32) (w : Wd) (h : ok (X12_isPassed  a1 w) (PIw κ)) : J κ RX12 cX12_isPassed 2 (some .boolean) (rmk 2 49) 0 [(0, .ref (ad (gm κ) 97)), (1, .int a1)] [] w := by
  unfold X12_isPassed at h
  refine j_aload_n 0 dX12_isPassed_0 rfl rfl ?_
  refine j_iload_n 1 dX12_isPassed_1 rfl rfl ?_
  obtain ⟨q1, e2, h⟩ := ok_b h
  refine j_callV (As := [.int a1]) (st := []) [] (c_X12_spellOut (kl κ) (gm κ) (kA κ) a1 w q1 e2) ck_RX12_555 im_X12_spellOut se_X12_spellOut sh_97 cx_12 ⟨rfl, rfl⟩ ⟨by decide, by decide⟩ rfl rfl (Nat.le_of_ble_eq_true rfl) dX12_isPassed_2 _ rfl ?_
  refine j_aload_n 0 dX12_isPassed_5 rfl rfl ?_
  refine j_aload_n 0 dX12_isPassed_6 rfl rfl ?_
  refine j_getA 101 fl_RX12_24 sh_97 fk_97_12 (by decide) dX12_isPassed_7 ?_
  refine j_aload_n 0 dX12_isPassed_10 rfl rfl ?_
  refine j_getA 108 fl_RX12_45 sh_97 fk_97_19 (by decide) dX12_isPassed_11 ?_
  refine j_aload_n 0 dX12_isPassed_14 rfl rfl ?_
  refine j_getA 161 fl_RX12_226 sh_97 fk_97_87 (by decide) dX12_isPassed_15 ?_
  refine j_iload_n 1 dX12_isPassed_18 rfl rfl ?_
  refine j_iald sh_161 dX12_isPassed_19 h (fun h => ?_)
  refine j_iald sh_108 dX12_isPassed_20 h (fun h => ?_)
  refine j_iald sh_101 dX12_isPassed_21 h (fun h => ?_)
  refine j_lI h (fun z3 h => ?_)
  refine j_aload_n 0 dX12_isPassed_22 rfl rfl ?_
  refine j_getA 162 fl_RX12_229 sh_97 fk_97_88 (by decide) dX12_isPassed_23 ?_
  refine j_iload_n 1 dX12_isPassed_26 rfl rfl ?_
  refine j_iald sh_162 dX12_isPassed_27 h (fun h => ?_)
  obtain ⟨q4, e5, h⟩ := ok_b h
  refine j_callV (As := [.int z3, .int (q1.1 162 (ix a1))]) (st := []) [] (c_X12_stand (kl κ) (gm κ) (kA κ) z3 (q1.1 162 (ix a1)) q1 q4 e5) ck_RX12_471 im_X12_stand se_X12_stand sh_97 cx_12 ⟨rfl, rfl⟩ ⟨by decide, by decide⟩ rfl rfl (Nat.le_of_ble_eq_true rfl) dX12_isPassed_28 _ rfl ?_
  refine j_aload_n 0 dX12_isPassed_31 rfl rfl ?_
  refine j_getI fl_RX12_549 sh_97 fk_97_98 dX12_isPassed_32 ?_
  refine j_aload_n 0 dX12_isPassed_35 rfl rfl ?_
  refine j_iconst (4 : Int32) dX12_isPassed_36 ki_4 ?_
  refine j_iconst (0 : Int32) dX12_isPassed_37 ki_0 ?_
  obtain ⟨q6, e7, h⟩ := ok_b h
  refine j_callV (As := [.int (4 : Int32), .int (0 : Int32)]) (st := [.int (q4.1 97 98)]) [.int q6, .int (q4.1 97 98)] (c_X12_lastOf (kl κ) (gm κ) (kA κ) (4 : Int32) (0 : Int32) q4 q6 e7) ck_RX12_474 im_X12_lastOf se_X12_lastOf sh_97 cx_12 ⟨rfl, rfl⟩ ⟨by decide, by decide⟩ rfl rfl (Nat.le_of_ble_eq_true rfl) dX12_isPassed_38 _ rfl ?_
  refine j_ic_gt 48 dX12_isPassed_41 (by decide) h (fun h => ?_) (fun h => ?_)
  · refine j_iconst (0 : Int32) dX12_isPassed_48 ki_0 ?_
    have h := ok_s h
    exact j_iret dX12_isPassed_49 rfl (by decide) h
  · refine j_iconst (1 : Int32) dX12_isPassed_44 ki_1 ?_
    refine j_goto 49 dX12_isPassed_45 (by decide) ?_
    have h := ok_s h
    exact j_iret dX12_isPassed_49 rfl (by decide) h
theorem c_X12_isPassed (l : Launch) (γ : Gm) (A : Nat → Prop) (a1 : Int32) (w : Wd) (q : Int32 × Wd) (e : X12_isPassed  a1 w = some q) : MetG l γ A yX12_isPassed cX12_isPassed 2 (some .boolean) (rmk 2 49) [.ref (ad (γ) 97), .int a1] w (some (.int q.1)) q.2 := by
  refine met_of pn_RX12 (Nat.le_of_ble_eq_true rfl) ?_
  intro κ hl hγ hA hρ
  subst hl; subst hγ; subst hA
  exact t_X12_isPassed   a1 w ⟨q, e, pIw hρ rfl rfl⟩
theorem dX12_isProof_0 : decode cX12_isProof 0 = .ok (.iload_n 1, 1) := by decide +kernel
theorem dX12_isProof_1 : decode cX12_isProof 1 = .ok (.ifCond .lt 15, 3) := by decide +kernel
theorem dX12_isProof_4 : decode cX12_isProof 4 = .ok (.iload_n 1, 1) := by decide +kernel
theorem dX12_isProof_5 : decode cX12_isProof 5 = .ok (.aload_n 0, 1) := by decide +kernel
theorem dX12_isProof_6 : decode cX12_isProof 6 = .ok (.getfield 533, 3) := by decide +kernel
theorem dX12_isProof_9 : decode cX12_isProof 9 = .ok (.if_icmp .ge 7, 3) := by decide +kernel
theorem dX12_isProof_12 : decode cX12_isProof 12 = .ok (.iconst 1, 1) := by decide +kernel
theorem dX12_isProof_13 : decode cX12_isProof 13 = .ok (.goto 4, 3) := by decide +kernel
theorem dX12_isProof_16 : decode cX12_isProof 16 = .ok (.iconst 0, 1) := by decide +kernel
theorem dX12_isProof_17 : decode cX12_isProof 17 = .ok (.ireturn, 1) := by decide +kernel
noncomputable def X12_isProofO (a1 : Int32) (w : Wd) : Option (Int32) :=
(if a1 < 0 then
some (0 : Int32)
else
(if (w.1 97 86) ≤ a1 then
some (0 : Int32)
else
some (1 : Int32)))
set_option maxRecDepth 20000 in
set_option maxHeartbeats 1000000 in
theorem t_X12_isProof {κ : Kx} (a1 : Int32) (w : Wd) (h : ok (X12_isProofO  a1 w) (PI κ w)) : J κ RX12 cX12_isProof 2 (some .boolean) (rmk 0 0) 0 [(0, .ref (ad (gm κ) 97)), (1, .int a1)] [] w := by
  unfold X12_isProofO at h
  refine j_iload_n 1 dX12_isProof_0 rfl rfl ?_
  refine j_if_lt 16 dX12_isProof_1 (by decide) h (fun h => ?_) (fun h => ?_)
  · refine j_iconst (0 : Int32) dX12_isProof_16 ki_0 ?_
    have h := ok_s h
    exact j_iret dX12_isProof_17 rfl (by decide) h
  · refine j_iload_n 1 dX12_isProof_4 rfl rfl ?_
    refine j_aload_n 0 dX12_isProof_5 rfl rfl ?_
    refine j_getI fl_RX12_533 sh_97 fk_97_86 dX12_isProof_6 ?_
    refine j_ic_ge 16 dX12_isProof_9 (by decide) h (fun h => ?_) (fun h => ?_)
    · refine j_iconst (0 : Int32) dX12_isProof_16 ki_0 ?_
      have h := ok_s h
      exact j_iret dX12_isProof_17 rfl (by decide) h
    · refine j_iconst (1 : Int32) dX12_isProof_12 ki_1 ?_
      refine j_goto 17 dX12_isProof_13 (by decide) ?_
      have h := ok_s h
      exact j_iret dX12_isProof_17 rfl (by decide) h
noncomputable def X12_isProof (a1 : Int32) (w : Wd) : Int32 := (X12_isProofO  a1 w).getD 0
theorem X12_isProof_eq (a1 : Int32) (w : Wd) : X12_isProofO  a1 w = some (X12_isProof  a1 w) := by
  unfold X12_isProof X12_isProofO
  repeat (first | rfl | split)
theorem nz_X12_isProof (a1 : Int32) (w : Wd) : narrow .boolean (.int (X12_isProof  a1 w)) = .int (X12_isProof  a1 w) := by
  unfold X12_isProof X12_isProofO
  repeat (first | rfl | split)
theorem c_X12_isProof (l : Launch) (γ : Gm) (A : Nat → Prop) (a1 : Int32) (w : Wd) : MetG l γ A yX12_isProof cX12_isProof 2 (some .boolean) (rmk 0 0) [.ref (ad (γ) 97), .int a1] w (some (.int (X12_isProof  a1 w))) w := by
  refine met_of pn_RX12 (Nat.le_of_ble_eq_true rfl) ?_
  intro κ hl hγ hA hρ
  subst hl; subst hγ; subst hA
  exact t_X12_isProof   a1 w ⟨_, X12_isProof_eq  a1 w, pI hρ rfl rfl⟩
theorem dX12_slips_0 : decode cX12_slips 0 = .ok (.aload_n 0, 1) := by decide +kernel
theorem dX12_slips_1 : decode cX12_slips 1 = .ok (.iload_n 1, 1) := by decide +kernel
theorem dX12_slips_2 : decode cX12_slips 2 = .ok (.invokevirtual 558, 3) := by decide +kernel
theorem dX12_slips_5 : decode cX12_slips 5 = .ok (.ifCond .eq 12, 3) := by decide +kernel
theorem dX12_slips_8 : decode cX12_slips 8 = .ok (.iload_n 2, 1) := by decide +kernel
theorem dX12_slips_9 : decode cX12_slips 9 = .ok (.ifCond .lt 8, 3) := by decide +kernel
theorem dX12_slips_12 : decode cX12_slips 12 = .ok (.iload_n 2, 1) := by decide +kernel
theorem dX12_slips_13 : decode cX12_slips 13 = .ok (.iconst 3, 1) := by decide +kernel
theorem dX12_slips_14 : decode cX12_slips 14 = .ok (.if_icmp .le 9, 3) := by decide +kernel
theorem dX12_slips_17 : decode cX12_slips 17 = .ok (.aload_n 0, 1) := by decide +kernel
theorem dX12_slips_18 : decode cX12_slips 18 = .ok (.iconst 1, 1) := by decide +kernel
theorem dX12_slips_19 : decode cX12_slips 19 = .ok (.invokevirtual 312, 3) := by decide +kernel
theorem dX12_slips_22 : decode cX12_slips 22 = .ok (.ireturn, 1) := by decide +kernel
theorem dX12_slips_23 : decode cX12_slips 23 = .ok (.iload_n 2, 1) := by decide +kernel
theorem dX12_slips_24 : decode cX12_slips 24 = .ok (.iconst 3, 1) := by decide +kernel
theorem dX12_slips_25 : decode cX12_slips 25 = .ok (.if_icmp .ne 21, 3) := by decide +kernel
theorem dX12_slips_28 : decode cX12_slips 28 = .ok (.aload_n 0, 1) := by decide +kernel
theorem dX12_slips_29 : decode cX12_slips 29 = .ok (.aload_n 0, 1) := by decide +kernel
theorem dX12_slips_30 : decode cX12_slips 30 = .ok (.iload_n 1, 1) := by decide +kernel
theorem dX12_slips_31 : decode cX12_slips 31 = .ok (.invokevirtual 561, 3) := by decide +kernel
theorem dX12_slips_34 : decode cX12_slips 34 = .ok (.ifCond .eq 7, 3) := by decide +kernel
theorem dX12_slips_37 : decode cX12_slips 37 = .ok (.iconst 1, 1) := by decide +kernel
theorem dX12_slips_38 : decode cX12_slips 38 = .ok (.goto 4, 3) := by decide +kernel
theorem dX12_slips_41 : decode cX12_slips 41 = .ok (.iconst 0, 1) := by decide +kernel
theorem dX12_slips_42 : decode cX12_slips 42 = .ok (.invokevirtual 316, 3) := by decide +kernel
theorem dX12_slips_45 : decode cX12_slips 45 = .ok (.ireturn, 1) := by decide +kernel
theorem dX12_slips_46 : decode cX12_slips 46 = .ok (.aload_n 0, 1) := by decide +kernel
theorem dX12_slips_47 : decode cX12_slips 47 = .ok (.iload_n 1, 1) := by decide +kernel
theorem dX12_slips_48 : decode cX12_slips 48 = .ok (.invokevirtual 564, 3) := by decide +kernel
theorem dX12_slips_51 : decode cX12_slips 51 = .ok (.iconst 0, 1) := by decide +kernel
theorem dX12_slips_52 : decode cX12_slips 52 = .ok (.istore_n 3, 1) := by decide +kernel
theorem dX12_slips_53 : decode cX12_slips 53 = .ok (.iconst 0, 1) := by decide +kernel
theorem dX12_slips_54 : decode cX12_slips 54 = .ok (.istore 4, 2) := by decide +kernel
theorem dX12_slips_56 : decode cX12_slips 56 = .ok (.iload 4, 2) := by decide +kernel
theorem dX12_slips_58 : decode cX12_slips 58 = .ok (.aload_n 0, 1) := by decide +kernel
theorem dX12_slips_59 : decode cX12_slips 59 = .ok (.getfield 549, 3) := by decide +kernel
theorem dX12_slips_62 : decode cX12_slips 62 = .ok (.if_icmp .ge 28, 3) := by decide +kernel
theorem dX12_slips_65 : decode cX12_slips 65 = .ok (.iload_n 3, 1) := by decide +kernel
theorem dX12_slips_66 : decode cX12_slips 66 = .ok (.aload_n 0, 1) := by decide +kernel
theorem dX12_slips_67 : decode cX12_slips 67 = .ok (.getfield 244, 3) := by decide +kernel
theorem dX12_slips_70 : decode cX12_slips 70 = .ok (.iload 4, 2) := by decide +kernel
theorem dX12_slips_72 : decode cX12_slips 72 = .ok (.iaload, 1) := by decide +kernel
theorem dX12_slips_73 : decode cX12_slips 73 = .ok (.iconst (-1), 1) := by decide +kernel
theorem dX12_slips_74 : decode cX12_slips 74 = .ok (.if_icmp .ne 7, 3) := by decide +kernel
theorem dX12_slips_77 : decode cX12_slips 77 = .ok (.iconst 0, 1) := by decide +kernel
theorem dX12_slips_78 : decode cX12_slips 78 = .ok (.goto 4, 3) := by decide +kernel
theorem dX12_slips_81 : decode cX12_slips 81 = .ok (.iconst 1, 1) := by decide +kernel
theorem dX12_slips_82 : decode cX12_slips 82 = .ok (.iadd, 1) := by decide +kernel
theorem dX12_slips_83 : decode cX12_slips 83 = .ok (.istore_n 3, 1) := by decide +kernel
theorem dX12_slips_84 : decode cX12_slips 84 = .ok (.iinc 4 1, 3) := by decide +kernel
theorem dX12_slips_87 : decode cX12_slips 87 = .ok (.goto (-31), 3) := by decide +kernel
theorem dX12_slips_90 : decode cX12_slips 90 = .ok (.aload_n 0, 1) := by decide +kernel
theorem dX12_slips_91 : decode cX12_slips 91 = .ok (.iload_n 2, 1) := by decide +kernel
theorem dX12_slips_92 : decode cX12_slips 92 = .ok (.ifCond .ne 10, 3) := by decide +kernel
theorem dX12_slips_95 : decode cX12_slips 95 = .ok (.aload_n 0, 1) := by decide +kernel
theorem dX12_slips_96 : decode cX12_slips 96 = .ok (.getfield 549, 3) := by decide +kernel
theorem dX12_slips_99 : decode cX12_slips 99 = .ok (.goto 18, 3) := by decide +kernel
theorem dX12_slips_102 : decode cX12_slips 102 = .ok (.iload_n 2, 1) := by decide +kernel
theorem dX12_slips_103 : decode cX12_slips 103 = .ok (.iconst 1, 1) := by decide +kernel
theorem dX12_slips_104 : decode cX12_slips 104 = .ok (.if_icmp .ne 7, 3) := by decide +kernel
theorem dX12_slips_107 : decode cX12_slips 107 = .ok (.iload_n 3, 1) := by decide +kernel
theorem dX12_slips_108 : decode cX12_slips 108 = .ok (.goto 9, 3) := by decide +kernel
theorem dX12_slips_111 : decode cX12_slips 111 = .ok (.aload_n 0, 1) := by decide +kernel
theorem dX12_slips_112 : decode cX12_slips 112 = .ok (.getfield 549, 3) := by decide +kernel
theorem dX12_slips_115 : decode cX12_slips 115 = .ok (.iload_n 3, 1) := by decide +kernel
theorem dX12_slips_116 : decode cX12_slips 116 = .ok (.isub, 1) := by decide +kernel
theorem dX12_slips_117 : decode cX12_slips 117 = .ok (.invokevirtual 316, 3) := by decide +kernel
theorem dX12_slips_120 : decode cX12_slips 120 = .ok (.ireturn, 1) := by decide +kernel
noncomputable def X12_slips_j17 (w : Wd) : Option (Int32 × Wd) :=
(X12_refuse (1 : Int32) w).bind fun q1 =>
some (q1.1, q1.2)
set_option maxRecDepth 20000 in
set_option maxHeartbeats 1000000 in
theorem t_X12_slips_j17 {κ : Kx} (w : Wd) (h : ok (X12_slips_j17  w) (PIw κ)) : J κ RX12 cX12_slips 5 (some .int) (rmk 7 182) 17 [(0, .ref (ad (gm κ) 97))] [] w := by
  unfold X12_slips_j17 at h
  refine j_aload_n 0 dX12_slips_17 rfl rfl ?_
  refine j_iconst (1 : Int32) dX12_slips_18 ki_1 ?_
  obtain ⟨q1, e2, h⟩ := ok_b h
  refine j_callV (As := [.int (1 : Int32)]) (st := []) [.int q1.1] (c_X12_refuse (kl κ) (gm κ) (kA κ) (1 : Int32) w q1 e2) ck_RX12_312 im_X12_refuse se_X12_refuse sh_97 cx_12 ⟨rfl, rfl⟩ ⟨by decide, by decide⟩ rfl rfl (Nat.le_of_ble_eq_true rfl) dX12_slips_19 _ rfl ?_
  have h := ok_s h
  exact j_iret dX12_slips_22 rfl rfl h
noncomputable def X12_slips_j82 (a2 : Int32) (a4 : Int32) (s0 : Int32) (s1 : Int32) (w : Wd) : Option ((Int32 × Int32) ⊕ Int32) :=
some (.inl ((s1 + s0), (a4 + (1 : Int32))))
set_option maxRecDepth 20000 in
set_option maxHeartbeats 1000000 in
theorem t_X12_slips_j82 {κ : Kx} (a2 : Int32) (a4 : Int32) (s0 : Int32) (s1 : Int32) (w : Wd) {G : (Int32 × Int32) → Prop} {P : Int32 → Prop} (KG : ∀ s, G s → J κ RX12 cX12_slips 5 (some .int) (rmk 7 182) 56 [(0, .ref (ad (gm κ) 97)), (2, .int a2), (3, .int s.1), (4, .int s.2)] [] w) (K0 : ∀ e, P e → J κ RX12 cX12_slips 5 (some .int) (rmk 7 182) 90 [(0, .ref (ad (gm κ) 97)), (2, .int a2), (3, .int e)] [] w) (h : ok (X12_slips_j82  a2 a4 s0 s1 w) (sel G P)) : J κ RX12 cX12_slips 5 (some .int) (rmk 7 182) 82 [(0, .ref (ad (gm κ) 97)), (2, .int a2), (4, .int a4)] [.int s0, .int s1] w := by
  unfold X12_slips_j82 at h
  refine j_iadd dX12_slips_82 ?_
  refine j_istore_n [(3, .int (s1 + s0)), (0, .ref (ad (gm κ) 97)), (2, .int a2), (4, .int a4)] dX12_slips_83 rfl (by decide) rfl ?_
  refine j_iinc (a4 + (1 : Int32)) 3 [(4, .int (a4 + (1 : Int32))), (3, .int (s1 + s0)), (0, .ref (ad (gm κ) 97)), (2, .int a2)] dX12_slips_84 rfl (by rw [kn_1]) (by decide) rfl ?_
  refine j_goto 56 dX12_slips_87 (by decide) ?_
  refine j_loc [(0, .ref (ad (gm κ) 97)), (2, .int a2), (3, .int (s1 + s0)), (4, .int (a4 + (1 : Int32)))] [2, 3, 1, 0] rfl ?_
  have h := sel_l h
  have h := KG _ h
  exact h
noncomputable def X12_slips_b56 (a2 : Int32) (w : Wd) (s : (Int32 × Int32)) : Option ((Int32 × Int32) ⊕ Int32) :=
(if (w.1 97 98) ≤ s.2 then
some (.inr s.1)
else
gd (vp_in s.2 16) <|
(if (w.1 167 (ix s.2)) = (-1 : Int32) then
X12_slips_j82 a2 s.2 (0 : Int32) s.1 w
else
X12_slips_j82 a2 s.2 (1 : Int32) s.1 w))
set_option maxRecDepth 20000 in
set_option maxHeartbeats 1000000 in
theorem t_X12_slips_b56 {κ : Kx} (a2 : Int32) (w : Wd) {P : Int32 → Prop} (K0 : ∀ e, P e → J κ RX12 cX12_slips 5 (some .int) (rmk 7 182) 90 [(0, .ref (ad (gm κ) 97)), (2, .int a2), (3, .int e)] [] w) (s : (Int32 × Int32)) (h : ok (lp (X12_slips_b56  a2 w) s) P) : J κ RX12 cX12_slips 5 (some .int) (rmk 7 182) 56 [(0, .ref (ad (gm κ) 97)), (2, .int a2), (3, .int s.1), (4, .int s.2)] [] w := by
  refine lp_ind (fun s => J κ RX12 cX12_slips 5 (some .int) (rmk 7 182) 56 [(0, .ref (ad (gm κ) 97)), (2, .int a2), (3, .int s.1), (4, .int s.2)] [] w) (fun s h => ?_) s h
  unfold X12_slips_b56 at h
  refine j_iload 3 dX12_slips_56 rfl ?_
  refine j_aload_n 0 dX12_slips_58 rfl rfl ?_
  refine j_getI fl_RX12_549 sh_97 fk_97_98 dX12_slips_59 ?_
  refine j_ic_ge 90 dX12_slips_62 (by decide) h (fun h => ?_) (fun h => ?_)
  · refine j_loc [(0, .ref (ad (gm κ) 97)), (2, .int a2), (3, .int s.1)] [0, 1, 2] rfl ?_
    have h := sel_r h
    have h := K0 _ h
    exact h
  · refine j_iload_n 2 dX12_slips_65 rfl rfl ?_
    refine j_aload_n 0 dX12_slips_66 rfl rfl ?_
    refine j_getA 167 fl_RX12_244 sh_97 fk_97_93 (by decide) dX12_slips_67 ?_
    refine j_iload 3 dX12_slips_70 rfl ?_
    refine j_iald sh_167 dX12_slips_72 h (fun h => ?_)
    refine j_iconst (-1 : Int32) dX12_slips_73 ki_m1 ?_
    refine j_ic_ne 81 dX12_slips_74 (by decide) h (fun h => ?_) (fun h => ?_)
    · refine j_iconst (1 : Int32) dX12_slips_81 ki_1 ?_
      refine j_loc [(0, .ref (ad (gm κ) 97)), (2, .int a2), (4, .int s.2)] [0, 1, 3] rfl ?_
      exact t_X12_slips_j82 a2 s.2 (1 : Int32) s.1 w (fun _ h => h) K0 h
    · refine j_iconst (0 : Int32) dX12_slips_77 ki_0 ?_
      refine j_goto 82 dX12_slips_78 (by decide) ?_
      refine j_loc [(0, .ref (ad (gm κ) 97)), (2, .int a2), (4, .int s.2)] [0, 1, 3] rfl ?_
      exact t_X12_slips_j82 a2 s.2 (0 : Int32) s.1 w (fun _ h => h) K0 h
noncomputable def X12_slips_j117 (s0 : Int32) (w : Wd) : Option (Int32 × Wd) :=
(X12_gives s0 w).bind fun q6 =>
some (q6.1, q6.2)
set_option maxRecDepth 20000 in
set_option maxHeartbeats 1000000 in
theorem t_X12_slips_j117 {κ : Kx} (s0 : Int32) (w : Wd) (h : ok (X12_slips_j117  s0 w) (PIw κ)) : J κ RX12 cX12_slips 5 (some .int) (rmk 7 182) 117 [] [.int s0, .ref (ad (gm κ) 97)] w := by
  unfold X12_slips_j117 at h
  obtain ⟨q6, e7, h⟩ := ok_b h
  refine j_callV (As := [.int s0]) (st := []) [.int q6.1] (c_X12_gives (kl κ) (gm κ) (kA κ) s0 w q6 e7) ck_RX12_316 im_X12_gives se_X12_gives sh_97 cx_12 ⟨rfl, rfl⟩ ⟨by decide, by decide⟩ rfl rfl (Nat.le_of_ble_eq_true rfl) dX12_slips_117 _ rfl ?_
  have h := ok_s h
  exact j_iret dX12_slips_120 rfl rfl h
noncomputable def X12_slips_j42 (s0 : Int32) (w : Wd) : Option (Int32 × Wd) :=
(X12_gives s0 w).bind fun q10 =>
some (q10.1, q10.2)
set_option maxRecDepth 20000 in
set_option maxHeartbeats 1000000 in
theorem t_X12_slips_j42 {κ : Kx} (s0 : Int32) (w : Wd) (h : ok (X12_slips_j42  s0 w) (PIw κ)) : J κ RX12 cX12_slips 5 (some .int) (rmk 7 182) 42 [] [.int s0, .ref (ad (gm κ) 97)] w := by
  unfold X12_slips_j42 at h
  obtain ⟨q10, e11, h⟩ := ok_b h
  refine j_callV (As := [.int s0]) (st := []) [.int q10.1] (c_X12_gives (kl κ) (gm κ) (kA κ) s0 w q10 e11) ck_RX12_316 im_X12_gives se_X12_gives sh_97 cx_12 ⟨rfl, rfl⟩ ⟨by decide, by decide⟩ rfl rfl (Nat.le_of_ble_eq_true rfl) dX12_slips_42 _ rfl ?_
  have h := ok_s h
  exact j_iret dX12_slips_45 rfl rfl h
noncomputable def X12_slips (a1 : Int32) (a2 : Int32) (w : Wd) : Option (Int32 × Wd) :=
(if (X12_isProof a1 w) = 0 then
X12_slips_j17 w
else
(if a2 < 0 then
X12_slips_j17 w
else
(if a2 ≤ (3 : Int32) then
(if a2 = (3 : Int32) then
(X12_isPassed a1 w).bind fun q8 =>
(if q8.1 = 0 then
X12_slips_j42 (0 : Int32) q8.2
else
X12_slips_j42 (1 : Int32) q8.2)
else
(X12_owe a1 w).bind fun q3 =>
(lp (X12_slips_b56 a2 q3) ((0 : Int32), (0 : Int32))).bind fun e5 =>
(if a2 = 0 then
X12_slips_j117 (q3.1 97 98) q3
else
(if a2 = (1 : Int32) then
X12_slips_j117 e5 q3
else
X12_slips_j117 ((q3.1 97 98) - e5) q3)))
else
X12_slips_j17 w)))
set_option maxRecDepth 20000 in
set_option maxHeartbeats 1000000 in
theorem t_X12_slips {κ : Kx} (a1 : Int32) (a2 : Int32) (w : Wd) (h : ok (X12_slips  a1 a2 w) (PIw κ)) : J κ RX12 cX12_slips 5 (some .int) (rmk 7 182) 0 [(0, .ref (ad (gm κ) 97)), (1, .int a1), (2, .int a2)] [] w := by
  unfold X12_slips at h
  refine j_aload_n 0 dX12_slips_0 rfl rfl ?_
  refine j_iload_n 1 dX12_slips_1 rfl rfl ?_
  refine j_callV (As := [.int a1]) (st := []) [.int (X12_isProof a1 w)] (c_X12_isProof (kl κ) (gm κ) (kA κ) a1 w) ck_RX12_558 im_X12_isProof se_X12_isProof sh_97 cx_12 ⟨rfl, rfl⟩ ⟨by decide, by decide⟩ rfl rfl (Nat.le_of_ble_eq_true rfl) dX12_slips_2 _ rfl ?_
  refine j_if_eq 17 dX12_slips_5 (by decide) h (fun h => ?_) (fun h => ?_)
  · refine j_loc [(0, .ref (ad (gm κ) 97))] [0] rfl ?_
    exact t_X12_slips_j17 w h
  · refine j_iload_n 2 dX12_slips_8 rfl rfl ?_
    refine j_if_lt 17 dX12_slips_9 (by decide) h (fun h => ?_) (fun h => ?_)
    · refine j_loc [(0, .ref (ad (gm κ) 97))] [0] rfl ?_
      exact t_X12_slips_j17 w h
    · refine j_iload_n 2 dX12_slips_12 rfl rfl ?_
      refine j_iconst (3 : Int32) dX12_slips_13 ki_3 ?_
      refine j_ic_le 23 dX12_slips_14 (by decide) h (fun h => ?_) (fun h => ?_)
      · refine j_iload_n 2 dX12_slips_23 rfl rfl ?_
        refine j_iconst (3 : Int32) dX12_slips_24 ki_3 ?_
        refine j_ic_ne 46 dX12_slips_25 (by decide) h (fun h => ?_) (fun h => ?_)
        · refine j_aload_n 0 dX12_slips_46 rfl rfl ?_
          refine j_iload_n 1 dX12_slips_47 rfl rfl ?_
          obtain ⟨q3, e4, h⟩ := ok_b h
          refine j_callV (As := [.int a1]) (st := []) [] (c_X12_owe (kl κ) (gm κ) (kA κ) a1 w q3 e4) ck_RX12_564 im_X12_owe se_X12_owe sh_97 cx_12 ⟨rfl, rfl⟩ ⟨by decide, by decide⟩ rfl rfl (Nat.le_of_ble_eq_true rfl) dX12_slips_48 _ rfl ?_
          refine j_iconst (0 : Int32) dX12_slips_51 ki_0 ?_
          refine j_istore_n [(3, .int (0 : Int32)), (0, .ref (ad (gm κ) 97)), (1, .int a1), (2, .int a2)] dX12_slips_52 rfl (by decide) rfl ?_
          refine j_iconst (0 : Int32) dX12_slips_53 ki_0 ?_
          refine j_istore [(4, .int (0 : Int32)), (3, .int (0 : Int32)), (0, .ref (ad (gm κ) 97)), (1, .int a1), (2, .int a2)] dX12_slips_54 (by decide) rfl ?_
          refine j_loc [(0, .ref (ad (gm κ) 97)), (2, .int a2), (3, .int (0 : Int32)), (4, .int (0 : Int32))] [2, 4, 1, 0] rfl ?_
          refine t_X12_slips_b56 a2 q3 (fun e5 h => ?_) ((0 : Int32), (0 : Int32)) (ok_bb h)
          · refine j_aload_n 0 dX12_slips_90 rfl rfl ?_
            refine j_iload_n 1 dX12_slips_91 rfl rfl ?_
            refine j_if_ne 102 dX12_slips_92 (by decide) h (fun h => ?_) (fun h => ?_)
            · refine j_iload_n 1 dX12_slips_102 rfl rfl ?_
              refine j_iconst (1 : Int32) dX12_slips_103 ki_1 ?_
              refine j_ic_ne 111 dX12_slips_104 (by decide) h (fun h => ?_) (fun h => ?_)
              · refine j_aload_n 0 dX12_slips_111 rfl rfl ?_
                refine j_getI fl_RX12_549 sh_97 fk_97_98 dX12_slips_112 ?_
                refine j_iload_n 2 dX12_slips_115 rfl rfl ?_
                refine j_isub dX12_slips_116 ?_
                refine j_loc [] [] rfl ?_
                exact t_X12_slips_j117 ((q3.1 97 98) - e5) q3 h
              · refine j_iload_n 2 dX12_slips_107 rfl rfl ?_
                refine j_goto 117 dX12_slips_108 (by decide) ?_
                refine j_loc [] [] rfl ?_
                exact t_X12_slips_j117 e5 q3 h
            · refine j_aload_n 0 dX12_slips_95 rfl rfl ?_
              refine j_getI fl_RX12_549 sh_97 fk_97_98 dX12_slips_96 ?_
              refine j_goto 117 dX12_slips_99 (by decide) ?_
              refine j_loc [] [] rfl ?_
              exact t_X12_slips_j117 (q3.1 97 98) q3 h
        · refine j_aload_n 0 dX12_slips_28 rfl rfl ?_
          refine j_aload_n 0 dX12_slips_29 rfl rfl ?_
          refine j_iload_n 1 dX12_slips_30 rfl rfl ?_
          obtain ⟨q8, e9, h⟩ := ok_b h
          refine j_callV (As := [.int a1]) (st := [.ref (ad (gm κ) 97)]) [.int q8.1, .ref (ad (gm κ) 97)] (c_X12_isPassed (kl κ) (gm κ) (kA κ) a1 w q8 e9) ck_RX12_561 im_X12_isPassed se_X12_isPassed sh_97 cx_12 ⟨rfl, rfl⟩ ⟨by decide, by decide⟩ rfl rfl (Nat.le_of_ble_eq_true rfl) dX12_slips_31 _ rfl ?_
          refine j_if_eq 41 dX12_slips_34 (by decide) h (fun h => ?_) (fun h => ?_)
          · refine j_iconst (0 : Int32) dX12_slips_41 ki_0 ?_
            refine j_loc [] [] rfl ?_
            exact t_X12_slips_j42 (0 : Int32) q8.2 h
          · refine j_iconst (1 : Int32) dX12_slips_37 ki_1 ?_
            refine j_goto 42 dX12_slips_38 (by decide) ?_
            refine j_loc [] [] rfl ?_
            exact t_X12_slips_j42 (1 : Int32) q8.2 h
      · refine j_loc [(0, .ref (ad (gm κ) 97))] [0] rfl ?_
        exact t_X12_slips_j17 w h
theorem c_X12_slips (l : Launch) (γ : Gm) (A : Nat → Prop) (a1 : Int32) (a2 : Int32) (w : Wd) (q : Int32 × Wd) (e : X12_slips  a1 a2 w = some q) : MetG l γ A yX12_slips cX12_slips 5 (some .int) (rmk 7 182) [.ref (ad (γ) 97), .int a1, .int a2] w (some (.int q.1)) q.2 := by
  refine met_of pn_RX12 (Nat.le_of_ble_eq_true rfl) ?_
  intro κ hl hγ hA hρ
  subst hl; subst hγ; subst hA
  exact t_X12_slips   a1 a2 w ⟨q, e, pIw hρ rfl rfl⟩
theorem dX12_owed_0 : decode cX12_owed 0 = .ok (.aload_n 0, 1) := by decide +kernel
theorem dX12_owed_1 : decode cX12_owed 1 = .ok (.iload_n 1, 1) := by decide +kernel
theorem dX12_owed_2 : decode cX12_owed 2 = .ok (.invokevirtual 558, 3) := by decide +kernel
theorem dX12_owed_5 : decode cX12_owed 5 = .ok (.ifCond .eq 13, 3) := by decide +kernel
theorem dX12_owed_8 : decode cX12_owed 8 = .ok (.iload_n 2, 1) := by decide +kernel
theorem dX12_owed_9 : decode cX12_owed 9 = .ok (.ifCond .lt 9, 3) := by decide +kernel
theorem dX12_owed_12 : decode cX12_owed 12 = .ok (.iload_n 2, 1) := by decide +kernel
theorem dX12_owed_13 : decode cX12_owed 13 = .ok (.bipush 15, 2) := by decide +kernel
theorem dX12_owed_15 : decode cX12_owed 15 = .ok (.if_icmp .lt 9, 3) := by decide +kernel
theorem dX12_owed_18 : decode cX12_owed 18 = .ok (.aload_n 0, 1) := by decide +kernel
theorem dX12_owed_19 : decode cX12_owed 19 = .ok (.iconst 1, 1) := by decide +kernel
theorem dX12_owed_20 : decode cX12_owed 20 = .ok (.invokevirtual 312, 3) := by decide +kernel
theorem dX12_owed_23 : decode cX12_owed 23 = .ok (.ireturn, 1) := by decide +kernel
theorem dX12_owed_24 : decode cX12_owed 24 = .ok (.aload_n 0, 1) := by decide +kernel
theorem dX12_owed_25 : decode cX12_owed 25 = .ok (.iload_n 1, 1) := by decide +kernel
theorem dX12_owed_26 : decode cX12_owed 26 = .ok (.invokevirtual 564, 3) := by decide +kernel
theorem dX12_owed_29 : decode cX12_owed 29 = .ok (.iconst 0, 1) := by decide +kernel
theorem dX12_owed_30 : decode cX12_owed 30 = .ok (.istore_n 3, 1) := by decide +kernel
theorem dX12_owed_31 : decode cX12_owed 31 = .ok (.iconst 0, 1) := by decide +kernel
theorem dX12_owed_32 : decode cX12_owed 32 = .ok (.istore 4, 2) := by decide +kernel
theorem dX12_owed_34 : decode cX12_owed 34 = .ok (.iload 4, 2) := by decide +kernel
theorem dX12_owed_36 : decode cX12_owed 36 = .ok (.aload_n 0, 1) := by decide +kernel
theorem dX12_owed_37 : decode cX12_owed 37 = .ok (.getfield 549, 3) := by decide +kernel
theorem dX12_owed_40 : decode cX12_owed 40 = .ok (.if_icmp .ge 28, 3) := by decide +kernel
theorem dX12_owed_43 : decode cX12_owed 43 = .ok (.iload_n 3, 1) := by decide +kernel
theorem dX12_owed_44 : decode cX12_owed 44 = .ok (.aload_n 0, 1) := by decide +kernel
theorem dX12_owed_45 : decode cX12_owed 45 = .ok (.getfield 244, 3) := by decide +kernel
theorem dX12_owed_48 : decode cX12_owed 48 = .ok (.iload 4, 2) := by decide +kernel
theorem dX12_owed_50 : decode cX12_owed 50 = .ok (.iaload, 1) := by decide +kernel
theorem dX12_owed_51 : decode cX12_owed 51 = .ok (.iload_n 2, 1) := by decide +kernel
theorem dX12_owed_52 : decode cX12_owed 52 = .ok (.if_icmp .ne 7, 3) := by decide +kernel
theorem dX12_owed_55 : decode cX12_owed 55 = .ok (.iconst 1, 1) := by decide +kernel
theorem dX12_owed_56 : decode cX12_owed 56 = .ok (.goto 4, 3) := by decide +kernel
theorem dX12_owed_59 : decode cX12_owed 59 = .ok (.iconst 0, 1) := by decide +kernel
theorem dX12_owed_60 : decode cX12_owed 60 = .ok (.iadd, 1) := by decide +kernel
theorem dX12_owed_61 : decode cX12_owed 61 = .ok (.istore_n 3, 1) := by decide +kernel
theorem dX12_owed_62 : decode cX12_owed 62 = .ok (.iinc 4 1, 3) := by decide +kernel
theorem dX12_owed_65 : decode cX12_owed 65 = .ok (.goto (-31), 3) := by decide +kernel
theorem dX12_owed_68 : decode cX12_owed 68 = .ok (.aload_n 0, 1) := by decide +kernel
theorem dX12_owed_69 : decode cX12_owed 69 = .ok (.iload_n 3, 1) := by decide +kernel
theorem dX12_owed_70 : decode cX12_owed 70 = .ok (.invokevirtual 316, 3) := by decide +kernel
theorem dX12_owed_73 : decode cX12_owed 73 = .ok (.ireturn, 1) := by decide +kernel
noncomputable def X12_owed_j18 (w : Wd) : Option (Int32 × Wd) :=
(X12_refuse (1 : Int32) w).bind fun q1 =>
some (q1.1, q1.2)
set_option maxRecDepth 20000 in
set_option maxHeartbeats 1000000 in
theorem t_X12_owed_j18 {κ : Kx} (w : Wd) (h : ok (X12_owed_j18  w) (PIw κ)) : J κ RX12 cX12_owed 5 (some .int) (rmk 7 182) 18 [(0, .ref (ad (gm κ) 97))] [] w := by
  unfold X12_owed_j18 at h
  refine j_aload_n 0 dX12_owed_18 rfl rfl ?_
  refine j_iconst (1 : Int32) dX12_owed_19 ki_1 ?_
  obtain ⟨q1, e2, h⟩ := ok_b h
  refine j_callV (As := [.int (1 : Int32)]) (st := []) [.int q1.1] (c_X12_refuse (kl κ) (gm κ) (kA κ) (1 : Int32) w q1 e2) ck_RX12_312 im_X12_refuse se_X12_refuse sh_97 cx_12 ⟨rfl, rfl⟩ ⟨by decide, by decide⟩ rfl rfl (Nat.le_of_ble_eq_true rfl) dX12_owed_20 _ rfl ?_
  have h := ok_s h
  exact j_iret dX12_owed_23 rfl rfl h
noncomputable def X12_owed_j60 (a2 : Int32) (a4 : Int32) (s0 : Int32) (s1 : Int32) (w : Wd) : Option ((Int32 × Int32) ⊕ Int32) :=
some (.inl ((s1 + s0), (a4 + (1 : Int32))))
set_option maxRecDepth 20000 in
set_option maxHeartbeats 1000000 in
theorem t_X12_owed_j60 {κ : Kx} (a2 : Int32) (a4 : Int32) (s0 : Int32) (s1 : Int32) (w : Wd) {G : (Int32 × Int32) → Prop} {P : Int32 → Prop} (KG : ∀ s, G s → J κ RX12 cX12_owed 5 (some .int) (rmk 7 182) 34 [(0, .ref (ad (gm κ) 97)), (2, .int a2), (3, .int s.1), (4, .int s.2)] [] w) (K0 : ∀ e, P e → J κ RX12 cX12_owed 5 (some .int) (rmk 7 182) 68 [(0, .ref (ad (gm κ) 97)), (3, .int e)] [] w) (h : ok (X12_owed_j60  a2 a4 s0 s1 w) (sel G P)) : J κ RX12 cX12_owed 5 (some .int) (rmk 7 182) 60 [(0, .ref (ad (gm κ) 97)), (2, .int a2), (4, .int a4)] [.int s0, .int s1] w := by
  unfold X12_owed_j60 at h
  refine j_iadd dX12_owed_60 ?_
  refine j_istore_n [(3, .int (s1 + s0)), (0, .ref (ad (gm κ) 97)), (2, .int a2), (4, .int a4)] dX12_owed_61 rfl (by decide) rfl ?_
  refine j_iinc (a4 + (1 : Int32)) 3 [(4, .int (a4 + (1 : Int32))), (3, .int (s1 + s0)), (0, .ref (ad (gm κ) 97)), (2, .int a2)] dX12_owed_62 rfl (by rw [kn_1]) (by decide) rfl ?_
  refine j_goto 34 dX12_owed_65 (by decide) ?_
  refine j_loc [(0, .ref (ad (gm κ) 97)), (2, .int a2), (3, .int (s1 + s0)), (4, .int (a4 + (1 : Int32)))] [2, 3, 1, 0] rfl ?_
  have h := sel_l h
  have h := KG _ h
  exact h
noncomputable def X12_owed_b34 (a2 : Int32) (w : Wd) (s : (Int32 × Int32)) : Option ((Int32 × Int32) ⊕ Int32) :=
(if (w.1 97 98) ≤ s.2 then
some (.inr s.1)
else
gd (vp_in s.2 16) <|
(if (w.1 167 (ix s.2)) = a2 then
X12_owed_j60 a2 s.2 (1 : Int32) s.1 w
else
X12_owed_j60 a2 s.2 (0 : Int32) s.1 w))
set_option maxRecDepth 20000 in
set_option maxHeartbeats 1000000 in
theorem t_X12_owed_b34 {κ : Kx} (a2 : Int32) (w : Wd) {P : Int32 → Prop} (K0 : ∀ e, P e → J κ RX12 cX12_owed 5 (some .int) (rmk 7 182) 68 [(0, .ref (ad (gm κ) 97)), (3, .int e)] [] w) (s : (Int32 × Int32)) (h : ok (lp (X12_owed_b34  a2 w) s) P) : J κ RX12 cX12_owed 5 (some .int) (rmk 7 182) 34 [(0, .ref (ad (gm κ) 97)), (2, .int a2), (3, .int s.1), (4, .int s.2)] [] w := by
  refine lp_ind (fun s => J κ RX12 cX12_owed 5 (some .int) (rmk 7 182) 34 [(0, .ref (ad (gm κ) 97)), (2, .int a2), (3, .int s.1), (4, .int s.2)] [] w) (fun s h => ?_) s h
  unfold X12_owed_b34 at h
  refine j_iload 3 dX12_owed_34 rfl ?_
  refine j_aload_n 0 dX12_owed_36 rfl rfl ?_
  refine j_getI fl_RX12_549 sh_97 fk_97_98 dX12_owed_37 ?_
  refine j_ic_ge 68 dX12_owed_40 (by decide) h (fun h => ?_) (fun h => ?_)
  · refine j_loc [(0, .ref (ad (gm κ) 97)), (3, .int s.1)] [0, 2] rfl ?_
    have h := sel_r h
    have h := K0 _ h
    exact h
  · refine j_iload_n 2 dX12_owed_43 rfl rfl ?_
    refine j_aload_n 0 dX12_owed_44 rfl rfl ?_
    refine j_getA 167 fl_RX12_244 sh_97 fk_97_93 (by decide) dX12_owed_45 ?_
    refine j_iload 3 dX12_owed_48 rfl ?_
    refine j_iald sh_167 dX12_owed_50 h (fun h => ?_)
    refine j_iload_n 1 dX12_owed_51 rfl rfl ?_
    refine j_ic_ne 59 dX12_owed_52 (by decide) h (fun h => ?_) (fun h => ?_)
    · refine j_iconst (0 : Int32) dX12_owed_59 ki_0 ?_
      refine j_loc [(0, .ref (ad (gm κ) 97)), (2, .int a2), (4, .int s.2)] [0, 1, 3] rfl ?_
      exact t_X12_owed_j60 a2 s.2 (0 : Int32) s.1 w (fun _ h => h) K0 h
    · refine j_iconst (1 : Int32) dX12_owed_55 ki_1 ?_
      refine j_goto 60 dX12_owed_56 (by decide) ?_
      refine j_loc [(0, .ref (ad (gm κ) 97)), (2, .int a2), (4, .int s.2)] [0, 1, 3] rfl ?_
      exact t_X12_owed_j60 a2 s.2 (1 : Int32) s.1 w (fun _ h => h) K0 h
noncomputable def X12_owed (a1 : Int32) (a2 : Int32) (w : Wd) : Option (Int32 × Wd) :=
(if (X12_isProof a1 w) = 0 then
X12_owed_j18 w
else
(if a2 < 0 then
X12_owed_j18 w
else
(if a2 < (15 : Int32) then
(X12_owe a1 w).bind fun q3 =>
(lp (X12_owed_b34 a2 q3) ((0 : Int32), (0 : Int32))).bind fun e5 =>
(X12_gives e5 q3).bind fun q6 =>
some (q6.1, q6.2)
else
X12_owed_j18 w)))
set_option maxRecDepth 20000 in
set_option maxHeartbeats 1000000 in
theorem t_X12_owed {κ : Kx} (a1 : Int32) (a2 : Int32) (w : Wd) (h : ok (X12_owed  a1 a2 w) (PIw κ)) : J κ RX12 cX12_owed 5 (some .int) (rmk 7 182) 0 [(0, .ref (ad (gm κ) 97)), (1, .int a1), (2, .int a2)] [] w := by
  unfold X12_owed at h
  refine j_aload_n 0 dX12_owed_0 rfl rfl ?_
  refine j_iload_n 1 dX12_owed_1 rfl rfl ?_
  refine j_callV (As := [.int a1]) (st := []) [.int (X12_isProof a1 w)] (c_X12_isProof (kl κ) (gm κ) (kA κ) a1 w) ck_RX12_558 im_X12_isProof se_X12_isProof sh_97 cx_12 ⟨rfl, rfl⟩ ⟨by decide, by decide⟩ rfl rfl (Nat.le_of_ble_eq_true rfl) dX12_owed_2 _ rfl ?_
  refine j_if_eq 18 dX12_owed_5 (by decide) h (fun h => ?_) (fun h => ?_)
  · refine j_loc [(0, .ref (ad (gm κ) 97))] [0] rfl ?_
    exact t_X12_owed_j18 w h
  · refine j_iload_n 2 dX12_owed_8 rfl rfl ?_
    refine j_if_lt 18 dX12_owed_9 (by decide) h (fun h => ?_) (fun h => ?_)
    · refine j_loc [(0, .ref (ad (gm κ) 97))] [0] rfl ?_
      exact t_X12_owed_j18 w h
    · refine j_iload_n 2 dX12_owed_12 rfl rfl ?_
      refine j_bipush (15 : Int32) dX12_owed_13 kb_15 ?_
      refine j_ic_lt 24 dX12_owed_15 (by decide) h (fun h => ?_) (fun h => ?_)
      · refine j_aload_n 0 dX12_owed_24 rfl rfl ?_
        refine j_iload_n 1 dX12_owed_25 rfl rfl ?_
        obtain ⟨q3, e4, h⟩ := ok_b h
        refine j_callV (As := [.int a1]) (st := []) [] (c_X12_owe (kl κ) (gm κ) (kA κ) a1 w q3 e4) ck_RX12_564 im_X12_owe se_X12_owe sh_97 cx_12 ⟨rfl, rfl⟩ ⟨by decide, by decide⟩ rfl rfl (Nat.le_of_ble_eq_true rfl) dX12_owed_26 _ rfl ?_
        refine j_iconst (0 : Int32) dX12_owed_29 ki_0 ?_
        refine j_istore_n [(3, .int (0 : Int32)), (0, .ref (ad (gm κ) 97)), (1, .int a1), (2, .int a2)] dX12_owed_30 rfl (by decide) rfl ?_
        refine j_iconst (0 : Int32) dX12_owed_31 ki_0 ?_
        refine j_istore [(4, .int (0 : Int32)), (3, .int (0 : Int32)), (0, .ref (ad (gm κ) 97)), (1, .int a1), (2, .int a2)] dX12_owed_32 (by decide) rfl ?_
        refine j_loc [(0, .ref (ad (gm κ) 97)), (2, .int a2), (3, .int (0 : Int32)), (4, .int (0 : Int32))] [2, 4, 1, 0] rfl ?_
        refine t_X12_owed_b34 a2 q3 (fun e5 h => ?_) ((0 : Int32), (0 : Int32)) (ok_bb h)
        · refine j_aload_n 0 dX12_owed_68 rfl rfl ?_
          refine j_iload_n 1 dX12_owed_69 rfl rfl ?_
          obtain ⟨q6, e7, h⟩ := ok_b h
          refine j_callV (As := [.int e5]) (st := []) [.int q6.1] (c_X12_gives (kl κ) (gm κ) (kA κ) e5 q3 q6 e7) ck_RX12_316 im_X12_gives se_X12_gives sh_97 cx_12 ⟨rfl, rfl⟩ ⟨by decide, by decide⟩ rfl rfl (Nat.le_of_ble_eq_true rfl) dX12_owed_70 _ rfl ?_
          have h := ok_s h
          exact j_iret dX12_owed_73 rfl rfl h
      · refine j_loc [(0, .ref (ad (gm κ) 97))] [0] rfl ?_
        exact t_X12_owed_j18 w h
theorem c_X12_owed (l : Launch) (γ : Gm) (A : Nat → Prop) (a1 : Int32) (a2 : Int32) (w : Wd) (q : Int32 × Wd) (e : X12_owed  a1 a2 w = some q) : MetG l γ A yX12_owed cX12_owed 5 (some .int) (rmk 7 182) [.ref (ad (γ) 97), .int a1, .int a2] w (some (.int q.1)) q.2 := by
  refine met_of pn_RX12 (Nat.le_of_ble_eq_true rfl) ?_
  intro κ hl hγ hA hρ
  subst hl; subst hγ; subst hA
  exact t_X12_owed   a1 a2 w ⟨q, e, pIw hρ rfl rfl⟩
theorem dX12_doesRead_0 : decode cX12_doesRead 0 = .ok (.iconst (-1), 1) := by decide +kernel
theorem dX12_doesRead_1 : decode cX12_doesRead 1 = .ok (.istore_n 3, 1) := by decide +kernel
theorem dX12_doesRead_2 : decode cX12_doesRead 2 = .ok (.iconst 0, 1) := by decide +kernel
theorem dX12_doesRead_3 : decode cX12_doesRead 3 = .ok (.istore 4, 2) := by decide +kernel
theorem dX12_doesRead_5 : decode cX12_doesRead 5 = .ok (.iload 4, 2) := by decide +kernel
theorem dX12_doesRead_7 : decode cX12_doesRead 7 = .ok (.aload_n 0, 1) := by decide +kernel
theorem dX12_doesRead_8 : decode cX12_doesRead 8 = .ok (.getfield 533, 3) := by decide +kernel
theorem dX12_doesRead_11 : decode cX12_doesRead 11 = .ok (.if_icmp .ge 55, 3) := by decide +kernel
theorem dX12_doesRead_14 : decode cX12_doesRead 14 = .ok (.aload_n 0, 1) := by decide +kernel
theorem dX12_doesRead_15 : decode cX12_doesRead 15 = .ok (.getfield 226, 3) := by decide +kernel
theorem dX12_doesRead_18 : decode cX12_doesRead 18 = .ok (.iload 4, 2) := by decide +kernel
theorem dX12_doesRead_20 : decode cX12_doesRead 20 = .ok (.iaload, 1) := by decide +kernel
theorem dX12_doesRead_21 : decode cX12_doesRead 21 = .ok (.iload_n 1, 1) := by decide +kernel
theorem dX12_doesRead_22 : decode cX12_doesRead 22 = .ok (.if_icmp .ne 38, 3) := by decide +kernel
theorem dX12_doesRead_25 : decode cX12_doesRead 25 = .ok (.aload_n 0, 1) := by decide +kernel
theorem dX12_doesRead_26 : decode cX12_doesRead 26 = .ok (.getfield 229, 3) := by decide +kernel
theorem dX12_doesRead_29 : decode cX12_doesRead 29 = .ok (.iload 4, 2) := by decide +kernel
theorem dX12_doesRead_31 : decode cX12_doesRead 31 = .ok (.iaload, 1) := by decide +kernel
theorem dX12_doesRead_32 : decode cX12_doesRead 32 = .ok (.iload_n 2, 1) := by decide +kernel
theorem dX12_doesRead_33 : decode cX12_doesRead 33 = .ok (.if_icmp .gt 27, 3) := by decide +kernel
theorem dX12_doesRead_36 : decode cX12_doesRead 36 = .ok (.iload_n 3, 1) := by decide +kernel
theorem dX12_doesRead_37 : decode cX12_doesRead 37 = .ok (.iconst (-1), 1) := by decide +kernel
theorem dX12_doesRead_38 : decode cX12_doesRead 38 = .ok (.if_icmp .eq 19, 3) := by decide +kernel
theorem dX12_doesRead_41 : decode cX12_doesRead 41 = .ok (.aload_n 0, 1) := by decide +kernel
theorem dX12_doesRead_42 : decode cX12_doesRead 42 = .ok (.getfield 229, 3) := by decide +kernel
theorem dX12_doesRead_45 : decode cX12_doesRead 45 = .ok (.iload 4, 2) := by decide +kernel
theorem dX12_doesRead_47 : decode cX12_doesRead 47 = .ok (.iaload, 1) := by decide +kernel
theorem dX12_doesRead_48 : decode cX12_doesRead 48 = .ok (.aload_n 0, 1) := by decide +kernel
theorem dX12_doesRead_49 : decode cX12_doesRead 49 = .ok (.getfield 229, 3) := by decide +kernel
theorem dX12_doesRead_52 : decode cX12_doesRead 52 = .ok (.iload_n 3, 1) := by decide +kernel
theorem dX12_doesRead_53 : decode cX12_doesRead 53 = .ok (.iaload, 1) := by decide +kernel
theorem dX12_doesRead_54 : decode cX12_doesRead 54 = .ok (.if_icmp .lt 6, 3) := by decide +kernel
theorem dX12_doesRead_57 : decode cX12_doesRead 57 = .ok (.iload 4, 2) := by decide +kernel
theorem dX12_doesRead_59 : decode cX12_doesRead 59 = .ok (.istore_n 3, 1) := by decide +kernel
theorem dX12_doesRead_60 : decode cX12_doesRead 60 = .ok (.iinc 4 1, 3) := by decide +kernel
theorem dX12_doesRead_63 : decode cX12_doesRead 63 = .ok (.goto (-58), 3) := by decide +kernel
theorem dX12_doesRead_66 : decode cX12_doesRead 66 = .ok (.iload_n 3, 1) := by decide +kernel
theorem dX12_doesRead_67 : decode cX12_doesRead 67 = .ok (.iconst (-1), 1) := by decide +kernel
theorem dX12_doesRead_68 : decode cX12_doesRead 68 = .ok (.if_icmp .eq 15, 3) := by decide +kernel
theorem dX12_doesRead_71 : decode cX12_doesRead 71 = .ok (.aload_n 0, 1) := by decide +kernel
theorem dX12_doesRead_72 : decode cX12_doesRead 72 = .ok (.iload_n 3, 1) := by decide +kernel
theorem dX12_doesRead_73 : decode cX12_doesRead 73 = .ok (.invokevirtual 561, 3) := by decide +kernel
theorem dX12_doesRead_76 : decode cX12_doesRead 76 = .ok (.ifCond .eq 7, 3) := by decide +kernel
theorem dX12_doesRead_79 : decode cX12_doesRead 79 = .ok (.iconst 1, 1) := by decide +kernel
theorem dX12_doesRead_80 : decode cX12_doesRead 80 = .ok (.goto 4, 3) := by decide +kernel
theorem dX12_doesRead_83 : decode cX12_doesRead 83 = .ok (.iconst 0, 1) := by decide +kernel
theorem dX12_doesRead_84 : decode cX12_doesRead 84 = .ok (.ireturn, 1) := by decide +kernel
noncomputable def X12_doesRead_j60 (a1 : Int32) (a2 : Int32) (a3 : Int32) (a4 : Int32) (w : Wd) : Option ((Int32 × Int32) ⊕ Int32) :=
some (.inl (a3, (a4 + (1 : Int32))))
set_option maxRecDepth 20000 in
set_option maxHeartbeats 1000000 in
theorem t_X12_doesRead_j60 {κ : Kx} (a1 : Int32) (a2 : Int32) (a3 : Int32) (a4 : Int32) (w : Wd) {G : (Int32 × Int32) → Prop} {P : Int32 → Prop} (KG : ∀ s, G s → J κ RX12 cX12_doesRead 5 (some .boolean) (rmk 3 70) 5 [(0, .ref (ad (gm κ) 97)), (1, .int a1), (2, .int a2), (3, .int s.1), (4, .int s.2)] [] w) (K0 : ∀ e, P e → J κ RX12 cX12_doesRead 5 (some .boolean) (rmk 3 70) 66 [(0, .ref (ad (gm κ) 97)), (3, .int e)] [] w) (h : ok (X12_doesRead_j60  a1 a2 a3 a4 w) (sel G P)) : J κ RX12 cX12_doesRead 5 (some .boolean) (rmk 3 70) 60 [(0, .ref (ad (gm κ) 97)), (1, .int a1), (2, .int a2), (3, .int a3), (4, .int a4)] [] w := by
  unfold X12_doesRead_j60 at h
  refine j_iinc (a4 + (1 : Int32)) 4 [(4, .int (a4 + (1 : Int32))), (0, .ref (ad (gm κ) 97)), (1, .int a1), (2, .int a2), (3, .int a3)] dX12_doesRead_60 rfl (by rw [kn_1]) (by decide) rfl ?_
  refine j_goto 5 dX12_doesRead_63 (by decide) ?_
  refine j_loc [(0, .ref (ad (gm κ) 97)), (1, .int a1), (2, .int a2), (3, .int a3), (4, .int (a4 + (1 : Int32)))] [1, 2, 3, 4, 0] rfl ?_
  have h := sel_l h
  have h := KG _ h
  exact h
noncomputable def X12_doesRead_j57 (a1 : Int32) (a2 : Int32) (a4 : Int32) (w : Wd) : Option ((Int32 × Int32) ⊕ Int32) :=
X12_doesRead_j60 a1 a2 a4 a4 w
set_option maxRecDepth 20000 in
set_option maxHeartbeats 1000000 in
theorem t_X12_doesRead_j57 {κ : Kx} (a1 : Int32) (a2 : Int32) (a4 : Int32) (w : Wd) {G : (Int32 × Int32) → Prop} {P : Int32 → Prop} (KG : ∀ s, G s → J κ RX12 cX12_doesRead 5 (some .boolean) (rmk 3 70) 5 [(0, .ref (ad (gm κ) 97)), (1, .int a1), (2, .int a2), (3, .int s.1), (4, .int s.2)] [] w) (K0 : ∀ e, P e → J κ RX12 cX12_doesRead 5 (some .boolean) (rmk 3 70) 66 [(0, .ref (ad (gm κ) 97)), (3, .int e)] [] w) (h : ok (X12_doesRead_j57  a1 a2 a4 w) (sel G P)) : J κ RX12 cX12_doesRead 5 (some .boolean) (rmk 3 70) 57 [(0, .ref (ad (gm κ) 97)), (1, .int a1), (2, .int a2), (4, .int a4)] [] w := by
  unfold X12_doesRead_j57 at h
  refine j_iload 3 dX12_doesRead_57 rfl ?_
  refine j_istore_n [(3, .int a4), (0, .ref (ad (gm κ) 97)), (1, .int a1), (2, .int a2), (4, .int a4)] dX12_doesRead_59 rfl (by decide) rfl ?_
  refine j_loc [(0, .ref (ad (gm κ) 97)), (1, .int a1), (2, .int a2), (3, .int a4), (4, .int a4)] [1, 2, 3, 0, 4] rfl ?_
  exact t_X12_doesRead_j60 a1 a2 a4 a4 w KG K0 h
noncomputable def X12_doesRead_b5 (a1 : Int32) (a2 : Int32) (w : Wd) (s : (Int32 × Int32)) : Option ((Int32 × Int32) ⊕ Int32) :=
(if (w.1 97 86) ≤ s.2 then
some (.inr s.1)
else
gd (vp_in s.2 60) <|
(if (w.1 161 (ix s.2)) = a1 then
gd (vp_in s.2 60) <|
(if a2 < (w.1 162 (ix s.2)) then
X12_doesRead_j60 a1 a2 s.1 s.2 w
else
(if s.1 = (-1 : Int32) then
X12_doesRead_j57 a1 a2 s.2 w
else
gd (vp_in s.2 60) <|
gd (vp_in s.1 60) <|
(if (w.1 162 (ix s.2)) < (w.1 162 (ix s.1)) then
X12_doesRead_j60 a1 a2 s.1 s.2 w
else
X12_doesRead_j57 a1 a2 s.2 w)))
else
X12_doesRead_j60 a1 a2 s.1 s.2 w))
set_option maxRecDepth 20000 in
set_option maxHeartbeats 1000000 in
theorem t_X12_doesRead_b5 {κ : Kx} (a1 : Int32) (a2 : Int32) (w : Wd) {P : Int32 → Prop} (K0 : ∀ e, P e → J κ RX12 cX12_doesRead 5 (some .boolean) (rmk 3 70) 66 [(0, .ref (ad (gm κ) 97)), (3, .int e)] [] w) (s : (Int32 × Int32)) (h : ok (lp (X12_doesRead_b5  a1 a2 w) s) P) : J κ RX12 cX12_doesRead 5 (some .boolean) (rmk 3 70) 5 [(0, .ref (ad (gm κ) 97)), (1, .int a1), (2, .int a2), (3, .int s.1), (4, .int s.2)] [] w := by
  refine lp_ind (fun s => J κ RX12 cX12_doesRead 5 (some .boolean) (rmk 3 70) 5 [(0, .ref (ad (gm κ) 97)), (1, .int a1), (2, .int a2), (3, .int s.1), (4, .int s.2)] [] w) (fun s h => ?_) s h
  unfold X12_doesRead_b5 at h
  refine j_iload 4 dX12_doesRead_5 rfl ?_
  refine j_aload_n 0 dX12_doesRead_7 rfl rfl ?_
  refine j_getI fl_RX12_533 sh_97 fk_97_86 dX12_doesRead_8 ?_
  refine j_ic_ge 66 dX12_doesRead_11 (by decide) h (fun h => ?_) (fun h => ?_)
  · refine j_loc [(0, .ref (ad (gm κ) 97)), (3, .int s.1)] [0, 3] rfl ?_
    have h := sel_r h
    have h := K0 _ h
    exact h
  · refine j_aload_n 0 dX12_doesRead_14 rfl rfl ?_
    refine j_getA 161 fl_RX12_226 sh_97 fk_97_87 (by decide) dX12_doesRead_15 ?_
    refine j_iload 4 dX12_doesRead_18 rfl ?_
    refine j_iald sh_161 dX12_doesRead_20 h (fun h => ?_)
    refine j_iload_n 1 dX12_doesRead_21 rfl rfl ?_
    refine j_ic_ne 60 dX12_doesRead_22 (by decide) h (fun h => ?_) (fun h => ?_)
    · refine j_loc [(0, .ref (ad (gm κ) 97)), (1, .int a1), (2, .int a2), (3, .int s.1), (4, .int s.2)] [0, 1, 2, 3, 4] rfl ?_
      exact t_X12_doesRead_j60 a1 a2 s.1 s.2 w (fun _ h => h) K0 h
    · refine j_aload_n 0 dX12_doesRead_25 rfl rfl ?_
      refine j_getA 162 fl_RX12_229 sh_97 fk_97_88 (by decide) dX12_doesRead_26 ?_
      refine j_iload 4 dX12_doesRead_29 rfl ?_
      refine j_iald sh_162 dX12_doesRead_31 h (fun h => ?_)
      refine j_iload_n 2 dX12_doesRead_32 rfl rfl ?_
      refine j_ic_gt 60 dX12_doesRead_33 (by decide) h (fun h => ?_) (fun h => ?_)
      · refine j_loc [(0, .ref (ad (gm κ) 97)), (1, .int a1), (2, .int a2), (3, .int s.1), (4, .int s.2)] [0, 1, 2, 3, 4] rfl ?_
        exact t_X12_doesRead_j60 a1 a2 s.1 s.2 w (fun _ h => h) K0 h
      · refine j_iload_n 3 dX12_doesRead_36 rfl rfl ?_
        refine j_iconst (-1 : Int32) dX12_doesRead_37 ki_m1 ?_
        refine j_ic_eq 57 dX12_doesRead_38 (by decide) h (fun h => ?_) (fun h => ?_)
        · refine j_loc [(0, .ref (ad (gm κ) 97)), (1, .int a1), (2, .int a2), (4, .int s.2)] [0, 1, 2, 4] rfl ?_
          exact t_X12_doesRead_j57 a1 a2 s.2 w (fun _ h => h) K0 h
        · refine j_aload_n 0 dX12_doesRead_41 rfl rfl ?_
          refine j_getA 162 fl_RX12_229 sh_97 fk_97_88 (by decide) dX12_doesRead_42 ?_
          refine j_iload 4 dX12_doesRead_45 rfl ?_
          refine j_iald sh_162 dX12_doesRead_47 h (fun h => ?_)
          refine j_aload_n 0 dX12_doesRead_48 rfl rfl ?_
          refine j_getA 162 fl_RX12_229 sh_97 fk_97_88 (by decide) dX12_doesRead_49 ?_
          refine j_iload_n 3 dX12_doesRead_52 rfl rfl ?_
          refine j_iald sh_162 dX12_doesRead_53 h (fun h => ?_)
          refine j_ic_lt 60 dX12_doesRead_54 (by decide) h (fun h => ?_) (fun h => ?_)
          · refine j_loc [(0, .ref (ad (gm κ) 97)), (1, .int a1), (2, .int a2), (3, .int s.1), (4, .int s.2)] [0, 1, 2, 3, 4] rfl ?_
            exact t_X12_doesRead_j60 a1 a2 s.1 s.2 w (fun _ h => h) K0 h
          · refine j_loc [(0, .ref (ad (gm κ) 97)), (1, .int a1), (2, .int a2), (4, .int s.2)] [0, 1, 2, 4] rfl ?_
            exact t_X12_doesRead_j57 a1 a2 s.2 w (fun _ h => h) K0 h
noncomputable def X12_doesRead (a1 : Int32) (a2 : Int32) (w : Wd) : Option (Int32 × Wd) :=
(lp (X12_doesRead_b5 a1 a2 w) ((-1 : Int32), (0 : Int32))).bind fun e1 =>
(if e1 = (-1 : Int32) then
some ((0 : Int32), w)
else
(X12_isPassed e1 w).bind fun q2 =>
(if q2.1 = 0 then
some ((0 : Int32), q2.2)
else
some ((1 : Int32), q2.2)))
set_option maxRecDepth 20000 in
set_option maxHeartbeats 1000000 in
theorem t_X12_doesRead {κ : Kx} (a1 : Int32) (a2 : Int32) (w : Wd) (h : ok (X12_doesRead  a1 a2 w) (PIw κ)) : J κ RX12 cX12_doesRead 5 (some .boolean) (rmk 3 70) 0 [(0, .ref (ad (gm κ) 97)), (1, .int a1), (2, .int a2)] [] w := by
  unfold X12_doesRead at h
  refine j_iconst (-1 : Int32) dX12_doesRead_0 ki_m1 ?_
  refine j_istore_n [(3, .int (-1 : Int32)), (0, .ref (ad (gm κ) 97)), (1, .int a1), (2, .int a2)] dX12_doesRead_1 rfl (by decide) rfl ?_
  refine j_iconst (0 : Int32) dX12_doesRead_2 ki_0 ?_
  refine j_istore [(4, .int (0 : Int32)), (3, .int (-1 : Int32)), (0, .ref (ad (gm κ) 97)), (1, .int a1), (2, .int a2)] dX12_doesRead_3 (by decide) rfl ?_
  refine j_loc [(0, .ref (ad (gm κ) 97)), (1, .int a1), (2, .int a2), (3, .int (-1 : Int32)), (4, .int (0 : Int32))] [2, 3, 4, 1, 0] rfl ?_
  refine t_X12_doesRead_b5 a1 a2 w (fun e1 h => ?_) ((-1 : Int32), (0 : Int32)) (ok_bb h)
  · refine j_iload_n 1 dX12_doesRead_66 rfl rfl ?_
    refine j_iconst (-1 : Int32) dX12_doesRead_67 ki_m1 ?_
    refine j_ic_eq 83 dX12_doesRead_68 (by decide) h (fun h => ?_) (fun h => ?_)
    · refine j_iconst (0 : Int32) dX12_doesRead_83 ki_0 ?_
      have h := ok_s h
      exact j_iret dX12_doesRead_84 rfl (by decide) h
    · refine j_aload_n 0 dX12_doesRead_71 rfl rfl ?_
      refine j_iload_n 1 dX12_doesRead_72 rfl rfl ?_
      obtain ⟨q2, e3, h⟩ := ok_b h
      refine j_callV (As := [.int e1]) (st := []) [.int q2.1] (c_X12_isPassed (kl κ) (gm κ) (kA κ) e1 w q2 e3) ck_RX12_561 im_X12_isPassed se_X12_isPassed sh_97 cx_12 ⟨rfl, rfl⟩ ⟨by decide, by decide⟩ rfl rfl (Nat.le_of_ble_eq_true rfl) dX12_doesRead_73 _ rfl ?_
      refine j_if_eq 83 dX12_doesRead_76 (by decide) h (fun h => ?_) (fun h => ?_)
      · refine j_iconst (0 : Int32) dX12_doesRead_83 ki_0 ?_
        have h := ok_s h
        exact j_iret dX12_doesRead_84 rfl (by decide) h
      · refine j_iconst (1 : Int32) dX12_doesRead_79 ki_1 ?_
        refine j_goto 84 dX12_doesRead_80 (by decide) ?_
        have h := ok_s h
        exact j_iret dX12_doesRead_84 rfl (by decide) h
theorem c_X12_doesRead (l : Launch) (γ : Gm) (A : Nat → Prop) (a1 : Int32) (a2 : Int32) (w : Wd) (q : Int32 × Wd) (e : X12_doesRead  a1 a2 w = some q) : MetG l γ A yX12_doesRead cX12_doesRead 5 (some .boolean) (rmk 3 70) [.ref (ad (γ) 97), .int a1, .int a2] w (some (.int q.1)) q.2 := by
  refine met_of pn_RX12 (Nat.le_of_ble_eq_true rfl) ?_
  intro κ hl hγ hA hρ
  subst hl; subst hγ; subst hA
  exact t_X12_doesRead   a1 a2 w ⟨q, e, pIw hρ rfl rfl⟩
theorem dX12_reads_0 : decode cX12_reads 0 = .ok (.aload_n 0, 1) := by decide +kernel
theorem dX12_reads_1 : decode cX12_reads 1 = .ok (.iload_n 1, 1) := by decide +kernel
theorem dX12_reads_2 : decode cX12_reads 2 = .ok (.invokevirtual 339, 3) := by decide +kernel
theorem dX12_reads_5 : decode cX12_reads 5 = .ok (.ifCond .eq 31, 3) := by decide +kernel
theorem dX12_reads_8 : decode cX12_reads 8 = .ok (.iload_n 2, 1) := by decide +kernel
theorem dX12_reads_9 : decode cX12_reads 9 = .ok (.invokestatic 322, 3) := by decide +kernel
theorem dX12_reads_12 : decode cX12_reads 12 = .ok (.ifCond .eq 24, 3) := by decide +kernel
theorem dX12_reads_15 : decode cX12_reads 15 = .ok (.aload_n 0, 1) := by decide +kernel
theorem dX12_reads_16 : decode cX12_reads 16 = .ok (.aload_n 0, 1) := by decide +kernel
theorem dX12_reads_17 : decode cX12_reads 17 = .ok (.iload_n 1, 1) := by decide +kernel
theorem dX12_reads_18 : decode cX12_reads 18 = .ok (.iload_n 2, 1) := by decide +kernel
theorem dX12_reads_19 : decode cX12_reads 19 = .ok (.invokevirtual 567, 3) := by decide +kernel
theorem dX12_reads_22 : decode cX12_reads 22 = .ok (.ifCond .eq 7, 3) := by decide +kernel
theorem dX12_reads_25 : decode cX12_reads 25 = .ok (.iconst 1, 1) := by decide +kernel
theorem dX12_reads_26 : decode cX12_reads 26 = .ok (.goto 4, 3) := by decide +kernel
theorem dX12_reads_29 : decode cX12_reads 29 = .ok (.iconst 0, 1) := by decide +kernel
theorem dX12_reads_30 : decode cX12_reads 30 = .ok (.invokevirtual 316, 3) := by decide +kernel
theorem dX12_reads_33 : decode cX12_reads 33 = .ok (.goto 8, 3) := by decide +kernel
theorem dX12_reads_36 : decode cX12_reads 36 = .ok (.aload_n 0, 1) := by decide +kernel
theorem dX12_reads_37 : decode cX12_reads 37 = .ok (.iconst 1, 1) := by decide +kernel
theorem dX12_reads_38 : decode cX12_reads 38 = .ok (.invokevirtual 312, 3) := by decide +kernel
theorem dX12_reads_41 : decode cX12_reads 41 = .ok (.ireturn, 1) := by decide +kernel
noncomputable def X12_reads_j36 (w : Wd) : Option (Int32 × Wd) :=
(X12_refuse (1 : Int32) w).bind fun q1 =>
some (q1.1, q1.2)
set_option maxRecDepth 20000 in
set_option maxHeartbeats 1000000 in
theorem t_X12_reads_j36 {κ : Kx} (w : Wd) (h : ok (X12_reads_j36  w) (PIw κ)) : J κ RX12 cX12_reads 3 (some .int) (rmk 4 94) 36 [(0, .ref (ad (gm κ) 97))] [] w := by
  unfold X12_reads_j36 at h
  refine j_aload_n 0 dX12_reads_36 rfl rfl ?_
  refine j_iconst (1 : Int32) dX12_reads_37 ki_1 ?_
  obtain ⟨q1, e2, h⟩ := ok_b h
  refine j_callV (As := [.int (1 : Int32)]) (st := []) [.int q1.1] (c_X12_refuse (kl κ) (gm κ) (kA κ) (1 : Int32) w q1 e2) ck_RX12_312 im_X12_refuse se_X12_refuse sh_97 cx_12 ⟨rfl, rfl⟩ ⟨by decide, by decide⟩ rfl rfl (Nat.le_of_ble_eq_true rfl) dX12_reads_38 _ rfl ?_
  have h := ok_s h
  exact j_iret dX12_reads_41 rfl rfl h
noncomputable def X12_reads_j30 (s0 : Int32) (w : Wd) : Option (Int32 × Wd) :=
(X12_gives s0 w).bind fun q5 =>
some (q5.1, q5.2)
set_option maxRecDepth 20000 in
set_option maxHeartbeats 1000000 in
theorem t_X12_reads_j30 {κ : Kx} (s0 : Int32) (w : Wd) (h : ok (X12_reads_j30  s0 w) (PIw κ)) : J κ RX12 cX12_reads 3 (some .int) (rmk 4 94) 30 [] [.int s0, .ref (ad (gm κ) 97)] w := by
  unfold X12_reads_j30 at h
  obtain ⟨q5, e6, h⟩ := ok_b h
  refine j_callV (As := [.int s0]) (st := []) [.int q5.1] (c_X12_gives (kl κ) (gm κ) (kA κ) s0 w q5 e6) ck_RX12_316 im_X12_gives se_X12_gives sh_97 cx_12 ⟨rfl, rfl⟩ ⟨by decide, by decide⟩ rfl rfl (Nat.le_of_ble_eq_true rfl) dX12_reads_30 _ rfl ?_
  refine j_goto 41 dX12_reads_33 (by decide) ?_
  have h := ok_s h
  exact j_iret dX12_reads_41 rfl rfl h
noncomputable def X12_reads (a1 : Int32) (a2 : Int32) (w : Wd) : Option (Int32 × Wd) :=
(if (X12_isLearner a1 w) = 0 then
X12_reads_j36 w
else
(if (X12_isWeek a2 w) = 0 then
X12_reads_j36 w
else
(X12_doesRead a1 a2 w).bind fun q3 =>
(if q3.1 = 0 then
X12_reads_j30 (0 : Int32) q3.2
else
X12_reads_j30 (1 : Int32) q3.2)))
set_option maxRecDepth 20000 in
set_option maxHeartbeats 1000000 in
theorem t_X12_reads {κ : Kx} (a1 : Int32) (a2 : Int32) (w : Wd) (h : ok (X12_reads  a1 a2 w) (PIw κ)) : J κ RX12 cX12_reads 3 (some .int) (rmk 4 94) 0 [(0, .ref (ad (gm κ) 97)), (1, .int a1), (2, .int a2)] [] w := by
  unfold X12_reads at h
  refine j_aload_n 0 dX12_reads_0 rfl rfl ?_
  refine j_iload_n 1 dX12_reads_1 rfl rfl ?_
  refine j_callV (As := [.int a1]) (st := []) [.int (X12_isLearner a1 w)] (c_X12_isLearner (kl κ) (gm κ) (kA κ) a1 w) ck_RX12_339 im_X12_isLearner se_X12_isLearner sh_97 cx_12 ⟨rfl, rfl⟩ ⟨by decide, by decide⟩ rfl rfl (Nat.le_of_ble_eq_true rfl) dX12_reads_2 _ rfl ?_
  refine j_if_eq 36 dX12_reads_5 (by decide) h (fun h => ?_) (fun h => ?_)
  · refine j_loc [(0, .ref (ad (gm κ) 97))] [0] rfl ?_
    exact t_X12_reads_j36 w h
  · refine j_iload_n 2 dX12_reads_8 rfl rfl ?_
    refine j_callS (As := [.int a2]) (st := []) [.int (X12_isWeek a2 w)] (c_X12_isWeek (kl κ) (gm κ) (kA κ) a2 w) ck_RX12_322 st_X12_isWeek ⟨rfl, rfl⟩ ⟨by decide, by decide⟩ rfl rfl (Nat.le_of_ble_eq_true rfl) dX12_reads_9 _ rfl ?_
    refine j_if_eq 36 dX12_reads_12 (by decide) h (fun h => ?_) (fun h => ?_)
    · refine j_loc [(0, .ref (ad (gm κ) 97))] [0] rfl ?_
      exact t_X12_reads_j36 w h
    · refine j_aload_n 0 dX12_reads_15 rfl rfl ?_
      refine j_aload_n 0 dX12_reads_16 rfl rfl ?_
      refine j_iload_n 1 dX12_reads_17 rfl rfl ?_
      refine j_iload_n 2 dX12_reads_18 rfl rfl ?_
      obtain ⟨q3, e4, h⟩ := ok_b h
      refine j_callV (As := [.int a1, .int a2]) (st := [.ref (ad (gm κ) 97)]) [.int q3.1, .ref (ad (gm κ) 97)] (c_X12_doesRead (kl κ) (gm κ) (kA κ) a1 a2 w q3 e4) ck_RX12_567 im_X12_doesRead se_X12_doesRead sh_97 cx_12 ⟨rfl, rfl⟩ ⟨by decide, by decide⟩ rfl rfl (Nat.le_of_ble_eq_true rfl) dX12_reads_19 _ rfl ?_
      refine j_if_eq 29 dX12_reads_22 (by decide) h (fun h => ?_) (fun h => ?_)
      · refine j_iconst (0 : Int32) dX12_reads_29 ki_0 ?_
        refine j_loc [] [] rfl ?_
        exact t_X12_reads_j30 (0 : Int32) q3.2 h
      · refine j_iconst (1 : Int32) dX12_reads_25 ki_1 ?_
        refine j_goto 30 dX12_reads_26 (by decide) ?_
        refine j_loc [] [] rfl ?_
        exact t_X12_reads_j30 (1 : Int32) q3.2 h
theorem c_X12_reads (l : Launch) (γ : Gm) (A : Nat → Prop) (a1 : Int32) (a2 : Int32) (w : Wd) (q : Int32 × Wd) (e : X12_reads  a1 a2 w = some q) : MetG l γ A yX12_reads cX12_reads 3 (some .int) (rmk 4 94) [.ref (ad (γ) 97), .int a1, .int a2] w (some (.int q.1)) q.2 := by
  refine met_of pn_RX12 (Nat.le_of_ble_eq_true rfl) ?_
  intro κ hl hγ hA hρ
  subst hl; subst hγ; subst hA
  exact t_X12_reads   a1 a2 w ⟨q, e, pIw hρ rfl rfl⟩
