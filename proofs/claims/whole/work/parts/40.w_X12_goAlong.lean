theorem dX12_goAlong_0 : decode cX12_goAlong 0 = .ok (.iconst 0, 1) := by decide +kernel
theorem dX12_goAlong_1 : decode cX12_goAlong 1 = .ok (.istore_n 2, 1) := by decide +kernel
theorem dX12_goAlong_2 : decode cX12_goAlong 2 = .ok (.iload_n 2, 1) := by decide +kernel
theorem dX12_goAlong_3 : decode cX12_goAlong 3 = .ok (.sipush 600, 3) := by decide +kernel
theorem dX12_goAlong_6 : decode cX12_goAlong 6 = .ok (.if_icmp .ge 16, 3) := by decide +kernel
theorem dX12_goAlong_9 : decode cX12_goAlong 9 = .ok (.aload_n 0, 1) := by decide +kernel
theorem dX12_goAlong_10 : decode cX12_goAlong 10 = .ok (.getfield 190, 3) := by decide +kernel
theorem dX12_goAlong_13 : decode cX12_goAlong 13 = .ok (.iload_n 2, 1) := by decide +kernel
theorem dX12_goAlong_14 : decode cX12_goAlong 14 = .ok (.iconst 0, 1) := by decide +kernel
theorem dX12_goAlong_15 : decode cX12_goAlong 15 = .ok (.iastore, 1) := by decide +kernel
theorem dX12_goAlong_16 : decode cX12_goAlong 16 = .ok (.iinc 2 1, 3) := by decide +kernel
theorem dX12_goAlong_19 : decode cX12_goAlong 19 = .ok (.goto (-17), 3) := by decide +kernel
theorem dX12_goAlong_22 : decode cX12_goAlong 22 = .ok (.iconst 0, 1) := by decide +kernel
theorem dX12_goAlong_23 : decode cX12_goAlong 23 = .ok (.istore_n 2, 1) := by decide +kernel
theorem dX12_goAlong_24 : decode cX12_goAlong 24 = .ok (.iload_n 2, 1) := by decide +kernel
theorem dX12_goAlong_25 : decode cX12_goAlong 25 = .ok (.bipush 40, 2) := by decide +kernel
theorem dX12_goAlong_27 : decode cX12_goAlong 27 = .ok (.if_icmp .ge 16, 3) := by decide +kernel
theorem dX12_goAlong_30 : decode cX12_goAlong 30 = .ok (.aload_n 0, 1) := by decide +kernel
theorem dX12_goAlong_31 : decode cX12_goAlong 31 = .ok (.getfield 193, 3) := by decide +kernel
theorem dX12_goAlong_34 : decode cX12_goAlong 34 = .ok (.iload_n 2, 1) := by decide +kernel
theorem dX12_goAlong_35 : decode cX12_goAlong 35 = .ok (.iconst 0, 1) := by decide +kernel
theorem dX12_goAlong_36 : decode cX12_goAlong 36 = .ok (.iastore, 1) := by decide +kernel
theorem dX12_goAlong_37 : decode cX12_goAlong 37 = .ok (.iinc 2 1, 3) := by decide +kernel
theorem dX12_goAlong_40 : decode cX12_goAlong 40 = .ok (.goto (-16), 3) := by decide +kernel
theorem dX12_goAlong_43 : decode cX12_goAlong 43 = .ok (.iconst 0, 1) := by decide +kernel
theorem dX12_goAlong_44 : decode cX12_goAlong 44 = .ok (.istore_n 2, 1) := by decide +kernel
theorem dX12_goAlong_45 : decode cX12_goAlong 45 = .ok (.iload_n 2, 1) := by decide +kernel
theorem dX12_goAlong_46 : decode cX12_goAlong 46 = .ok (.iload_n 1, 1) := by decide +kernel
theorem dX12_goAlong_47 : decode cX12_goAlong 47 = .ok (.if_icmp .gt 65, 3) := by decide +kernel
theorem dX12_goAlong_50 : decode cX12_goAlong 50 = .ok (.aload_n 0, 1) := by decide +kernel
theorem dX12_goAlong_51 : decode cX12_goAlong 51 = .ok (.iload_n 2, 1) := by decide +kernel
theorem dX12_goAlong_52 : decode cX12_goAlong 52 = .ok (.invokevirtual 511, 3) := by decide +kernel
theorem dX12_goAlong_55 : decode cX12_goAlong 55 = .ok (.iconst 0, 1) := by decide +kernel
theorem dX12_goAlong_56 : decode cX12_goAlong 56 = .ok (.istore_n 3, 1) := by decide +kernel
theorem dX12_goAlong_57 : decode cX12_goAlong 57 = .ok (.iload_n 3, 1) := by decide +kernel
theorem dX12_goAlong_58 : decode cX12_goAlong 58 = .ok (.aload_n 0, 1) := by decide +kernel
theorem dX12_goAlong_59 : decode cX12_goAlong 59 = .ok (.getfield 300, 3) := by decide +kernel
theorem dX12_goAlong_62 : decode cX12_goAlong 62 = .ok (.if_icmp .ge 44, 3) := by decide +kernel
theorem dX12_goAlong_65 : decode cX12_goAlong 65 = .ok (.aload_n 0, 1) := by decide +kernel
theorem dX12_goAlong_66 : decode cX12_goAlong 66 = .ok (.getfield 214, 3) := by decide +kernel
theorem dX12_goAlong_69 : decode cX12_goAlong 69 = .ok (.iload_n 3, 1) := by decide +kernel
theorem dX12_goAlong_70 : decode cX12_goAlong 70 = .ok (.baload, 1) := by decide +kernel
theorem dX12_goAlong_71 : decode cX12_goAlong 71 = .ok (.ifCond .eq 24, 3) := by decide +kernel
theorem dX12_goAlong_74 : decode cX12_goAlong 74 = .ok (.aload_n 0, 1) := by decide +kernel
theorem dX12_goAlong_75 : decode cX12_goAlong 75 = .ok (.getfield 193, 3) := by decide +kernel
theorem dX12_goAlong_78 : decode cX12_goAlong 78 = .ok (.iload_n 3, 1) := by decide +kernel
theorem dX12_goAlong_79 : decode cX12_goAlong 79 = .ok (.iconst 0, 1) := by decide +kernel
theorem dX12_goAlong_80 : decode cX12_goAlong 80 = .ok (.iastore, 1) := by decide +kernel
theorem dX12_goAlong_81 : decode cX12_goAlong 81 = .ok (.aload_n 0, 1) := by decide +kernel
theorem dX12_goAlong_82 : decode cX12_goAlong 82 = .ok (.iload_n 3, 1) := by decide +kernel
theorem dX12_goAlong_83 : decode cX12_goAlong 83 = .ok (.aload_n 0, 1) := by decide +kernel
theorem dX12_goAlong_84 : decode cX12_goAlong 84 = .ok (.getfield 199, 3) := by decide +kernel
theorem dX12_goAlong_87 : decode cX12_goAlong 87 = .ok (.iload_n 3, 1) := by decide +kernel
theorem dX12_goAlong_88 : decode cX12_goAlong 88 = .ok (.iaload, 1) := by decide +kernel
theorem dX12_goAlong_89 : decode cX12_goAlong 89 = .ok (.invokevirtual 514, 3) := by decide +kernel
theorem dX12_goAlong_92 : decode cX12_goAlong 92 = .ok (.goto 8, 3) := by decide +kernel
theorem dX12_goAlong_95 : decode cX12_goAlong 95 = .ok (.aload_n 0, 1) := by decide +kernel
theorem dX12_goAlong_96 : decode cX12_goAlong 96 = .ok (.iload_n 3, 1) := by decide +kernel
theorem dX12_goAlong_97 : decode cX12_goAlong 97 = .ok (.invokevirtual 517, 3) := by decide +kernel
theorem dX12_goAlong_100 : decode cX12_goAlong 100 = .ok (.iinc 3 1, 3) := by decide +kernel
theorem dX12_goAlong_103 : decode cX12_goAlong 103 = .ok (.goto (-46), 3) := by decide +kernel
theorem dX12_goAlong_106 : decode cX12_goAlong 106 = .ok (.iinc 2 1, 3) := by decide +kernel
theorem dX12_goAlong_109 : decode cX12_goAlong 109 = .ok (.goto (-64), 3) := by decide +kernel
theorem dX12_goAlong_112 : decode cX12_goAlong 112 = .ok (.return_, 1) := by decide +kernel
noncomputable def X12_goAlong_b2 (a1 : Int32) (s : (Int32 × Wd)) : Option ((Int32 × Wd) ⊕ Wd) :=
(if (600 : Int32) ≤ s.1 then
some (.inr s.2)
else
gd (vp_in s.1 600) <|
(some (puI s.2 150 (ix s.1) (0 : Int32))).bind fun w1 =>
some (.inl ((s.1 + (1 : Int32)), w1)))
set_option maxRecDepth 20000 in
set_option maxHeartbeats 1000000 in
theorem t_X12_goAlong_b2 {κ : Kx} (a1 : Int32) {P : Wd → Prop} (K0 : ∀ e, P e → J κ RX12 cX12_goAlong 4 none (rmk 5 134) 22 [(0, .ref (ad (gm κ) 97)), (1, .int a1)] [] e) (s : (Int32 × Wd)) (h : ok (lp (X12_goAlong_b2  a1) s) P) : J κ RX12 cX12_goAlong 4 none (rmk 5 134) 2 [(0, .ref (ad (gm κ) 97)), (1, .int a1), (2, .int s.1)] [] s.2 := by
  refine lp_ind (fun s => J κ RX12 cX12_goAlong 4 none (rmk 5 134) 2 [(0, .ref (ad (gm κ) 97)), (1, .int a1), (2, .int s.1)] [] s.2) (fun s h => ?_) s h
  unfold X12_goAlong_b2 at h
  refine j_iload_n 2 dX12_goAlong_2 rfl rfl ?_
  refine j_sipush (600 : Int32) dX12_goAlong_3 ks_600 ?_
  refine j_ic_ge 22 dX12_goAlong_6 (by decide) h (fun h => ?_) (fun h => ?_)
  · refine j_loc [(0, .ref (ad (gm κ) 97)), (1, .int a1)] [0, 1] rfl ?_
    have h := sel_r h
    have h := K0 _ h
    exact h
  · refine j_aload_n 0 dX12_goAlong_9 rfl rfl ?_
    refine j_getA 150 fl_RX12_190 sh_97 fk_97_74 (by decide) dX12_goAlong_10 ?_
    refine j_iload_n 2 dX12_goAlong_13 rfl rfl ?_
    refine j_iconst (0 : Int32) dX12_goAlong_14 ki_0 ?_
    refine j_iast sh_150 dX12_goAlong_15 h (fun h => ?_)
    refine j_lW h (fun w1 h => ?_)
    refine j_iinc (s.1 + (1 : Int32)) 2 [(2, .int (s.1 + (1 : Int32))), (0, .ref (ad (gm κ) 97)), (1, .int a1)] dX12_goAlong_16 rfl (by rw [kn_1]) (by decide) rfl ?_
    refine j_goto 2 dX12_goAlong_19 (by decide) ?_
    refine j_loc [(0, .ref (ad (gm κ) 97)), (1, .int a1), (2, .int (s.1 + (1 : Int32)))] [1, 2, 0] rfl ?_
    have h := sel_l h
    exact h
noncomputable def X12_goAlong_b24 (a1 : Int32) (s : (Int32 × Wd)) : Option ((Int32 × Wd) ⊕ Wd) :=
(if (40 : Int32) ≤ s.1 then
some (.inr s.2)
else
gd (vp_in s.1 40) <|
(some (puI s.2 151 (ix s.1) (0 : Int32))).bind fun w3 =>
some (.inl ((s.1 + (1 : Int32)), w3)))
set_option maxRecDepth 20000 in
set_option maxHeartbeats 1000000 in
theorem t_X12_goAlong_b24 {κ : Kx} (a1 : Int32) {P : Wd → Prop} (K0 : ∀ e, P e → J κ RX12 cX12_goAlong 4 none (rmk 5 134) 43 [(0, .ref (ad (gm κ) 97)), (1, .int a1)] [] e) (s : (Int32 × Wd)) (h : ok (lp (X12_goAlong_b24  a1) s) P) : J κ RX12 cX12_goAlong 4 none (rmk 5 134) 24 [(0, .ref (ad (gm κ) 97)), (1, .int a1), (2, .int s.1)] [] s.2 := by
  refine lp_ind (fun s => J κ RX12 cX12_goAlong 4 none (rmk 5 134) 24 [(0, .ref (ad (gm κ) 97)), (1, .int a1), (2, .int s.1)] [] s.2) (fun s h => ?_) s h
  unfold X12_goAlong_b24 at h
  refine j_iload_n 2 dX12_goAlong_24 rfl rfl ?_
  refine j_bipush (40 : Int32) dX12_goAlong_25 kb_40 ?_
  refine j_ic_ge 43 dX12_goAlong_27 (by decide) h (fun h => ?_) (fun h => ?_)
  · refine j_loc [(0, .ref (ad (gm κ) 97)), (1, .int a1)] [0, 1] rfl ?_
    have h := sel_r h
    have h := K0 _ h
    exact h
  · refine j_aload_n 0 dX12_goAlong_30 rfl rfl ?_
    refine j_getA 151 fl_RX12_193 sh_97 fk_97_75 (by decide) dX12_goAlong_31 ?_
    refine j_iload_n 2 dX12_goAlong_34 rfl rfl ?_
    refine j_iconst (0 : Int32) dX12_goAlong_35 ki_0 ?_
    refine j_iast sh_151 dX12_goAlong_36 h (fun h => ?_)
    refine j_lW h (fun w3 h => ?_)
    refine j_iinc (s.1 + (1 : Int32)) 2 [(2, .int (s.1 + (1 : Int32))), (0, .ref (ad (gm κ) 97)), (1, .int a1)] dX12_goAlong_37 rfl (by rw [kn_1]) (by decide) rfl ?_
    refine j_goto 24 dX12_goAlong_40 (by decide) ?_
    refine j_loc [(0, .ref (ad (gm κ) 97)), (1, .int a1), (2, .int (s.1 + (1 : Int32)))] [1, 2, 0] rfl ?_
    have h := sel_l h
    exact h
noncomputable def X12_goAlong_j100 (a1 : Int32) (a2 : Int32) (a3 : Int32) (w : Wd) : Option ((Int32 × Wd) ⊕ Wd) :=
some (.inl ((a3 + (1 : Int32)), w))
set_option maxRecDepth 20000 in
set_option maxHeartbeats 1000000 in
theorem t_X12_goAlong_j100 {κ : Kx} (a1 : Int32) (a2 : Int32) (a3 : Int32) (w : Wd) {G : (Int32 × Wd) → Prop} {P : Wd → Prop} (KG : ∀ s, G s → J κ RX12 cX12_goAlong 4 none (rmk 5 134) 57 [(0, .ref (ad (gm κ) 97)), (1, .int a1), (2, .int a2), (3, .int s.1)] [] s.2) (K0 : ∀ e, P e → J κ RX12 cX12_goAlong 4 none (rmk 5 134) 106 [(0, .ref (ad (gm κ) 97)), (1, .int a1), (2, .int a2)] [] e) (h : ok (X12_goAlong_j100  a1 a2 a3 w) (sel G P)) : J κ RX12 cX12_goAlong 4 none (rmk 5 134) 100 [(0, .ref (ad (gm κ) 97)), (1, .int a1), (2, .int a2), (3, .int a3)] [] w := by
  unfold X12_goAlong_j100 at h
  refine j_iinc (a3 + (1 : Int32)) 3 [(3, .int (a3 + (1 : Int32))), (0, .ref (ad (gm κ) 97)), (1, .int a1), (2, .int a2)] dX12_goAlong_100 rfl (by rw [kn_1]) (by decide) rfl ?_
  refine j_goto 57 dX12_goAlong_103 (by decide) ?_
  refine j_loc [(0, .ref (ad (gm κ) 97)), (1, .int a1), (2, .int a2), (3, .int (a3 + (1 : Int32)))] [1, 2, 3, 0] rfl ?_
  have h := sel_l h
  have h := KG _ h
  exact h
noncomputable def X12_goAlong_b57 (a1 : Int32) (a2 : Int32) (s : (Int32 × Wd)) : Option ((Int32 × Wd) ⊕ Wd) :=
(if (s.2.1 97 6) ≤ s.1 then
some (.inr s.2)
else
gd (vp_in s.1 40) <|
(if (s.2.1 158 (ix s.1)) = 0 then
(X12_misses s.1 s.2).bind fun q7 =>
X12_goAlong_j100 a1 a2 s.1 q7
else
gd (vp_in s.1 40) <|
(some (puI s.2 151 (ix s.1) (0 : Int32))).bind fun w9 =>
gd (vp_in s.1 40) <|
(X12_learns s.1 (w9.1 153 (ix s.1)) w9).bind fun q10 =>
X12_goAlong_j100 a1 a2 s.1 q10))
set_option maxRecDepth 20000 in
set_option maxHeartbeats 1000000 in
theorem t_X12_goAlong_b57 {κ : Kx} (a1 : Int32) (a2 : Int32) {P : Wd → Prop} (K0 : ∀ e, P e → J κ RX12 cX12_goAlong 4 none (rmk 5 134) 106 [(0, .ref (ad (gm κ) 97)), (1, .int a1), (2, .int a2)] [] e) (s : (Int32 × Wd)) (h : ok (lp (X12_goAlong_b57  a1 a2) s) P) : J κ RX12 cX12_goAlong 4 none (rmk 5 134) 57 [(0, .ref (ad (gm κ) 97)), (1, .int a1), (2, .int a2), (3, .int s.1)] [] s.2 := by
  refine lp_ind (fun s => J κ RX12 cX12_goAlong 4 none (rmk 5 134) 57 [(0, .ref (ad (gm κ) 97)), (1, .int a1), (2, .int a2), (3, .int s.1)] [] s.2) (fun s h => ?_) s h
  unfold X12_goAlong_b57 at h
  refine j_iload_n 3 dX12_goAlong_57 rfl rfl ?_
  refine j_aload_n 0 dX12_goAlong_58 rfl rfl ?_
  refine j_getI fl_RX12_300 sh_97 fk_97_6 dX12_goAlong_59 ?_
  refine j_ic_ge 106 dX12_goAlong_62 (by decide) h (fun h => ?_) (fun h => ?_)
  · refine j_loc [(0, .ref (ad (gm κ) 97)), (1, .int a1), (2, .int a2)] [0, 1, 2] rfl ?_
    have h := sel_r h
    have h := K0 _ h
    exact h
  · refine j_aload_n 0 dX12_goAlong_65 rfl rfl ?_
    refine j_getA 158 fl_RX12_214 sh_97 fk_97_82 (by decide) dX12_goAlong_66 ?_
    refine j_iload_n 3 dX12_goAlong_69 rfl rfl ?_
    refine j_zald sh_158 dX12_goAlong_70 h (fun h => ?_)
    refine j_if_eq 95 dX12_goAlong_71 (by decide) h (fun h => ?_) (fun h => ?_)
    · refine j_aload_n 0 dX12_goAlong_95 rfl rfl ?_
      refine j_iload_n 3 dX12_goAlong_96 rfl rfl ?_
      obtain ⟨q7, e8, h⟩ := ok_b h
      refine j_callV (As := [.int s.1]) (st := []) [] (c_X12_misses (kl κ) (gm κ) (kA κ) s.1 s.2 q7 e8) ck_RX12_517 im_X12_misses se_X12_misses sh_97 cx_12 ⟨rfl, rfl⟩ ⟨by decide, by decide⟩ rfl rfl (Nat.le_of_ble_eq_true rfl) dX12_goAlong_97 _ rfl ?_
      refine j_loc [(0, .ref (ad (gm κ) 97)), (1, .int a1), (2, .int a2), (3, .int s.1)] [0, 1, 2, 3] rfl ?_
      exact t_X12_goAlong_j100 a1 a2 s.1 q7 (fun _ h => h) K0 h
    · refine j_aload_n 0 dX12_goAlong_74 rfl rfl ?_
      refine j_getA 151 fl_RX12_193 sh_97 fk_97_75 (by decide) dX12_goAlong_75 ?_
      refine j_iload_n 3 dX12_goAlong_78 rfl rfl ?_
      refine j_iconst (0 : Int32) dX12_goAlong_79 ki_0 ?_
      refine j_iast sh_151 dX12_goAlong_80 h (fun h => ?_)
      refine j_lW h (fun w9 h => ?_)
      refine j_aload_n 0 dX12_goAlong_81 rfl rfl ?_
      refine j_iload_n 3 dX12_goAlong_82 rfl rfl ?_
      refine j_aload_n 0 dX12_goAlong_83 rfl rfl ?_
      refine j_getA 153 fl_RX12_199 sh_97 fk_97_77 (by decide) dX12_goAlong_84 ?_
      refine j_iload_n 3 dX12_goAlong_87 rfl rfl ?_
      refine j_iald sh_153 dX12_goAlong_88 h (fun h => ?_)
      obtain ⟨q10, e11, h⟩ := ok_b h
      refine j_callV (As := [.int s.1, .int (w9.1 153 (ix s.1))]) (st := []) [] (c_X12_learns (kl κ) (gm κ) (kA κ) s.1 (w9.1 153 (ix s.1)) w9 q10 e11) ck_RX12_514 im_X12_learns se_X12_learns sh_97 cx_12 ⟨rfl, rfl⟩ ⟨by decide, by decide⟩ rfl rfl (Nat.le_of_ble_eq_true rfl) dX12_goAlong_89 _ rfl ?_
      refine j_goto 100 dX12_goAlong_92 (by decide) ?_
      refine j_loc [(0, .ref (ad (gm κ) 97)), (1, .int a1), (2, .int a2), (3, .int s.1)] [0, 1, 2, 3] rfl ?_
      exact t_X12_goAlong_j100 a1 a2 s.1 q10 (fun _ h => h) K0 h
noncomputable def X12_goAlong_b45 (a1 : Int32) (s : (Int32 × Wd)) : Option ((Int32 × Wd) ⊕ Wd) :=
(if a1 < s.1 then
some (.inr s.2)
else
(X12_teach s.1 s.2).bind fun q5 =>
(lp (X12_goAlong_b57 a1 s.1) ((0 : Int32), q5)).bind fun e12 =>
some (.inl ((s.1 + (1 : Int32)), e12)))
set_option maxRecDepth 20000 in
set_option maxHeartbeats 1000000 in
theorem t_X12_goAlong_b45 {κ : Kx} (a1 : Int32) {P : Wd → Prop} (K0 : ∀ e, P e → J κ RX12 cX12_goAlong 4 none (rmk 5 134) 112 [] [] e) (s : (Int32 × Wd)) (h : ok (lp (X12_goAlong_b45  a1) s) P) : J κ RX12 cX12_goAlong 4 none (rmk 5 134) 45 [(0, .ref (ad (gm κ) 97)), (1, .int a1), (2, .int s.1)] [] s.2 := by
  refine lp_ind (fun s => J κ RX12 cX12_goAlong 4 none (rmk 5 134) 45 [(0, .ref (ad (gm κ) 97)), (1, .int a1), (2, .int s.1)] [] s.2) (fun s h => ?_) s h
  unfold X12_goAlong_b45 at h
  refine j_iload_n 2 dX12_goAlong_45 rfl rfl ?_
  refine j_iload_n 1 dX12_goAlong_46 rfl rfl ?_
  refine j_ic_gt 112 dX12_goAlong_47 (by decide) h (fun h => ?_) (fun h => ?_)
  · refine j_loc [] [] rfl ?_
    have h := sel_r h
    have h := K0 _ h
    exact h
  · refine j_aload_n 0 dX12_goAlong_50 rfl rfl ?_
    refine j_iload_n 2 dX12_goAlong_51 rfl rfl ?_
    obtain ⟨q5, e6, h⟩ := ok_b h
    refine j_callV (As := [.int s.1]) (st := []) [] (c_X12_teach (kl κ) (gm κ) (kA κ) s.1 s.2 q5 e6) ck_RX12_511 im_X12_teach se_X12_teach sh_97 cx_12 ⟨rfl, rfl⟩ ⟨by decide, by decide⟩ rfl rfl (Nat.le_of_ble_eq_true rfl) dX12_goAlong_52 _ rfl ?_
    refine j_iconst (0 : Int32) dX12_goAlong_55 ki_0 ?_
    refine j_istore_n [(3, .int (0 : Int32)), (0, .ref (ad (gm κ) 97)), (1, .int a1), (2, .int s.1)] dX12_goAlong_56 rfl (by decide) rfl ?_
    refine j_loc [(0, .ref (ad (gm κ) 97)), (1, .int a1), (2, .int s.1), (3, .int (0 : Int32))] [1, 2, 3, 0] rfl ?_
    refine t_X12_goAlong_b57 a1 s.1 (fun e12 h => ?_) ((0 : Int32), q5) (ok_bb h)
    · refine j_iinc (s.1 + (1 : Int32)) 2 [(2, .int (s.1 + (1 : Int32))), (0, .ref (ad (gm κ) 97)), (1, .int a1)] dX12_goAlong_106 rfl (by rw [kn_1]) (by decide) rfl ?_
      refine j_goto 45 dX12_goAlong_109 (by decide) ?_
      refine j_loc [(0, .ref (ad (gm κ) 97)), (1, .int a1), (2, .int (s.1 + (1 : Int32)))] [1, 2, 0] rfl ?_
      have h := sel_l h
      exact h
noncomputable def X12_goAlong (a1 : Int32) (w : Wd) : Option (Wd) :=
(lp (X12_goAlong_b2 a1) ((0 : Int32), w)).bind fun e2 =>
(lp (X12_goAlong_b24 a1) ((0 : Int32), e2)).bind fun e4 =>
(lp (X12_goAlong_b45 a1) ((0 : Int32), e4)).bind fun e13 =>
some e13
set_option maxRecDepth 20000 in
set_option maxHeartbeats 1000000 in
theorem t_X12_goAlong {κ : Kx} (a1 : Int32) (w : Wd) (h : ok (X12_goAlong  a1 w) (PVw κ)) : J κ RX12 cX12_goAlong 4 none (rmk 5 134) 0 [(0, .ref (ad (gm κ) 97)), (1, .int a1)] [] w := by
  unfold X12_goAlong at h
  refine j_iconst (0 : Int32) dX12_goAlong_0 ki_0 ?_
  refine j_istore_n [(2, .int (0 : Int32)), (0, .ref (ad (gm κ) 97)), (1, .int a1)] dX12_goAlong_1 rfl (by decide) rfl ?_
  refine j_loc [(0, .ref (ad (gm κ) 97)), (1, .int a1), (2, .int (0 : Int32))] [1, 2, 0] rfl ?_
  refine t_X12_goAlong_b2 a1 (fun e2 h => ?_) ((0 : Int32), w) (ok_bb h)
  · refine j_iconst (0 : Int32) dX12_goAlong_22 ki_0 ?_
    refine j_istore_n [(2, .int (0 : Int32)), (0, .ref (ad (gm κ) 97)), (1, .int a1)] dX12_goAlong_23 rfl (by decide) rfl ?_
    refine j_loc [(0, .ref (ad (gm κ) 97)), (1, .int a1), (2, .int (0 : Int32))] [1, 2, 0] rfl ?_
    refine t_X12_goAlong_b24 a1 (fun e4 h => ?_) ((0 : Int32), e2) (ok_bb h)
    · refine j_iconst (0 : Int32) dX12_goAlong_43 ki_0 ?_
      refine j_istore_n [(2, .int (0 : Int32)), (0, .ref (ad (gm κ) 97)), (1, .int a1)] dX12_goAlong_44 rfl (by decide) rfl ?_
      refine j_loc [(0, .ref (ad (gm κ) 97)), (1, .int a1), (2, .int (0 : Int32))] [1, 2, 0] rfl ?_
      refine t_X12_goAlong_b45 a1 (fun e13 h => ?_) ((0 : Int32), e4) (ok_bb h)
      · have h := ok_s h
        exact j_vret dX12_goAlong_112 rfl h
theorem c_X12_goAlong (l : Launch) (γ : Gm) (A : Nat → Prop) (a1 : Int32) (w : Wd) (q : Wd) (e : X12_goAlong  a1 w = some q) : MetG l γ A yX12_goAlong cX12_goAlong 4 none (rmk 5 134) [.ref (ad (γ) 97), .int a1] w none q := by
  refine met_of pn_RX12 (Nat.le_of_ble_eq_true rfl) ?_
  intro κ hl hγ hA hρ
  subst hl; subst hγ; subst hA
  exact t_X12_goAlong   a1 w ⟨q, e, pVw hρ rfl rfl⟩
theorem dX12_taught_0 : decode cX12_taught 0 = .ok (.aload_n 0, 1) := by decide +kernel
theorem dX12_taught_1 : decode cX12_taught 1 = .ok (.iload_n 1, 1) := by decide +kernel
theorem dX12_taught_2 : decode cX12_taught 2 = .ok (.invokevirtual 339, 3) := by decide +kernel
theorem dX12_taught_5 : decode cX12_taught 5 = .ok (.ifCond .eq 19, 3) := by decide +kernel
theorem dX12_taught_8 : decode cX12_taught 8 = .ok (.iload_n 2, 1) := by decide +kernel
theorem dX12_taught_9 : decode cX12_taught 9 = .ok (.invokestatic 322, 3) := by decide +kernel
theorem dX12_taught_12 : decode cX12_taught 12 = .ok (.ifCond .eq 12, 3) := by decide +kernel
theorem dX12_taught_15 : decode cX12_taught 15 = .ok (.iload_n 3, 1) := by decide +kernel
theorem dX12_taught_16 : decode cX12_taught 16 = .ok (.ifCond .lt 8, 3) := by decide +kernel
theorem dX12_taught_19 : decode cX12_taught 19 = .ok (.iload_n 3, 1) := by decide +kernel
theorem dX12_taught_20 : decode cX12_taught 20 = .ok (.iconst 2, 1) := by decide +kernel
theorem dX12_taught_21 : decode cX12_taught 21 = .ok (.if_icmp .le 9, 3) := by decide +kernel
theorem dX12_taught_24 : decode cX12_taught 24 = .ok (.aload_n 0, 1) := by decide +kernel
theorem dX12_taught_25 : decode cX12_taught 25 = .ok (.iconst 1, 1) := by decide +kernel
theorem dX12_taught_26 : decode cX12_taught 26 = .ok (.invokevirtual 312, 3) := by decide +kernel
theorem dX12_taught_29 : decode cX12_taught 29 = .ok (.ireturn, 1) := by decide +kernel
theorem dX12_taught_30 : decode cX12_taught 30 = .ok (.aload_n 0, 1) := by decide +kernel
theorem dX12_taught_31 : decode cX12_taught 31 = .ok (.iload_n 2, 1) := by decide +kernel
theorem dX12_taught_32 : decode cX12_taught 32 = .ok (.iconst 1, 1) := by decide +kernel
theorem dX12_taught_33 : decode cX12_taught 33 = .ok (.isub, 1) := by decide +kernel
theorem dX12_taught_34 : decode cX12_taught 34 = .ok (.invokevirtual 520, 3) := by decide +kernel
theorem dX12_taught_37 : decode cX12_taught 37 = .ok (.aload_n 0, 1) := by decide +kernel
theorem dX12_taught_38 : decode cX12_taught 38 = .ok (.iload_n 2, 1) := by decide +kernel
theorem dX12_taught_39 : decode cX12_taught 39 = .ok (.invokevirtual 511, 3) := by decide +kernel
theorem dX12_taught_42 : decode cX12_taught 42 = .ok (.aload_n 0, 1) := by decide +kernel
theorem dX12_taught_43 : decode cX12_taught 43 = .ok (.getfield 196, 3) := by decide +kernel
theorem dX12_taught_46 : decode cX12_taught 46 = .ok (.iload_n 1, 1) := by decide +kernel
theorem dX12_taught_47 : decode cX12_taught 47 = .ok (.iaload, 1) := by decide +kernel
theorem dX12_taught_48 : decode cX12_taught 48 = .ok (.iconst (-1), 1) := by decide +kernel
theorem dX12_taught_49 : decode cX12_taught 49 = .ok (.if_icmp .eq 32, 3) := by decide +kernel
theorem dX12_taught_52 : decode cX12_taught 52 = .ok (.aload_n 0, 1) := by decide +kernel
theorem dX12_taught_53 : decode cX12_taught 53 = .ok (.getfield 208, 3) := by decide +kernel
theorem dX12_taught_56 : decode cX12_taught 56 = .ok (.aload_n 0, 1) := by decide +kernel
theorem dX12_taught_57 : decode cX12_taught 57 = .ok (.getfield 196, 3) := by decide +kernel
theorem dX12_taught_60 : decode cX12_taught 60 = .ok (.iload_n 1, 1) := by decide +kernel
theorem dX12_taught_61 : decode cX12_taught 61 = .ok (.iaload, 1) := by decide +kernel
theorem dX12_taught_62 : decode cX12_taught 62 = .ok (.iaload, 1) := by decide +kernel
theorem dX12_taught_63 : decode cX12_taught 63 = .ok (.iconst (-1), 1) := by decide +kernel
theorem dX12_taught_64 : decode cX12_taught 64 = .ok (.if_icmp .eq 17, 3) := by decide +kernel
theorem dX12_taught_67 : decode cX12_taught 67 = .ok (.iload_n 3, 1) := by decide +kernel
theorem dX12_taught_68 : decode cX12_taught 68 = .ok (.iconst 2, 1) := by decide +kernel
theorem dX12_taught_69 : decode cX12_taught 69 = .ok (.if_icmp .ne 19, 3) := by decide +kernel
theorem dX12_taught_72 : decode cX12_taught 72 = .ok (.aload_n 0, 1) := by decide +kernel
theorem dX12_taught_73 : decode cX12_taught 73 = .ok (.getfield 214, 3) := by decide +kernel
theorem dX12_taught_76 : decode cX12_taught 76 = .ok (.iload_n 1, 1) := by decide +kernel
theorem dX12_taught_77 : decode cX12_taught 77 = .ok (.baload, 1) := by decide +kernel
theorem dX12_taught_78 : decode cX12_taught 78 = .ok (.ifCond .ne 10, 3) := by decide +kernel
theorem dX12_taught_81 : decode cX12_taught 81 = .ok (.aload_n 0, 1) := by decide +kernel
theorem dX12_taught_82 : decode cX12_taught 82 = .ok (.bipush 6, 2) := by decide +kernel
theorem dX12_taught_84 : decode cX12_taught 84 = .ok (.invokevirtual 312, 3) := by decide +kernel
theorem dX12_taught_87 : decode cX12_taught 87 = .ok (.ireturn, 1) := by decide +kernel
theorem dX12_taught_88 : decode cX12_taught 88 = .ok (.aload_n 0, 1) := by decide +kernel
theorem dX12_taught_89 : decode cX12_taught 89 = .ok (.iload_n 3, 1) := by decide +kernel
theorem dX12_taught_90 : decode cX12_taught 90 = .ok (.ifCond .ne 20, 3) := by decide +kernel
theorem dX12_taught_93 : decode cX12_taught 93 = .ok (.aload_n 0, 1) := by decide +kernel
theorem dX12_taught_94 : decode cX12_taught 94 = .ok (.getfield 211, 3) := by decide +kernel
theorem dX12_taught_97 : decode cX12_taught 97 = .ok (.iload_n 1, 1) := by decide +kernel
theorem dX12_taught_98 : decode cX12_taught 98 = .ok (.baload, 1) := by decide +kernel
theorem dX12_taught_99 : decode cX12_taught 99 = .ok (.ifCond .eq 7, 3) := by decide +kernel
theorem dX12_taught_102 : decode cX12_taught 102 = .ok (.iconst 1, 1) := by decide +kernel
theorem dX12_taught_103 : decode cX12_taught 103 = .ok (.goto 35, 3) := by decide +kernel
theorem dX12_taught_106 : decode cX12_taught 106 = .ok (.iconst 0, 1) := by decide +kernel
theorem dX12_taught_107 : decode cX12_taught 107 = .ok (.goto 31, 3) := by decide +kernel
theorem dX12_taught_110 : decode cX12_taught 110 = .ok (.iload_n 3, 1) := by decide +kernel
theorem dX12_taught_111 : decode cX12_taught 111 = .ok (.iconst 1, 1) := by decide +kernel
theorem dX12_taught_112 : decode cX12_taught 112 = .ok (.if_icmp .ne 20, 3) := by decide +kernel
theorem dX12_taught_115 : decode cX12_taught 115 = .ok (.aload_n 0, 1) := by decide +kernel
theorem dX12_taught_116 : decode cX12_taught 116 = .ok (.getfield 214, 3) := by decide +kernel
theorem dX12_taught_119 : decode cX12_taught 119 = .ok (.iload_n 1, 1) := by decide +kernel
theorem dX12_taught_120 : decode cX12_taught 120 = .ok (.baload, 1) := by decide +kernel
theorem dX12_taught_121 : decode cX12_taught 121 = .ok (.ifCond .eq 7, 3) := by decide +kernel
theorem dX12_taught_124 : decode cX12_taught 124 = .ok (.iconst 1, 1) := by decide +kernel
theorem dX12_taught_125 : decode cX12_taught 125 = .ok (.goto 13, 3) := by decide +kernel
theorem dX12_taught_128 : decode cX12_taught 128 = .ok (.iconst 0, 1) := by decide +kernel
theorem dX12_taught_129 : decode cX12_taught 129 = .ok (.goto 9, 3) := by decide +kernel
theorem dX12_taught_132 : decode cX12_taught 132 = .ok (.aload_n 0, 1) := by decide +kernel
theorem dX12_taught_133 : decode cX12_taught 133 = .ok (.getfield 199, 3) := by decide +kernel
theorem dX12_taught_136 : decode cX12_taught 136 = .ok (.iload_n 1, 1) := by decide +kernel
theorem dX12_taught_137 : decode cX12_taught 137 = .ok (.iaload, 1) := by decide +kernel
theorem dX12_taught_138 : decode cX12_taught 138 = .ok (.invokevirtual 316, 3) := by decide +kernel
theorem dX12_taught_141 : decode cX12_taught 141 = .ok (.ireturn, 1) := by decide +kernel
noncomputable def X12_taught_j24 (w : Wd) : Option (Int32 × Wd) :=
(X12_refuse (1 : Int32) w).bind fun q1 =>
some (q1.1, q1.2)
set_option maxRecDepth 20000 in
set_option maxHeartbeats 1000000 in
theorem t_X12_taught_j24 {κ : Kx} (w : Wd) (h : ok (X12_taught_j24  w) (PIw κ)) : J κ RX12 cX12_taught 4 (some .int) (rmk 6 157) 24 [(0, .ref (ad (gm κ) 97))] [] w := by
  unfold X12_taught_j24 at h
  refine j_aload_n 0 dX12_taught_24 rfl rfl ?_
  refine j_iconst (1 : Int32) dX12_taught_25 ki_1 ?_
  obtain ⟨q1, e2, h⟩ := ok_b h
  refine j_callV (As := [.int (1 : Int32)]) (st := []) [.int q1.1] (c_X12_refuse (kl κ) (gm κ) (kA κ) (1 : Int32) w q1 e2) ck_RX12_312 im_X12_refuse se_X12_refuse sh_97 cx_12 ⟨rfl, rfl⟩ ⟨by decide, by decide⟩ rfl rfl (Nat.le_of_ble_eq_true rfl) dX12_taught_26 _ rfl ?_
  have h := ok_s h
  exact j_iret dX12_taught_29 rfl rfl h
noncomputable def X12_taught_j81 (w : Wd) : Option (Int32 × Wd) :=
(X12_refuse (6 : Int32) w).bind fun q7 =>
some (q7.1, q7.2)
set_option maxRecDepth 20000 in
set_option maxHeartbeats 1000000 in
theorem t_X12_taught_j81 {κ : Kx} (w : Wd) (h : ok (X12_taught_j81  w) (PIw κ)) : J κ RX12 cX12_taught 4 (some .int) (rmk 6 157) 81 [(0, .ref (ad (gm κ) 97))] [] w := by
  unfold X12_taught_j81 at h
  refine j_aload_n 0 dX12_taught_81 rfl rfl ?_
  refine j_bipush (6 : Int32) dX12_taught_82 kb_6 ?_
  obtain ⟨q7, e8, h⟩ := ok_b h
  refine j_callV (As := [.int (6 : Int32)]) (st := []) [.int q7.1] (c_X12_refuse (kl κ) (gm κ) (kA κ) (6 : Int32) w q7 e8) ck_RX12_312 im_X12_refuse se_X12_refuse sh_97 cx_12 ⟨rfl, rfl⟩ ⟨by decide, by decide⟩ rfl rfl (Nat.le_of_ble_eq_true rfl) dX12_taught_84 _ rfl ?_
  have h := ok_s h
  exact j_iret dX12_taught_87 rfl rfl h
noncomputable def X12_taught_j138 (s0 : Int32) (w : Wd) : Option (Int32 × Wd) :=
(X12_gives s0 w).bind fun q9 =>
some (q9.1, q9.2)
set_option maxRecDepth 20000 in
set_option maxHeartbeats 1000000 in
theorem t_X12_taught_j138 {κ : Kx} (s0 : Int32) (w : Wd) (h : ok (X12_taught_j138  s0 w) (PIw κ)) : J κ RX12 cX12_taught 4 (some .int) (rmk 6 157) 138 [] [.int s0, .ref (ad (gm κ) 97)] w := by
  unfold X12_taught_j138 at h
  obtain ⟨q9, e10, h⟩ := ok_b h
  refine j_callV (As := [.int s0]) (st := []) [.int q9.1] (c_X12_gives (kl κ) (gm κ) (kA κ) s0 w q9 e10) ck_RX12_316 im_X12_gives se_X12_gives sh_97 cx_12 ⟨rfl, rfl⟩ ⟨by decide, by decide⟩ rfl rfl (Nat.le_of_ble_eq_true rfl) dX12_taught_138 _ rfl ?_
  have h := ok_s h
  exact j_iret dX12_taught_141 rfl rfl h
noncomputable def X12_taught_j88 (a1 : Int32) (a3 : Int32) (w : Wd) : Option (Int32 × Wd) :=
(if a3 = 0 then
gd (vp_in a1 40) <|
(if (w.1 157 (ix a1)) = 0 then
X12_taught_j138 (0 : Int32) w
else
X12_taught_j138 (1 : Int32) w)
else
(if a3 = (1 : Int32) then
gd (vp_in a1 40) <|
(if (w.1 158 (ix a1)) = 0 then
X12_taught_j138 (0 : Int32) w
else
X12_taught_j138 (1 : Int32) w)
else
gd (vp_in a1 40) <|
X12_taught_j138 (w.1 153 (ix a1)) w))
set_option maxRecDepth 20000 in
set_option maxHeartbeats 1000000 in
theorem t_X12_taught_j88 {κ : Kx} (a1 : Int32) (a3 : Int32) (w : Wd) (h : ok (X12_taught_j88  a1 a3 w) (PIw κ)) : J κ RX12 cX12_taught 4 (some .int) (rmk 6 157) 88 [(0, .ref (ad (gm κ) 97)), (1, .int a1), (3, .int a3)] [] w := by
  unfold X12_taught_j88 at h
  refine j_aload_n 0 dX12_taught_88 rfl rfl ?_
  refine j_iload_n 2 dX12_taught_89 rfl rfl ?_
  refine j_if_ne 110 dX12_taught_90 (by decide) h (fun h => ?_) (fun h => ?_)
  · refine j_iload_n 2 dX12_taught_110 rfl rfl ?_
    refine j_iconst (1 : Int32) dX12_taught_111 ki_1 ?_
    refine j_ic_ne 132 dX12_taught_112 (by decide) h (fun h => ?_) (fun h => ?_)
    · refine j_aload_n 0 dX12_taught_132 rfl rfl ?_
      refine j_getA 153 fl_RX12_199 sh_97 fk_97_77 (by decide) dX12_taught_133 ?_
      refine j_iload_n 1 dX12_taught_136 rfl rfl ?_
      refine j_iald sh_153 dX12_taught_137 h (fun h => ?_)
      refine j_loc [] [] rfl ?_
      exact t_X12_taught_j138 (w.1 153 (ix a1)) w h
    · refine j_aload_n 0 dX12_taught_115 rfl rfl ?_
      refine j_getA 158 fl_RX12_214 sh_97 fk_97_82 (by decide) dX12_taught_116 ?_
      refine j_iload_n 1 dX12_taught_119 rfl rfl ?_
      refine j_zald sh_158 dX12_taught_120 h (fun h => ?_)
      refine j_if_eq 128 dX12_taught_121 (by decide) h (fun h => ?_) (fun h => ?_)
      · refine j_iconst (0 : Int32) dX12_taught_128 ki_0 ?_
        refine j_goto 138 dX12_taught_129 (by decide) ?_
        refine j_loc [] [] rfl ?_
        exact t_X12_taught_j138 (0 : Int32) w h
      · refine j_iconst (1 : Int32) dX12_taught_124 ki_1 ?_
        refine j_goto 138 dX12_taught_125 (by decide) ?_
        refine j_loc [] [] rfl ?_
        exact t_X12_taught_j138 (1 : Int32) w h
  · refine j_aload_n 0 dX12_taught_93 rfl rfl ?_
    refine j_getA 157 fl_RX12_211 sh_97 fk_97_81 (by decide) dX12_taught_94 ?_
    refine j_iload_n 1 dX12_taught_97 rfl rfl ?_
    refine j_zald sh_157 dX12_taught_98 h (fun h => ?_)
    refine j_if_eq 106 dX12_taught_99 (by decide) h (fun h => ?_) (fun h => ?_)
    · refine j_iconst (0 : Int32) dX12_taught_106 ki_0 ?_
      refine j_goto 138 dX12_taught_107 (by decide) ?_
      refine j_loc [] [] rfl ?_
      exact t_X12_taught_j138 (0 : Int32) w h
    · refine j_iconst (1 : Int32) dX12_taught_102 ki_1 ?_
      refine j_goto 138 dX12_taught_103 (by decide) ?_
      refine j_loc [] [] rfl ?_
      exact t_X12_taught_j138 (1 : Int32) w h
noncomputable def X12_taught (a1 : Int32) (a2 : Int32) (a3 : Int32) (w : Wd) : Option (Int32 × Wd) :=
(if (X12_isLearner a1 w) = 0 then
X12_taught_j24 w
else
(if (X12_isWeek a2 w) = 0 then
X12_taught_j24 w
else
(if a3 < 0 then
X12_taught_j24 w
else
(if a3 ≤ (2 : Int32) then
(X12_goAlong (a2 - (1 : Int32)) w).bind fun q3 =>
(X12_teach a2 q3).bind fun q5 =>
gd (vp_in a1 40) <|
(if (q5.1 152 (ix a1)) = (-1 : Int32) then
X12_taught_j81 q5
else
gd (vp_in a1 40) <|
gd (vp_in (q5.1 152 (ix a1)) 12) <|
(if (q5.1 156 (ix (q5.1 152 (ix a1)))) = (-1 : Int32) then
X12_taught_j81 q5
else
(if a3 = (2 : Int32) then
gd (vp_in a1 40) <|
(if (q5.1 158 (ix a1)) = 0 then
X12_taught_j81 q5
else
X12_taught_j88 a1 a3 q5)
else
X12_taught_j88 a1 a3 q5)))
else
X12_taught_j24 w))))
set_option maxRecDepth 20000 in
set_option maxHeartbeats 1000000 in
theorem t_X12_taught {κ : Kx} (a1 : Int32) (a2 : Int32) (a3 : Int32) (w : Wd) (h : ok (X12_taught  a1 a2 a3 w) (PIw κ)) : J κ RX12 cX12_taught 4 (some .int) (rmk 6 157) 0 [(0, .ref (ad (gm κ) 97)), (1, .int a1), (2, .int a2), (3, .int a3)] [] w := by
  unfold X12_taught at h
  refine j_aload_n 0 dX12_taught_0 rfl rfl ?_
  refine j_iload_n 1 dX12_taught_1 rfl rfl ?_
  refine j_callV (As := [.int a1]) (st := []) [.int (X12_isLearner a1 w)] (c_X12_isLearner (kl κ) (gm κ) (kA κ) a1 w) ck_RX12_339 im_X12_isLearner se_X12_isLearner sh_97 cx_12 ⟨rfl, rfl⟩ ⟨by decide, by decide⟩ rfl rfl (Nat.le_of_ble_eq_true rfl) dX12_taught_2 _ rfl ?_
  refine j_if_eq 24 dX12_taught_5 (by decide) h (fun h => ?_) (fun h => ?_)
  · refine j_loc [(0, .ref (ad (gm κ) 97))] [0] rfl ?_
    exact t_X12_taught_j24 w h
  · refine j_iload_n 2 dX12_taught_8 rfl rfl ?_
    refine j_callS (As := [.int a2]) (st := []) [.int (X12_isWeek a2 w)] (c_X12_isWeek (kl κ) (gm κ) (kA κ) a2 w) ck_RX12_322 st_X12_isWeek ⟨rfl, rfl⟩ ⟨by decide, by decide⟩ rfl rfl (Nat.le_of_ble_eq_true rfl) dX12_taught_9 _ rfl ?_
    refine j_if_eq 24 dX12_taught_12 (by decide) h (fun h => ?_) (fun h => ?_)
    · refine j_loc [(0, .ref (ad (gm κ) 97))] [0] rfl ?_
      exact t_X12_taught_j24 w h
    · refine j_iload_n 3 dX12_taught_15 rfl rfl ?_
      refine j_if_lt 24 dX12_taught_16 (by decide) h (fun h => ?_) (fun h => ?_)
      · refine j_loc [(0, .ref (ad (gm κ) 97))] [0] rfl ?_
        exact t_X12_taught_j24 w h
      · refine j_iload_n 3 dX12_taught_19 rfl rfl ?_
        refine j_iconst (2 : Int32) dX12_taught_20 ki_2 ?_
        refine j_ic_le 30 dX12_taught_21 (by decide) h (fun h => ?_) (fun h => ?_)
        · refine j_aload_n 0 dX12_taught_30 rfl rfl ?_
          refine j_iload_n 2 dX12_taught_31 rfl rfl ?_
          refine j_iconst (1 : Int32) dX12_taught_32 ki_1 ?_
          refine j_isub dX12_taught_33 ?_
          obtain ⟨q3, e4, h⟩ := ok_b h
          refine j_callV (As := [.int (a2 - (1 : Int32))]) (st := []) [] (c_X12_goAlong (kl κ) (gm κ) (kA κ) (a2 - (1 : Int32)) w q3 e4) ck_RX12_520 im_X12_goAlong se_X12_goAlong sh_97 cx_12 ⟨rfl, rfl⟩ ⟨by decide, by decide⟩ rfl rfl (Nat.le_of_ble_eq_true rfl) dX12_taught_34 _ rfl ?_
          refine j_aload_n 0 dX12_taught_37 rfl rfl ?_
          refine j_iload_n 2 dX12_taught_38 rfl rfl ?_
          obtain ⟨q5, e6, h⟩ := ok_b h
          refine j_callV (As := [.int a2]) (st := []) [] (c_X12_teach (kl κ) (gm κ) (kA κ) a2 q3 q5 e6) ck_RX12_511 im_X12_teach se_X12_teach sh_97 cx_12 ⟨rfl, rfl⟩ ⟨by decide, by decide⟩ rfl rfl (Nat.le_of_ble_eq_true rfl) dX12_taught_39 _ rfl ?_
          refine j_aload_n 0 dX12_taught_42 rfl rfl ?_
          refine j_getA 152 fl_RX12_196 sh_97 fk_97_76 (by decide) dX12_taught_43 ?_
          refine j_iload_n 1 dX12_taught_46 rfl rfl ?_
          refine j_iald sh_152 dX12_taught_47 h (fun h => ?_)
          refine j_iconst (-1 : Int32) dX12_taught_48 ki_m1 ?_
          refine j_ic_eq 81 dX12_taught_49 (by decide) h (fun h => ?_) (fun h => ?_)
          · refine j_loc [(0, .ref (ad (gm κ) 97))] [0] rfl ?_
            exact t_X12_taught_j81 q5 h
          · refine j_aload_n 0 dX12_taught_52 rfl rfl ?_
            refine j_getA 156 fl_RX12_208 sh_97 fk_97_80 (by decide) dX12_taught_53 ?_
            refine j_aload_n 0 dX12_taught_56 rfl rfl ?_
            refine j_getA 152 fl_RX12_196 sh_97 fk_97_76 (by decide) dX12_taught_57 ?_
            refine j_iload_n 1 dX12_taught_60 rfl rfl ?_
            refine j_iald sh_152 dX12_taught_61 h (fun h => ?_)
            refine j_iald sh_156 dX12_taught_62 h (fun h => ?_)
            refine j_iconst (-1 : Int32) dX12_taught_63 ki_m1 ?_
            refine j_ic_eq 81 dX12_taught_64 (by decide) h (fun h => ?_) (fun h => ?_)
            · refine j_loc [(0, .ref (ad (gm κ) 97))] [0] rfl ?_
              exact t_X12_taught_j81 q5 h
            · refine j_iload_n 3 dX12_taught_67 rfl rfl ?_
              refine j_iconst (2 : Int32) dX12_taught_68 ki_2 ?_
              refine j_ic_ne 88 dX12_taught_69 (by decide) h (fun h => ?_) (fun h => ?_)
              · refine j_loc [(0, .ref (ad (gm κ) 97)), (1, .int a1), (3, .int a3)] [0, 1, 3] rfl ?_
                exact t_X12_taught_j88 a1 a3 q5 h
              · refine j_aload_n 0 dX12_taught_72 rfl rfl ?_
                refine j_getA 158 fl_RX12_214 sh_97 fk_97_82 (by decide) dX12_taught_73 ?_
                refine j_iload_n 1 dX12_taught_76 rfl rfl ?_
                refine j_zald sh_158 dX12_taught_77 h (fun h => ?_)
                refine j_if_ne 88 dX12_taught_78 (by decide) h (fun h => ?_) (fun h => ?_)
                · refine j_loc [(0, .ref (ad (gm κ) 97)), (1, .int a1), (3, .int a3)] [0, 1, 3] rfl ?_
                  exact t_X12_taught_j88 a1 a3 q5 h
                · refine j_loc [(0, .ref (ad (gm κ) 97))] [0] rfl ?_
                  exact t_X12_taught_j81 q5 h
        · refine j_loc [(0, .ref (ad (gm κ) 97))] [0] rfl ?_
          exact t_X12_taught_j24 w h
theorem c_X12_taught (l : Launch) (γ : Gm) (A : Nat → Prop) (a1 : Int32) (a2 : Int32) (a3 : Int32) (w : Wd) (q : Int32 × Wd) (e : X12_taught  a1 a2 a3 w = some q) : MetG l γ A yX12_taught cX12_taught 4 (some .int) (rmk 6 157) [.ref (ad (γ) 97), .int a1, .int a2, .int a3] w (some (.int q.1)) q.2 := by
  refine met_of pn_RX12 (Nat.le_of_ble_eq_true rfl) ?_
  intro κ hl hγ hA hρ
  subst hl; subst hγ; subst hA
  exact t_X12_taught   a1 a2 a3 w ⟨q, e, pIw hρ rfl rfl⟩
theorem dX12_knows_0 : decode cX12_knows 0 = .ok (.aload_n 0, 1) := by decide +kernel
theorem dX12_knows_1 : decode cX12_knows 1 = .ok (.iload_n 1, 1) := by decide +kernel
theorem dX12_knows_2 : decode cX12_knows 2 = .ok (.invokevirtual 339, 3) := by decide +kernel
theorem dX12_knows_5 : decode cX12_knows 5 = .ok (.ifCond .eq 10, 3) := by decide +kernel
theorem dX12_knows_8 : decode cX12_knows 8 = .ok (.iload_n 2, 1) := by decide +kernel
theorem dX12_knows_9 : decode cX12_knows 9 = .ok (.invokestatic 322, 3) := by decide +kernel
theorem dX12_knows_12 : decode cX12_knows 12 = .ok (.ifCond .ne 9, 3) := by decide +kernel
theorem dX12_knows_15 : decode cX12_knows 15 = .ok (.aload_n 0, 1) := by decide +kernel
theorem dX12_knows_16 : decode cX12_knows 16 = .ok (.iconst 1, 1) := by decide +kernel
theorem dX12_knows_17 : decode cX12_knows 17 = .ok (.invokevirtual 312, 3) := by decide +kernel
theorem dX12_knows_20 : decode cX12_knows 20 = .ok (.ireturn, 1) := by decide +kernel
theorem dX12_knows_21 : decode cX12_knows 21 = .ok (.aload_n 0, 1) := by decide +kernel
theorem dX12_knows_22 : decode cX12_knows 22 = .ok (.iload_n 2, 1) := by decide +kernel
theorem dX12_knows_23 : decode cX12_knows 23 = .ok (.invokevirtual 520, 3) := by decide +kernel
theorem dX12_knows_26 : decode cX12_knows 26 = .ok (.aload_n 0, 1) := by decide +kernel
theorem dX12_knows_27 : decode cX12_knows 27 = .ok (.aload_n 0, 1) := by decide +kernel
theorem dX12_knows_28 : decode cX12_knows 28 = .ok (.iload_n 1, 1) := by decide +kernel
theorem dX12_knows_29 : decode cX12_knows 29 = .ok (.invokevirtual 481, 3) := by decide +kernel
theorem dX12_knows_32 : decode cX12_knows 32 = .ok (.invokevirtual 316, 3) := by decide +kernel
theorem dX12_knows_35 : decode cX12_knows 35 = .ok (.ireturn, 1) := by decide +kernel
noncomputable def X12_knows_j15 (w : Wd) : Option (Int32 × Wd) :=
(X12_refuse (1 : Int32) w).bind fun q1 =>
some (q1.1, q1.2)
set_option maxRecDepth 20000 in
set_option maxHeartbeats 1000000 in
theorem t_X12_knows_j15 {κ : Kx} (w : Wd) (h : ok (X12_knows_j15  w) (PIw κ)) : J κ RX12 cX12_knows 3 (some .int) (rmk 6 157) 15 [(0, .ref (ad (gm κ) 97))] [] w := by
  unfold X12_knows_j15 at h
  refine j_aload_n 0 dX12_knows_15 rfl rfl ?_
  refine j_iconst (1 : Int32) dX12_knows_16 ki_1 ?_
  obtain ⟨q1, e2, h⟩ := ok_b h
  refine j_callV (As := [.int (1 : Int32)]) (st := []) [.int q1.1] (c_X12_refuse (kl κ) (gm κ) (kA κ) (1 : Int32) w q1 e2) ck_RX12_312 im_X12_refuse se_X12_refuse sh_97 cx_12 ⟨rfl, rfl⟩ ⟨by decide, by decide⟩ rfl rfl (Nat.le_of_ble_eq_true rfl) dX12_knows_17 _ rfl ?_
  have h := ok_s h
  exact j_iret dX12_knows_20 rfl rfl h
noncomputable def X12_knows (a1 : Int32) (a2 : Int32) (w : Wd) : Option (Int32 × Wd) :=
(if (X12_isLearner a1 w) = 0 then
X12_knows_j15 w
else
(if (X12_isWeek a2 w) = 0 then
X12_knows_j15 w
else
(X12_goAlong a2 w).bind fun q3 =>
(X12_doneSet a1 q3).bind fun q5 =>
(X12_gives q5 q3).bind fun q7 =>
some (q7.1, q7.2)))
set_option maxRecDepth 20000 in
set_option maxHeartbeats 1000000 in
theorem t_X12_knows {κ : Kx} (a1 : Int32) (a2 : Int32) (w : Wd) (h : ok (X12_knows  a1 a2 w) (PIw κ)) : J κ RX12 cX12_knows 3 (some .int) (rmk 6 157) 0 [(0, .ref (ad (gm κ) 97)), (1, .int a1), (2, .int a2)] [] w := by
  unfold X12_knows at h
  refine j_aload_n 0 dX12_knows_0 rfl rfl ?_
  refine j_iload_n 1 dX12_knows_1 rfl rfl ?_
  refine j_callV (As := [.int a1]) (st := []) [.int (X12_isLearner a1 w)] (c_X12_isLearner (kl κ) (gm κ) (kA κ) a1 w) ck_RX12_339 im_X12_isLearner se_X12_isLearner sh_97 cx_12 ⟨rfl, rfl⟩ ⟨by decide, by decide⟩ rfl rfl (Nat.le_of_ble_eq_true rfl) dX12_knows_2 _ rfl ?_
  refine j_if_eq 15 dX12_knows_5 (by decide) h (fun h => ?_) (fun h => ?_)
  · refine j_loc [(0, .ref (ad (gm κ) 97))] [0] rfl ?_
    exact t_X12_knows_j15 w h
  · refine j_iload_n 2 dX12_knows_8 rfl rfl ?_
    refine j_callS (As := [.int a2]) (st := []) [.int (X12_isWeek a2 w)] (c_X12_isWeek (kl κ) (gm κ) (kA κ) a2 w) ck_RX12_322 st_X12_isWeek ⟨rfl, rfl⟩ ⟨by decide, by decide⟩ rfl rfl (Nat.le_of_ble_eq_true rfl) dX12_knows_9 _ rfl ?_
    refine j_if_ne 21 dX12_knows_12 (by decide) h (fun h => ?_) (fun h => ?_)
    · refine j_aload_n 0 dX12_knows_21 rfl rfl ?_
      refine j_iload_n 2 dX12_knows_22 rfl rfl ?_
      obtain ⟨q3, e4, h⟩ := ok_b h
      refine j_callV (As := [.int a2]) (st := []) [] (c_X12_goAlong (kl κ) (gm κ) (kA κ) a2 w q3 e4) ck_RX12_520 im_X12_goAlong se_X12_goAlong sh_97 cx_12 ⟨rfl, rfl⟩ ⟨by decide, by decide⟩ rfl rfl (Nat.le_of_ble_eq_true rfl) dX12_knows_23 _ rfl ?_
      refine j_aload_n 0 dX12_knows_26 rfl rfl ?_
      refine j_aload_n 0 dX12_knows_27 rfl rfl ?_
      refine j_iload_n 1 dX12_knows_28 rfl rfl ?_
      obtain ⟨q5, e6, h⟩ := ok_b h
      refine j_callV (As := [.int a1]) (st := [.ref (ad (gm κ) 97)]) [.int q5, .ref (ad (gm κ) 97)] (c_X12_doneSet (kl κ) (gm κ) (kA κ) a1 q3 q5 e6) ck_RX12_481 im_X12_doneSet se_X12_doneSet sh_97 cx_12 ⟨rfl, rfl⟩ ⟨by decide, by decide⟩ rfl rfl (Nat.le_of_ble_eq_true rfl) dX12_knows_29 _ rfl ?_
      obtain ⟨q7, e8, h⟩ := ok_b h
      refine j_callV (As := [.int q5]) (st := []) [.int q7.1] (c_X12_gives (kl κ) (gm κ) (kA κ) q5 q3 q7 e8) ck_RX12_316 im_X12_gives se_X12_gives sh_97 cx_12 ⟨rfl, rfl⟩ ⟨by decide, by decide⟩ rfl rfl (Nat.le_of_ble_eq_true rfl) dX12_knows_32 _ rfl ?_
      have h := ok_s h
      exact j_iret dX12_knows_35 rfl rfl h
    · refine j_loc [(0, .ref (ad (gm κ) 97))] [0] rfl ?_
      exact t_X12_knows_j15 w h
theorem c_X12_knows (l : Launch) (γ : Gm) (A : Nat → Prop) (a1 : Int32) (a2 : Int32) (w : Wd) (q : Int32 × Wd) (e : X12_knows  a1 a2 w = some q) : MetG l γ A yX12_knows cX12_knows 3 (some .int) (rmk 6 157) [.ref (ad (γ) 97), .int a1, .int a2] w (some (.int q.1)) q.2 := by
  refine met_of pn_RX12 (Nat.le_of_ble_eq_true rfl) ?_
  intro κ hl hγ hA hρ
  subst hl; subst hγ; subst hA
  exact t_X12_knows   a1 a2 w ⟨q, e, pIw hρ rfl rfl⟩
theorem dX12_hours_0 : decode cX12_hours 0 = .ok (.aload_n 0, 1) := by decide +kernel
theorem dX12_hours_1 : decode cX12_hours 1 = .ok (.iload_n 1, 1) := by decide +kernel
theorem dX12_hours_2 : decode cX12_hours 2 = .ok (.invokevirtual 339, 3) := by decide +kernel
theorem dX12_hours_5 : decode cX12_hours 5 = .ok (.ifCond .eq 20, 3) := by decide +kernel
theorem dX12_hours_8 : decode cX12_hours 8 = .ok (.iload_n 2, 1) := by decide +kernel
theorem dX12_hours_9 : decode cX12_hours 9 = .ok (.ifCond .lt 16, 3) := by decide +kernel
theorem dX12_hours_12 : decode cX12_hours 12 = .ok (.iload_n 2, 1) := by decide +kernel
theorem dX12_hours_13 : decode cX12_hours 13 = .ok (.bipush 15, 2) := by decide +kernel
theorem dX12_hours_15 : decode cX12_hours 15 = .ok (.if_icmp .ge 10, 3) := by decide +kernel
theorem dX12_hours_18 : decode cX12_hours 18 = .ok (.iload_n 3, 1) := by decide +kernel
theorem dX12_hours_19 : decode cX12_hours 19 = .ok (.invokestatic 322, 3) := by decide +kernel
theorem dX12_hours_22 : decode cX12_hours 22 = .ok (.ifCond .ne 9, 3) := by decide +kernel
theorem dX12_hours_25 : decode cX12_hours 25 = .ok (.aload_n 0, 1) := by decide +kernel
theorem dX12_hours_26 : decode cX12_hours 26 = .ok (.iconst 1, 1) := by decide +kernel
theorem dX12_hours_27 : decode cX12_hours 27 = .ok (.invokevirtual 312, 3) := by decide +kernel
theorem dX12_hours_30 : decode cX12_hours 30 = .ok (.ireturn, 1) := by decide +kernel
theorem dX12_hours_31 : decode cX12_hours 31 = .ok (.aload_n 0, 1) := by decide +kernel
theorem dX12_hours_32 : decode cX12_hours 32 = .ok (.iload_n 3, 1) := by decide +kernel
theorem dX12_hours_33 : decode cX12_hours 33 = .ok (.invokevirtual 520, 3) := by decide +kernel
theorem dX12_hours_36 : decode cX12_hours 36 = .ok (.aload_n 0, 1) := by decide +kernel
theorem dX12_hours_37 : decode cX12_hours 37 = .ok (.aload_n 0, 1) := by decide +kernel
theorem dX12_hours_38 : decode cX12_hours 38 = .ok (.getfield 190, 3) := by decide +kernel
theorem dX12_hours_41 : decode cX12_hours 41 = .ok (.bipush 15, 2) := by decide +kernel
theorem dX12_hours_43 : decode cX12_hours 43 = .ok (.iload_n 1, 1) := by decide +kernel
theorem dX12_hours_44 : decode cX12_hours 44 = .ok (.imul, 1) := by decide +kernel
theorem dX12_hours_45 : decode cX12_hours 45 = .ok (.iload_n 2, 1) := by decide +kernel
theorem dX12_hours_46 : decode cX12_hours 46 = .ok (.iadd, 1) := by decide +kernel
theorem dX12_hours_47 : decode cX12_hours 47 = .ok (.iaload, 1) := by decide +kernel
theorem dX12_hours_48 : decode cX12_hours 48 = .ok (.invokevirtual 316, 3) := by decide +kernel
theorem dX12_hours_51 : decode cX12_hours 51 = .ok (.ireturn, 1) := by decide +kernel
noncomputable def X12_hours_j25 (w : Wd) : Option (Int32 × Wd) :=
(X12_refuse (1 : Int32) w).bind fun q1 =>
some (q1.1, q1.2)
set_option maxRecDepth 20000 in
set_option maxHeartbeats 1000000 in
theorem t_X12_hours_j25 {κ : Kx} (w : Wd) (h : ok (X12_hours_j25  w) (PIw κ)) : J κ RX12 cX12_hours 4 (some .int) (rmk 6 157) 25 [(0, .ref (ad (gm κ) 97))] [] w := by
  unfold X12_hours_j25 at h
  refine j_aload_n 0 dX12_hours_25 rfl rfl ?_
  refine j_iconst (1 : Int32) dX12_hours_26 ki_1 ?_
  obtain ⟨q1, e2, h⟩ := ok_b h
  refine j_callV (As := [.int (1 : Int32)]) (st := []) [.int q1.1] (c_X12_refuse (kl κ) (gm κ) (kA κ) (1 : Int32) w q1 e2) ck_RX12_312 im_X12_refuse se_X12_refuse sh_97 cx_12 ⟨rfl, rfl⟩ ⟨by decide, by decide⟩ rfl rfl (Nat.le_of_ble_eq_true rfl) dX12_hours_27 _ rfl ?_
  have h := ok_s h
  exact j_iret dX12_hours_30 rfl rfl h
noncomputable def X12_hours (a1 : Int32) (a2 : Int32) (a3 : Int32) (w : Wd) : Option (Int32 × Wd) :=
(if (X12_isLearner a1 w) = 0 then
X12_hours_j25 w
else
(if a2 < 0 then
X12_hours_j25 w
else
(if (15 : Int32) ≤ a2 then
X12_hours_j25 w
else
(if (X12_isWeek a3 w) = 0 then
X12_hours_j25 w
else
(X12_goAlong a3 w).bind fun q3 =>
gd (vp_in (((15 : Int32) * a1) + a2) 600) <|
(X12_gives (q3.1 150 (ix (((15 : Int32) * a1) + a2))) q3).bind fun q5 =>
some (q5.1, q5.2)))))
set_option maxRecDepth 20000 in
set_option maxHeartbeats 1000000 in
theorem t_X12_hours {κ : Kx} (a1 : Int32) (a2 : Int32) (a3 : Int32) (w : Wd) (h : ok (X12_hours  a1 a2 a3 w) (PIw κ)) : J κ RX12 cX12_hours 4 (some .int) (rmk 6 157) 0 [(0, .ref (ad (gm κ) 97)), (1, .int a1), (2, .int a2), (3, .int a3)] [] w := by
  unfold X12_hours at h
  refine j_aload_n 0 dX12_hours_0 rfl rfl ?_
  refine j_iload_n 1 dX12_hours_1 rfl rfl ?_
  refine j_callV (As := [.int a1]) (st := []) [.int (X12_isLearner a1 w)] (c_X12_isLearner (kl κ) (gm κ) (kA κ) a1 w) ck_RX12_339 im_X12_isLearner se_X12_isLearner sh_97 cx_12 ⟨rfl, rfl⟩ ⟨by decide, by decide⟩ rfl rfl (Nat.le_of_ble_eq_true rfl) dX12_hours_2 _ rfl ?_
  refine j_if_eq 25 dX12_hours_5 (by decide) h (fun h => ?_) (fun h => ?_)
  · refine j_loc [(0, .ref (ad (gm κ) 97))] [0] rfl ?_
    exact t_X12_hours_j25 w h
  · refine j_iload_n 2 dX12_hours_8 rfl rfl ?_
    refine j_if_lt 25 dX12_hours_9 (by decide) h (fun h => ?_) (fun h => ?_)
    · refine j_loc [(0, .ref (ad (gm κ) 97))] [0] rfl ?_
      exact t_X12_hours_j25 w h
    · refine j_iload_n 2 dX12_hours_12 rfl rfl ?_
      refine j_bipush (15 : Int32) dX12_hours_13 kb_15 ?_
      refine j_ic_ge 25 dX12_hours_15 (by decide) h (fun h => ?_) (fun h => ?_)
      · refine j_loc [(0, .ref (ad (gm κ) 97))] [0] rfl ?_
        exact t_X12_hours_j25 w h
      · refine j_iload_n 3 dX12_hours_18 rfl rfl ?_
        refine j_callS (As := [.int a3]) (st := []) [.int (X12_isWeek a3 w)] (c_X12_isWeek (kl κ) (gm κ) (kA κ) a3 w) ck_RX12_322 st_X12_isWeek ⟨rfl, rfl⟩ ⟨by decide, by decide⟩ rfl rfl (Nat.le_of_ble_eq_true rfl) dX12_hours_19 _ rfl ?_
        refine j_if_ne 31 dX12_hours_22 (by decide) h (fun h => ?_) (fun h => ?_)
        · refine j_aload_n 0 dX12_hours_31 rfl rfl ?_
          refine j_iload_n 3 dX12_hours_32 rfl rfl ?_
          obtain ⟨q3, e4, h⟩ := ok_b h
          refine j_callV (As := [.int a3]) (st := []) [] (c_X12_goAlong (kl κ) (gm κ) (kA κ) a3 w q3 e4) ck_RX12_520 im_X12_goAlong se_X12_goAlong sh_97 cx_12 ⟨rfl, rfl⟩ ⟨by decide, by decide⟩ rfl rfl (Nat.le_of_ble_eq_true rfl) dX12_hours_33 _ rfl ?_
          refine j_aload_n 0 dX12_hours_36 rfl rfl ?_
          refine j_aload_n 0 dX12_hours_37 rfl rfl ?_
          refine j_getA 150 fl_RX12_190 sh_97 fk_97_74 (by decide) dX12_hours_38 ?_
          refine j_bipush (15 : Int32) dX12_hours_41 kb_15 ?_
          refine j_iload_n 1 dX12_hours_43 rfl rfl ?_
          refine j_imul dX12_hours_44 ?_
          refine j_iload_n 2 dX12_hours_45 rfl rfl ?_
          refine j_iadd dX12_hours_46 ?_
          refine j_iald sh_150 dX12_hours_47 h (fun h => ?_)
          obtain ⟨q5, e6, h⟩ := ok_b h
          refine j_callV (As := [.int (q3.1 150 (ix (((15 : Int32) * a1) + a2)))]) (st := []) [.int q5.1] (c_X12_gives (kl κ) (gm κ) (kA κ) (q3.1 150 (ix (((15 : Int32) * a1) + a2))) q3 q5 e6) ck_RX12_316 im_X12_gives se_X12_gives sh_97 cx_12 ⟨rfl, rfl⟩ ⟨by decide, by decide⟩ rfl rfl (Nat.le_of_ble_eq_true rfl) dX12_hours_48 _ rfl ?_
          have h := ok_s h
          exact j_iret dX12_hours_51 rfl rfl h
        · refine j_loc [(0, .ref (ad (gm κ) 97))] [0] rfl ?_
          exact t_X12_hours_j25 w h
theorem c_X12_hours (l : Launch) (γ : Gm) (A : Nat → Prop) (a1 : Int32) (a2 : Int32) (a3 : Int32) (w : Wd) (q : Int32 × Wd) (e : X12_hours  a1 a2 a3 w = some q) : MetG l γ A yX12_hours cX12_hours 4 (some .int) (rmk 6 157) [.ref (ad (γ) 97), .int a1, .int a2, .int a3] w (some (.int q.1)) q.2 := by
  refine met_of pn_RX12 (Nat.le_of_ble_eq_true rfl) ?_
  intro κ hl hγ hA hρ
  subst hl; subst hγ; subst hA
  exact t_X12_hours   a1 a2 a3 w ⟨q, e, pIw hρ rfl rfl⟩
theorem dX12_gap_0 : decode cX12_gap 0 = .ok (.aload_n 0, 1) := by decide +kernel
theorem dX12_gap_1 : decode cX12_gap 1 = .ok (.iload_n 1, 1) := by decide +kernel
theorem dX12_gap_2 : decode cX12_gap 2 = .ok (.invokevirtual 339, 3) := by decide +kernel
theorem dX12_gap_5 : decode cX12_gap 5 = .ok (.ifCond .eq 10, 3) := by decide +kernel
theorem dX12_gap_8 : decode cX12_gap 8 = .ok (.iload_n 2, 1) := by decide +kernel
theorem dX12_gap_9 : decode cX12_gap 9 = .ok (.invokestatic 322, 3) := by decide +kernel
theorem dX12_gap_12 : decode cX12_gap 12 = .ok (.ifCond .ne 9, 3) := by decide +kernel
theorem dX12_gap_15 : decode cX12_gap 15 = .ok (.aload_n 0, 1) := by decide +kernel
theorem dX12_gap_16 : decode cX12_gap 16 = .ok (.iconst 1, 1) := by decide +kernel
theorem dX12_gap_17 : decode cX12_gap 17 = .ok (.invokevirtual 312, 3) := by decide +kernel
theorem dX12_gap_20 : decode cX12_gap 20 = .ok (.ireturn, 1) := by decide +kernel
theorem dX12_gap_21 : decode cX12_gap 21 = .ok (.aload_n 0, 1) := by decide +kernel
theorem dX12_gap_22 : decode cX12_gap 22 = .ok (.iload_n 2, 1) := by decide +kernel
theorem dX12_gap_23 : decode cX12_gap 23 = .ok (.invokevirtual 520, 3) := by decide +kernel
theorem dX12_gap_26 : decode cX12_gap 26 = .ok (.aload_n 0, 1) := by decide +kernel
theorem dX12_gap_27 : decode cX12_gap 27 = .ok (.aload_n 0, 1) := by decide +kernel
theorem dX12_gap_28 : decode cX12_gap 28 = .ok (.getfield 193, 3) := by decide +kernel
theorem dX12_gap_31 : decode cX12_gap 31 = .ok (.iload_n 1, 1) := by decide +kernel
theorem dX12_gap_32 : decode cX12_gap 32 = .ok (.iaload, 1) := by decide +kernel
theorem dX12_gap_33 : decode cX12_gap 33 = .ok (.invokevirtual 316, 3) := by decide +kernel
theorem dX12_gap_36 : decode cX12_gap 36 = .ok (.ireturn, 1) := by decide +kernel
noncomputable def X12_gap_j15 (w : Wd) : Option (Int32 × Wd) :=
(X12_refuse (1 : Int32) w).bind fun q1 =>
some (q1.1, q1.2)
set_option maxRecDepth 20000 in
set_option maxHeartbeats 1000000 in
theorem t_X12_gap_j15 {κ : Kx} (w : Wd) (h : ok (X12_gap_j15  w) (PIw κ)) : J κ RX12 cX12_gap 3 (some .int) (rmk 6 157) 15 [(0, .ref (ad (gm κ) 97))] [] w := by
  unfold X12_gap_j15 at h
  refine j_aload_n 0 dX12_gap_15 rfl rfl ?_
  refine j_iconst (1 : Int32) dX12_gap_16 ki_1 ?_
  obtain ⟨q1, e2, h⟩ := ok_b h
  refine j_callV (As := [.int (1 : Int32)]) (st := []) [.int q1.1] (c_X12_refuse (kl κ) (gm κ) (kA κ) (1 : Int32) w q1 e2) ck_RX12_312 im_X12_refuse se_X12_refuse sh_97 cx_12 ⟨rfl, rfl⟩ ⟨by decide, by decide⟩ rfl rfl (Nat.le_of_ble_eq_true rfl) dX12_gap_17 _ rfl ?_
  have h := ok_s h
  exact j_iret dX12_gap_20 rfl rfl h
noncomputable def X12_gap (a1 : Int32) (a2 : Int32) (w : Wd) : Option (Int32 × Wd) :=
(if (X12_isLearner a1 w) = 0 then
X12_gap_j15 w
else
(if (X12_isWeek a2 w) = 0 then
X12_gap_j15 w
else
(X12_goAlong a2 w).bind fun q3 =>
gd (vp_in a1 40) <|
(X12_gives (q3.1 151 (ix a1)) q3).bind fun q5 =>
some (q5.1, q5.2)))
set_option maxRecDepth 20000 in
set_option maxHeartbeats 1000000 in
theorem t_X12_gap {κ : Kx} (a1 : Int32) (a2 : Int32) (w : Wd) (h : ok (X12_gap  a1 a2 w) (PIw κ)) : J κ RX12 cX12_gap 3 (some .int) (rmk 6 157) 0 [(0, .ref (ad (gm κ) 97)), (1, .int a1), (2, .int a2)] [] w := by
  unfold X12_gap at h
  refine j_aload_n 0 dX12_gap_0 rfl rfl ?_
  refine j_iload_n 1 dX12_gap_1 rfl rfl ?_
  refine j_callV (As := [.int a1]) (st := []) [.int (X12_isLearner a1 w)] (c_X12_isLearner (kl κ) (gm κ) (kA κ) a1 w) ck_RX12_339 im_X12_isLearner se_X12_isLearner sh_97 cx_12 ⟨rfl, rfl⟩ ⟨by decide, by decide⟩ rfl rfl (Nat.le_of_ble_eq_true rfl) dX12_gap_2 _ rfl ?_
  refine j_if_eq 15 dX12_gap_5 (by decide) h (fun h => ?_) (fun h => ?_)
  · refine j_loc [(0, .ref (ad (gm κ) 97))] [0] rfl ?_
    exact t_X12_gap_j15 w h
  · refine j_iload_n 2 dX12_gap_8 rfl rfl ?_
    refine j_callS (As := [.int a2]) (st := []) [.int (X12_isWeek a2 w)] (c_X12_isWeek (kl κ) (gm κ) (kA κ) a2 w) ck_RX12_322 st_X12_isWeek ⟨rfl, rfl⟩ ⟨by decide, by decide⟩ rfl rfl (Nat.le_of_ble_eq_true rfl) dX12_gap_9 _ rfl ?_
    refine j_if_ne 21 dX12_gap_12 (by decide) h (fun h => ?_) (fun h => ?_)
    · refine j_aload_n 0 dX12_gap_21 rfl rfl ?_
      refine j_iload_n 2 dX12_gap_22 rfl rfl ?_
      obtain ⟨q3, e4, h⟩ := ok_b h
      refine j_callV (As := [.int a2]) (st := []) [] (c_X12_goAlong (kl κ) (gm κ) (kA κ) a2 w q3 e4) ck_RX12_520 im_X12_goAlong se_X12_goAlong sh_97 cx_12 ⟨rfl, rfl⟩ ⟨by decide, by decide⟩ rfl rfl (Nat.le_of_ble_eq_true rfl) dX12_gap_23 _ rfl ?_
      refine j_aload_n 0 dX12_gap_26 rfl rfl ?_
      refine j_aload_n 0 dX12_gap_27 rfl rfl ?_
      refine j_getA 151 fl_RX12_193 sh_97 fk_97_75 (by decide) dX12_gap_28 ?_
      refine j_iload_n 1 dX12_gap_31 rfl rfl ?_
      refine j_iald sh_151 dX12_gap_32 h (fun h => ?_)
      obtain ⟨q5, e6, h⟩ := ok_b h
      refine j_callV (As := [.int (q3.1 151 (ix a1))]) (st := []) [.int q5.1] (c_X12_gives (kl κ) (gm κ) (kA κ) (q3.1 151 (ix a1)) q3 q5 e6) ck_RX12_316 im_X12_gives se_X12_gives sh_97 cx_12 ⟨rfl, rfl⟩ ⟨by decide, by decide⟩ rfl rfl (Nat.le_of_ble_eq_true rfl) dX12_gap_33 _ rfl ?_
      have h := ok_s h
      exact j_iret dX12_gap_36 rfl rfl h
    · refine j_loc [(0, .ref (ad (gm κ) 97))] [0] rfl ?_
      exact t_X12_gap_j15 w h
theorem c_X12_gap (l : Launch) (γ : Gm) (A : Nat → Prop) (a1 : Int32) (a2 : Int32) (w : Wd) (q : Int32 × Wd) (e : X12_gap  a1 a2 w = some q) : MetG l γ A yX12_gap cX12_gap 3 (some .int) (rmk 6 157) [.ref (ad (γ) 97), .int a1, .int a2] w (some (.int q.1)) q.2 := by
  refine met_of pn_RX12 (Nat.le_of_ble_eq_true rfl) ?_
  intro κ hl hγ hA hρ
  subst hl; subst hγ; subst hA
  exact t_X12_gap   a1 a2 w ⟨q, e, pIw hρ rfl rfl⟩
theorem dX12_foretold_0 : decode cX12_foretold 0 = .ok (.aload_n 0, 1) := by decide +kernel
theorem dX12_foretold_1 : decode cX12_foretold 1 = .ok (.iload_n 1, 1) := by decide +kernel
theorem dX12_foretold_2 : decode cX12_foretold 2 = .ok (.invokevirtual 339, 3) := by decide +kernel
theorem dX12_foretold_5 : decode cX12_foretold 5 = .ok (.ifCond .eq 32, 3) := by decide +kernel
theorem dX12_foretold_8 : decode cX12_foretold 8 = .ok (.iload_n 2, 1) := by decide +kernel
theorem dX12_foretold_9 : decode cX12_foretold 9 = .ok (.invokestatic 322, 3) := by decide +kernel
theorem dX12_foretold_12 : decode cX12_foretold 12 = .ok (.ifCond .eq 25, 3) := by decide +kernel
theorem dX12_foretold_15 : decode cX12_foretold 15 = .ok (.iload_n 3, 1) := by decide +kernel
theorem dX12_foretold_16 : decode cX12_foretold 16 = .ok (.ifCond .lt 21, 3) := by decide +kernel
theorem dX12_foretold_19 : decode cX12_foretold 19 = .ok (.iload_n 3, 1) := by decide +kernel
theorem dX12_foretold_20 : decode cX12_foretold 20 = .ok (.bipush 60, 2) := by decide +kernel
theorem dX12_foretold_22 : decode cX12_foretold 22 = .ok (.if_icmp .gt 15, 3) := by decide +kernel
theorem dX12_foretold_25 : decode cX12_foretold 25 = .ok (.iload 4, 2) := by decide +kernel
theorem dX12_foretold_27 : decode cX12_foretold 27 = .ok (.ifCond .lt 10, 3) := by decide +kernel
theorem dX12_foretold_30 : decode cX12_foretold 30 = .ok (.iload 4, 2) := by decide +kernel
theorem dX12_foretold_32 : decode cX12_foretold 32 = .ok (.bipush 60, 2) := by decide +kernel
theorem dX12_foretold_34 : decode cX12_foretold 34 = .ok (.if_icmp .le 9, 3) := by decide +kernel
theorem dX12_foretold_37 : decode cX12_foretold 37 = .ok (.aload_n 0, 1) := by decide +kernel
theorem dX12_foretold_38 : decode cX12_foretold 38 = .ok (.iconst 1, 1) := by decide +kernel
theorem dX12_foretold_39 : decode cX12_foretold 39 = .ok (.invokevirtual 312, 3) := by decide +kernel
theorem dX12_foretold_42 : decode cX12_foretold 42 = .ok (.ireturn, 1) := by decide +kernel
theorem dX12_foretold_43 : decode cX12_foretold 43 = .ok (.aload_n 0, 1) := by decide +kernel
theorem dX12_foretold_44 : decode cX12_foretold 44 = .ok (.iload_n 2, 1) := by decide +kernel
theorem dX12_foretold_45 : decode cX12_foretold 45 = .ok (.invokevirtual 520, 3) := by decide +kernel
theorem dX12_foretold_48 : decode cX12_foretold 48 = .ok (.iconst 0, 1) := by decide +kernel
theorem dX12_foretold_49 : decode cX12_foretold 49 = .ok (.istore 5, 2) := by decide +kernel
theorem dX12_foretold_51 : decode cX12_foretold 51 = .ok (.iload 5, 2) := by decide +kernel
theorem dX12_foretold_53 : decode cX12_foretold 53 = .ok (.iload_n 3, 1) := by decide +kernel
theorem dX12_foretold_54 : decode cX12_foretold 54 = .ok (.if_icmp .ge 36, 3) := by decide +kernel
theorem dX12_foretold_57 : decode cX12_foretold 57 = .ok (.iload 4, 2) := by decide +kernel
theorem dX12_foretold_59 : decode cX12_foretold 59 = .ok (.ifCond .ne 11, 3) := by decide +kernel
theorem dX12_foretold_62 : decode cX12_foretold 62 = .ok (.aload_n 0, 1) := by decide +kernel
theorem dX12_foretold_63 : decode cX12_foretold 63 = .ok (.iload_n 1, 1) := by decide +kernel
theorem dX12_foretold_64 : decode cX12_foretold 64 = .ok (.invokevirtual 517, 3) := by decide +kernel
theorem dX12_foretold_67 : decode cX12_foretold 67 = .ok (.goto 17, 3) := by decide +kernel
theorem dX12_foretold_70 : decode cX12_foretold 70 = .ok (.aload_n 0, 1) := by decide +kernel
theorem dX12_foretold_71 : decode cX12_foretold 71 = .ok (.getfield 193, 3) := by decide +kernel
theorem dX12_foretold_74 : decode cX12_foretold 74 = .ok (.iload_n 1, 1) := by decide +kernel
theorem dX12_foretold_75 : decode cX12_foretold 75 = .ok (.iconst 0, 1) := by decide +kernel
theorem dX12_foretold_76 : decode cX12_foretold 76 = .ok (.iastore, 1) := by decide +kernel
theorem dX12_foretold_77 : decode cX12_foretold 77 = .ok (.aload_n 0, 1) := by decide +kernel
theorem dX12_foretold_78 : decode cX12_foretold 78 = .ok (.iload_n 1, 1) := by decide +kernel
theorem dX12_foretold_79 : decode cX12_foretold 79 = .ok (.iload 4, 2) := by decide +kernel
theorem dX12_foretold_81 : decode cX12_foretold 81 = .ok (.invokevirtual 514, 3) := by decide +kernel
theorem dX12_foretold_84 : decode cX12_foretold 84 = .ok (.iinc 5 1, 3) := by decide +kernel
theorem dX12_foretold_87 : decode cX12_foretold 87 = .ok (.goto (-36), 3) := by decide +kernel
theorem dX12_foretold_90 : decode cX12_foretold 90 = .ok (.aload_n 0, 1) := by decide +kernel
theorem dX12_foretold_91 : decode cX12_foretold 91 = .ok (.aload_n 0, 1) := by decide +kernel
theorem dX12_foretold_92 : decode cX12_foretold 92 = .ok (.iload_n 1, 1) := by decide +kernel
theorem dX12_foretold_93 : decode cX12_foretold 93 = .ok (.invokevirtual 481, 3) := by decide +kernel
theorem dX12_foretold_96 : decode cX12_foretold 96 = .ok (.invokevirtual 316, 3) := by decide +kernel
theorem dX12_foretold_99 : decode cX12_foretold 99 = .ok (.ireturn, 1) := by decide +kernel
noncomputable def X12_foretold_j37 (w : Wd) : Option (Int32 × Wd) :=
(X12_refuse (1 : Int32) w).bind fun q1 =>
some (q1.1, q1.2)
set_option maxRecDepth 20000 in
set_option maxHeartbeats 1000000 in
theorem t_X12_foretold_j37 {κ : Kx} (w : Wd) (h : ok (X12_foretold_j37  w) (PIw κ)) : J κ RX12 cX12_foretold 6 (some .int) (rmk 6 157) 37 [(0, .ref (ad (gm κ) 97))] [] w := by
  unfold X12_foretold_j37 at h
  refine j_aload_n 0 dX12_foretold_37 rfl rfl ?_
  refine j_iconst (1 : Int32) dX12_foretold_38 ki_1 ?_
  obtain ⟨q1, e2, h⟩ := ok_b h
  refine j_callV (As := [.int (1 : Int32)]) (st := []) [.int q1.1] (c_X12_refuse (kl κ) (gm κ) (kA κ) (1 : Int32) w q1 e2) ck_RX12_312 im_X12_refuse se_X12_refuse sh_97 cx_12 ⟨rfl, rfl⟩ ⟨by decide, by decide⟩ rfl rfl (Nat.le_of_ble_eq_true rfl) dX12_foretold_39 _ rfl ?_
  have h := ok_s h
  exact j_iret dX12_foretold_42 rfl rfl h
noncomputable def X12_foretold_j84 (a1 : Int32) (a3 : Int32) (a4 : Int32) (a5 : Int32) (w : Wd) : Option ((Int32 × Wd) ⊕ Wd) :=
some (.inl ((a5 + (1 : Int32)), w))
set_option maxRecDepth 20000 in
set_option maxHeartbeats 1000000 in
theorem t_X12_foretold_j84 {κ : Kx} (a1 : Int32) (a3 : Int32) (a4 : Int32) (a5 : Int32) (w : Wd) {G : (Int32 × Wd) → Prop} {P : Wd → Prop} (KG : ∀ s, G s → J κ RX12 cX12_foretold 6 (some .int) (rmk 6 157) 51 [(0, .ref (ad (gm κ) 97)), (1, .int a1), (3, .int a3), (4, .int a4), (5, .int s.1)] [] s.2) (K0 : ∀ e, P e → J κ RX12 cX12_foretold 6 (some .int) (rmk 6 157) 90 [(0, .ref (ad (gm κ) 97)), (1, .int a1)] [] e) (h : ok (X12_foretold_j84  a1 a3 a4 a5 w) (sel G P)) : J κ RX12 cX12_foretold 6 (some .int) (rmk 6 157) 84 [(0, .ref (ad (gm κ) 97)), (1, .int a1), (3, .int a3), (4, .int a4), (5, .int a5)] [] w := by
  unfold X12_foretold_j84 at h
  refine j_iinc (a5 + (1 : Int32)) 4 [(5, .int (a5 + (1 : Int32))), (0, .ref (ad (gm κ) 97)), (1, .int a1), (3, .int a3), (4, .int a4)] dX12_foretold_84 rfl (by rw [kn_1]) (by decide) rfl ?_
  refine j_goto 51 dX12_foretold_87 (by decide) ?_
  refine j_loc [(0, .ref (ad (gm κ) 97)), (1, .int a1), (3, .int a3), (4, .int a4), (5, .int (a5 + (1 : Int32)))] [1, 2, 3, 4, 0] rfl ?_
  have h := sel_l h
  have h := KG _ h
  exact h
noncomputable def X12_foretold_b51 (a1 : Int32) (a3 : Int32) (a4 : Int32) (s : (Int32 × Wd)) : Option ((Int32 × Wd) ⊕ Wd) :=
(if a3 ≤ s.1 then
some (.inr s.2)
else
(if a4 = 0 then
(X12_misses a1 s.2).bind fun q8 =>
X12_foretold_j84 a1 a3 a4 s.1 q8
else
gd (vp_in a1 40) <|
(some (puI s.2 151 (ix a1) (0 : Int32))).bind fun w5 =>
(X12_learns a1 a4 w5).bind fun q6 =>
X12_foretold_j84 a1 a3 a4 s.1 q6))
set_option maxRecDepth 20000 in
set_option maxHeartbeats 1000000 in
theorem t_X12_foretold_b51 {κ : Kx} (a1 : Int32) (a3 : Int32) (a4 : Int32) {P : Wd → Prop} (K0 : ∀ e, P e → J κ RX12 cX12_foretold 6 (some .int) (rmk 6 157) 90 [(0, .ref (ad (gm κ) 97)), (1, .int a1)] [] e) (s : (Int32 × Wd)) (h : ok (lp (X12_foretold_b51  a1 a3 a4) s) P) : J κ RX12 cX12_foretold 6 (some .int) (rmk 6 157) 51 [(0, .ref (ad (gm κ) 97)), (1, .int a1), (3, .int a3), (4, .int a4), (5, .int s.1)] [] s.2 := by
  refine lp_ind (fun s => J κ RX12 cX12_foretold 6 (some .int) (rmk 6 157) 51 [(0, .ref (ad (gm κ) 97)), (1, .int a1), (3, .int a3), (4, .int a4), (5, .int s.1)] [] s.2) (fun s h => ?_) s h
  unfold X12_foretold_b51 at h
  refine j_iload 4 dX12_foretold_51 rfl ?_
  refine j_iload_n 2 dX12_foretold_53 rfl rfl ?_
  refine j_ic_ge 90 dX12_foretold_54 (by decide) h (fun h => ?_) (fun h => ?_)
  · refine j_loc [(0, .ref (ad (gm κ) 97)), (1, .int a1)] [0, 1] rfl ?_
    have h := sel_r h
    have h := K0 _ h
    exact h
  · refine j_iload 3 dX12_foretold_57 rfl ?_
    refine j_if_ne 70 dX12_foretold_59 (by decide) h (fun h => ?_) (fun h => ?_)
    · refine j_aload_n 0 dX12_foretold_70 rfl rfl ?_
      refine j_getA 151 fl_RX12_193 sh_97 fk_97_75 (by decide) dX12_foretold_71 ?_
      refine j_iload_n 1 dX12_foretold_74 rfl rfl ?_
      refine j_iconst (0 : Int32) dX12_foretold_75 ki_0 ?_
      refine j_iast sh_151 dX12_foretold_76 h (fun h => ?_)
      refine j_lW h (fun w5 h => ?_)
      refine j_aload_n 0 dX12_foretold_77 rfl rfl ?_
      refine j_iload_n 1 dX12_foretold_78 rfl rfl ?_
      refine j_iload 3 dX12_foretold_79 rfl ?_
      obtain ⟨q6, e7, h⟩ := ok_b h
      refine j_callV (As := [.int a1, .int a4]) (st := []) [] (c_X12_learns (kl κ) (gm κ) (kA κ) a1 a4 w5 q6 e7) ck_RX12_514 im_X12_learns se_X12_learns sh_97 cx_12 ⟨rfl, rfl⟩ ⟨by decide, by decide⟩ rfl rfl (Nat.le_of_ble_eq_true rfl) dX12_foretold_81 _ rfl ?_
      refine j_loc [(0, .ref (ad (gm κ) 97)), (1, .int a1), (3, .int a3), (4, .int a4), (5, .int s.1)] [0, 1, 2, 3, 4] rfl ?_
      exact t_X12_foretold_j84 a1 a3 a4 s.1 q6 (fun _ h => h) K0 h
    · refine j_aload_n 0 dX12_foretold_62 rfl rfl ?_
      refine j_iload_n 1 dX12_foretold_63 rfl rfl ?_
      obtain ⟨q8, e9, h⟩ := ok_b h
      refine j_callV (As := [.int a1]) (st := []) [] (c_X12_misses (kl κ) (gm κ) (kA κ) a1 s.2 q8 e9) ck_RX12_517 im_X12_misses se_X12_misses sh_97 cx_12 ⟨rfl, rfl⟩ ⟨by decide, by decide⟩ rfl rfl (Nat.le_of_ble_eq_true rfl) dX12_foretold_64 _ rfl ?_
      refine j_goto 84 dX12_foretold_67 (by decide) ?_
      refine j_loc [(0, .ref (ad (gm κ) 97)), (1, .int a1), (3, .int a3), (4, .int a4), (5, .int s.1)] [0, 1, 2, 3, 4] rfl ?_
      exact t_X12_foretold_j84 a1 a3 a4 s.1 q8 (fun _ h => h) K0 h
noncomputable def X12_foretold (a1 : Int32) (a2 : Int32) (a3 : Int32) (a4 : Int32) (w : Wd) : Option (Int32 × Wd) :=
(if (X12_isLearner a1 w) = 0 then
X12_foretold_j37 w
else
(if (X12_isWeek a2 w) = 0 then
X12_foretold_j37 w
else
(if a3 < 0 then
X12_foretold_j37 w
else
(if (60 : Int32) < a3 then
X12_foretold_j37 w
else
(if a4 < 0 then
X12_foretold_j37 w
else
(if a4 ≤ (60 : Int32) then
(X12_goAlong a2 w).bind fun q3 =>
(lp (X12_foretold_b51 a1 a3 a4) ((0 : Int32), q3)).bind fun e10 =>
(X12_doneSet a1 e10).bind fun q11 =>
(X12_gives q11 e10).bind fun q13 =>
some (q13.1, q13.2)
else
X12_foretold_j37 w))))))
set_option maxRecDepth 20000 in
set_option maxHeartbeats 1000000 in
theorem t_X12_foretold {κ : Kx} (a1 : Int32) (a2 : Int32) (a3 : Int32) (a4 : Int32) (w : Wd) (h : ok (X12_foretold  a1 a2 a3 a4 w) (PIw κ)) : J κ RX12 cX12_foretold 6 (some .int) (rmk 6 157) 0 [(0, .ref (ad (gm κ) 97)), (1, .int a1), (2, .int a2), (3, .int a3), (4, .int a4)] [] w := by
  unfold X12_foretold at h
  refine j_aload_n 0 dX12_foretold_0 rfl rfl ?_
  refine j_iload_n 1 dX12_foretold_1 rfl rfl ?_
  refine j_callV (As := [.int a1]) (st := []) [.int (X12_isLearner a1 w)] (c_X12_isLearner (kl κ) (gm κ) (kA κ) a1 w) ck_RX12_339 im_X12_isLearner se_X12_isLearner sh_97 cx_12 ⟨rfl, rfl⟩ ⟨by decide, by decide⟩ rfl rfl (Nat.le_of_ble_eq_true rfl) dX12_foretold_2 _ rfl ?_
  refine j_if_eq 37 dX12_foretold_5 (by decide) h (fun h => ?_) (fun h => ?_)
  · refine j_loc [(0, .ref (ad (gm κ) 97))] [0] rfl ?_
    exact t_X12_foretold_j37 w h
  · refine j_iload_n 2 dX12_foretold_8 rfl rfl ?_
    refine j_callS (As := [.int a2]) (st := []) [.int (X12_isWeek a2 w)] (c_X12_isWeek (kl κ) (gm κ) (kA κ) a2 w) ck_RX12_322 st_X12_isWeek ⟨rfl, rfl⟩ ⟨by decide, by decide⟩ rfl rfl (Nat.le_of_ble_eq_true rfl) dX12_foretold_9 _ rfl ?_
    refine j_if_eq 37 dX12_foretold_12 (by decide) h (fun h => ?_) (fun h => ?_)
    · refine j_loc [(0, .ref (ad (gm κ) 97))] [0] rfl ?_
      exact t_X12_foretold_j37 w h
    · refine j_iload_n 3 dX12_foretold_15 rfl rfl ?_
      refine j_if_lt 37 dX12_foretold_16 (by decide) h (fun h => ?_) (fun h => ?_)
      · refine j_loc [(0, .ref (ad (gm κ) 97))] [0] rfl ?_
        exact t_X12_foretold_j37 w h
      · refine j_iload_n 3 dX12_foretold_19 rfl rfl ?_
        refine j_bipush (60 : Int32) dX12_foretold_20 kb_60 ?_
        refine j_ic_gt 37 dX12_foretold_22 (by decide) h (fun h => ?_) (fun h => ?_)
        · refine j_loc [(0, .ref (ad (gm κ) 97))] [0] rfl ?_
          exact t_X12_foretold_j37 w h
        · refine j_iload 4 dX12_foretold_25 rfl ?_
          refine j_if_lt 37 dX12_foretold_27 (by decide) h (fun h => ?_) (fun h => ?_)
          · refine j_loc [(0, .ref (ad (gm κ) 97))] [0] rfl ?_
            exact t_X12_foretold_j37 w h
          · refine j_iload 4 dX12_foretold_30 rfl ?_
            refine j_bipush (60 : Int32) dX12_foretold_32 kb_60 ?_
            refine j_ic_le 43 dX12_foretold_34 (by decide) h (fun h => ?_) (fun h => ?_)
            · refine j_aload_n 0 dX12_foretold_43 rfl rfl ?_
              refine j_iload_n 2 dX12_foretold_44 rfl rfl ?_
              obtain ⟨q3, e4, h⟩ := ok_b h
              refine j_callV (As := [.int a2]) (st := []) [] (c_X12_goAlong (kl κ) (gm κ) (kA κ) a2 w q3 e4) ck_RX12_520 im_X12_goAlong se_X12_goAlong sh_97 cx_12 ⟨rfl, rfl⟩ ⟨by decide, by decide⟩ rfl rfl (Nat.le_of_ble_eq_true rfl) dX12_foretold_45 _ rfl ?_
              refine j_iconst (0 : Int32) dX12_foretold_48 ki_0 ?_
              refine j_istore [(5, .int (0 : Int32)), (0, .ref (ad (gm κ) 97)), (1, .int a1), (2, .int a2), (3, .int a3), (4, .int a4)] dX12_foretold_49 (by decide) rfl ?_
              refine j_loc [(0, .ref (ad (gm κ) 97)), (1, .int a1), (3, .int a3), (4, .int a4), (5, .int (0 : Int32))] [1, 2, 4, 5, 0] rfl ?_
              refine t_X12_foretold_b51 a1 a3 a4 (fun e10 h => ?_) ((0 : Int32), q3) (ok_bb h)
              · refine j_aload_n 0 dX12_foretold_90 rfl rfl ?_
                refine j_aload_n 0 dX12_foretold_91 rfl rfl ?_
                refine j_iload_n 1 dX12_foretold_92 rfl rfl ?_
                obtain ⟨q11, e12, h⟩ := ok_b h
                refine j_callV (As := [.int a1]) (st := [.ref (ad (gm κ) 97)]) [.int q11, .ref (ad (gm κ) 97)] (c_X12_doneSet (kl κ) (gm κ) (kA κ) a1 e10 q11 e12) ck_RX12_481 im_X12_doneSet se_X12_doneSet sh_97 cx_12 ⟨rfl, rfl⟩ ⟨by decide, by decide⟩ rfl rfl (Nat.le_of_ble_eq_true rfl) dX12_foretold_93 _ rfl ?_
                obtain ⟨q13, e14, h⟩ := ok_b h
                refine j_callV (As := [.int q11]) (st := []) [.int q13.1] (c_X12_gives (kl κ) (gm κ) (kA κ) q11 e10 q13 e14) ck_RX12_316 im_X12_gives se_X12_gives sh_97 cx_12 ⟨rfl, rfl⟩ ⟨by decide, by decide⟩ rfl rfl (Nat.le_of_ble_eq_true rfl) dX12_foretold_96 _ rfl ?_
                have h := ok_s h
                exact j_iret dX12_foretold_99 rfl rfl h
            · refine j_loc [(0, .ref (ad (gm κ) 97))] [0] rfl ?_
              exact t_X12_foretold_j37 w h
theorem c_X12_foretold (l : Launch) (γ : Gm) (A : Nat → Prop) (a1 : Int32) (a2 : Int32) (a3 : Int32) (a4 : Int32) (w : Wd) (q : Int32 × Wd) (e : X12_foretold  a1 a2 a3 a4 w = some q) : MetG l γ A yX12_foretold cX12_foretold 6 (some .int) (rmk 6 157) [.ref (ad (γ) 97), .int a1, .int a2, .int a3, .int a4] w (some (.int q.1)) q.2 := by
  refine met_of pn_RX12 (Nat.le_of_ble_eq_true rfl) ?_
  intro κ hl hγ hA hρ
  subst hl; subst hγ; subst hA
  exact t_X12_foretold   a1 a2 a3 a4 w ⟨q, e, pIw hρ rfl rfl⟩
theorem dX12_isWord_0 : decode cX12_isWord 0 = .ok (.lload_n 0, 1) := by decide +kernel
theorem dX12_isWord_1 : decode cX12_isWord 1 = .ok (.lconst 1, 1) := by decide +kernel
theorem dX12_isWord_2 : decode cX12_isWord 2 = .ok (.lcmp, 1) := by decide +kernel
theorem dX12_isWord_3 : decode cX12_isWord 3 = .ok (.ifCond .lt 11, 3) := by decide +kernel
theorem dX12_isWord_6 : decode cX12_isWord 6 = .ok (.lload_n 0, 1) := by decide +kernel
theorem dX12_isWord_7 : decode cX12_isWord 7 = .ok (.ldc2_w 523, 3) := by decide +kernel
theorem dX12_isWord_10 : decode cX12_isWord 10 = .ok (.lcmp, 1) := by decide +kernel
theorem dX12_isWord_11 : decode cX12_isWord 11 = .ok (.ifCond .lt 5, 3) := by decide +kernel
theorem dX12_isWord_14 : decode cX12_isWord 14 = .ok (.iconst 0, 1) := by decide +kernel
theorem dX12_isWord_15 : decode cX12_isWord 15 = .ok (.ireturn, 1) := by decide +kernel
theorem dX12_isWord_16 : decode cX12_isWord 16 = .ok (.iconst 1, 1) := by decide +kernel
theorem dX12_isWord_17 : decode cX12_isWord 17 = .ok (.istore_n 2, 1) := by decide +kernel
theorem dX12_isWord_18 : decode cX12_isWord 18 = .ok (.lload_n 0, 1) := by decide +kernel
theorem dX12_isWord_19 : decode cX12_isWord 19 = .ok (.lstore_n 3, 1) := by decide +kernel
theorem dX12_isWord_20 : decode cX12_isWord 20 = .ok (.lload_n 3, 1) := by decide +kernel
theorem dX12_isWord_21 : decode cX12_isWord 21 = .ok (.lconst 0, 1) := by decide +kernel
theorem dX12_isWord_22 : decode cX12_isWord 22 = .ok (.lcmp, 1) := by decide +kernel
theorem dX12_isWord_23 : decode cX12_isWord 23 = .ok (.ifCond .le 42, 3) := by decide +kernel
theorem dX12_isWord_26 : decode cX12_isWord 26 = .ok (.iload_n 2, 1) := by decide +kernel
theorem dX12_isWord_27 : decode cX12_isWord 27 = .ok (.ifCond .eq 29, 3) := by decide +kernel
theorem dX12_isWord_30 : decode cX12_isWord 30 = .ok (.lload_n 3, 1) := by decide +kernel
theorem dX12_isWord_31 : decode cX12_isWord 31 = .ok (.ldc2_w 525, 3) := by decide +kernel
theorem dX12_isWord_34 : decode cX12_isWord 34 = .ok (.land, 1) := by decide +kernel
theorem dX12_isWord_35 : decode cX12_isWord 35 = .ok (.lconst 1, 1) := by decide +kernel
theorem dX12_isWord_36 : decode cX12_isWord 36 = .ok (.lcmp, 1) := by decide +kernel
theorem dX12_isWord_37 : decode cX12_isWord 37 = .ok (.ifCond .lt 19, 3) := by decide +kernel
theorem dX12_isWord_40 : decode cX12_isWord 40 = .ok (.lload_n 3, 1) := by decide +kernel
theorem dX12_isWord_41 : decode cX12_isWord 41 = .ok (.ldc2_w 525, 3) := by decide +kernel
theorem dX12_isWord_44 : decode cX12_isWord 44 = .ok (.land, 1) := by decide +kernel
theorem dX12_isWord_45 : decode cX12_isWord 45 = .ok (.ldc2_w 527, 3) := by decide +kernel
theorem dX12_isWord_48 : decode cX12_isWord 48 = .ok (.lcmp, 1) := by decide +kernel
theorem dX12_isWord_49 : decode cX12_isWord 49 = .ok (.ifCond .gt 7, 3) := by decide +kernel
theorem dX12_isWord_52 : decode cX12_isWord 52 = .ok (.iconst 1, 1) := by decide +kernel
theorem dX12_isWord_53 : decode cX12_isWord 53 = .ok (.goto 4, 3) := by decide +kernel
theorem dX12_isWord_56 : decode cX12_isWord 56 = .ok (.iconst 0, 1) := by decide +kernel
theorem dX12_isWord_57 : decode cX12_isWord 57 = .ok (.istore_n 2, 1) := by decide +kernel
theorem dX12_isWord_58 : decode cX12_isWord 58 = .ok (.lload_n 3, 1) := by decide +kernel
theorem dX12_isWord_59 : decode cX12_isWord 59 = .ok (.iconst 5, 1) := by decide +kernel
theorem dX12_isWord_60 : decode cX12_isWord 60 = .ok (.lshr, 1) := by decide +kernel
theorem dX12_isWord_61 : decode cX12_isWord 61 = .ok (.lstore_n 3, 1) := by decide +kernel
theorem dX12_isWord_62 : decode cX12_isWord 62 = .ok (.goto (-42), 3) := by decide +kernel
theorem dX12_isWord_65 : decode cX12_isWord 65 = .ok (.iload_n 2, 1) := by decide +kernel
theorem dX12_isWord_66 : decode cX12_isWord 66 = .ok (.ireturn, 1) := by decide +kernel
noncomputable def X12_isWord_j57 (a3 : Int64) (s0 : Int32) (w : Wd) : Option ((Int32 × Int64) ⊕ Int32) :=
(some (a3 >>> (Int32.toInt64 (5 : Int32) &&& 63))).bind fun z1 =>
some (.inl (s0, z1))
set_option maxRecDepth 20000 in
set_option maxHeartbeats 1000000 in
theorem t_X12_isWord_j57 {κ : Kx} (a3 : Int64) (s0 : Int32) (w : Wd) {G : (Int32 × Int64) → Prop} {P : Int32 → Prop} (KG : ∀ s, G s → J κ RX12 cX12_isWord 5 (some .boolean) (rmk 0 0) 20 [(2, .int s.1), (3, .long s.2)] [] w) (K0 : ∀ e, P e → J κ RX12 cX12_isWord 5 (some .boolean) (rmk 0 0) 65 [(2, .int e)] [] w) (h : ok (X12_isWord_j57  a3 s0 w) (sel G P)) : J κ RX12 cX12_isWord 5 (some .boolean) (rmk 0 0) 57 [(3, .long a3)] [.int s0] w := by
  unfold X12_isWord_j57 at h
  refine j_istore_n [(2, .int s0), (3, .long a3)] dX12_isWord_57 rfl (by decide) rfl ?_
  refine j_lload_n 1 dX12_isWord_58 rfl rfl ?_
  refine j_iconst (5 : Int32) dX12_isWord_59 ki_5 ?_
  refine j_lshr dX12_isWord_60 ?_
  refine j_lJ h (fun z1 h => ?_)
  refine j_lstore_n [(3, .long z1), (2, .int s0)] dX12_isWord_61 rfl (by decide) rfl ?_
  refine j_goto 20 dX12_isWord_62 (by decide) ?_
  refine j_loc [(2, .int s0), (3, .long z1)] [1, 0] rfl ?_
  have h := sel_l h
  have h := KG _ h
  exact h
noncomputable def X12_isWord_j56 (a3 : Int64) (w : Wd) : Option ((Int32 × Int64) ⊕ Int32) :=
X12_isWord_j57 a3 (0 : Int32) w
set_option maxRecDepth 20000 in
set_option maxHeartbeats 1000000 in
theorem t_X12_isWord_j56 {κ : Kx} (a3 : Int64) (w : Wd) {G : (Int32 × Int64) → Prop} {P : Int32 → Prop} (KG : ∀ s, G s → J κ RX12 cX12_isWord 5 (some .boolean) (rmk 0 0) 20 [(2, .int s.1), (3, .long s.2)] [] w) (K0 : ∀ e, P e → J κ RX12 cX12_isWord 5 (some .boolean) (rmk 0 0) 65 [(2, .int e)] [] w) (h : ok (X12_isWord_j56  a3 w) (sel G P)) : J κ RX12 cX12_isWord 5 (some .boolean) (rmk 0 0) 56 [(3, .long a3)] [] w := by
  unfold X12_isWord_j56 at h
  refine j_iconst (0 : Int32) dX12_isWord_56 ki_0 ?_
  refine j_loc [(3, .long a3)] [0] rfl ?_
  exact t_X12_isWord_j57 a3 (0 : Int32) w KG K0 h
noncomputable def X12_isWord_b20 (w : Wd) (s : (Int32 × Int64)) : Option ((Int32 × Int64) ⊕ Int32) :=
(if (lg_cmp s.2 (0 : Int64)) ≤ 0 then
some (.inr s.1)
else
(if s.1 = 0 then
X12_isWord_j56 s.2 w
else
(if (lg_cmp (s.2 &&& (31 : Int64)) (1 : Int64)) < 0 then
X12_isWord_j56 s.2 w
else
(if 0 < (lg_cmp (s.2 &&& (31 : Int64)) (26 : Int64)) then
X12_isWord_j56 s.2 w
else
X12_isWord_j57 s.2 (1 : Int32) w))))
set_option maxRecDepth 20000 in
set_option maxHeartbeats 1000000 in
theorem t_X12_isWord_b20 {κ : Kx} (w : Wd) {P : Int32 → Prop} (K0 : ∀ e, P e → J κ RX12 cX12_isWord 5 (some .boolean) (rmk 0 0) 65 [(2, .int e)] [] w) (s : (Int32 × Int64)) (h : ok (lp (X12_isWord_b20  w) s) P) : J κ RX12 cX12_isWord 5 (some .boolean) (rmk 0 0) 20 [(2, .int s.1), (3, .long s.2)] [] w := by
  refine lp_ind (fun s => J κ RX12 cX12_isWord 5 (some .boolean) (rmk 0 0) 20 [(2, .int s.1), (3, .long s.2)] [] w) (fun s h => ?_) s h
  unfold X12_isWord_b20 at h
  refine j_lload_n 1 dX12_isWord_20 rfl rfl ?_
  refine j_lconst (0 : Int64) dX12_isWord_21 (by decide) ?_
  refine j_lcmp dX12_isWord_22 ?_
  refine j_if_le 65 dX12_isWord_23 (by decide) h (fun h => ?_) (fun h => ?_)
  · refine j_loc [(2, .int s.1)] [0] rfl ?_
    have h := sel_r h
    have h := K0 _ h
    exact h
  · refine j_iload_n 0 dX12_isWord_26 rfl rfl ?_
    refine j_if_eq 56 dX12_isWord_27 (by decide) h (fun h => ?_) (fun h => ?_)
    · refine j_loc [(3, .long s.2)] [1] rfl ?_
      exact t_X12_isWord_j56 s.2 w (fun _ h => h) K0 h
    · refine j_lload_n 1 dX12_isWord_30 rfl rfl ?_
      refine j_ldc2 cl_RX12_525 dX12_isWord_31 ?_
      refine j_land dX12_isWord_34 ?_
      refine j_lconst (1 : Int64) dX12_isWord_35 (by decide) ?_
      refine j_lcmp dX12_isWord_36 ?_
      refine j_if_lt 56 dX12_isWord_37 (by decide) h (fun h => ?_) (fun h => ?_)
      · refine j_loc [(3, .long s.2)] [1] rfl ?_
        exact t_X12_isWord_j56 s.2 w (fun _ h => h) K0 h
      · refine j_lload_n 1 dX12_isWord_40 rfl rfl ?_
        refine j_ldc2 cl_RX12_525 dX12_isWord_41 ?_
        refine j_land dX12_isWord_44 ?_
        refine j_ldc2 cl_RX12_527 dX12_isWord_45 ?_
        refine j_lcmp dX12_isWord_48 ?_
        refine j_if_gt 56 dX12_isWord_49 (by decide) h (fun h => ?_) (fun h => ?_)
        · refine j_loc [(3, .long s.2)] [1] rfl ?_
          exact t_X12_isWord_j56 s.2 w (fun _ h => h) K0 h
        · refine j_iconst (1 : Int32) dX12_isWord_52 ki_1 ?_
          refine j_goto 57 dX12_isWord_53 (by decide) ?_
          refine j_loc [(3, .long s.2)] [1] rfl ?_
          exact t_X12_isWord_j57 s.2 (1 : Int32) w (fun _ h => h) K0 h
noncomputable def X12_isWord (a0 : Int64) (w : Wd) : Option (Int32) :=
(if (lg_cmp a0 (1 : Int64)) < 0 then
some (0 : Int32)
else
(if (lg_cmp a0 (1099511627776 : Int64)) < 0 then
(lp (X12_isWord_b20 w) ((1 : Int32), a0)).bind fun e2 =>
gd (narrow .boolean (.int e2) = .int e2) <|
some e2
else
some (0 : Int32)))
set_option maxRecDepth 20000 in
set_option maxHeartbeats 1000000 in
theorem t_X12_isWord {κ : Kx} (a0 : Int64) (w : Wd) (h : ok (X12_isWord  a0 w) (PI κ w)) : J κ RX12 cX12_isWord 5 (some .boolean) (rmk 0 0) 0 [(0, .long a0)] [] w := by
  unfold X12_isWord at h
  refine j_lload_n 0 dX12_isWord_0 rfl rfl ?_
  refine j_lconst (1 : Int64) dX12_isWord_1 (by decide) ?_
  refine j_lcmp dX12_isWord_2 ?_
  refine j_if_lt 14 dX12_isWord_3 (by decide) h (fun h => ?_) (fun h => ?_)
  · refine j_iconst (0 : Int32) dX12_isWord_14 ki_0 ?_
    have h := ok_s h
    exact j_iret dX12_isWord_15 rfl (by decide) h
  · refine j_lload_n 0 dX12_isWord_6 rfl rfl ?_
    refine j_ldc2 cl_RX12_523 dX12_isWord_7 ?_
    refine j_lcmp dX12_isWord_10 ?_
    refine j_if_lt 16 dX12_isWord_11 (by decide) h (fun h => ?_) (fun h => ?_)
    · refine j_iconst (1 : Int32) dX12_isWord_16 ki_1 ?_
      refine j_istore_n [(2, .int (1 : Int32)), (0, .long a0)] dX12_isWord_17 rfl (by decide) rfl ?_
      refine j_lload_n 1 dX12_isWord_18 rfl rfl ?_
      refine j_lstore_n [(3, .long a0), (2, .int (1 : Int32)), (0, .long a0)] dX12_isWord_19 rfl (by decide) rfl ?_
      refine j_loc [(2, .int (1 : Int32)), (3, .long a0)] [1, 0] rfl ?_
      refine t_X12_isWord_b20 w (fun e2 h => ?_) ((1 : Int32), a0) (ok_bb h)
      · refine j_iload_n 0 dX12_isWord_65 rfl rfl ?_
        obtain ⟨hz, h⟩ := ok_g h
        have h := ok_s h
        exact j_iret dX12_isWord_66 rfl hz h
    · refine j_iconst (0 : Int32) dX12_isWord_14 ki_0 ?_
      have h := ok_s h
      exact j_iret dX12_isWord_15 rfl (by decide) h
theorem c_X12_isWord (l : Launch) (γ : Gm) (A : Nat → Prop) (a0 : Int64) (w : Wd) (q : Int32) (e : X12_isWord  a0 w = some q) : MetG l γ A yX12_isWord cX12_isWord 5 (some .boolean) (rmk 0 0) [.long a0] w (some (.int q)) w := by
  refine met_of pn_RX12 (Nat.le_of_ble_eq_true rfl) ?_
  intro κ hl hγ hA hρ
  subst hl; subst hγ; subst hA
  exact t_X12_isWord   a0 w ⟨q, e, pI hρ rfl rfl⟩
