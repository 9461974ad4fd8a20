theorem dX5_measure_0 : decode cX5_measure 0 = .ok (.iload_n 1, 1) := by decide +kernel
theorem dX5_measure_1 : decode cX5_measure 1 = .ok (.istore_n 3, 1) := by decide +kernel
theorem dX5_measure_2 : decode cX5_measure 2 = .ok (.iload_n 3, 1) := by decide +kernel
theorem dX5_measure_3 : decode cX5_measure 3 = .ok (.ifCond .lt 105, 3) := by decide +kernel
theorem dX5_measure_6 : decode cX5_measure 6 = .ok (.iload_n 2, 1) := by decide +kernel
theorem dX5_measure_7 : decode cX5_measure 7 = .ok (.istore 4, 2) := by decide +kernel
theorem dX5_measure_9 : decode cX5_measure 9 = .ok (.iload 4, 2) := by decide +kernel
theorem dX5_measure_11 : decode cX5_measure 11 = .ok (.ifCond .lt 91, 3) := by decide +kernel
theorem dX5_measure_14 : decode cX5_measure 14 = .ok (.iload_n 1, 1) := by decide +kernel
theorem dX5_measure_15 : decode cX5_measure 15 = .ok (.iload_n 3, 1) := by decide +kernel
theorem dX5_measure_16 : decode cX5_measure 16 = .ok (.isub, 1) := by decide +kernel
theorem dX5_measure_17 : decode cX5_measure 17 = .ok (.iload_n 2, 1) := by decide +kernel
theorem dX5_measure_18 : decode cX5_measure 18 = .ok (.iadd, 1) := by decide +kernel
theorem dX5_measure_19 : decode cX5_measure 19 = .ok (.iload 4, 2) := by decide +kernel
theorem dX5_measure_21 : decode cX5_measure 21 = .ok (.isub, 1) := by decide +kernel
theorem dX5_measure_22 : decode cX5_measure 22 = .ok (.istore 5, 2) := by decide +kernel
theorem dX5_measure_24 : decode cX5_measure 24 = .ok (.iload_n 3, 1) := by decide +kernel
theorem dX5_measure_25 : decode cX5_measure 25 = .ok (.iload_n 1, 1) := by decide +kernel
theorem dX5_measure_26 : decode cX5_measure 26 = .ok (.if_icmp .ge 56, 3) := by decide +kernel
theorem dX5_measure_29 : decode cX5_measure 29 = .ok (.iload 4, 2) := by decide +kernel
theorem dX5_measure_31 : decode cX5_measure 31 = .ok (.iload_n 2, 1) := by decide +kernel
theorem dX5_measure_32 : decode cX5_measure 32 = .ok (.if_icmp .ge 50, 3) := by decide +kernel
theorem dX5_measure_35 : decode cX5_measure 35 = .ok (.aload_n 0, 1) := by decide +kernel
theorem dX5_measure_36 : decode cX5_measure 36 = .ok (.iload_n 3, 1) := by decide +kernel
theorem dX5_measure_37 : decode cX5_measure 37 = .ok (.iload 4, 2) := by decide +kernel
theorem dX5_measure_39 : decode cX5_measure 39 = .ok (.invokevirtual 61, 3) := by decide +kernel
theorem dX5_measure_42 : decode cX5_measure 42 = .ok (.aload_n 0, 1) := by decide +kernel
theorem dX5_measure_43 : decode cX5_measure 43 = .ok (.iload_n 3, 1) := by decide +kernel
theorem dX5_measure_44 : decode cX5_measure 44 = .ok (.iconst 1, 1) := by decide +kernel
theorem dX5_measure_45 : decode cX5_measure 45 = .ok (.iadd, 1) := by decide +kernel
theorem dX5_measure_46 : decode cX5_measure 46 = .ok (.iload 4, 2) := by decide +kernel
theorem dX5_measure_48 : decode cX5_measure 48 = .ok (.iconst 1, 1) := by decide +kernel
theorem dX5_measure_49 : decode cX5_measure 49 = .ok (.iadd, 1) := by decide +kernel
theorem dX5_measure_50 : decode cX5_measure 50 = .ok (.invokevirtual 65, 3) := by decide +kernel
theorem dX5_measure_53 : decode cX5_measure 53 = .ok (.iadd, 1) := by decide +kernel
theorem dX5_measure_54 : decode cX5_measure 54 = .ok (.iconst 1, 1) := by decide +kernel
theorem dX5_measure_55 : decode cX5_measure 55 = .ok (.aload_n 0, 1) := by decide +kernel
theorem dX5_measure_56 : decode cX5_measure 56 = .ok (.iload_n 3, 1) := by decide +kernel
theorem dX5_measure_57 : decode cX5_measure 57 = .ok (.iconst 1, 1) := by decide +kernel
theorem dX5_measure_58 : decode cX5_measure 58 = .ok (.iadd, 1) := by decide +kernel
theorem dX5_measure_59 : decode cX5_measure 59 = .ok (.iload 4, 2) := by decide +kernel
theorem dX5_measure_61 : decode cX5_measure 61 = .ok (.invokevirtual 65, 3) := by decide +kernel
theorem dX5_measure_64 : decode cX5_measure 64 = .ok (.aload_n 0, 1) := by decide +kernel
theorem dX5_measure_65 : decode cX5_measure 65 = .ok (.iload_n 3, 1) := by decide +kernel
theorem dX5_measure_66 : decode cX5_measure 66 = .ok (.iload 4, 2) := by decide +kernel
theorem dX5_measure_68 : decode cX5_measure 68 = .ok (.iconst 1, 1) := by decide +kernel
theorem dX5_measure_69 : decode cX5_measure 69 = .ok (.iadd, 1) := by decide +kernel
theorem dX5_measure_70 : decode cX5_measure 70 = .ok (.invokevirtual 65, 3) := by decide +kernel
theorem dX5_measure_73 : decode cX5_measure 73 = .ok (.invokestatic 68, 3) := by decide +kernel
theorem dX5_measure_76 : decode cX5_measure 76 = .ok (.iadd, 1) := by decide +kernel
theorem dX5_measure_77 : decode cX5_measure 77 = .ok (.invokestatic 68, 3) := by decide +kernel
theorem dX5_measure_80 : decode cX5_measure 80 = .ok (.istore 5, 2) := by decide +kernel
theorem dX5_measure_82 : decode cX5_measure 82 = .ok (.aload_n 0, 1) := by decide +kernel
theorem dX5_measure_83 : decode cX5_measure 83 = .ok (.getfield 31, 3) := by decide +kernel
theorem dX5_measure_86 : decode cX5_measure 86 = .ok (.iload_n 3, 1) := by decide +kernel
theorem dX5_measure_87 : decode cX5_measure 87 = .ok (.bipush 9, 2) := by decide +kernel
theorem dX5_measure_89 : decode cX5_measure 89 = .ok (.imul, 1) := by decide +kernel
theorem dX5_measure_90 : decode cX5_measure 90 = .ok (.iload 4, 2) := by decide +kernel
theorem dX5_measure_92 : decode cX5_measure 92 = .ok (.iadd, 1) := by decide +kernel
theorem dX5_measure_93 : decode cX5_measure 93 = .ok (.iload 5, 2) := by decide +kernel
theorem dX5_measure_95 : decode cX5_measure 95 = .ok (.iastore, 1) := by decide +kernel
theorem dX5_measure_96 : decode cX5_measure 96 = .ok (.iinc 4 (-1), 3) := by decide +kernel
theorem dX5_measure_99 : decode cX5_measure 99 = .ok (.goto (-90), 3) := by decide +kernel
theorem dX5_measure_102 : decode cX5_measure 102 = .ok (.iinc 3 (-1), 3) := by decide +kernel
theorem dX5_measure_105 : decode cX5_measure 105 = .ok (.goto (-103), 3) := by decide +kernel
theorem dX5_measure_108 : decode cX5_measure 108 = .ok (.return_, 1) := by decide +kernel
noncomputable def X5_measure_j82 (a1 : Int32) (a2 : Int32) (a3 : Int32) (a4 : Int32) (a5 : Int32) (w : Wd) : Option ((Int32 × Wd) ⊕ Wd) :=
gd (vp_in ((a3 * (9 : Int32)) + a4) 81) <|
(some (puI w 87 (ix ((a3 * (9 : Int32)) + a4)) a5)).bind fun w1 =>
some (.inl ((a4 + (-1 : Int32)), w1))
set_option maxRecDepth 20000 in
set_option maxHeartbeats 1000000 in
theorem t_X5_measure_j82 {κ : Kx} (a1 : Int32) (a2 : Int32) (a3 : Int32) (a4 : Int32) (a5 : Int32) (w : Wd) {G : (Int32 × Wd) → Prop} {P : Wd → Prop} (KG : ∀ s, G s → J κ RX5 cX5_measure 6 none (rmk 1 23) 9 [(0, .ref (ad (gm κ) 80)), (1, .int a1), (2, .int a2), (3, .int a3), (4, .int s.1)] [] s.2) (K0 : ∀ e, P e → J κ RX5 cX5_measure 6 none (rmk 1 23) 102 [(0, .ref (ad (gm κ) 80)), (1, .int a1), (2, .int a2), (3, .int a3)] [] e) (h : ok (X5_measure_j82  a1 a2 a3 a4 a5 w) (sel G P)) : J κ RX5 cX5_measure 6 none (rmk 1 23) 82 [(0, .ref (ad (gm κ) 80)), (1, .int a1), (2, .int a2), (3, .int a3), (4, .int a4), (5, .int a5)] [] w := by
  unfold X5_measure_j82 at h
  refine j_aload_n 0 dX5_measure_82 rfl rfl ?_
  refine j_getA 87 fl_RX5_31 sh_80 fk_80_7 (by decide) dX5_measure_83 ?_
  refine j_iload_n 3 dX5_measure_86 rfl rfl ?_
  refine j_bipush (9 : Int32) dX5_measure_87 kb_9 ?_
  refine j_imul dX5_measure_89 ?_
  refine j_iload 4 dX5_measure_90 rfl ?_
  refine j_iadd dX5_measure_92 ?_
  refine j_iload 5 dX5_measure_93 rfl ?_
  refine j_iast sh_87 dX5_measure_95 h (fun h => ?_)
  refine j_lW h (fun w1 h => ?_)
  refine j_iinc (a4 + (-1 : Int32)) 4 [(4, .int (a4 + (-1 : Int32))), (0, .ref (ad (gm κ) 80)), (1, .int a1), (2, .int a2), (3, .int a3), (5, .int a5)] dX5_measure_96 rfl (by rw [kn_m1]) (by decide) rfl ?_
  refine j_goto 9 dX5_measure_99 (by decide) ?_
  refine j_loc [(0, .ref (ad (gm κ) 80)), (1, .int a1), (2, .int a2), (3, .int a3), (4, .int (a4 + (-1 : Int32)))] [1, 2, 3, 4, 0] rfl ?_
  have h := sel_l h
  have h := KG _ h
  exact h
noncomputable def X5_measure_b9 (a1 : Int32) (a2 : Int32) (a3 : Int32) (s : (Int32 × Wd)) : Option ((Int32 × Wd) ⊕ Wd) :=
(if s.1 < 0 then
some (.inr s.2)
else
(if a1 ≤ a3 then
X5_measure_j82 a1 a2 a3 s.1 (((a1 - a3) + a2) - s.1) s.2
else
(if a2 ≤ s.1 then
X5_measure_j82 a1 a2 a3 s.1 (((a1 - a3) + a2) - s.1) s.2
else
(X5_slipOf a3 s.1 s.2).bind fun q2 =>
(X5_fewestAt (a3 + (1 : Int32)) (s.1 + (1 : Int32)) s.2).bind fun q4 =>
(X5_fewestAt (a3 + (1 : Int32)) s.1 s.2).bind fun q6 =>
(X5_fewestAt a3 (s.1 + (1 : Int32)) s.2).bind fun q8 =>
(some (mnI (q2 + q4) ((1 : Int32) + (mnI q6 q8)))).bind fun z10 =>
X5_measure_j82 a1 a2 a3 s.1 z10 s.2)))
set_option maxRecDepth 20000 in
set_option maxHeartbeats 1000000 in
theorem t_X5_measure_b9 {κ : Kx} (a1 : Int32) (a2 : Int32) (a3 : Int32) {P : Wd → Prop} (K0 : ∀ e, P e → J κ RX5 cX5_measure 6 none (rmk 1 23) 102 [(0, .ref (ad (gm κ) 80)), (1, .int a1), (2, .int a2), (3, .int a3)] [] e) (s : (Int32 × Wd)) (h : ok (lp (X5_measure_b9  a1 a2 a3) s) P) : J κ RX5 cX5_measure 6 none (rmk 1 23) 9 [(0, .ref (ad (gm κ) 80)), (1, .int a1), (2, .int a2), (3, .int a3), (4, .int s.1)] [] s.2 := by
  refine lp_ind (fun s => J κ RX5 cX5_measure 6 none (rmk 1 23) 9 [(0, .ref (ad (gm κ) 80)), (1, .int a1), (2, .int a2), (3, .int a3), (4, .int s.1)] [] s.2) (fun s h => ?_) s h
  unfold X5_measure_b9 at h
  refine j_iload 4 dX5_measure_9 rfl ?_
  refine j_if_lt 102 dX5_measure_11 (by decide) h (fun h => ?_) (fun h => ?_)
  · refine j_loc [(0, .ref (ad (gm κ) 80)), (1, .int a1), (2, .int a2), (3, .int a3)] [0, 1, 2, 3] rfl ?_
    have h := sel_r h
    have h := K0 _ h
    exact h
  · refine j_iload_n 1 dX5_measure_14 rfl rfl ?_
    refine j_iload_n 3 dX5_measure_15 rfl rfl ?_
    refine j_isub dX5_measure_16 ?_
    refine j_iload_n 2 dX5_measure_17 rfl rfl ?_
    refine j_iadd dX5_measure_18 ?_
    refine j_iload 4 dX5_measure_19 rfl ?_
    refine j_isub dX5_measure_21 ?_
    refine j_istore [(5, .int (((a1 - a3) + a2) - s.1)), (0, .ref (ad (gm κ) 80)), (1, .int a1), (2, .int a2), (3, .int a3), (4, .int s.1)] dX5_measure_22 (by decide) rfl ?_
    refine j_iload_n 4 dX5_measure_24 rfl rfl ?_
    refine j_iload_n 2 dX5_measure_25 rfl rfl ?_
    refine j_ic_ge 82 dX5_measure_26 (by decide) h (fun h => ?_) (fun h => ?_)
    · refine j_loc [(0, .ref (ad (gm κ) 80)), (1, .int a1), (2, .int a2), (3, .int a3), (4, .int s.1), (5, .int (((a1 - a3) + a2) - s.1))] [1, 2, 3, 4, 5, 0] rfl ?_
      exact t_X5_measure_j82 a1 a2 a3 s.1 (((a1 - a3) + a2) - s.1) s.2 (fun _ h => h) K0 h
    · refine j_iload 5 dX5_measure_29 rfl ?_
      refine j_iload_n 3 dX5_measure_31 rfl rfl ?_
      refine j_ic_ge 82 dX5_measure_32 (by decide) h (fun h => ?_) (fun h => ?_)
      · refine j_loc [(0, .ref (ad (gm κ) 80)), (1, .int a1), (2, .int a2), (3, .int a3), (4, .int s.1), (5, .int (((a1 - a3) + a2) - s.1))] [1, 2, 3, 4, 5, 0] rfl ?_
        exact t_X5_measure_j82 a1 a2 a3 s.1 (((a1 - a3) + a2) - s.1) s.2 (fun _ h => h) K0 h
      · refine j_aload_n 1 dX5_measure_35 rfl rfl ?_
        refine j_iload_n 4 dX5_measure_36 rfl rfl ?_
        refine j_iload 5 dX5_measure_37 rfl ?_
        obtain ⟨q2, e3, h⟩ := ok_b h
        refine j_callV (As := [.int a3, .int s.1]) (st := []) [.int q2] (c_X5_slipOf (kl κ) (gm κ) (kA κ) a3 s.1 s.2 q2 e3) ck_RX5_61 im_X5_slipOf se_X5_slipOf sh_80 cx_5 ⟨rfl, rfl⟩ ⟨by decide, by decide⟩ rfl rfl (Nat.le_of_ble_eq_true rfl) dX5_measure_39 _ rfl ?_
        refine j_aload_n 1 dX5_measure_42 rfl rfl ?_
        refine j_iload_n 4 dX5_measure_43 rfl rfl ?_
        refine j_iconst (1 : Int32) dX5_measure_44 ki_1 ?_
        refine j_iadd dX5_measure_45 ?_
        refine j_iload 5 dX5_measure_46 rfl ?_
        refine j_iconst (1 : Int32) dX5_measure_48 ki_1 ?_
        refine j_iadd dX5_measure_49 ?_
        obtain ⟨q4, e5, h⟩ := ok_b h
        refine j_callV (As := [.int (a3 + (1 : Int32)), .int (s.1 + (1 : Int32))]) (st := [.int q2]) [.int q4, .int q2] (c_X5_fewestAt (kl κ) (gm κ) (kA κ) (a3 + (1 : Int32)) (s.1 + (1 : Int32)) s.2 q4 e5) ck_RX5_65 im_X5_fewestAt se_X5_fewestAt sh_80 cx_5 ⟨rfl, rfl⟩ ⟨by decide, by decide⟩ rfl rfl (Nat.le_of_ble_eq_true rfl) dX5_measure_50 _ rfl ?_
        refine j_iadd dX5_measure_53 ?_
        refine j_iconst (1 : Int32) dX5_measure_54 ki_1 ?_
        refine j_aload_n 1 dX5_measure_55 rfl rfl ?_
        refine j_iload_n 4 dX5_measure_56 rfl rfl ?_
        refine j_iconst (1 : Int32) dX5_measure_57 ki_1 ?_
        refine j_iadd dX5_measure_58 ?_
        refine j_iload 5 dX5_measure_59 rfl ?_
        obtain ⟨q6, e7, h⟩ := ok_b h
        refine j_callV (As := [.int (a3 + (1 : Int32)), .int s.1]) (st := [.int (1 : Int32), .int (q2 + q4)]) [.int q6, .int (1 : Int32), .int (q2 + q4)] (c_X5_fewestAt (kl κ) (gm κ) (kA κ) (a3 + (1 : Int32)) s.1 s.2 q6 e7) ck_RX5_65 im_X5_fewestAt se_X5_fewestAt sh_80 cx_5 ⟨rfl, rfl⟩ ⟨by decide, by decide⟩ rfl rfl (Nat.le_of_ble_eq_true rfl) dX5_measure_61 _ rfl ?_
        refine j_aload_n 1 dX5_measure_64 rfl rfl ?_
        refine j_iload_n 4 dX5_measure_65 rfl rfl ?_
        refine j_iload 5 dX5_measure_66 rfl ?_
        refine j_iconst (1 : Int32) dX5_measure_68 ki_1 ?_
        refine j_iadd dX5_measure_69 ?_
        obtain ⟨q8, e9, h⟩ := ok_b h
        refine j_callV (As := [.int a3, .int (s.1 + (1 : Int32))]) (st := [.int q6, .int (1 : Int32), .int (q2 + q4)]) [.int q8, .int q6, .int (1 : Int32), .int (q2 + q4)] (c_X5_fewestAt (kl κ) (gm κ) (kA κ) a3 (s.1 + (1 : Int32)) s.2 q8 e9) ck_RX5_65 im_X5_fewestAt se_X5_fewestAt sh_80 cx_5 ⟨rfl, rfl⟩ ⟨by decide, by decide⟩ rfl rfl (Nat.le_of_ble_eq_true rfl) dX5_measure_70 _ rfl ?_
        refine j_mnI mt_RX5_68 (by decide) (Nat.le_of_ble_eq_true rfl) dX5_measure_73 ?_
        refine j_iadd dX5_measure_76 ?_
        refine j_mnI mt_RX5_68 (by decide) (Nat.le_of_ble_eq_true rfl) dX5_measure_77 ?_
        refine j_lI h (fun z10 h => ?_)
        refine j_istore [(5, .int z10), (0, .ref (ad (gm κ) 80)), (1, .int a1), (2, .int a2), (3, .int a3), (4, .int s.1)] dX5_measure_80 (by decide) rfl ?_
        refine j_loc [(0, .ref (ad (gm κ) 80)), (1, .int a1), (2, .int a2), (3, .int a3), (4, .int s.1), (5, .int z10)] [1, 2, 3, 4, 5, 0] rfl ?_
        exact t_X5_measure_j82 a1 a2 a3 s.1 z10 s.2 (fun _ h => h) K0 h
noncomputable def X5_measure_b2 (a1 : Int32) (a2 : Int32) (s : (Int32 × Wd)) : Option ((Int32 × Wd) ⊕ Wd) :=
(if s.1 < 0 then
some (.inr s.2)
else
(lp (X5_measure_b9 a1 a2 s.1) (a2, s.2)).bind fun e11 =>
some (.inl ((s.1 + (-1 : Int32)), e11)))
set_option maxRecDepth 20000 in
set_option maxHeartbeats 1000000 in
theorem t_X5_measure_b2 {κ : Kx} (a1 : Int32) (a2 : Int32) {P : Wd → Prop} (K0 : ∀ e, P e → J κ RX5 cX5_measure 6 none (rmk 1 23) 108 [] [] e) (s : (Int32 × Wd)) (h : ok (lp (X5_measure_b2  a1 a2) s) P) : J κ RX5 cX5_measure 6 none (rmk 1 23) 2 [(0, .ref (ad (gm κ) 80)), (1, .int a1), (2, .int a2), (3, .int s.1)] [] s.2 := by
  refine lp_ind (fun s => J κ RX5 cX5_measure 6 none (rmk 1 23) 2 [(0, .ref (ad (gm κ) 80)), (1, .int a1), (2, .int a2), (3, .int s.1)] [] s.2) (fun s h => ?_) s h
  unfold X5_measure_b2 at h
  refine j_iload_n 3 dX5_measure_2 rfl rfl ?_
  refine j_if_lt 108 dX5_measure_3 (by decide) h (fun h => ?_) (fun h => ?_)
  · refine j_loc [] [] rfl ?_
    have h := sel_r h
    have h := K0 _ h
    exact h
  · refine j_iload_n 2 dX5_measure_6 rfl rfl ?_
    refine j_istore [(4, .int a2), (0, .ref (ad (gm κ) 80)), (1, .int a1), (2, .int a2), (3, .int s.1)] dX5_measure_7 (by decide) rfl ?_
    refine j_loc [(0, .ref (ad (gm κ) 80)), (1, .int a1), (2, .int a2), (3, .int s.1), (4, .int a2)] [1, 2, 3, 4, 0] rfl ?_
    refine t_X5_measure_b9 a1 a2 s.1 (fun e11 h => ?_) (a2, s.2) (ok_bb h)
    · refine j_iinc (s.1 + (-1 : Int32)) 3 [(3, .int (s.1 + (-1 : Int32))), (0, .ref (ad (gm κ) 80)), (1, .int a1), (2, .int a2)] dX5_measure_102 rfl (by rw [kn_m1]) (by decide) rfl ?_
      refine j_goto 2 dX5_measure_105 (by decide) ?_
      refine j_loc [(0, .ref (ad (gm κ) 80)), (1, .int a1), (2, .int a2), (3, .int (s.1 + (-1 : Int32)))] [1, 2, 3, 0] rfl ?_
      have h := sel_l h
      exact h
noncomputable def X5_measure (a1 : Int32) (a2 : Int32) (w : Wd) : Option (Wd) :=
(lp (X5_measure_b2 a1 a2) (a1, w)).bind fun e12 =>
some e12
set_option maxRecDepth 20000 in
set_option maxHeartbeats 1000000 in
theorem t_X5_measure {κ : Kx} (a1 : Int32) (a2 : Int32) (w : Wd) (h : ok (X5_measure  a1 a2 w) (PVw κ)) : J κ RX5 cX5_measure 6 none (rmk 1 23) 0 [(0, .ref (ad (gm κ) 80)), (1, .int a1), (2, .int a2)] [] w := by
  unfold X5_measure at h
  refine j_iload_n 1 dX5_measure_0 rfl rfl ?_
  refine j_istore_n [(3, .int a1), (0, .ref (ad (gm κ) 80)), (1, .int a1), (2, .int a2)] dX5_measure_1 rfl (by decide) rfl ?_
  refine j_loc [(0, .ref (ad (gm κ) 80)), (1, .int a1), (2, .int a2), (3, .int a1)] [1, 2, 3, 0] rfl ?_
  refine t_X5_measure_b2 a1 a2 (fun e12 h => ?_) (a1, w) (ok_bb h)
  · have h := ok_s h
    exact j_vret dX5_measure_108 rfl h
theorem c_X5_measure (l : Launch) (γ : Gm) (A : Nat → Prop) (a1 : Int32) (a2 : Int32) (w : Wd) (q : Wd) (e : X5_measure  a1 a2 w = some q) : MetG l γ A yX5_measure cX5_measure 6 none (rmk 1 23) [.ref (ad (γ) 80), .int a1, .int a2] w none q := by
  refine met_of pn_RX5 (Nat.le_of_ble_eq_true rfl) ?_
  intro κ hl hγ hA hρ
  subst hl; subst hγ; subst hA
  exact t_X5_measure   a1 a2 w ⟨q, e, pVw hρ rfl rfl⟩
theorem dX5_slip_0 : decode cX5_slip 0 = .ok (.aload_n 0, 1) := by decide +kernel
theorem dX5_slip_1 : decode cX5_slip 1 = .ok (.getfield 18, 3) := by decide +kernel
theorem dX5_slip_4 : decode cX5_slip 4 = .ok (.aload_n 0, 1) := by decide +kernel
theorem dX5_slip_5 : decode cX5_slip 5 = .ok (.getfield 34, 3) := by decide +kernel
theorem dX5_slip_8 : decode cX5_slip 8 = .ok (.iaload, 1) := by decide +kernel
theorem dX5_slip_9 : decode cX5_slip 9 = .ok (.bipush 8, 2) := by decide +kernel
theorem dX5_slip_11 : decode cX5_slip 11 = .ok (.if_icmp .ge 40, 3) := by decide +kernel
theorem dX5_slip_14 : decode cX5_slip 14 = .ok (.aload_n 0, 1) := by decide +kernel
theorem dX5_slip_15 : decode cX5_slip 15 = .ok (.getfield 21, 3) := by decide +kernel
theorem dX5_slip_18 : decode cX5_slip 18 = .ok (.aload_n 0, 1) := by decide +kernel
theorem dX5_slip_19 : decode cX5_slip 19 = .ok (.getfield 34, 3) := by decide +kernel
theorem dX5_slip_22 : decode cX5_slip 22 = .ok (.bipush 8, 2) := by decide +kernel
theorem dX5_slip_24 : decode cX5_slip 24 = .ok (.imul, 1) := by decide +kernel
theorem dX5_slip_25 : decode cX5_slip 25 = .ok (.aload_n 0, 1) := by decide +kernel
theorem dX5_slip_26 : decode cX5_slip 26 = .ok (.getfield 18, 3) := by decide +kernel
theorem dX5_slip_29 : decode cX5_slip 29 = .ok (.aload_n 0, 1) := by decide +kernel
theorem dX5_slip_30 : decode cX5_slip 30 = .ok (.getfield 34, 3) := by decide +kernel
theorem dX5_slip_33 : decode cX5_slip 33 = .ok (.iaload, 1) := by decide +kernel
theorem dX5_slip_34 : decode cX5_slip 34 = .ok (.iadd, 1) := by decide +kernel
theorem dX5_slip_35 : decode cX5_slip 35 = .ok (.iload_n 1, 1) := by decide +kernel
theorem dX5_slip_36 : decode cX5_slip 36 = .ok (.i2b, 1) := by decide +kernel
theorem dX5_slip_37 : decode cX5_slip 37 = .ok (.bastore, 1) := by decide +kernel
theorem dX5_slip_38 : decode cX5_slip 38 = .ok (.aload_n 0, 1) := by decide +kernel
theorem dX5_slip_39 : decode cX5_slip 39 = .ok (.getfield 18, 3) := by decide +kernel
theorem dX5_slip_42 : decode cX5_slip 42 = .ok (.aload_n 0, 1) := by decide +kernel
theorem dX5_slip_43 : decode cX5_slip 43 = .ok (.getfield 34, 3) := by decide +kernel
theorem dX5_slip_46 : decode cX5_slip 46 = .ok (.dup2, 1) := by decide +kernel
theorem dX5_slip_47 : decode cX5_slip 47 = .ok (.iaload, 1) := by decide +kernel
theorem dX5_slip_48 : decode cX5_slip 48 = .ok (.iconst 1, 1) := by decide +kernel
theorem dX5_slip_49 : decode cX5_slip 49 = .ok (.iadd, 1) := by decide +kernel
theorem dX5_slip_50 : decode cX5_slip 50 = .ok (.iastore, 1) := by decide +kernel
theorem dX5_slip_51 : decode cX5_slip 51 = .ok (.return_, 1) := by decide +kernel
noncomputable def X5_slip (a1 : Int32) (w : Wd) : Option (Wd) :=
gd (vp_in (w.1 80 0) 60) <|
(if (8 : Int32) ≤ (w.1 83 (ix (w.1 80 0))) then
some w
else
gd (vp_in (w.1 80 0) 60) <|
gd (vp_in (((w.1 80 0) * (8 : Int32)) + (w.1 83 (ix (w.1 80 0)))) 480) <|
(some (puI w 84 (ix (((w.1 80 0) * (8 : Int32)) + (w.1 83 (ix (w.1 80 0))))) (vp_nar .byte (Int32.toInt8 a1).toInt32))).bind fun w1 =>
gd (vp_in (w1.1 80 0) 60) <|
gd (vp_in (w1.1 80 0) 60) <|
(some (puI w1 83 (ix (w1.1 80 0)) ((w1.1 83 (ix (w1.1 80 0))) + (1 : Int32)))).bind fun w2 =>
some w2)
set_option maxRecDepth 20000 in
set_option maxHeartbeats 1000000 in
theorem t_X5_slip {κ : Kx} (a1 : Int32) (w : Wd) (h : ok (X5_slip  a1 w) (PVw κ)) : J κ RX5 cX5_slip 2 none (rmk 0 0) 0 [(0, .ref (ad (gm κ) 80)), (1, .int a1)] [] w := by
  unfold X5_slip at h
  refine j_aload_n 0 dX5_slip_0 rfl rfl ?_
  refine j_getA 83 fl_RX5_18 sh_80 fk_80_3 (by decide) dX5_slip_1 ?_
  refine j_aload_n 0 dX5_slip_4 rfl rfl ?_
  refine j_getI fl_RX5_34 sh_80 fk_80_0 dX5_slip_5 ?_
  refine j_iald sh_83 dX5_slip_8 h (fun h => ?_)
  refine j_bipush (8 : Int32) dX5_slip_9 kb_8 ?_
  refine j_ic_ge 51 dX5_slip_11 (by decide) h (fun h => ?_) (fun h => ?_)
  · have h := ok_s h
    exact j_vret dX5_slip_51 rfl h
  · refine j_aload_n 0 dX5_slip_14 rfl rfl ?_
    refine j_getA 84 fl_RX5_21 sh_80 fk_80_4 (by decide) dX5_slip_15 ?_
    refine j_aload_n 0 dX5_slip_18 rfl rfl ?_
    refine j_getI fl_RX5_34 sh_80 fk_80_0 dX5_slip_19 ?_
    refine j_bipush (8 : Int32) dX5_slip_22 kb_8 ?_
    refine j_imul dX5_slip_24 ?_
    refine j_aload_n 0 dX5_slip_25 rfl rfl ?_
    refine j_getA 83 fl_RX5_18 sh_80 fk_80_3 (by decide) dX5_slip_26 ?_
    refine j_aload_n 0 dX5_slip_29 rfl rfl ?_
    refine j_getI fl_RX5_34 sh_80 fk_80_0 dX5_slip_30 ?_
    refine j_iald sh_83 dX5_slip_33 h (fun h => ?_)
    refine j_iadd dX5_slip_34 ?_
    refine j_iload_n 1 dX5_slip_35 rfl rfl ?_
    refine j_i2b dX5_slip_36 ?_
    refine j_bast sh_84 dX5_slip_37 h (fun h => ?_)
    refine j_lW h (fun w1 h => ?_)
    refine j_aload_n 0 dX5_slip_38 rfl rfl ?_
    refine j_getA 83 fl_RX5_18 sh_80 fk_80_3 (by decide) dX5_slip_39 ?_
    refine j_aload_n 0 dX5_slip_42 rfl rfl ?_
    refine j_getI fl_RX5_34 sh_80 fk_80_0 dX5_slip_43 ?_
    refine j_dup2 dX5_slip_46 rfl rfl ?_
    refine j_iald sh_83 dX5_slip_47 h (fun h => ?_)
    refine j_iconst (1 : Int32) dX5_slip_48 ki_1 ?_
    refine j_iadd dX5_slip_49 ?_
    refine j_iast sh_83 dX5_slip_50 h (fun h => ?_)
    refine j_lW h (fun w2 h => ?_)
    have h := ok_s h
    exact j_vret dX5_slip_51 rfl h
theorem c_X5_slip (l : Launch) (γ : Gm) (A : Nat → Prop) (a1 : Int32) (w : Wd) (q : Wd) (e : X5_slip  a1 w = some q) : MetG l γ A yX5_slip cX5_slip 2 none (rmk 0 0) [.ref (ad (γ) 80), .int a1] w none q := by
  refine met_of pn_RX5 (Nat.le_of_ble_eq_true rfl) ?_
  intro κ hl hγ hA hρ
  subst hl; subst hγ; subst hA
  exact t_X5_slip   a1 w ⟨q, e, pVw hρ rfl rfl⟩
theorem dX5_walk_0 : decode cX5_walk 0 = .ok (.iconst 0, 1) := by decide +kernel
theorem dX5_walk_1 : decode cX5_walk 1 = .ok (.istore_n 3, 1) := by decide +kernel
theorem dX5_walk_2 : decode cX5_walk 2 = .ok (.iconst 0, 1) := by decide +kernel
theorem dX5_walk_3 : decode cX5_walk 3 = .ok (.istore 4, 2) := by decide +kernel
theorem dX5_walk_5 : decode cX5_walk 5 = .ok (.iconst 0, 1) := by decide +kernel
theorem dX5_walk_6 : decode cX5_walk 6 = .ok (.istore 5, 2) := by decide +kernel
theorem dX5_walk_8 : decode cX5_walk 8 = .ok (.iload 5, 2) := by decide +kernel
theorem dX5_walk_10 : decode cX5_walk 10 = .ok (.bipush 16, 2) := by decide +kernel
theorem dX5_walk_12 : decode cX5_walk 12 = .ok (.if_icmp .ge 151, 3) := by decide +kernel
theorem dX5_walk_15 : decode cX5_walk 15 = .ok (.iload_n 3, 1) := by decide +kernel
theorem dX5_walk_16 : decode cX5_walk 16 = .ok (.iload_n 1, 1) := by decide +kernel
theorem dX5_walk_17 : decode cX5_walk 17 = .ok (.if_icmp .lt 9, 3) := by decide +kernel
theorem dX5_walk_20 : decode cX5_walk 20 = .ok (.iload 4, 2) := by decide +kernel
theorem dX5_walk_22 : decode cX5_walk 22 = .ok (.iload_n 2, 1) := by decide +kernel
theorem dX5_walk_23 : decode cX5_walk 23 = .ok (.if_icmp .ge 140, 3) := by decide +kernel
theorem dX5_walk_26 : decode cX5_walk 26 = .ok (.aload_n 0, 1) := by decide +kernel
theorem dX5_walk_27 : decode cX5_walk 27 = .ok (.iload_n 3, 1) := by decide +kernel
theorem dX5_walk_28 : decode cX5_walk 28 = .ok (.iload 4, 2) := by decide +kernel
theorem dX5_walk_30 : decode cX5_walk 30 = .ok (.invokevirtual 65, 3) := by decide +kernel
theorem dX5_walk_33 : decode cX5_walk 33 = .ok (.istore 6, 2) := by decide +kernel
theorem dX5_walk_35 : decode cX5_walk 35 = .ok (.iload_n 3, 1) := by decide +kernel
theorem dX5_walk_36 : decode cX5_walk 36 = .ok (.iload_n 1, 1) := by decide +kernel
theorem dX5_walk_37 : decode cX5_walk 37 = .ok (.if_icmp .ge 63, 3) := by decide +kernel
theorem dX5_walk_40 : decode cX5_walk 40 = .ok (.iload 4, 2) := by decide +kernel
theorem dX5_walk_42 : decode cX5_walk 42 = .ok (.iload_n 2, 1) := by decide +kernel
theorem dX5_walk_43 : decode cX5_walk 43 = .ok (.if_icmp .ge 57, 3) := by decide +kernel
theorem dX5_walk_46 : decode cX5_walk 46 = .ok (.iload 6, 2) := by decide +kernel
theorem dX5_walk_48 : decode cX5_walk 48 = .ok (.aload_n 0, 1) := by decide +kernel
theorem dX5_walk_49 : decode cX5_walk 49 = .ok (.iload_n 3, 1) := by decide +kernel
theorem dX5_walk_50 : decode cX5_walk 50 = .ok (.iload 4, 2) := by decide +kernel
theorem dX5_walk_52 : decode cX5_walk 52 = .ok (.invokevirtual 61, 3) := by decide +kernel
theorem dX5_walk_55 : decode cX5_walk 55 = .ok (.aload_n 0, 1) := by decide +kernel
theorem dX5_walk_56 : decode cX5_walk 56 = .ok (.iload_n 3, 1) := by decide +kernel
theorem dX5_walk_57 : decode cX5_walk 57 = .ok (.iconst 1, 1) := by decide +kernel
theorem dX5_walk_58 : decode cX5_walk 58 = .ok (.iadd, 1) := by decide +kernel
theorem dX5_walk_59 : decode cX5_walk 59 = .ok (.iload 4, 2) := by decide +kernel
theorem dX5_walk_61 : decode cX5_walk 61 = .ok (.iconst 1, 1) := by decide +kernel
theorem dX5_walk_62 : decode cX5_walk 62 = .ok (.iadd, 1) := by decide +kernel
theorem dX5_walk_63 : decode cX5_walk 63 = .ok (.invokevirtual 65, 3) := by decide +kernel
theorem dX5_walk_66 : decode cX5_walk 66 = .ok (.iadd, 1) := by decide +kernel
theorem dX5_walk_67 : decode cX5_walk 67 = .ok (.if_icmp .ne 33, 3) := by decide +kernel
theorem dX5_walk_70 : decode cX5_walk 70 = .ok (.aload_n 0, 1) := by decide +kernel
theorem dX5_walk_71 : decode cX5_walk 71 = .ok (.iload_n 3, 1) := by decide +kernel
theorem dX5_walk_72 : decode cX5_walk 72 = .ok (.iload 4, 2) := by decide +kernel
theorem dX5_walk_74 : decode cX5_walk 74 = .ok (.invokevirtual 61, 3) := by decide +kernel
theorem dX5_walk_77 : decode cX5_walk 77 = .ok (.iconst 1, 1) := by decide +kernel
theorem dX5_walk_78 : decode cX5_walk 78 = .ok (.if_icmp .ne 13, 3) := by decide +kernel
theorem dX5_walk_81 : decode cX5_walk 81 = .ok (.aload_n 0, 1) := by decide +kernel
theorem dX5_walk_82 : decode cX5_walk 82 = .ok (.aload_n 0, 1) := by decide +kernel
theorem dX5_walk_83 : decode cX5_walk 83 = .ok (.getfield 25, 3) := by decide +kernel
theorem dX5_walk_86 : decode cX5_walk 86 = .ok (.iload_n 3, 1) := by decide +kernel
theorem dX5_walk_87 : decode cX5_walk 87 = .ok (.iaload, 1) := by decide +kernel
theorem dX5_walk_88 : decode cX5_walk 88 = .ok (.invokevirtual 73, 3) := by decide +kernel
theorem dX5_walk_91 : decode cX5_walk 91 = .ok (.iinc 3 1, 3) := by decide +kernel
theorem dX5_walk_94 : decode cX5_walk 94 = .ok (.iinc 4 1, 3) := by decide +kernel
theorem dX5_walk_97 : decode cX5_walk 97 = .ok (.goto 60, 3) := by decide +kernel
theorem dX5_walk_100 : decode cX5_walk 100 = .ok (.iload_n 3, 1) := by decide +kernel
theorem dX5_walk_101 : decode cX5_walk 101 = .ok (.iload_n 1, 1) := by decide +kernel
theorem dX5_walk_102 : decode cX5_walk 102 = .ok (.if_icmp .ge 35, 3) := by decide +kernel
theorem dX5_walk_105 : decode cX5_walk 105 = .ok (.iload 6, 2) := by decide +kernel
theorem dX5_walk_107 : decode cX5_walk 107 = .ok (.iconst 1, 1) := by decide +kernel
theorem dX5_walk_108 : decode cX5_walk 108 = .ok (.aload_n 0, 1) := by decide +kernel
theorem dX5_walk_109 : decode cX5_walk 109 = .ok (.iload_n 3, 1) := by decide +kernel
theorem dX5_walk_110 : decode cX5_walk 110 = .ok (.iconst 1, 1) := by decide +kernel
theorem dX5_walk_111 : decode cX5_walk 111 = .ok (.iadd, 1) := by decide +kernel
theorem dX5_walk_112 : decode cX5_walk 112 = .ok (.iload 4, 2) := by decide +kernel
theorem dX5_walk_114 : decode cX5_walk 114 = .ok (.invokevirtual 65, 3) := by decide +kernel
theorem dX5_walk_117 : decode cX5_walk 117 = .ok (.iadd, 1) := by decide +kernel
theorem dX5_walk_118 : decode cX5_walk 118 = .ok (.if_icmp .ne 19, 3) := by decide +kernel
theorem dX5_walk_121 : decode cX5_walk 121 = .ok (.aload_n 0, 1) := by decide +kernel
theorem dX5_walk_122 : decode cX5_walk 122 = .ok (.aload_n 0, 1) := by decide +kernel
theorem dX5_walk_123 : decode cX5_walk 123 = .ok (.getfield 25, 3) := by decide +kernel
theorem dX5_walk_126 : decode cX5_walk 126 = .ok (.iload_n 3, 1) := by decide +kernel
theorem dX5_walk_127 : decode cX5_walk 127 = .ok (.iaload, 1) := by decide +kernel
theorem dX5_walk_128 : decode cX5_walk 128 = .ok (.invokevirtual 73, 3) := by decide +kernel
theorem dX5_walk_131 : decode cX5_walk 131 = .ok (.iinc 3 1, 3) := by decide +kernel
theorem dX5_walk_134 : decode cX5_walk 134 = .ok (.goto 23, 3) := by decide +kernel
theorem dX5_walk_137 : decode cX5_walk 137 = .ok (.iload 4, 2) := by decide +kernel
theorem dX5_walk_139 : decode cX5_walk 139 = .ok (.iload_n 2, 1) := by decide +kernel
theorem dX5_walk_140 : decode cX5_walk 140 = .ok (.if_icmp .ge 17, 3) := by decide +kernel
theorem dX5_walk_143 : decode cX5_walk 143 = .ok (.aload_n 0, 1) := by decide +kernel
theorem dX5_walk_144 : decode cX5_walk 144 = .ok (.aload_n 0, 1) := by decide +kernel
theorem dX5_walk_145 : decode cX5_walk 145 = .ok (.getfield 28, 3) := by decide +kernel
theorem dX5_walk_148 : decode cX5_walk 148 = .ok (.iload 4, 2) := by decide +kernel
theorem dX5_walk_150 : decode cX5_walk 150 = .ok (.iaload, 1) := by decide +kernel
theorem dX5_walk_151 : decode cX5_walk 151 = .ok (.invokevirtual 73, 3) := by decide +kernel
theorem dX5_walk_154 : decode cX5_walk 154 = .ok (.iinc 4 1, 3) := by decide +kernel
theorem dX5_walk_157 : decode cX5_walk 157 = .ok (.iinc 5 1, 3) := by decide +kernel
theorem dX5_walk_160 : decode cX5_walk 160 = .ok (.goto (-152), 3) := by decide +kernel
theorem dX5_walk_163 : decode cX5_walk 163 = .ok (.return_, 1) := by decide +kernel
noncomputable def X5_walk_j157 (a1 : Int32) (a2 : Int32) (a3 : Int32) (a4 : Int32) (a5 : Int32) (w : Wd) : Option ((Int32 × Int32 × Int32 × Wd) ⊕ Wd) :=
some (.inl (a3, a4, (a5 + (1 : Int32)), w))
set_option maxRecDepth 20000 in
set_option maxHeartbeats 1000000 in
theorem t_X5_walk_j157 {κ : Kx} (a1 : Int32) (a2 : Int32) (a3 : Int32) (a4 : Int32) (a5 : Int32) (w : Wd) {G : (Int32 × Int32 × Int32 × Wd) → Prop} {P : Wd → Prop} (KG : ∀ s, G s → J κ RX5 cX5_walk 7 none (rmk 1 22) 8 [(0, .ref (ad (gm κ) 80)), (1, .int a1), (2, .int a2), (3, .int s.1), (4, .int s.2.1), (5, .int s.2.2.1)] [] s.2.2.2) (K0 : ∀ e, P e → J κ RX5 cX5_walk 7 none (rmk 1 22) 163 [] [] e) (h : ok (X5_walk_j157  a1 a2 a3 a4 a5 w) (sel G P)) : J κ RX5 cX5_walk 7 none (rmk 1 22) 157 [(0, .ref (ad (gm κ) 80)), (1, .int a1), (2, .int a2), (3, .int a3), (4, .int a4), (5, .int a5)] [] w := by
  unfold X5_walk_j157 at h
  refine j_iinc (a5 + (1 : Int32)) 5 [(5, .int (a5 + (1 : Int32))), (0, .ref (ad (gm κ) 80)), (1, .int a1), (2, .int a2), (3, .int a3), (4, .int a4)] dX5_walk_157 rfl (by rw [kn_1]) (by decide) rfl ?_
  refine j_goto 8 dX5_walk_160 (by decide) ?_
  refine j_loc [(0, .ref (ad (gm κ) 80)), (1, .int a1), (2, .int a2), (3, .int a3), (4, .int a4), (5, .int (a5 + (1 : Int32)))] [1, 2, 3, 4, 5, 0] rfl ?_
  have h := sel_l h
  have h := KG _ h
  exact h
noncomputable def X5_walk_j137 (a1 : Int32) (a2 : Int32) (a3 : Int32) (a4 : Int32) (a5 : Int32) (w : Wd) : Option ((Int32 × Int32 × Int32 × Wd) ⊕ Wd) :=
(if a2 ≤ a4 then
X5_walk_j157 a1 a2 a3 a4 a5 w
else
gd (vp_in a4 8) <|
(X5_slip (w.1 86 (ix a4)) w).bind fun q3 =>
X5_walk_j157 a1 a2 a3 (a4 + (1 : Int32)) a5 q3)
set_option maxRecDepth 20000 in
set_option maxHeartbeats 1000000 in
theorem t_X5_walk_j137 {κ : Kx} (a1 : Int32) (a2 : Int32) (a3 : Int32) (a4 : Int32) (a5 : Int32) (w : Wd) {G : (Int32 × Int32 × Int32 × Wd) → Prop} {P : Wd → Prop} (KG : ∀ s, G s → J κ RX5 cX5_walk 7 none (rmk 1 22) 8 [(0, .ref (ad (gm κ) 80)), (1, .int a1), (2, .int a2), (3, .int s.1), (4, .int s.2.1), (5, .int s.2.2.1)] [] s.2.2.2) (K0 : ∀ e, P e → J κ RX5 cX5_walk 7 none (rmk 1 22) 163 [] [] e) (h : ok (X5_walk_j137  a1 a2 a3 a4 a5 w) (sel G P)) : J κ RX5 cX5_walk 7 none (rmk 1 22) 137 [(0, .ref (ad (gm κ) 80)), (1, .int a1), (2, .int a2), (3, .int a3), (4, .int a4), (5, .int a5)] [] w := by
  unfold X5_walk_j137 at h
  refine j_iload 4 dX5_walk_137 rfl ?_
  refine j_iload_n 2 dX5_walk_139 rfl rfl ?_
  refine j_ic_ge 157 dX5_walk_140 (by decide) h (fun h => ?_) (fun h => ?_)
  · refine j_loc [(0, .ref (ad (gm κ) 80)), (1, .int a1), (2, .int a2), (3, .int a3), (4, .int a4), (5, .int a5)] [0, 1, 2, 3, 4, 5] rfl ?_
    exact t_X5_walk_j157 a1 a2 a3 a4 a5 w KG K0 h
  · refine j_aload_n 0 dX5_walk_143 rfl rfl ?_
    refine j_aload_n 0 dX5_walk_144 rfl rfl ?_
    refine j_getA 86 fl_RX5_28 sh_80 fk_80_6 (by decide) dX5_walk_145 ?_
    refine j_iload 4 dX5_walk_148 rfl ?_
    refine j_iald sh_86 dX5_walk_150 h (fun h => ?_)
    obtain ⟨q3, e4, h⟩ := ok_b h
    refine j_callV (As := [.int (w.1 86 (ix a4))]) (st := []) [] (c_X5_slip (kl κ) (gm κ) (kA κ) (w.1 86 (ix a4)) w q3 e4) ck_RX5_73 im_X5_slip se_X5_slip sh_80 cx_5 ⟨rfl, rfl⟩ ⟨by decide, by decide⟩ rfl rfl (Nat.le_of_ble_eq_true rfl) dX5_walk_151 _ rfl ?_
    refine j_iinc (a4 + (1 : Int32)) 4 [(4, .int (a4 + (1 : Int32))), (0, .ref (ad (gm κ) 80)), (1, .int a1), (2, .int a2), (3, .int a3), (5, .int a5)] dX5_walk_154 rfl (by rw [kn_1]) (by decide) rfl ?_
    refine j_loc [(0, .ref (ad (gm κ) 80)), (1, .int a1), (2, .int a2), (3, .int a3), (4, .int (a4 + (1 : Int32))), (5, .int a5)] [1, 2, 3, 4, 0, 5] rfl ?_
    exact t_X5_walk_j157 a1 a2 a3 (a4 + (1 : Int32)) a5 q3 KG K0 h
noncomputable def X5_walk_j100 (a1 : Int32) (a2 : Int32) (a3 : Int32) (a4 : Int32) (a5 : Int32) (a6 : Int32) (w : Wd) : Option ((Int32 × Int32 × Int32 × Wd) ⊕ Wd) :=
(if a1 ≤ a3 then
X5_walk_j137 a1 a2 a3 a4 a5 w
else
(X5_fewestAt (a3 + (1 : Int32)) a4 w).bind fun q5 =>
(if a6 = ((1 : Int32) + q5) then
gd (vp_in a3 8) <|
(X5_slip (w.1 85 (ix a3)) w).bind fun q7 =>
X5_walk_j157 a1 a2 (a3 + (1 : Int32)) a4 a5 q7
else
X5_walk_j137 a1 a2 a3 a4 a5 w))
set_option maxRecDepth 20000 in
set_option maxHeartbeats 1000000 in
theorem t_X5_walk_j100 {κ : Kx} (a1 : Int32) (a2 : Int32) (a3 : Int32) (a4 : Int32) (a5 : Int32) (a6 : Int32) (w : Wd) {G : (Int32 × Int32 × Int32 × Wd) → Prop} {P : Wd → Prop} (KG : ∀ s, G s → J κ RX5 cX5_walk 7 none (rmk 1 22) 8 [(0, .ref (ad (gm κ) 80)), (1, .int a1), (2, .int a2), (3, .int s.1), (4, .int s.2.1), (5, .int s.2.2.1)] [] s.2.2.2) (K0 : ∀ e, P e → J κ RX5 cX5_walk 7 none (rmk 1 22) 163 [] [] e) (h : ok (X5_walk_j100  a1 a2 a3 a4 a5 a6 w) (sel G P)) : J κ RX5 cX5_walk 7 none (rmk 1 22) 100 [(0, .ref (ad (gm κ) 80)), (1, .int a1), (2, .int a2), (3, .int a3), (4, .int a4), (5, .int a5), (6, .int a6)] [] w := by
  unfold X5_walk_j100 at h
  refine j_iload_n 3 dX5_walk_100 rfl rfl ?_
  refine j_iload_n 1 dX5_walk_101 rfl rfl ?_
  refine j_ic_ge 137 dX5_walk_102 (by decide) h (fun h => ?_) (fun h => ?_)
  · refine j_loc [(0, .ref (ad (gm κ) 80)), (1, .int a1), (2, .int a2), (3, .int a3), (4, .int a4), (5, .int a5)] [0, 1, 2, 3, 4, 5] rfl ?_
    exact t_X5_walk_j137 a1 a2 a3 a4 a5 w KG K0 h
  · refine j_iload 6 dX5_walk_105 rfl ?_
    refine j_iconst (1 : Int32) dX5_walk_107 ki_1 ?_
    refine j_aload_n 0 dX5_walk_108 rfl rfl ?_
    refine j_iload_n 3 dX5_walk_109 rfl rfl ?_
    refine j_iconst (1 : Int32) dX5_walk_110 ki_1 ?_
    refine j_iadd dX5_walk_111 ?_
    refine j_iload 4 dX5_walk_112 rfl ?_
    obtain ⟨q5, e6, h⟩ := ok_b h
    refine j_callV (As := [.int (a3 + (1 : Int32)), .int a4]) (st := [.int (1 : Int32), .int a6]) [.int q5, .int (1 : Int32), .int a6] (c_X5_fewestAt (kl κ) (gm κ) (kA κ) (a3 + (1 : Int32)) a4 w q5 e6) ck_RX5_65 im_X5_fewestAt se_X5_fewestAt sh_80 cx_5 ⟨rfl, rfl⟩ ⟨by decide, by decide⟩ rfl rfl (Nat.le_of_ble_eq_true rfl) dX5_walk_114 _ rfl ?_
    refine j_iadd dX5_walk_117 ?_
    refine j_ic_ne 137 dX5_walk_118 (by decide) h (fun h => ?_) (fun h => ?_)
    · refine j_loc [(0, .ref (ad (gm κ) 80)), (1, .int a1), (2, .int a2), (3, .int a3), (4, .int a4), (5, .int a5)] [0, 1, 2, 3, 4, 5] rfl ?_
      exact t_X5_walk_j137 a1 a2 a3 a4 a5 w KG K0 h
    · refine j_aload_n 0 dX5_walk_121 rfl rfl ?_
      refine j_aload_n 0 dX5_walk_122 rfl rfl ?_
      refine j_getA 85 fl_RX5_25 sh_80 fk_80_5 (by decide) dX5_walk_123 ?_
      refine j_iload_n 3 dX5_walk_126 rfl rfl ?_
      refine j_iald sh_85 dX5_walk_127 h (fun h => ?_)
      obtain ⟨q7, e8, h⟩ := ok_b h
      refine j_callV (As := [.int (w.1 85 (ix a3))]) (st := []) [] (c_X5_slip (kl κ) (gm κ) (kA κ) (w.1 85 (ix a3)) w q7 e8) ck_RX5_73 im_X5_slip se_X5_slip sh_80 cx_5 ⟨rfl, rfl⟩ ⟨by decide, by decide⟩ rfl rfl (Nat.le_of_ble_eq_true rfl) dX5_walk_128 _ rfl ?_
      refine j_iinc (a3 + (1 : Int32)) 3 [(3, .int (a3 + (1 : Int32))), (0, .ref (ad (gm κ) 80)), (1, .int a1), (2, .int a2), (4, .int a4), (5, .int a5), (6, .int a6)] dX5_walk_131 rfl (by rw [kn_1]) (by decide) rfl ?_
      refine j_goto 157 dX5_walk_134 (by decide) ?_
      refine j_loc [(0, .ref (ad (gm κ) 80)), (1, .int a1), (2, .int a2), (3, .int (a3 + (1 : Int32))), (4, .int a4), (5, .int a5)] [1, 2, 3, 0, 4, 5] rfl ?_
      exact t_X5_walk_j157 a1 a2 (a3 + (1 : Int32)) a4 a5 q7 KG K0 h
noncomputable def X5_walk_j91 (a1 : Int32) (a2 : Int32) (a3 : Int32) (a4 : Int32) (a5 : Int32) (w : Wd) : Option ((Int32 × Int32 × Int32 × Wd) ⊕ Wd) :=
X5_walk_j157 a1 a2 (a3 + (1 : Int32)) (a4 + (1 : Int32)) a5 w
set_option maxRecDepth 20000 in
set_option maxHeartbeats 1000000 in
theorem t_X5_walk_j91 {κ : Kx} (a1 : Int32) (a2 : Int32) (a3 : Int32) (a4 : Int32) (a5 : Int32) (w : Wd) {G : (Int32 × Int32 × Int32 × Wd) → Prop} {P : Wd → Prop} (KG : ∀ s, G s → J κ RX5 cX5_walk 7 none (rmk 1 22) 8 [(0, .ref (ad (gm κ) 80)), (1, .int a1), (2, .int a2), (3, .int s.1), (4, .int s.2.1), (5, .int s.2.2.1)] [] s.2.2.2) (K0 : ∀ e, P e → J κ RX5 cX5_walk 7 none (rmk 1 22) 163 [] [] e) (h : ok (X5_walk_j91  a1 a2 a3 a4 a5 w) (sel G P)) : J κ RX5 cX5_walk 7 none (rmk 1 22) 91 [(0, .ref (ad (gm κ) 80)), (1, .int a1), (2, .int a2), (3, .int a3), (4, .int a4), (5, .int a5)] [] w := by
  unfold X5_walk_j91 at h
  refine j_iinc (a3 + (1 : Int32)) 3 [(3, .int (a3 + (1 : Int32))), (0, .ref (ad (gm κ) 80)), (1, .int a1), (2, .int a2), (4, .int a4), (5, .int a5)] dX5_walk_91 rfl (by rw [kn_1]) (by decide) rfl ?_
  refine j_iinc (a4 + (1 : Int32)) 4 [(4, .int (a4 + (1 : Int32))), (3, .int (a3 + (1 : Int32))), (0, .ref (ad (gm κ) 80)), (1, .int a1), (2, .int a2), (5, .int a5)] dX5_walk_94 rfl (by rw [kn_1]) (by decide) rfl ?_
  refine j_goto 157 dX5_walk_97 (by decide) ?_
  refine j_loc [(0, .ref (ad (gm κ) 80)), (1, .int a1), (2, .int a2), (3, .int (a3 + (1 : Int32))), (4, .int (a4 + (1 : Int32))), (5, .int a5)] [2, 3, 4, 1, 0, 5] rfl ?_
  exact t_X5_walk_j157 a1 a2 (a3 + (1 : Int32)) (a4 + (1 : Int32)) a5 w KG K0 h
noncomputable def X5_walk_j26 (a1 : Int32) (a2 : Int32) (a3 : Int32) (a4 : Int32) (a5 : Int32) (w : Wd) : Option ((Int32 × Int32 × Int32 × Wd) ⊕ Wd) :=
(X5_fewestAt a3 a4 w).bind fun q1 =>
(if a1 ≤ a3 then
X5_walk_j100 a1 a2 a3 a4 a5 q1 w
else
(if a2 ≤ a4 then
X5_walk_j100 a1 a2 a3 a4 a5 q1 w
else
(X5_slipOf a3 a4 w).bind fun q9 =>
(X5_fewestAt (a3 + (1 : Int32)) (a4 + (1 : Int32)) w).bind fun q11 =>
(if q1 = (q9 + q11) then
(X5_slipOf a3 a4 w).bind fun q13 =>
(if q13 = (1 : Int32) then
gd (vp_in a3 8) <|
(X5_slip (w.1 85 (ix a3)) w).bind fun q15 =>
X5_walk_j91 a1 a2 a3 a4 a5 q15
else
X5_walk_j91 a1 a2 a3 a4 a5 w)
else
X5_walk_j100 a1 a2 a3 a4 a5 q1 w)))
set_option maxRecDepth 20000 in
set_option maxHeartbeats 1000000 in
theorem t_X5_walk_j26 {κ : Kx} (a1 : Int32) (a2 : Int32) (a3 : Int32) (a4 : Int32) (a5 : Int32) (w : Wd) {G : (Int32 × Int32 × Int32 × Wd) → Prop} {P : Wd → Prop} (KG : ∀ s, G s → J κ RX5 cX5_walk 7 none (rmk 1 22) 8 [(0, .ref (ad (gm κ) 80)), (1, .int a1), (2, .int a2), (3, .int s.1), (4, .int s.2.1), (5, .int s.2.2.1)] [] s.2.2.2) (K0 : ∀ e, P e → J κ RX5 cX5_walk 7 none (rmk 1 22) 163 [] [] e) (h : ok (X5_walk_j26  a1 a2 a3 a4 a5 w) (sel G P)) : J κ RX5 cX5_walk 7 none (rmk 1 22) 26 [(0, .ref (ad (gm κ) 80)), (1, .int a1), (2, .int a2), (3, .int a3), (4, .int a4), (5, .int a5)] [] w := by
  unfold X5_walk_j26 at h
  refine j_aload_n 0 dX5_walk_26 rfl rfl ?_
  refine j_iload_n 3 dX5_walk_27 rfl rfl ?_
  refine j_iload 4 dX5_walk_28 rfl ?_
  obtain ⟨q1, e2, h⟩ := ok_b h
  refine j_callV (As := [.int a3, .int a4]) (st := []) [.int q1] (c_X5_fewestAt (kl κ) (gm κ) (kA κ) a3 a4 w q1 e2) ck_RX5_65 im_X5_fewestAt se_X5_fewestAt sh_80 cx_5 ⟨rfl, rfl⟩ ⟨by decide, by decide⟩ rfl rfl (Nat.le_of_ble_eq_true rfl) dX5_walk_30 _ rfl ?_
  refine j_istore [(6, .int q1), (0, .ref (ad (gm κ) 80)), (1, .int a1), (2, .int a2), (3, .int a3), (4, .int a4), (5, .int a5)] dX5_walk_33 (by decide) rfl ?_
  refine j_iload_n 4 dX5_walk_35 rfl rfl ?_
  refine j_iload_n 2 dX5_walk_36 rfl rfl ?_
  refine j_ic_ge 100 dX5_walk_37 (by decide) h (fun h => ?_) (fun h => ?_)
  · refine j_loc [(0, .ref (ad (gm κ) 80)), (1, .int a1), (2, .int a2), (3, .int a3), (4, .int a4), (5, .int a5), (6, .int q1)] [1, 2, 3, 4, 5, 6, 0] rfl ?_
    exact t_X5_walk_j100 a1 a2 a3 a4 a5 q1 w KG K0 h
  · refine j_iload 5 dX5_walk_40 rfl ?_
    refine j_iload_n 3 dX5_walk_42 rfl rfl ?_
    refine j_ic_ge 100 dX5_walk_43 (by decide) h (fun h => ?_) (fun h => ?_)
    · refine j_loc [(0, .ref (ad (gm κ) 80)), (1, .int a1), (2, .int a2), (3, .int a3), (4, .int a4), (5, .int a5), (6, .int q1)] [1, 2, 3, 4, 5, 6, 0] rfl ?_
      exact t_X5_walk_j100 a1 a2 a3 a4 a5 q1 w KG K0 h
    · refine j_iload 0 dX5_walk_46 rfl ?_
      refine j_aload_n 1 dX5_walk_48 rfl rfl ?_
      refine j_iload_n 4 dX5_walk_49 rfl rfl ?_
      refine j_iload 5 dX5_walk_50 rfl ?_
      obtain ⟨q9, e10, h⟩ := ok_b h
      refine j_callV (As := [.int a3, .int a4]) (st := [.int q1]) [.int q9, .int q1] (c_X5_slipOf (kl κ) (gm κ) (kA κ) a3 a4 w q9 e10) ck_RX5_61 im_X5_slipOf se_X5_slipOf sh_80 cx_5 ⟨rfl, rfl⟩ ⟨by decide, by decide⟩ rfl rfl (Nat.le_of_ble_eq_true rfl) dX5_walk_52 _ rfl ?_
      refine j_aload_n 1 dX5_walk_55 rfl rfl ?_
      refine j_iload_n 4 dX5_walk_56 rfl rfl ?_
      refine j_iconst (1 : Int32) dX5_walk_57 ki_1 ?_
      refine j_iadd dX5_walk_58 ?_
      refine j_iload 5 dX5_walk_59 rfl ?_
      refine j_iconst (1 : Int32) dX5_walk_61 ki_1 ?_
      refine j_iadd dX5_walk_62 ?_
      obtain ⟨q11, e12, h⟩ := ok_b h
      refine j_callV (As := [.int (a3 + (1 : Int32)), .int (a4 + (1 : Int32))]) (st := [.int q9, .int q1]) [.int q11, .int q9, .int q1] (c_X5_fewestAt (kl κ) (gm κ) (kA κ) (a3 + (1 : Int32)) (a4 + (1 : Int32)) w q11 e12) ck_RX5_65 im_X5_fewestAt se_X5_fewestAt sh_80 cx_5 ⟨rfl, rfl⟩ ⟨by decide, by decide⟩ rfl rfl (Nat.le_of_ble_eq_true rfl) dX5_walk_63 _ rfl ?_
      refine j_iadd dX5_walk_66 ?_
      refine j_ic_ne 100 dX5_walk_67 (by decide) h (fun h => ?_) (fun h => ?_)
      · refine j_loc [(0, .ref (ad (gm κ) 80)), (1, .int a1), (2, .int a2), (3, .int a3), (4, .int a4), (5, .int a5), (6, .int q1)] [1, 2, 3, 4, 5, 6, 0] rfl ?_
        exact t_X5_walk_j100 a1 a2 a3 a4 a5 q1 w KG K0 h
      · refine j_aload_n 1 dX5_walk_70 rfl rfl ?_
        refine j_iload_n 4 dX5_walk_71 rfl rfl ?_
        refine j_iload 5 dX5_walk_72 rfl ?_
        obtain ⟨q13, e14, h⟩ := ok_b h
        refine j_callV (As := [.int a3, .int a4]) (st := []) [.int q13] (c_X5_slipOf (kl κ) (gm κ) (kA κ) a3 a4 w q13 e14) ck_RX5_61 im_X5_slipOf se_X5_slipOf sh_80 cx_5 ⟨rfl, rfl⟩ ⟨by decide, by decide⟩ rfl rfl (Nat.le_of_ble_eq_true rfl) dX5_walk_74 _ rfl ?_
        refine j_iconst (1 : Int32) dX5_walk_77 ki_1 ?_
        refine j_ic_ne 91 dX5_walk_78 (by decide) h (fun h => ?_) (fun h => ?_)
        · refine j_loc [(0, .ref (ad (gm κ) 80)), (1, .int a1), (2, .int a2), (3, .int a3), (4, .int a4), (5, .int a5)] [1, 2, 3, 4, 5, 6] rfl ?_
          exact t_X5_walk_j91 a1 a2 a3 a4 a5 w KG K0 h
        · refine j_aload_n 1 dX5_walk_81 rfl rfl ?_
          refine j_aload_n 1 dX5_walk_82 rfl rfl ?_
          refine j_getA 85 fl_RX5_25 sh_80 fk_80_5 (by decide) dX5_walk_83 ?_
          refine j_iload_n 4 dX5_walk_86 rfl rfl ?_
          refine j_iald sh_85 dX5_walk_87 h (fun h => ?_)
          obtain ⟨q15, e16, h⟩ := ok_b h
          refine j_callV (As := [.int (w.1 85 (ix a3))]) (st := []) [] (c_X5_slip (kl κ) (gm κ) (kA κ) (w.1 85 (ix a3)) w q15 e16) ck_RX5_73 im_X5_slip se_X5_slip sh_80 cx_5 ⟨rfl, rfl⟩ ⟨by decide, by decide⟩ rfl rfl (Nat.le_of_ble_eq_true rfl) dX5_walk_88 _ rfl ?_
          refine j_loc [(0, .ref (ad (gm κ) 80)), (1, .int a1), (2, .int a2), (3, .int a3), (4, .int a4), (5, .int a5)] [1, 2, 3, 4, 5, 6] rfl ?_
          exact t_X5_walk_j91 a1 a2 a3 a4 a5 q15 KG K0 h
noncomputable def X5_walk_b8 (a1 : Int32) (a2 : Int32) (s : (Int32 × Int32 × Int32 × Wd)) : Option ((Int32 × Int32 × Int32 × Wd) ⊕ Wd) :=
(if (16 : Int32) ≤ s.2.2.1 then
some (.inr s.2.2.2)
else
(if s.1 < a1 then
X5_walk_j26 a1 a2 s.1 s.2.1 s.2.2.1 s.2.2.2
else
(if a2 ≤ s.2.1 then
some (.inr s.2.2.2)
else
X5_walk_j26 a1 a2 s.1 s.2.1 s.2.2.1 s.2.2.2)))
set_option maxRecDepth 20000 in
set_option maxHeartbeats 1000000 in
theorem t_X5_walk_b8 {κ : Kx} (a1 : Int32) (a2 : Int32) {P : Wd → Prop} (K0 : ∀ e, P e → J κ RX5 cX5_walk 7 none (rmk 1 22) 163 [] [] e) (s : (Int32 × Int32 × Int32 × Wd)) (h : ok (lp (X5_walk_b8  a1 a2) s) P) : J κ RX5 cX5_walk 7 none (rmk 1 22) 8 [(0, .ref (ad (gm κ) 80)), (1, .int a1), (2, .int a2), (3, .int s.1), (4, .int s.2.1), (5, .int s.2.2.1)] [] s.2.2.2 := by
  refine lp_ind (fun s => J κ RX5 cX5_walk 7 none (rmk 1 22) 8 [(0, .ref (ad (gm κ) 80)), (1, .int a1), (2, .int a2), (3, .int s.1), (4, .int s.2.1), (5, .int s.2.2.1)] [] s.2.2.2) (fun s h => ?_) s h
  unfold X5_walk_b8 at h
  refine j_iload 5 dX5_walk_8 rfl ?_
  refine j_bipush (16 : Int32) dX5_walk_10 kb_16 ?_
  refine j_ic_ge 163 dX5_walk_12 (by decide) h (fun h => ?_) (fun h => ?_)
  · refine j_loc [] [] rfl ?_
    have h := sel_r h
    have h := K0 _ h
    exact h
  · refine j_iload_n 3 dX5_walk_15 rfl rfl ?_
    refine j_iload_n 1 dX5_walk_16 rfl rfl ?_
    refine j_ic_lt 26 dX5_walk_17 (by decide) h (fun h => ?_) (fun h => ?_)
    · refine j_loc [(0, .ref (ad (gm κ) 80)), (1, .int a1), (2, .int a2), (3, .int s.1), (4, .int s.2.1), (5, .int s.2.2.1)] [0, 1, 2, 3, 4, 5] rfl ?_
      exact t_X5_walk_j26 a1 a2 s.1 s.2.1 s.2.2.1 s.2.2.2 (fun _ h => h) K0 h
    · refine j_iload 4 dX5_walk_20 rfl ?_
      refine j_iload_n 2 dX5_walk_22 rfl rfl ?_
      refine j_ic_ge 163 dX5_walk_23 (by decide) h (fun h => ?_) (fun h => ?_)
      · refine j_loc [] [] rfl ?_
        have h := sel_r h
        have h := K0 _ h
        exact h
      · refine j_loc [(0, .ref (ad (gm κ) 80)), (1, .int a1), (2, .int a2), (3, .int s.1), (4, .int s.2.1), (5, .int s.2.2.1)] [0, 1, 2, 3, 4, 5] rfl ?_
        exact t_X5_walk_j26 a1 a2 s.1 s.2.1 s.2.2.1 s.2.2.2 (fun _ h => h) K0 h
noncomputable def X5_walk (a1 : Int32) (a2 : Int32) (w : Wd) : Option (Wd) :=
(lp (X5_walk_b8 a1 a2) ((0 : Int32), (0 : Int32), (0 : Int32), w)).bind fun e17 =>
some e17
set_option maxRecDepth 20000 in
set_option maxHeartbeats 1000000 in
theorem t_X5_walk {κ : Kx} (a1 : Int32) (a2 : Int32) (w : Wd) (h : ok (X5_walk  a1 a2 w) (PVw κ)) : J κ RX5 cX5_walk 7 none (rmk 1 22) 0 [(0, .ref (ad (gm κ) 80)), (1, .int a1), (2, .int a2)] [] w := by
  unfold X5_walk at h
  refine j_iconst (0 : Int32) dX5_walk_0 ki_0 ?_
  refine j_istore_n [(3, .int (0 : Int32)), (0, .ref (ad (gm κ) 80)), (1, .int a1), (2, .int a2)] dX5_walk_1 rfl (by decide) rfl ?_
  refine j_iconst (0 : Int32) dX5_walk_2 ki_0 ?_
  refine j_istore [(4, .int (0 : Int32)), (3, .int (0 : Int32)), (0, .ref (ad (gm κ) 80)), (1, .int a1), (2, .int a2)] dX5_walk_3 (by decide) rfl ?_
  refine j_iconst (0 : Int32) dX5_walk_5 ki_0 ?_
  refine j_istore [(5, .int (0 : Int32)), (4, .int (0 : Int32)), (3, .int (0 : Int32)), (0, .ref (ad (gm κ) 80)), (1, .int a1), (2, .int a2)] dX5_walk_6 (by decide) rfl ?_
  refine j_loc [(0, .ref (ad (gm κ) 80)), (1, .int a1), (2, .int a2), (3, .int (0 : Int32)), (4, .int (0 : Int32)), (5, .int (0 : Int32))] [3, 4, 5, 2, 1, 0] rfl ?_
  refine t_X5_walk_b8 a1 a2 (fun e17 h => ?_) ((0 : Int32), (0 : Int32), (0 : Int32), w) (ok_bb h)
  · have h := ok_s h
    exact j_vret dX5_walk_163 rfl h
theorem c_X5_walk (l : Launch) (γ : Gm) (A : Nat → Prop) (a1 : Int32) (a2 : Int32) (w : Wd) (q : Wd) (e : X5_walk  a1 a2 w = some q) : MetG l γ A yX5_walk cX5_walk 7 none (rmk 1 22) [.ref (ad (γ) 80), .int a1, .int a2] w none q := by
  refine met_of pn_RX5 (Nat.le_of_ble_eq_true rfl) ?_
  intro κ hl hγ hA hρ
  subst hl; subst hγ; subst hA
  exact t_X5_walk   a1 a2 w ⟨q, e, pVw hρ rfl rfl⟩
theorem dX5_add_0 : decode cX5_add 0 = .ok (.lload_n 3, 1) := by decide +kernel
theorem dX5_add_1 : decode cX5_add 1 = .ok (.aload_n 0, 1) := by decide +kernel
theorem dX5_add_2 : decode cX5_add 2 = .ok (.getfield 25, 3) := by decide +kernel
theorem dX5_add_5 : decode cX5_add 5 = .ok (.invokestatic 50, 3) := by decide +kernel
theorem dX5_add_8 : decode cX5_add 8 = .ok (.istore 7, 2) := by decide +kernel
theorem dX5_add_10 : decode cX5_add 10 = .ok (.lload 5, 2) := by decide +kernel
theorem dX5_add_12 : decode cX5_add 12 = .ok (.aload_n 0, 1) := by decide +kernel
theorem dX5_add_13 : decode cX5_add 13 = .ok (.getfield 28, 3) := by decide +kernel
theorem dX5_add_16 : decode cX5_add 16 = .ok (.invokestatic 50, 3) := by decide +kernel
theorem dX5_add_19 : decode cX5_add 19 = .ok (.istore 8, 2) := by decide +kernel
theorem dX5_add_21 : decode cX5_add 21 = .ok (.aload_n 0, 1) := by decide +kernel
theorem dX5_add_22 : decode cX5_add 22 = .ok (.getfield 11, 3) := by decide +kernel
theorem dX5_add_25 : decode cX5_add 25 = .ok (.aload_n 0, 1) := by decide +kernel
theorem dX5_add_26 : decode cX5_add 26 = .ok (.getfield 34, 3) := by decide +kernel
theorem dX5_add_29 : decode cX5_add 29 = .ok (.iload_n 1, 1) := by decide +kernel
theorem dX5_add_30 : decode cX5_add 30 = .ok (.iastore, 1) := by decide +kernel
theorem dX5_add_31 : decode cX5_add 31 = .ok (.aload_n 0, 1) := by decide +kernel
theorem dX5_add_32 : decode cX5_add 32 = .ok (.getfield 15, 3) := by decide +kernel
theorem dX5_add_35 : decode cX5_add 35 = .ok (.aload_n 0, 1) := by decide +kernel
theorem dX5_add_36 : decode cX5_add 36 = .ok (.getfield 34, 3) := by decide +kernel
theorem dX5_add_39 : decode cX5_add 39 = .ok (.iload_n 2, 1) := by decide +kernel
theorem dX5_add_40 : decode cX5_add 40 = .ok (.iastore, 1) := by decide +kernel
theorem dX5_add_41 : decode cX5_add 41 = .ok (.aload_n 0, 1) := by decide +kernel
theorem dX5_add_42 : decode cX5_add 42 = .ok (.getfield 18, 3) := by decide +kernel
theorem dX5_add_45 : decode cX5_add 45 = .ok (.aload_n 0, 1) := by decide +kernel
theorem dX5_add_46 : decode cX5_add 46 = .ok (.getfield 34, 3) := by decide +kernel
theorem dX5_add_49 : decode cX5_add 49 = .ok (.iconst 0, 1) := by decide +kernel
theorem dX5_add_50 : decode cX5_add 50 = .ok (.iastore, 1) := by decide +kernel
theorem dX5_add_51 : decode cX5_add 51 = .ok (.aload_n 0, 1) := by decide +kernel
theorem dX5_add_52 : decode cX5_add 52 = .ok (.iload 7, 2) := by decide +kernel
theorem dX5_add_54 : decode cX5_add 54 = .ok (.iload 8, 2) := by decide +kernel
theorem dX5_add_56 : decode cX5_add 56 = .ok (.invokevirtual 54, 3) := by decide +kernel
theorem dX5_add_59 : decode cX5_add 59 = .ok (.aload_n 0, 1) := by decide +kernel
theorem dX5_add_60 : decode cX5_add 60 = .ok (.iload 7, 2) := by decide +kernel
theorem dX5_add_62 : decode cX5_add 62 = .ok (.iload 8, 2) := by decide +kernel
theorem dX5_add_64 : decode cX5_add 64 = .ok (.invokevirtual 58, 3) := by decide +kernel
theorem dX5_add_67 : decode cX5_add 67 = .ok (.aload_n 0, 1) := by decide +kernel
theorem dX5_add_68 : decode cX5_add 68 = .ok (.dup, 1) := by decide +kernel
theorem dX5_add_69 : decode cX5_add 69 = .ok (.getfield 34, 3) := by decide +kernel
theorem dX5_add_72 : decode cX5_add 72 = .ok (.dup_x1, 1) := by decide +kernel
theorem dX5_add_73 : decode cX5_add 73 = .ok (.iconst 1, 1) := by decide +kernel
theorem dX5_add_74 : decode cX5_add 74 = .ok (.iadd, 1) := by decide +kernel
theorem dX5_add_75 : decode cX5_add 75 = .ok (.putfield 34, 3) := by decide +kernel
theorem dX5_add_78 : decode cX5_add 78 = .ok (.ireturn, 1) := by decide +kernel
noncomputable def X5_add (a1 : Int32) (a2 : Int32) (a3 : Int64) (a5 : Int64) (w : Wd) : Option (Int32 × Wd) :=
(X5_spell 85 8 a3 w).bind fun q1 =>
(X5_spell 86 8 a5 q1.2).bind fun q3 =>
gd (vp_in (q3.2.1 80 0) 60) <|
(some (puI q3.2 81 (ix (q3.2.1 80 0)) a1)).bind fun w5 =>
gd (vp_in (w5.1 80 0) 60) <|
(some (puI w5 82 (ix (w5.1 80 0)) a2)).bind fun w6 =>
gd (vp_in (w6.1 80 0) 60) <|
(some (puI w6 83 (ix (w6.1 80 0)) (0 : Int32))).bind fun w7 =>
(X5_measure q1.1 q3.1 w7).bind fun q8 =>
(X5_walk q1.1 q3.1 q8).bind fun q10 =>
(some (puI q10 80 0 ((q10.1 80 0) + (1 : Int32)))).bind fun w12 =>
some ((q10.1 80 0), w12)
set_option maxRecDepth 20000 in
set_option maxHeartbeats 1000000 in
theorem t_X5_add {κ : Kx} (a1 : Int32) (a2 : Int32) (a3 : Int64) (a5 : Int64) (w : Wd) (h : ok (X5_add  a1 a2 a3 a5 w) (PIw κ)) : J κ RX5 cX5_add 9 (some .int) (rmk 2 50) 0 [(0, .ref (ad (gm κ) 80)), (1, .int a1), (2, .int a2), (3, .long a3), (5, .long a5)] [] w := by
  unfold X5_add at h
  refine j_lload_n 3 dX5_add_0 rfl rfl ?_
  refine j_aload_n 0 dX5_add_1 rfl rfl ?_
  refine j_getA 85 fl_RX5_25 sh_80 fk_80_5 (by decide) dX5_add_2 ?_
  obtain ⟨q1, e2, h⟩ := ok_b h
  refine j_callS (As := [.long a3, .ref (ad (gm κ) 85)]) (st := []) [.int q1.1] (c_X5_spell (kl κ) (gm κ) (kA κ) 85 8 sh_85 a3 w q1 e2) ck_RX5_50 st_X5_spell ⟨rfl, rfl⟩ ⟨by decide, by decide⟩ rfl rfl (Nat.le_of_ble_eq_true rfl) dX5_add_5 _ rfl ?_
  refine j_istore [(7, .int q1.1), (0, .ref (ad (gm κ) 80)), (1, .int a1), (2, .int a2), (3, .long a3), (5, .long a5)] dX5_add_8 (by decide) rfl ?_
  refine j_lload 5 dX5_add_10 rfl ?_
  refine j_aload_n 1 dX5_add_12 rfl rfl ?_
  refine j_getA 86 fl_RX5_28 sh_80 fk_80_6 (by decide) dX5_add_13 ?_
  obtain ⟨q3, e4, h⟩ := ok_b h
  refine j_callS (As := [.long a5, .ref (ad (gm κ) 86)]) (st := []) [.int q3.1] (c_X5_spell (kl κ) (gm κ) (kA κ) 86 8 sh_86 a5 q1.2 q3 e4) ck_RX5_50 st_X5_spell ⟨rfl, rfl⟩ ⟨by decide, by decide⟩ rfl rfl (Nat.le_of_ble_eq_true rfl) dX5_add_16 _ rfl ?_
  refine j_istore [(8, .int q3.1), (7, .int q1.1), (0, .ref (ad (gm κ) 80)), (1, .int a1), (2, .int a2), (3, .long a3), (5, .long a5)] dX5_add_19 (by decide) rfl ?_
  refine j_aload_n 2 dX5_add_21 rfl rfl ?_
  refine j_getA 81 fl_RX5_11 sh_80 fk_80_1 (by decide) dX5_add_22 ?_
  refine j_aload_n 2 dX5_add_25 rfl rfl ?_
  refine j_getI fl_RX5_34 sh_80 fk_80_0 dX5_add_26 ?_
  refine j_iload_n 3 dX5_add_29 rfl rfl ?_
  refine j_iast sh_81 dX5_add_30 h (fun h => ?_)
  refine j_lW h (fun w5 h => ?_)
  refine j_aload_n 2 dX5_add_31 rfl rfl ?_
  refine j_getA 82 fl_RX5_15 sh_80 fk_80_2 (by decide) dX5_add_32 ?_
  refine j_aload_n 2 dX5_add_35 rfl rfl ?_
  refine j_getI fl_RX5_34 sh_80 fk_80_0 dX5_add_36 ?_
  refine j_iload_n 4 dX5_add_39 rfl rfl ?_
  refine j_iast sh_82 dX5_add_40 h (fun h => ?_)
  refine j_lW h (fun w6 h => ?_)
  refine j_aload_n 2 dX5_add_41 rfl rfl ?_
  refine j_getA 83 fl_RX5_18 sh_80 fk_80_3 (by decide) dX5_add_42 ?_
  refine j_aload_n 2 dX5_add_45 rfl rfl ?_
  refine j_getI fl_RX5_34 sh_80 fk_80_0 dX5_add_46 ?_
  refine j_iconst (0 : Int32) dX5_add_49 ki_0 ?_
  refine j_iast sh_83 dX5_add_50 h (fun h => ?_)
  refine j_lW h (fun w7 h => ?_)
  refine j_aload_n 2 dX5_add_51 rfl rfl ?_
  refine j_iload 1 dX5_add_52 rfl ?_
  refine j_iload 0 dX5_add_54 rfl ?_
  obtain ⟨q8, e9, h⟩ := ok_b h
  refine j_callV (As := [.int q1.1, .int q3.1]) (st := []) [] (c_X5_measure (kl κ) (gm κ) (kA κ) q1.1 q3.1 w7 q8 e9) ck_RX5_54 im_X5_measure se_X5_measure sh_80 cx_5 ⟨rfl, rfl⟩ ⟨by decide, by decide⟩ rfl rfl (Nat.le_of_ble_eq_true rfl) dX5_add_56 _ rfl ?_
  refine j_aload_n 2 dX5_add_59 rfl rfl ?_
  refine j_iload 1 dX5_add_60 rfl ?_
  refine j_iload 0 dX5_add_62 rfl ?_
  obtain ⟨q10, e11, h⟩ := ok_b h
  refine j_callV (As := [.int q1.1, .int q3.1]) (st := []) [] (c_X5_walk (kl κ) (gm κ) (kA κ) q1.1 q3.1 q8 q10 e11) ck_RX5_58 im_X5_walk se_X5_walk sh_80 cx_5 ⟨rfl, rfl⟩ ⟨by decide, by decide⟩ rfl rfl (Nat.le_of_ble_eq_true rfl) dX5_add_64 _ rfl ?_
  refine j_aload_n 2 dX5_add_67 rfl rfl ?_
  refine j_dup dX5_add_68 rfl ?_
  refine j_getI fl_RX5_34 sh_80 fk_80_0 dX5_add_69 ?_
  refine j_dup_x1 dX5_add_72 rfl rfl ?_
  refine j_iconst (1 : Int32) dX5_add_73 ki_1 ?_
  refine j_iadd dX5_add_74 ?_
  refine j_putI fp_RX5_34 sh_80 fk_80_0 dX5_add_75 ?_
  refine j_lW h (fun w12 h => ?_)
  have h := ok_s h
  exact j_iret dX5_add_78 rfl rfl h
theorem c_X5_add (l : Launch) (γ : Gm) (A : Nat → Prop) (a1 : Int32) (a2 : Int32) (a3 : Int64) (a5 : Int64) (w : Wd) (q : Int32 × Wd) (e : X5_add  a1 a2 a3 a5 w = some q) : MetG l γ A yX5_add cX5_add 9 (some .int) (rmk 2 50) [.ref (ad (γ) 80), .int a1, .int a2, .long a3, .long a5] w (some (.int q.1)) q.2 := by
  refine met_of pn_RX5 (Nat.le_of_ble_eq_true rfl) ?_
  intro κ hl hγ hA hρ
  subst hl; subst hγ; subst hA
  exact t_X5_add   a1 a2 a3 a5 w ⟨q, e, pIw hρ rfl rfl⟩
theorem dX5_countOwed_0 : decode cX5_countOwed 0 = .ok (.iload 4, 2) := by decide +kernel
theorem dX5_countOwed_2 : decode cX5_countOwed 2 = .ok (.iload_n 2, 1) := by decide +kernel
theorem dX5_countOwed_3 : decode cX5_countOwed 3 = .ok (.ishr, 1) := by decide +kernel
theorem dX5_countOwed_4 : decode cX5_countOwed 4 = .ok (.iconst 1, 1) := by decide +kernel
theorem dX5_countOwed_5 : decode cX5_countOwed 5 = .ok (.iand, 1) := by decide +kernel
theorem dX5_countOwed_6 : decode cX5_countOwed 6 = .ok (.ifCond .eq 5, 3) := by decide +kernel
theorem dX5_countOwed_9 : decode cX5_countOwed 9 = .ok (.iconst 0, 1) := by decide +kernel
theorem dX5_countOwed_10 : decode cX5_countOwed 10 = .ok (.ireturn, 1) := by decide +kernel
theorem dX5_countOwed_11 : decode cX5_countOwed 11 = .ok (.iconst 0, 1) := by decide +kernel
theorem dX5_countOwed_12 : decode cX5_countOwed 12 = .ok (.istore 5, 2) := by decide +kernel
theorem dX5_countOwed_14 : decode cX5_countOwed 14 = .ok (.iconst 0, 1) := by decide +kernel
theorem dX5_countOwed_15 : decode cX5_countOwed 15 = .ok (.istore 6, 2) := by decide +kernel
theorem dX5_countOwed_17 : decode cX5_countOwed 17 = .ok (.iload 6, 2) := by decide +kernel
theorem dX5_countOwed_19 : decode cX5_countOwed 19 = .ok (.aload_n 0, 1) := by decide +kernel
theorem dX5_countOwed_20 : decode cX5_countOwed 20 = .ok (.getfield 18, 3) := by decide +kernel
theorem dX5_countOwed_23 : decode cX5_countOwed 23 = .ok (.iload_n 1, 1) := by decide +kernel
theorem dX5_countOwed_24 : decode cX5_countOwed 24 = .ok (.iaload, 1) := by decide +kernel
theorem dX5_countOwed_25 : decode cX5_countOwed 25 = .ok (.if_icmp .ge 32, 3) := by decide +kernel
theorem dX5_countOwed_28 : decode cX5_countOwed 28 = .ok (.aload_n 3, 1) := by decide +kernel
theorem dX5_countOwed_29 : decode cX5_countOwed 29 = .ok (.aload_n 0, 1) := by decide +kernel
theorem dX5_countOwed_30 : decode cX5_countOwed 30 = .ok (.getfield 21, 3) := by decide +kernel
theorem dX5_countOwed_33 : decode cX5_countOwed 33 = .ok (.iload_n 1, 1) := by decide +kernel
theorem dX5_countOwed_34 : decode cX5_countOwed 34 = .ok (.bipush 8, 2) := by decide +kernel
theorem dX5_countOwed_36 : decode cX5_countOwed 36 = .ok (.imul, 1) := by decide +kernel
theorem dX5_countOwed_37 : decode cX5_countOwed 37 = .ok (.iload 6, 2) := by decide +kernel
theorem dX5_countOwed_39 : decode cX5_countOwed 39 = .ok (.iadd, 1) := by decide +kernel
theorem dX5_countOwed_40 : decode cX5_countOwed 40 = .ok (.baload, 1) := by decide +kernel
theorem dX5_countOwed_41 : decode cX5_countOwed 41 = .ok (.invokevirtual 77, 3) := by decide +kernel
theorem dX5_countOwed_44 : decode cX5_countOwed 44 = .ok (.iload_n 2, 1) := by decide +kernel
theorem dX5_countOwed_45 : decode cX5_countOwed 45 = .ok (.if_icmp .ne 6, 3) := by decide +kernel
theorem dX5_countOwed_48 : decode cX5_countOwed 48 = .ok (.iinc 5 1, 3) := by decide +kernel
theorem dX5_countOwed_51 : decode cX5_countOwed 51 = .ok (.iinc 6 1, 3) := by decide +kernel
theorem dX5_countOwed_54 : decode cX5_countOwed 54 = .ok (.goto (-37), 3) := by decide +kernel
theorem dX5_countOwed_57 : decode cX5_countOwed 57 = .ok (.iload 5, 2) := by decide +kernel
theorem dX5_countOwed_59 : decode cX5_countOwed 59 = .ok (.ireturn, 1) := by decide +kernel
noncomputable def X5_countOwed_j51 (a1 : Int32) (a2 : Int32) (a5 : Int32) (a6 : Int32) (w : Wd) : Option ((Int32 × Int32) ⊕ Int32) :=
some (.inl (a5, (a6 + (1 : Int32))))
set_option maxRecDepth 20000 in
set_option maxHeartbeats 1000000 in
theorem t_X5_countOwed_j51 {κ : Kx} (a1 : Int32) (a2 : Int32) (a5 : Int32) (a6 : Int32) (w : Wd) {G : (Int32 × Int32) → Prop} {P : Int32 → Prop} (KG : ∀ s, G s → J κ RX5 cX5_countOwed 7 (some .int) (rmk 1 22) 17 [(0, .ref (ad (gm κ) 80)), (1, .int a1), (2, .int a2), (3, .ref (ad (gm κ) 69)), (5, .int s.1), (6, .int s.2)] [] w) (K0 : ∀ e, P e → J κ RX5 cX5_countOwed 7 (some .int) (rmk 1 22) 57 [(5, .int e)] [] w) (h : ok (X5_countOwed_j51  a1 a2 a5 a6 w) (sel G P)) : J κ RX5 cX5_countOwed 7 (some .int) (rmk 1 22) 51 [(0, .ref (ad (gm κ) 80)), (1, .int a1), (2, .int a2), (3, .ref (ad (gm κ) 69)), (5, .int a5), (6, .int a6)] [] w := by
  unfold X5_countOwed_j51 at h
  refine j_iinc (a6 + (1 : Int32)) 5 [(6, .int (a6 + (1 : Int32))), (0, .ref (ad (gm κ) 80)), (1, .int a1), (2, .int a2), (3, .ref (ad (gm κ) 69)), (5, .int a5)] dX5_countOwed_51 rfl (by rw [kn_1]) (by decide) rfl ?_
  refine j_goto 17 dX5_countOwed_54 (by decide) ?_
  refine j_loc [(0, .ref (ad (gm κ) 80)), (1, .int a1), (2, .int a2), (3, .ref (ad (gm κ) 69)), (5, .int a5), (6, .int (a6 + (1 : Int32)))] [1, 2, 3, 4, 5, 0] rfl ?_
  have h := sel_l h
  have h := KG _ h
  exact h
noncomputable def X5_countOwed_b17 (a1 : Int32) (a2 : Int32) (w : Wd) (s : (Int32 × Int32)) : Option ((Int32 × Int32) ⊕ Int32) :=
gd (vp_in a1 60) <|
(if (w.1 83 (ix a1)) ≤ s.2 then
some (.inr s.1)
else
gd (vp_in ((a1 * (8 : Int32)) + s.2) 480) <|
(X3_firstFor (w.1 84 (ix ((a1 * (8 : Int32)) + s.2))) w).bind fun q1 =>
(if q1 = a2 then
X5_countOwed_j51 a1 a2 (s.1 + (1 : Int32)) s.2 w
else
X5_countOwed_j51 a1 a2 s.1 s.2 w))
set_option maxRecDepth 20000 in
set_option maxHeartbeats 1000000 in
theorem t_X5_countOwed_b17 {κ : Kx} (a1 : Int32) (a2 : Int32) (w : Wd) {P : Int32 → Prop} (K0 : ∀ e, P e → J κ RX5 cX5_countOwed 7 (some .int) (rmk 1 22) 57 [(5, .int e)] [] w) (s : (Int32 × Int32)) (h : ok (lp (X5_countOwed_b17  a1 a2 w) s) P) : J κ RX5 cX5_countOwed 7 (some .int) (rmk 1 22) 17 [(0, .ref (ad (gm κ) 80)), (1, .int a1), (2, .int a2), (3, .ref (ad (gm κ) 69)), (5, .int s.1), (6, .int s.2)] [] w := by
  refine lp_ind (fun s => J κ RX5 cX5_countOwed 7 (some .int) (rmk 1 22) 17 [(0, .ref (ad (gm κ) 80)), (1, .int a1), (2, .int a2), (3, .ref (ad (gm κ) 69)), (5, .int s.1), (6, .int s.2)] [] w) (fun s h => ?_) s h
  unfold X5_countOwed_b17 at h
  refine j_iload 5 dX5_countOwed_17 rfl ?_
  refine j_aload_n 0 dX5_countOwed_19 rfl rfl ?_
  refine j_getA 83 fl_RX5_18 sh_80 fk_80_3 (by decide) dX5_countOwed_20 ?_
  refine j_iload_n 1 dX5_countOwed_23 rfl rfl ?_
  refine j_iald sh_83 dX5_countOwed_24 h (fun h => ?_)
  refine j_ic_ge 57 dX5_countOwed_25 (by decide) h (fun h => ?_) (fun h => ?_)
  · refine j_loc [(5, .int s.1)] [4] rfl ?_
    have h := sel_r h
    have h := K0 _ h
    exact h
  · refine j_aload_n 3 dX5_countOwed_28 rfl rfl ?_
    refine j_aload_n 0 dX5_countOwed_29 rfl rfl ?_
    refine j_getA 84 fl_RX5_21 sh_80 fk_80_4 (by decide) dX5_countOwed_30 ?_
    refine j_iload_n 1 dX5_countOwed_33 rfl rfl ?_
    refine j_bipush (8 : Int32) dX5_countOwed_34 kb_8 ?_
    refine j_imul dX5_countOwed_36 ?_
    refine j_iload 5 dX5_countOwed_37 rfl ?_
    refine j_iadd dX5_countOwed_39 ?_
    refine j_bald sh_84 dX5_countOwed_40 h (fun h => ?_)
    obtain ⟨q1, e2, h⟩ := ok_b h
    refine j_callV (As := [.int (w.1 84 (ix ((a1 * (8 : Int32)) + s.2)))]) (st := []) [.int q1] (c_X3_firstFor (kl κ) (gm κ) (kA κ) (w.1 84 (ix ((a1 * (8 : Int32)) + s.2))) w q1 e2) ck_RX5_77 im_X3_firstFor se_X3_firstFor sh_69 cx_3 ⟨rfl, rfl⟩ ⟨by decide, by decide⟩ rfl rfl (Nat.le_of_ble_eq_true rfl) dX5_countOwed_41 _ rfl ?_
    refine j_iload_n 2 dX5_countOwed_44 rfl rfl ?_
    refine j_ic_ne 51 dX5_countOwed_45 (by decide) h (fun h => ?_) (fun h => ?_)
    · refine j_loc [(0, .ref (ad (gm κ) 80)), (1, .int a1), (2, .int a2), (3, .ref (ad (gm κ) 69)), (5, .int s.1), (6, .int s.2)] [0, 1, 2, 3, 4, 5] rfl ?_
      exact t_X5_countOwed_j51 a1 a2 s.1 s.2 w (fun _ h => h) K0 h
    · refine j_iinc (s.1 + (1 : Int32)) 4 [(5, .int (s.1 + (1 : Int32))), (0, .ref (ad (gm κ) 80)), (1, .int a1), (2, .int a2), (3, .ref (ad (gm κ) 69)), (6, .int s.2)] dX5_countOwed_48 rfl (by rw [kn_1]) (by decide) rfl ?_
      refine j_loc [(0, .ref (ad (gm κ) 80)), (1, .int a1), (2, .int a2), (3, .ref (ad (gm κ) 69)), (5, .int (s.1 + (1 : Int32))), (6, .int s.2)] [1, 2, 3, 4, 0, 5] rfl ?_
      exact t_X5_countOwed_j51 a1 a2 (s.1 + (1 : Int32)) s.2 w (fun _ h => h) K0 h
noncomputable def X5_countOwed (a1 : Int32) (a2 : Int32) (a4 : Int32) (w : Wd) : Option (Int32) :=
(if ((a4 >>> (a2 &&& 31)) &&& (1 : Int32)) = 0 then
(lp (X5_countOwed_b17 a1 a2 w) ((0 : Int32), (0 : Int32))).bind fun e3 =>
some e3
else
some (0 : Int32))
set_option maxRecDepth 20000 in
set_option maxHeartbeats 1000000 in
theorem t_X5_countOwed {κ : Kx} (a1 : Int32) (a2 : Int32) (a4 : Int32) (w : Wd) (h : ok (X5_countOwed  a1 a2 a4 w) (PI κ w)) : J κ RX5 cX5_countOwed 7 (some .int) (rmk 1 22) 0 [(0, .ref (ad (gm κ) 80)), (1, .int a1), (2, .int a2), (3, .ref (ad (gm κ) 69)), (4, .int a4)] [] w := by
  unfold X5_countOwed at h
  refine j_iload 4 dX5_countOwed_0 rfl ?_
  refine j_iload_n 2 dX5_countOwed_2 rfl rfl ?_
  refine j_ishr dX5_countOwed_3 ?_
  refine j_iconst (1 : Int32) dX5_countOwed_4 ki_1 ?_
  refine j_iand dX5_countOwed_5 ?_
  refine j_if_eq 11 dX5_countOwed_6 (by decide) h (fun h => ?_) (fun h => ?_)
  · refine j_iconst (0 : Int32) dX5_countOwed_11 ki_0 ?_
    refine j_istore [(5, .int (0 : Int32)), (0, .ref (ad (gm κ) 80)), (1, .int a1), (2, .int a2), (3, .ref (ad (gm κ) 69)), (4, .int a4)] dX5_countOwed_12 (by decide) rfl ?_
    refine j_iconst (0 : Int32) dX5_countOwed_14 ki_0 ?_
    refine j_istore [(6, .int (0 : Int32)), (5, .int (0 : Int32)), (0, .ref (ad (gm κ) 80)), (1, .int a1), (2, .int a2), (3, .ref (ad (gm κ) 69)), (4, .int a4)] dX5_countOwed_15 (by decide) rfl ?_
    refine j_loc [(0, .ref (ad (gm κ) 80)), (1, .int a1), (2, .int a2), (3, .ref (ad (gm κ) 69)), (5, .int (0 : Int32)), (6, .int (0 : Int32))] [2, 3, 4, 5, 1, 0] rfl ?_
    refine t_X5_countOwed_b17 a1 a2 w (fun e3 h => ?_) ((0 : Int32), (0 : Int32)) (ok_bb h)
    · refine j_iload 0 dX5_countOwed_57 rfl ?_
      have h := ok_s h
      exact j_iret dX5_countOwed_59 rfl rfl h
  · refine j_iconst (0 : Int32) dX5_countOwed_9 ki_0 ?_
    have h := ok_s h
    exact j_iret dX5_countOwed_10 rfl rfl h
theorem c_X5_countOwed (l : Launch) (γ : Gm) (A : Nat → Prop) (a1 : Int32) (a2 : Int32) (a4 : Int32) (w : Wd) (q : Int32) (e : X5_countOwed  a1 a2 a4 w = some q) : MetG l γ A yX5_countOwed cX5_countOwed 7 (some .int) (rmk 1 22) [.ref (ad (γ) 80), .int a1, .int a2, .ref (ad (γ) 69), .int a4] w (some (.int q)) w := by
  refine met_of pn_RX5 (Nat.le_of_ble_eq_true rfl) ?_
  intro κ hl hγ hA hρ
  subst hl; subst hγ; subst hA
  exact t_X5_countOwed   a1 a2 a4 w ⟨q, e, pI hρ rfl rfl⟩
theorem dX5_latestBy_0 : decode cX5_latestBy 0 = .ok (.iconst (-1), 1) := by decide +kernel
theorem dX5_latestBy_1 : decode cX5_latestBy 1 = .ok (.istore_n 3, 1) := by decide +kernel
theorem dX5_latestBy_2 : decode cX5_latestBy 2 = .ok (.iconst 0, 1) := by decide +kernel
theorem dX5_latestBy_3 : decode cX5_latestBy 3 = .ok (.istore 4, 2) := by decide +kernel
theorem dX5_latestBy_5 : decode cX5_latestBy 5 = .ok (.iload 4, 2) := by decide +kernel
theorem dX5_latestBy_7 : decode cX5_latestBy 7 = .ok (.aload_n 0, 1) := by decide +kernel
theorem dX5_latestBy_8 : decode cX5_latestBy 8 = .ok (.getfield 34, 3) := by decide +kernel
theorem dX5_latestBy_11 : decode cX5_latestBy 11 = .ok (.if_icmp .ge 67, 3) := by decide +kernel
theorem dX5_latestBy_14 : decode cX5_latestBy 14 = .ok (.aload_n 0, 1) := by decide +kernel
theorem dX5_latestBy_15 : decode cX5_latestBy 15 = .ok (.getfield 11, 3) := by decide +kernel
theorem dX5_latestBy_18 : decode cX5_latestBy 18 = .ok (.iload 4, 2) := by decide +kernel
theorem dX5_latestBy_20 : decode cX5_latestBy 20 = .ok (.iaload, 1) := by decide +kernel
theorem dX5_latestBy_21 : decode cX5_latestBy 21 = .ok (.iload_n 1, 1) := by decide +kernel
theorem dX5_latestBy_22 : decode cX5_latestBy 22 = .ok (.if_icmp .ne 18, 3) := by decide +kernel
theorem dX5_latestBy_25 : decode cX5_latestBy 25 = .ok (.aload_n 0, 1) := by decide +kernel
theorem dX5_latestBy_26 : decode cX5_latestBy 26 = .ok (.getfield 15, 3) := by decide +kernel
theorem dX5_latestBy_29 : decode cX5_latestBy 29 = .ok (.iload 4, 2) := by decide +kernel
theorem dX5_latestBy_31 : decode cX5_latestBy 31 = .ok (.iaload, 1) := by decide +kernel
theorem dX5_latestBy_32 : decode cX5_latestBy 32 = .ok (.iload_n 2, 1) := by decide +kernel
theorem dX5_latestBy_33 : decode cX5_latestBy 33 = .ok (.if_icmp .gt 7, 3) := by decide +kernel
theorem dX5_latestBy_36 : decode cX5_latestBy 36 = .ok (.iconst 1, 1) := by decide +kernel
theorem dX5_latestBy_37 : decode cX5_latestBy 37 = .ok (.goto 4, 3) := by decide +kernel
theorem dX5_latestBy_40 : decode cX5_latestBy 40 = .ok (.iconst 0, 1) := by decide +kernel
theorem dX5_latestBy_41 : decode cX5_latestBy 41 = .ok (.istore 5, 2) := by decide +kernel
theorem dX5_latestBy_43 : decode cX5_latestBy 43 = .ok (.iload 5, 2) := by decide +kernel
theorem dX5_latestBy_45 : decode cX5_latestBy 45 = .ok (.ifCond .eq 27, 3) := by decide +kernel
theorem dX5_latestBy_48 : decode cX5_latestBy 48 = .ok (.iload_n 3, 1) := by decide +kernel
theorem dX5_latestBy_49 : decode cX5_latestBy 49 = .ok (.iconst (-1), 1) := by decide +kernel
theorem dX5_latestBy_50 : decode cX5_latestBy 50 = .ok (.if_icmp .eq 19, 3) := by decide +kernel
theorem dX5_latestBy_53 : decode cX5_latestBy 53 = .ok (.aload_n 0, 1) := by decide +kernel
theorem dX5_latestBy_54 : decode cX5_latestBy 54 = .ok (.getfield 15, 3) := by decide +kernel
theorem dX5_latestBy_57 : decode cX5_latestBy 57 = .ok (.iload 4, 2) := by decide +kernel
theorem dX5_latestBy_59 : decode cX5_latestBy 59 = .ok (.iaload, 1) := by decide +kernel
theorem dX5_latestBy_60 : decode cX5_latestBy 60 = .ok (.aload_n 0, 1) := by decide +kernel
theorem dX5_latestBy_61 : decode cX5_latestBy 61 = .ok (.getfield 15, 3) := by decide +kernel
theorem dX5_latestBy_64 : decode cX5_latestBy 64 = .ok (.iload_n 3, 1) := by decide +kernel
theorem dX5_latestBy_65 : decode cX5_latestBy 65 = .ok (.iaload, 1) := by decide +kernel
theorem dX5_latestBy_66 : decode cX5_latestBy 66 = .ok (.if_icmp .lt 6, 3) := by decide +kernel
theorem dX5_latestBy_69 : decode cX5_latestBy 69 = .ok (.iload 4, 2) := by decide +kernel
theorem dX5_latestBy_71 : decode cX5_latestBy 71 = .ok (.istore_n 3, 1) := by decide +kernel
theorem dX5_latestBy_72 : decode cX5_latestBy 72 = .ok (.iinc 4 1, 3) := by decide +kernel
theorem dX5_latestBy_75 : decode cX5_latestBy 75 = .ok (.goto (-70), 3) := by decide +kernel
theorem dX5_latestBy_78 : decode cX5_latestBy 78 = .ok (.iload_n 3, 1) := by decide +kernel
theorem dX5_latestBy_79 : decode cX5_latestBy 79 = .ok (.ireturn, 1) := by decide +kernel
noncomputable def X5_latestBy_j72 (a1 : Int32) (a2 : Int32) (a3 : Int32) (a4 : Int32) (w : Wd) : Option ((Int32 × Int32) ⊕ Int32) :=
some (.inl (a3, (a4 + (1 : Int32))))
set_option maxRecDepth 20000 in
set_option maxHeartbeats 1000000 in
theorem t_X5_latestBy_j72 {κ : Kx} (a1 : Int32) (a2 : Int32) (a3 : Int32) (a4 : Int32) (w : Wd) {G : (Int32 × Int32) → Prop} {P : Int32 → Prop} (KG : ∀ s, G s → J κ RX5 cX5_latestBy 6 (some .int) (rmk 0 0) 5 [(0, .ref (ad (gm κ) 80)), (1, .int a1), (2, .int a2), (3, .int s.1), (4, .int s.2)] [] w) (K0 : ∀ e, P e → J κ RX5 cX5_latestBy 6 (some .int) (rmk 0 0) 78 [(3, .int e)] [] w) (h : ok (X5_latestBy_j72  a1 a2 a3 a4 w) (sel G P)) : J κ RX5 cX5_latestBy 6 (some .int) (rmk 0 0) 72 [(0, .ref (ad (gm κ) 80)), (1, .int a1), (2, .int a2), (3, .int a3), (4, .int a4)] [] w := by
  unfold X5_latestBy_j72 at h
  refine j_iinc (a4 + (1 : Int32)) 4 [(4, .int (a4 + (1 : Int32))), (0, .ref (ad (gm κ) 80)), (1, .int a1), (2, .int a2), (3, .int a3)] dX5_latestBy_72 rfl (by rw [kn_1]) (by decide) rfl ?_
  refine j_goto 5 dX5_latestBy_75 (by decide) ?_
  refine j_loc [(0, .ref (ad (gm κ) 80)), (1, .int a1), (2, .int a2), (3, .int a3), (4, .int (a4 + (1 : Int32)))] [1, 2, 3, 4, 0] rfl ?_
  have h := sel_l h
  have h := KG _ h
  exact h
noncomputable def X5_latestBy_j69 (a1 : Int32) (a2 : Int32) (a4 : Int32) (w : Wd) : Option ((Int32 × Int32) ⊕ Int32) :=
X5_latestBy_j72 a1 a2 a4 a4 w
set_option maxRecDepth 20000 in
set_option maxHeartbeats 1000000 in
theorem t_X5_latestBy_j69 {κ : Kx} (a1 : Int32) (a2 : Int32) (a4 : Int32) (w : Wd) {G : (Int32 × Int32) → Prop} {P : Int32 → Prop} (KG : ∀ s, G s → J κ RX5 cX5_latestBy 6 (some .int) (rmk 0 0) 5 [(0, .ref (ad (gm κ) 80)), (1, .int a1), (2, .int a2), (3, .int s.1), (4, .int s.2)] [] w) (K0 : ∀ e, P e → J κ RX5 cX5_latestBy 6 (some .int) (rmk 0 0) 78 [(3, .int e)] [] w) (h : ok (X5_latestBy_j69  a1 a2 a4 w) (sel G P)) : J κ RX5 cX5_latestBy 6 (some .int) (rmk 0 0) 69 [(0, .ref (ad (gm κ) 80)), (1, .int a1), (2, .int a2), (4, .int a4)] [] w := by
  unfold X5_latestBy_j69 at h
  refine j_iload 3 dX5_latestBy_69 rfl ?_
  refine j_istore_n [(3, .int a4), (0, .ref (ad (gm κ) 80)), (1, .int a1), (2, .int a2), (4, .int a4)] dX5_latestBy_71 rfl (by decide) rfl ?_
  refine j_loc [(0, .ref (ad (gm κ) 80)), (1, .int a1), (2, .int a2), (3, .int a4), (4, .int a4)] [1, 2, 3, 0, 4] rfl ?_
  exact t_X5_latestBy_j72 a1 a2 a4 a4 w KG K0 h
noncomputable def X5_latestBy_j41 (a1 : Int32) (a2 : Int32) (a3 : Int32) (a4 : Int32) (s0 : Int32) (w : Wd) : Option ((Int32 × Int32) ⊕ Int32) :=
(if s0 = 0 then
X5_latestBy_j72 a1 a2 a3 a4 w
else
(if a3 = (-1 : Int32) then
X5_latestBy_j69 a1 a2 a4 w
else
gd (vp_in a4 60) <|
gd (vp_in a3 60) <|
(if (w.1 82 (ix a4)) < (w.1 82 (ix a3)) then
X5_latestBy_j72 a1 a2 a3 a4 w
else
X5_latestBy_j69 a1 a2 a4 w)))
set_option maxRecDepth 20000 in
set_option maxHeartbeats 1000000 in
theorem t_X5_latestBy_j41 {κ : Kx} (a1 : Int32) (a2 : Int32) (a3 : Int32) (a4 : Int32) (s0 : Int32) (w : Wd) {G : (Int32 × Int32) → Prop} {P : Int32 → Prop} (KG : ∀ s, G s → J κ RX5 cX5_latestBy 6 (some .int) (rmk 0 0) 5 [(0, .ref (ad (gm κ) 80)), (1, .int a1), (2, .int a2), (3, .int s.1), (4, .int s.2)] [] w) (K0 : ∀ e, P e → J κ RX5 cX5_latestBy 6 (some .int) (rmk 0 0) 78 [(3, .int e)] [] w) (h : ok (X5_latestBy_j41  a1 a2 a3 a4 s0 w) (sel G P)) : J κ RX5 cX5_latestBy 6 (some .int) (rmk 0 0) 41 [(0, .ref (ad (gm κ) 80)), (1, .int a1), (2, .int a2), (3, .int a3), (4, .int a4)] [.int s0] w := by
  unfold X5_latestBy_j41 at h
  refine j_istore [(5, .int s0), (0, .ref (ad (gm κ) 80)), (1, .int a1), (2, .int a2), (3, .int a3), (4, .int a4)] dX5_latestBy_41 (by decide) rfl ?_
  refine j_iload 0 dX5_latestBy_43 rfl ?_
  refine j_if_eq 72 dX5_latestBy_45 (by decide) h (fun h => ?_) (fun h => ?_)
  · refine j_loc [(0, .ref (ad (gm κ) 80)), (1, .int a1), (2, .int a2), (3, .int a3), (4, .int a4)] [1, 2, 3, 4, 5] rfl ?_
    exact t_X5_latestBy_j72 a1 a2 a3 a4 w KG K0 h
  · refine j_iload_n 4 dX5_latestBy_48 rfl rfl ?_
    refine j_iconst (-1 : Int32) dX5_latestBy_49 ki_m1 ?_
    refine j_ic_eq 69 dX5_latestBy_50 (by decide) h (fun h => ?_) (fun h => ?_)
    · refine j_loc [(0, .ref (ad (gm κ) 80)), (1, .int a1), (2, .int a2), (4, .int a4)] [1, 2, 3, 5] rfl ?_
      exact t_X5_latestBy_j69 a1 a2 a4 w KG K0 h
    · refine j_aload_n 1 dX5_latestBy_53 rfl rfl ?_
      refine j_getA 82 fl_RX5_15 sh_80 fk_80_2 (by decide) dX5_latestBy_54 ?_
      refine j_iload 5 dX5_latestBy_57 rfl ?_
      refine j_iald sh_82 dX5_latestBy_59 h (fun h => ?_)
      refine j_aload_n 1 dX5_latestBy_60 rfl rfl ?_
      refine j_getA 82 fl_RX5_15 sh_80 fk_80_2 (by decide) dX5_latestBy_61 ?_
      refine j_iload_n 4 dX5_latestBy_64 rfl rfl ?_
      refine j_iald sh_82 dX5_latestBy_65 h (fun h => ?_)
      refine j_ic_lt 72 dX5_latestBy_66 (by decide) h (fun h => ?_) (fun h => ?_)
      · refine j_loc [(0, .ref (ad (gm κ) 80)), (1, .int a1), (2, .int a2), (3, .int a3), (4, .int a4)] [1, 2, 3, 4, 5] rfl ?_
        exact t_X5_latestBy_j72 a1 a2 a3 a4 w KG K0 h
      · refine j_loc [(0, .ref (ad (gm κ) 80)), (1, .int a1), (2, .int a2), (4, .int a4)] [1, 2, 3, 5] rfl ?_
        exact t_X5_latestBy_j69 a1 a2 a4 w KG K0 h
noncomputable def X5_latestBy_j40 (a1 : Int32) (a2 : Int32) (a3 : Int32) (a4 : Int32) (w : Wd) : Option ((Int32 × Int32) ⊕ Int32) :=
X5_latestBy_j41 a1 a2 a3 a4 (0 : Int32) w
set_option maxRecDepth 20000 in
set_option maxHeartbeats 1000000 in
theorem t_X5_latestBy_j40 {κ : Kx} (a1 : Int32) (a2 : Int32) (a3 : Int32) (a4 : Int32) (w : Wd) {G : (Int32 × Int32) → Prop} {P : Int32 → Prop} (KG : ∀ s, G s → J κ RX5 cX5_latestBy 6 (some .int) (rmk 0 0) 5 [(0, .ref (ad (gm κ) 80)), (1, .int a1), (2, .int a2), (3, .int s.1), (4, .int s.2)] [] w) (K0 : ∀ e, P e → J κ RX5 cX5_latestBy 6 (some .int) (rmk 0 0) 78 [(3, .int e)] [] w) (h : ok (X5_latestBy_j40  a1 a2 a3 a4 w) (sel G P)) : J κ RX5 cX5_latestBy 6 (some .int) (rmk 0 0) 40 [(0, .ref (ad (gm κ) 80)), (1, .int a1), (2, .int a2), (3, .int a3), (4, .int a4)] [] w := by
  unfold X5_latestBy_j40 at h
  refine j_iconst (0 : Int32) dX5_latestBy_40 ki_0 ?_
  refine j_loc [(0, .ref (ad (gm κ) 80)), (1, .int a1), (2, .int a2), (3, .int a3), (4, .int a4)] [0, 1, 2, 3, 4] rfl ?_
  exact t_X5_latestBy_j41 a1 a2 a3 a4 (0 : Int32) w KG K0 h
noncomputable def X5_latestBy_b5 (a1 : Int32) (a2 : Int32) (w : Wd) (s : (Int32 × Int32)) : Option ((Int32 × Int32) ⊕ Int32) :=
(if (w.1 80 0) ≤ s.2 then
some (.inr s.1)
else
gd (vp_in s.2 60) <|
(if (w.1 81 (ix s.2)) = a1 then
gd (vp_in s.2 60) <|
(if a2 < (w.1 82 (ix s.2)) then
X5_latestBy_j40 a1 a2 s.1 s.2 w
else
X5_latestBy_j41 a1 a2 s.1 s.2 (1 : Int32) w)
else
X5_latestBy_j40 a1 a2 s.1 s.2 w))
set_option maxRecDepth 20000 in
set_option maxHeartbeats 1000000 in
theorem t_X5_latestBy_b5 {κ : Kx} (a1 : Int32) (a2 : Int32) (w : Wd) {P : Int32 → Prop} (K0 : ∀ e, P e → J κ RX5 cX5_latestBy 6 (some .int) (rmk 0 0) 78 [(3, .int e)] [] w) (s : (Int32 × Int32)) (h : ok (lp (X5_latestBy_b5  a1 a2 w) s) P) : J κ RX5 cX5_latestBy 6 (some .int) (rmk 0 0) 5 [(0, .ref (ad (gm κ) 80)), (1, .int a1), (2, .int a2), (3, .int s.1), (4, .int s.2)] [] w := by
  refine lp_ind (fun s => J κ RX5 cX5_latestBy 6 (some .int) (rmk 0 0) 5 [(0, .ref (ad (gm κ) 80)), (1, .int a1), (2, .int a2), (3, .int s.1), (4, .int s.2)] [] w) (fun s h => ?_) s h
  unfold X5_latestBy_b5 at h
  refine j_iload 4 dX5_latestBy_5 rfl ?_
  refine j_aload_n 0 dX5_latestBy_7 rfl rfl ?_
  refine j_getI fl_RX5_34 sh_80 fk_80_0 dX5_latestBy_8 ?_
  refine j_ic_ge 78 dX5_latestBy_11 (by decide) h (fun h => ?_) (fun h => ?_)
  · refine j_loc [(3, .int s.1)] [3] rfl ?_
    have h := sel_r h
    have h := K0 _ h
    exact h
  · refine j_aload_n 0 dX5_latestBy_14 rfl rfl ?_
    refine j_getA 81 fl_RX5_11 sh_80 fk_80_1 (by decide) dX5_latestBy_15 ?_
    refine j_iload 4 dX5_latestBy_18 rfl ?_
    refine j_iald sh_81 dX5_latestBy_20 h (fun h => ?_)
    refine j_iload_n 1 dX5_latestBy_21 rfl rfl ?_
    refine j_ic_ne 40 dX5_latestBy_22 (by decide) h (fun h => ?_) (fun h => ?_)
    · refine j_loc [(0, .ref (ad (gm κ) 80)), (1, .int a1), (2, .int a2), (3, .int s.1), (4, .int s.2)] [0, 1, 2, 3, 4] rfl ?_
      exact t_X5_latestBy_j40 a1 a2 s.1 s.2 w (fun _ h => h) K0 h
    · refine j_aload_n 0 dX5_latestBy_25 rfl rfl ?_
      refine j_getA 82 fl_RX5_15 sh_80 fk_80_2 (by decide) dX5_latestBy_26 ?_
      refine j_iload 4 dX5_latestBy_29 rfl ?_
      refine j_iald sh_82 dX5_latestBy_31 h (fun h => ?_)
      refine j_iload_n 2 dX5_latestBy_32 rfl rfl ?_
      refine j_ic_gt 40 dX5_latestBy_33 (by decide) h (fun h => ?_) (fun h => ?_)
      · refine j_loc [(0, .ref (ad (gm κ) 80)), (1, .int a1), (2, .int a2), (3, .int s.1), (4, .int s.2)] [0, 1, 2, 3, 4] rfl ?_
        exact t_X5_latestBy_j40 a1 a2 s.1 s.2 w (fun _ h => h) K0 h
      · refine j_iconst (1 : Int32) dX5_latestBy_36 ki_1 ?_
        refine j_goto 41 dX5_latestBy_37 (by decide) ?_
        refine j_loc [(0, .ref (ad (gm κ) 80)), (1, .int a1), (2, .int a2), (3, .int s.1), (4, .int s.2)] [0, 1, 2, 3, 4] rfl ?_
        exact t_X5_latestBy_j41 a1 a2 s.1 s.2 (1 : Int32) w (fun _ h => h) K0 h
noncomputable def X5_latestBy (a1 : Int32) (a2 : Int32) (w : Wd) : Option (Int32) :=
(lp (X5_latestBy_b5 a1 a2 w) ((-1 : Int32), (0 : Int32))).bind fun e1 =>
some e1
set_option maxRecDepth 20000 in
set_option maxHeartbeats 1000000 in
theorem t_X5_latestBy {κ : Kx} (a1 : Int32) (a2 : Int32) (w : Wd) (h : ok (X5_latestBy  a1 a2 w) (PI κ w)) : J κ RX5 cX5_latestBy 6 (some .int) (rmk 0 0) 0 [(0, .ref (ad (gm κ) 80)), (1, .int a1), (2, .int a2)] [] w := by
  unfold X5_latestBy at h
  refine j_iconst (-1 : Int32) dX5_latestBy_0 ki_m1 ?_
  refine j_istore_n [(3, .int (-1 : Int32)), (0, .ref (ad (gm κ) 80)), (1, .int a1), (2, .int a2)] dX5_latestBy_1 rfl (by decide) rfl ?_
  refine j_iconst (0 : Int32) dX5_latestBy_2 ki_0 ?_
  refine j_istore [(4, .int (0 : Int32)), (3, .int (-1 : Int32)), (0, .ref (ad (gm κ) 80)), (1, .int a1), (2, .int a2)] dX5_latestBy_3 (by decide) rfl ?_
  refine j_loc [(0, .ref (ad (gm κ) 80)), (1, .int a1), (2, .int a2), (3, .int (-1 : Int32)), (4, .int (0 : Int32))] [2, 3, 4, 1, 0] rfl ?_
  refine t_X5_latestBy_b5 a1 a2 w (fun e1 h => ?_) ((-1 : Int32), (0 : Int32)) (ok_bb h)
  · refine j_iload_n 0 dX5_latestBy_78 rfl rfl ?_
    have h := ok_s h
    exact j_iret dX5_latestBy_79 rfl rfl h
theorem c_X5_latestBy (l : Launch) (γ : Gm) (A : Nat → Prop) (a1 : Int32) (a2 : Int32) (w : Wd) (q : Int32) (e : X5_latestBy  a1 a2 w = some q) : MetG l γ A yX5_latestBy cX5_latestBy 6 (some .int) (rmk 0 0) [.ref (ad (γ) 80), .int a1, .int a2] w (some (.int q)) w := by
  refine met_of pn_RX5 (Nat.le_of_ble_eq_true rfl) ?_
  intro κ hl hγ hA hρ
  subst hl; subst hγ; subst hA
  exact t_X5_latestBy   a1 a2 w ⟨q, e, pI hρ rfl rfl⟩
theorem dX6_pack_0 : decode cX6_pack 0 = .ok (.lload_n 0, 1) := by decide +kernel
theorem dX6_pack_1 : decode cX6_pack 1 = .ok (.iconst 5, 1) := by decide +kernel
theorem dX6_pack_2 : decode cX6_pack 2 = .ok (.lshl, 1) := by decide +kernel
theorem dX6_pack_3 : decode cX6_pack 3 = .ok (.iload_n 2, 1) := by decide +kernel
theorem dX6_pack_4 : decode cX6_pack 4 = .ok (.bipush 97, 2) := by decide +kernel
theorem dX6_pack_6 : decode cX6_pack 6 = .ok (.isub, 1) := by decide +kernel
theorem dX6_pack_7 : decode cX6_pack 7 = .ok (.iconst 1, 1) := by decide +kernel
theorem dX6_pack_8 : decode cX6_pack 8 = .ok (.iadd, 1) := by decide +kernel
theorem dX6_pack_9 : decode cX6_pack 9 = .ok (.i2l, 1) := by decide +kernel
theorem dX6_pack_10 : decode cX6_pack 10 = .ok (.lor, 1) := by decide +kernel
theorem dX6_pack_11 : decode cX6_pack 11 = .ok (.lreturn, 1) := by decide +kernel
noncomputable def X6_packO (a0 : Int64) (a2 : Int32) (w : Wd) : Option (Int64) :=
some ((a0 <<< (Int32.toInt64 (5 : Int32) &&& 63)) ||| (Int32.toInt64 ((a2 - (97 : Int32)) + (1 : Int32))))
set_option maxRecDepth 20000 in
set_option maxHeartbeats 1000000 in
theorem t_X6_pack {κ : Kx} (a0 : Int64) (a2 : Int32) (w : Wd) (h : ok (X6_packO  a0 a2 w) (PJ κ w)) : J κ RX6 cX6_pack 3 (some .long) (rmk 0 0) 0 [(0, .long a0), (2, .int a2)] [] w := by
  unfold X6_packO at h
  refine j_lload_n 0 dX6_pack_0 rfl rfl ?_
  refine j_iconst (5 : Int32) dX6_pack_1 ki_5 ?_
  refine j_lshl dX6_pack_2 ?_
  refine j_iload_n 1 dX6_pack_3 rfl rfl ?_
  refine j_bipush (97 : Int32) dX6_pack_4 kb_97 ?_
  refine j_isub dX6_pack_6 ?_
  refine j_iconst (1 : Int32) dX6_pack_7 ki_1 ?_
  refine j_iadd dX6_pack_8 ?_
  refine j_i2l dX6_pack_9 ?_
  refine j_lor dX6_pack_10 ?_
  have h := ok_s h
  exact j_lret dX6_pack_11 rfl h
noncomputable def X6_pack (a0 : Int64) (a2 : Int32) (w : Wd) : Int64 := (X6_packO  a0 a2 w).getD 0
theorem X6_pack_eq (a0 : Int64) (a2 : Int32) (w : Wd) : X6_packO  a0 a2 w = some (X6_pack  a0 a2 w) := by
  unfold X6_pack X6_packO
  repeat (first | rfl | split)
theorem c_X6_pack (l : Launch) (γ : Gm) (A : Nat → Prop) (a0 : Int64) (a2 : Int32) (w : Wd) : MetG l γ A yX6_pack cX6_pack 3 (some .long) (rmk 0 0) [.long a0, .int a2] w (some (.long (X6_pack  a0 a2 w))) w := by
  refine met_of pn_RX6 (Nat.le_of_ble_eq_true rfl) ?_
  intro κ hl hγ hA hρ
  subst hl; subst hγ; subst hA
  exact t_X6_pack   a0 a2 w ⟨_, X6_pack_eq  a0 a2 w, pJ hρ rfl rfl⟩
theorem dX6_hasRoomForFive_0 : decode cX6_hasRoomForFive 0 = .ok (.aload_n 0, 1) := by decide +kernel
theorem dX6_hasRoomForFive_1 : decode cX6_hasRoomForFive 1 = .ok (.getfield 52, 3) := by decide +kernel
theorem dX6_hasRoomForFive_4 : decode cX6_hasRoomForFive 4 = .ok (.bipush 20, 2) := by decide +kernel
theorem dX6_hasRoomForFive_6 : decode cX6_hasRoomForFive 6 = .ok (.iadd, 1) := by decide +kernel
theorem dX6_hasRoomForFive_7 : decode cX6_hasRoomForFive 7 = .ok (.sipush 600, 3) := by decide +kernel
theorem dX6_hasRoomForFive_10 : decode cX6_hasRoomForFive 10 = .ok (.if_icmp .gt 7, 3) := by decide +kernel
theorem dX6_hasRoomForFive_13 : decode cX6_hasRoomForFive 13 = .ok (.iconst 1, 1) := by decide +kernel
theorem dX6_hasRoomForFive_14 : decode cX6_hasRoomForFive 14 = .ok (.goto 4, 3) := by decide +kernel
theorem dX6_hasRoomForFive_17 : decode cX6_hasRoomForFive 17 = .ok (.iconst 0, 1) := by decide +kernel
theorem dX6_hasRoomForFive_18 : decode cX6_hasRoomForFive 18 = .ok (.ireturn, 1) := by decide +kernel
noncomputable def X6_hasRoomForFiveO (w : Wd) : Option (Int32) :=
(if (600 : Int32) < ((w.1 65 2) + (20 : Int32)) then
some (0 : Int32)
else
some (1 : Int32))
set_option maxRecDepth 20000 in
set_option maxHeartbeats 1000000 in
theorem t_X6_hasRoomForFive {κ : Kx} (w : Wd) (h : ok (X6_hasRoomForFiveO   w) (PI κ w)) : J κ RX6 cX6_hasRoomForFive 1 (some .boolean) (rmk 0 0) 0 [(0, .ref (ad (gm κ) 65))] [] w := by
  unfold X6_hasRoomForFiveO at h
  refine j_aload_n 0 dX6_hasRoomForFive_0 rfl rfl ?_
  refine j_getI fl_RX6_52 sh_65 fk_65_2 dX6_hasRoomForFive_1 ?_
  refine j_bipush (20 : Int32) dX6_hasRoomForFive_4 kb_20 ?_
  refine j_iadd dX6_hasRoomForFive_6 ?_
  refine j_sipush (600 : Int32) dX6_hasRoomForFive_7 ks_600 ?_
  refine j_ic_gt 17 dX6_hasRoomForFive_10 (by decide) h (fun h => ?_) (fun h => ?_)
  · refine j_iconst (0 : Int32) dX6_hasRoomForFive_17 ki_0 ?_
    have h := ok_s h
    exact j_iret dX6_hasRoomForFive_18 rfl (by decide) h
  · refine j_iconst (1 : Int32) dX6_hasRoomForFive_13 ki_1 ?_
    refine j_goto 18 dX6_hasRoomForFive_14 (by decide) ?_
    have h := ok_s h
    exact j_iret dX6_hasRoomForFive_18 rfl (by decide) h
noncomputable def X6_hasRoomForFive (w : Wd) : Int32 := (X6_hasRoomForFiveO   w).getD 0
theorem X6_hasRoomForFive_eq (w : Wd) : X6_hasRoomForFiveO   w = some (X6_hasRoomForFive   w) := by
  unfold X6_hasRoomForFive X6_hasRoomForFiveO
  repeat (first | rfl | split)
theorem nz_X6_hasRoomForFive (w : Wd) : narrow .boolean (.int (X6_hasRoomForFive   w)) = .int (X6_hasRoomForFive   w) := by
  unfold X6_hasRoomForFive X6_hasRoomForFiveO
  repeat (first | rfl | split)
theorem c_X6_hasRoomForFive (l : Launch) (γ : Gm) (A : Nat → Prop) (w : Wd) : MetG l γ A yX6_hasRoomForFive cX6_hasRoomForFive 1 (some .boolean) (rmk 0 0) [.ref (ad (γ) 65)] w (some (.int (X6_hasRoomForFive   w))) w := by
  refine met_of pn_RX6 (Nat.le_of_ble_eq_true rfl) ?_
  intro κ hl hγ hA hρ
  subst hl; subst hγ; subst hA
  exact t_X6_hasRoomForFive    w ⟨_, X6_hasRoomForFive_eq   w, pI hρ rfl rfl⟩
