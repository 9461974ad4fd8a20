theorem dX12_flag_0 : decode cX12_flag 0 = .ok (.aload_n 0, 1) := by decide +kernel
theorem dX12_flag_1 : decode cX12_flag 1 = .ok (.iload_n 1, 1) := by decide +kernel
theorem dX12_flag_2 : decode cX12_flag 2 = .ok (.invokevirtual 319, 3) := by decide +kernel
theorem dX12_flag_5 : decode cX12_flag 5 = .ok (.ifCond .eq 10, 3) := by decide +kernel
theorem dX12_flag_8 : decode cX12_flag 8 = .ok (.iload_n 2, 1) := by decide +kernel
theorem dX12_flag_9 : decode cX12_flag 9 = .ok (.invokestatic 322, 3) := by decide +kernel
theorem dX12_flag_12 : decode cX12_flag 12 = .ok (.ifCond .ne 9, 3) := by decide +kernel
theorem dX12_flag_15 : decode cX12_flag 15 = .ok (.aload_n 0, 1) := by decide +kernel
theorem dX12_flag_16 : decode cX12_flag 16 = .ok (.iconst 1, 1) := by decide +kernel
theorem dX12_flag_17 : decode cX12_flag 17 = .ok (.invokevirtual 312, 3) := by decide +kernel
theorem dX12_flag_20 : decode cX12_flag 20 = .ok (.ireturn, 1) := by decide +kernel
theorem dX12_flag_21 : decode cX12_flag 21 = .ok (.iconst 0, 1) := by decide +kernel
theorem dX12_flag_22 : decode cX12_flag 22 = .ok (.istore_n 3, 1) := by decide +kernel
theorem dX12_flag_23 : decode cX12_flag 23 = .ok (.iconst 0, 1) := by decide +kernel
theorem dX12_flag_24 : decode cX12_flag 24 = .ok (.istore 4, 2) := by decide +kernel
theorem dX12_flag_26 : decode cX12_flag 26 = .ok (.iconst 0, 1) := by decide +kernel
theorem dX12_flag_27 : decode cX12_flag 27 = .ok (.istore 5, 2) := by decide +kernel
theorem dX12_flag_29 : decode cX12_flag 29 = .ok (.iload 5, 2) := by decide +kernel
theorem dX12_flag_31 : decode cX12_flag 31 = .ok (.aload_n 0, 1) := by decide +kernel
theorem dX12_flag_32 : decode cX12_flag 32 = .ok (.getfield 300, 3) := by decide +kernel
theorem dX12_flag_35 : decode cX12_flag 35 = .ok (.if_icmp .ge 46, 3) := by decide +kernel
theorem dX12_flag_38 : decode cX12_flag 38 = .ok (.aload_n 0, 1) := by decide +kernel
theorem dX12_flag_39 : decode cX12_flag 39 = .ok (.getfield 45, 3) := by decide +kernel
theorem dX12_flag_42 : decode cX12_flag 42 = .ok (.iload 5, 2) := by decide +kernel
theorem dX12_flag_44 : decode cX12_flag 44 = .ok (.iaload, 1) := by decide +kernel
theorem dX12_flag_45 : decode cX12_flag 45 = .ok (.iload_n 1, 1) := by decide +kernel
theorem dX12_flag_46 : decode cX12_flag 46 = .ok (.if_icmp .eq 6, 3) := by decide +kernel
theorem dX12_flag_49 : decode cX12_flag 49 = .ok (.goto 26, 3) := by decide +kernel
theorem dX12_flag_52 : decode cX12_flag 52 = .ok (.iinc 3 1, 3) := by decide +kernel
theorem dX12_flag_55 : decode cX12_flag 55 = .ok (.iload 4, 2) := by decide +kernel
theorem dX12_flag_57 : decode cX12_flag 57 = .ok (.aload_n 0, 1) := by decide +kernel
theorem dX12_flag_58 : decode cX12_flag 58 = .ok (.iload 5, 2) := by decide +kernel
theorem dX12_flag_60 : decode cX12_flag 60 = .ok (.iload_n 2, 1) := by decide +kernel
theorem dX12_flag_61 : decode cX12_flag 61 = .ok (.invokevirtual 567, 3) := by decide +kernel
theorem dX12_flag_64 : decode cX12_flag 64 = .ok (.ifCond .eq 7, 3) := by decide +kernel
theorem dX12_flag_67 : decode cX12_flag 67 = .ok (.iconst 1, 1) := by decide +kernel
theorem dX12_flag_68 : decode cX12_flag 68 = .ok (.goto 4, 3) := by decide +kernel
theorem dX12_flag_71 : decode cX12_flag 71 = .ok (.iconst 0, 1) := by decide +kernel
theorem dX12_flag_72 : decode cX12_flag 72 = .ok (.iadd, 1) := by decide +kernel
theorem dX12_flag_73 : decode cX12_flag 73 = .ok (.istore 4, 2) := by decide +kernel
theorem dX12_flag_75 : decode cX12_flag 75 = .ok (.iinc 5 1, 3) := by decide +kernel
theorem dX12_flag_78 : decode cX12_flag 78 = .ok (.goto (-49), 3) := by decide +kernel
theorem dX12_flag_81 : decode cX12_flag 81 = .ok (.aload_n 0, 1) := by decide +kernel
theorem dX12_flag_82 : decode cX12_flag 82 = .ok (.aload_n 0, 1) := by decide +kernel
theorem dX12_flag_83 : decode cX12_flag 83 = .ok (.getfield 24, 3) := by decide +kernel
theorem dX12_flag_86 : decode cX12_flag 86 = .ok (.iload_n 1, 1) := by decide +kernel
theorem dX12_flag_87 : decode cX12_flag 87 = .ok (.iaload, 1) := by decide +kernel
theorem dX12_flag_88 : decode cX12_flag 88 = .ok (.iload_n 2, 1) := by decide +kernel
theorem dX12_flag_89 : decode cX12_flag 89 = .ok (.invokevirtual 471, 3) := by decide +kernel
theorem dX12_flag_92 : decode cX12_flag 92 = .ok (.aload_n 0, 1) := by decide +kernel
theorem dX12_flag_93 : decode cX12_flag 93 = .ok (.iload_n 3, 1) := by decide +kernel
theorem dX12_flag_94 : decode cX12_flag 94 = .ok (.ifCond .le 24, 3) := by decide +kernel
theorem dX12_flag_97 : decode cX12_flag 97 = .ok (.bipush 100, 2) := by decide +kernel
theorem dX12_flag_99 : decode cX12_flag 99 = .ok (.iload 4, 2) := by decide +kernel
theorem dX12_flag_101 : decode cX12_flag 101 = .ok (.imul, 1) := by decide +kernel
theorem dX12_flag_102 : decode cX12_flag 102 = .ok (.aload_n 0, 1) := by decide +kernel
theorem dX12_flag_103 : decode cX12_flag 103 = .ok (.iconst 5, 1) := by decide +kernel
theorem dX12_flag_104 : decode cX12_flag 104 = .ok (.bipush 100, 2) := by decide +kernel
theorem dX12_flag_106 : decode cX12_flag 106 = .ok (.invokevirtual 474, 3) := by decide +kernel
theorem dX12_flag_109 : decode cX12_flag 109 = .ok (.iload_n 3, 1) := by decide +kernel
theorem dX12_flag_110 : decode cX12_flag 110 = .ok (.imul, 1) := by decide +kernel
theorem dX12_flag_111 : decode cX12_flag 111 = .ok (.if_icmp .lt 7, 3) := by decide +kernel
theorem dX12_flag_114 : decode cX12_flag 114 = .ok (.iconst 1, 1) := by decide +kernel
theorem dX12_flag_115 : decode cX12_flag 115 = .ok (.goto 4, 3) := by decide +kernel
theorem dX12_flag_118 : decode cX12_flag 118 = .ok (.iconst 0, 1) := by decide +kernel
theorem dX12_flag_119 : decode cX12_flag 119 = .ok (.invokevirtual 316, 3) := by decide +kernel
theorem dX12_flag_122 : decode cX12_flag 122 = .ok (.ireturn, 1) := by decide +kernel
noncomputable def X12_flag_j15 (w : Wd) : Option (Int32 × Wd) :=
(X12_refuse (1 : Int32) w).bind fun q1 =>
some (q1.1, q1.2)
set_option maxRecDepth 20000 in
set_option maxHeartbeats 1000000 in
theorem t_X12_flag_j15 {κ : Kx} (w : Wd) (h : ok (X12_flag_j15  w) (PIw κ)) : J κ RX12 cX12_flag 6 (some .int) (rmk 4 94) 15 [(0, .ref (ad (gm κ) 97))] [] w := by
  unfold X12_flag_j15 at h
  refine j_aload_n 0 dX12_flag_15 rfl rfl ?_
  refine j_iconst (1 : Int32) dX12_flag_16 ki_1 ?_
  obtain ⟨q1, e2, h⟩ := ok_b h
  refine j_callV (As := [.int (1 : Int32)]) (st := []) [.int q1.1] (c_X12_refuse (kl κ) (gm κ) (kA κ) (1 : Int32) w q1 e2) ck_RX12_312 im_X12_refuse se_X12_refuse sh_97 cx_12 ⟨rfl, rfl⟩ ⟨by decide, by decide⟩ rfl rfl (Nat.le_of_ble_eq_true rfl) dX12_flag_17 _ rfl ?_
  have h := ok_s h
  exact j_iret dX12_flag_20 rfl rfl h
noncomputable def X12_flag_j75 (a1 : Int32) (a2 : Int32) (a3 : Int32) (a4 : Int32) (a5 : Int32) (w : Wd) : Option ((Int32 × Int32 × Int32 × Wd) ⊕ (Int32 × Int32 × Wd)) :=
some (.inl (a3, a4, (a5 + (1 : Int32)), w))
set_option maxRecDepth 20000 in
set_option maxHeartbeats 1000000 in
theorem t_X12_flag_j75 {κ : Kx} (a1 : Int32) (a2 : Int32) (a3 : Int32) (a4 : Int32) (a5 : Int32) (w : Wd) {G : (Int32 × Int32 × Int32 × Wd) → Prop} {P : (Int32 × Int32 × Wd) → Prop} (KG : ∀ s, G s → J κ RX12 cX12_flag 6 (some .int) (rmk 4 94) 29 [(0, .ref (ad (gm κ) 97)), (1, .int a1), (2, .int a2), (3, .int s.1), (4, .int s.2.1), (5, .int s.2.2.1)] [] s.2.2.2) (K0 : ∀ e, P e → J κ RX12 cX12_flag 6 (some .int) (rmk 4 94) 81 [(0, .ref (ad (gm κ) 97)), (1, .int a1), (2, .int a2), (3, .int e.1), (4, .int e.2.1)] [] e.2.2) (h : ok (X12_flag_j75  a1 a2 a3 a4 a5 w) (sel G P)) : J κ RX12 cX12_flag 6 (some .int) (rmk 4 94) 75 [(0, .ref (ad (gm κ) 97)), (1, .int a1), (2, .int a2), (3, .int a3), (4, .int a4), (5, .int a5)] [] w := by
  unfold X12_flag_j75 at h
  refine j_iinc (a5 + (1 : Int32)) 5 [(5, .int (a5 + (1 : Int32))), (0, .ref (ad (gm κ) 97)), (1, .int a1), (2, .int a2), (3, .int a3), (4, .int a4)] dX12_flag_75 rfl (by rw [kn_1]) (by decide) rfl ?_
  refine j_goto 29 dX12_flag_78 (by decide) ?_
  refine j_loc [(0, .ref (ad (gm κ) 97)), (1, .int a1), (2, .int a2), (3, .int a3), (4, .int a4), (5, .int (a5 + (1 : Int32)))] [1, 2, 3, 4, 5, 0] rfl ?_
  have h := sel_l h
  have h := KG _ h
  exact h
noncomputable def X12_flag_j72 (a1 : Int32) (a2 : Int32) (a3 : Int32) (a5 : Int32) (s0 : Int32) (s1 : Int32) (w : Wd) : Option ((Int32 × Int32 × Int32 × Wd) ⊕ (Int32 × Int32 × Wd)) :=
X12_flag_j75 a1 a2 a3 (s1 + s0) a5 w
set_option maxRecDepth 20000 in
set_option maxHeartbeats 1000000 in
theorem t_X12_flag_j72 {κ : Kx} (a1 : Int32) (a2 : Int32) (a3 : Int32) (a5 : Int32) (s0 : Int32) (s1 : Int32) (w : Wd) {G : (Int32 × Int32 × Int32 × Wd) → Prop} {P : (Int32 × Int32 × Wd) → Prop} (KG : ∀ s, G s → J κ RX12 cX12_flag 6 (some .int) (rmk 4 94) 29 [(0, .ref (ad (gm κ) 97)), (1, .int a1), (2, .int a2), (3, .int s.1), (4, .int s.2.1), (5, .int s.2.2.1)] [] s.2.2.2) (K0 : ∀ e, P e → J κ RX12 cX12_flag 6 (some .int) (rmk 4 94) 81 [(0, .ref (ad (gm κ) 97)), (1, .int a1), (2, .int a2), (3, .int e.1), (4, .int e.2.1)] [] e.2.2) (h : ok (X12_flag_j72  a1 a2 a3 a5 s0 s1 w) (sel G P)) : J κ RX12 cX12_flag 6 (some .int) (rmk 4 94) 72 [(0, .ref (ad (gm κ) 97)), (1, .int a1), (2, .int a2), (3, .int a3), (5, .int a5)] [.int s0, .int s1] w := by
  unfold X12_flag_j72 at h
  refine j_iadd dX12_flag_72 ?_
  refine j_istore [(4, .int (s1 + s0)), (0, .ref (ad (gm κ) 97)), (1, .int a1), (2, .int a2), (3, .int a3), (5, .int a5)] dX12_flag_73 (by decide) rfl ?_
  refine j_loc [(0, .ref (ad (gm κ) 97)), (1, .int a1), (2, .int a2), (3, .int a3), (4, .int (s1 + s0)), (5, .int a5)] [1, 2, 3, 4, 0, 5] rfl ?_
  exact t_X12_flag_j75 a1 a2 a3 (s1 + s0) a5 w KG K0 h
noncomputable def X12_flag_b29 (a1 : Int32) (a2 : Int32) (s : (Int32 × Int32 × Int32 × Wd)) : Option ((Int32 × Int32 × Int32 × Wd) ⊕ (Int32 × Int32 × Wd)) :=
(if (s.2.2.2.1 97 6) ≤ s.2.2.1 then
some (.inr (s.1, s.2.1, s.2.2.2))
else
gd (vp_in s.2.2.1 40) <|
(if (s.2.2.2.1 108 (ix s.2.2.1)) = a1 then
(X12_doesRead s.2.2.1 a2 s.2.2.2).bind fun q3 =>
(if q3.1 = 0 then
X12_flag_j72 a1 a2 (s.1 + (1 : Int32)) s.2.2.1 (0 : Int32) s.2.1 q3.2
else
X12_flag_j72 a1 a2 (s.1 + (1 : Int32)) s.2.2.1 (1 : Int32) s.2.1 q3.2)
else
X12_flag_j75 a1 a2 s.1 s.2.1 s.2.2.1 s.2.2.2))
set_option maxRecDepth 20000 in
set_option maxHeartbeats 1000000 in
theorem t_X12_flag_b29 {κ : Kx} (a1 : Int32) (a2 : Int32) {P : (Int32 × Int32 × Wd) → Prop} (K0 : ∀ e, P e → J κ RX12 cX12_flag 6 (some .int) (rmk 4 94) 81 [(0, .ref (ad (gm κ) 97)), (1, .int a1), (2, .int a2), (3, .int e.1), (4, .int e.2.1)] [] e.2.2) (s : (Int32 × Int32 × Int32 × Wd)) (h : ok (lp (X12_flag_b29  a1 a2) s) P) : J κ RX12 cX12_flag 6 (some .int) (rmk 4 94) 29 [(0, .ref (ad (gm κ) 97)), (1, .int a1), (2, .int a2), (3, .int s.1), (4, .int s.2.1), (5, .int s.2.2.1)] [] s.2.2.2 := by
  refine lp_ind (fun s => J κ RX12 cX12_flag 6 (some .int) (rmk 4 94) 29 [(0, .ref (ad (gm κ) 97)), (1, .int a1), (2, .int a2), (3, .int s.1), (4, .int s.2.1), (5, .int s.2.2.1)] [] s.2.2.2) (fun s h => ?_) s h
  unfold X12_flag_b29 at h
  refine j_iload 5 dX12_flag_29 rfl ?_
  refine j_aload_n 0 dX12_flag_31 rfl rfl ?_
  refine j_getI fl_RX12_300 sh_97 fk_97_6 dX12_flag_32 ?_
  refine j_ic_ge 81 dX12_flag_35 (by decide) h (fun h => ?_) (fun h => ?_)
  · refine j_loc [(0, .ref (ad (gm κ) 97)), (1, .int a1), (2, .int a2), (3, .int s.1), (4, .int s.2.1)] [0, 1, 2, 3, 4] rfl ?_
    have h := sel_r h
    have h := K0 _ h
    exact h
  · refine j_aload_n 0 dX12_flag_38 rfl rfl ?_
    refine j_getA 108 fl_RX12_45 sh_97 fk_97_19 (by decide) dX12_flag_39 ?_
    refine j_iload 5 dX12_flag_42 rfl ?_
    refine j_iald sh_108 dX12_flag_44 h (fun h => ?_)
    refine j_iload_n 1 dX12_flag_45 rfl rfl ?_
    refine j_ic_eq 52 dX12_flag_46 (by decide) h (fun h => ?_) (fun h => ?_)
    · refine j_iinc (s.1 + (1 : Int32)) 3 [(3, .int (s.1 + (1 : Int32))), (0, .ref (ad (gm κ) 97)), (1, .int a1), (2, .int a2), (4, .int s.2.1), (5, .int s.2.2.1)] dX12_flag_52 rfl (by rw [kn_1]) (by decide) rfl ?_
      refine j_iload 4 dX12_flag_55 rfl ?_
      refine j_aload_n 1 dX12_flag_57 rfl rfl ?_
      refine j_iload 5 dX12_flag_58 rfl ?_
      refine j_iload_n 3 dX12_flag_60 rfl rfl ?_
      obtain ⟨q3, e4, h⟩ := ok_b h
      refine j_callV (As := [.int s.2.2.1, .int a2]) (st := [.int s.2.1]) [.int q3.1, .int s.2.1] (c_X12_doesRead (kl κ) (gm κ) (kA κ) s.2.2.1 a2 s.2.2.2 q3 e4) ck_RX12_567 im_X12_doesRead se_X12_doesRead sh_97 cx_12 ⟨rfl, rfl⟩ ⟨by decide, by decide⟩ rfl rfl (Nat.le_of_ble_eq_true rfl) dX12_flag_61 _ rfl ?_
      refine j_if_eq 71 dX12_flag_64 (by decide) h (fun h => ?_) (fun h => ?_)
      · refine j_iconst (0 : Int32) dX12_flag_71 ki_0 ?_
        refine j_loc [(0, .ref (ad (gm κ) 97)), (1, .int a1), (2, .int a2), (3, .int (s.1 + (1 : Int32))), (5, .int s.2.2.1)] [1, 2, 3, 0, 5] rfl ?_
        exact t_X12_flag_j72 a1 a2 (s.1 + (1 : Int32)) s.2.2.1 (0 : Int32) s.2.1 q3.2 (fun _ h => h) K0 h
      · refine j_iconst (1 : Int32) dX12_flag_67 ki_1 ?_
        refine j_goto 72 dX12_flag_68 (by decide) ?_
        refine j_loc [(0, .ref (ad (gm κ) 97)), (1, .int a1), (2, .int a2), (3, .int (s.1 + (1 : Int32))), (5, .int s.2.2.1)] [1, 2, 3, 0, 5] rfl ?_
        exact t_X12_flag_j72 a1 a2 (s.1 + (1 : Int32)) s.2.2.1 (1 : Int32) s.2.1 q3.2 (fun _ h => h) K0 h
    · refine j_goto 75 dX12_flag_49 (by decide) ?_
      refine j_loc [(0, .ref (ad (gm κ) 97)), (1, .int a1), (2, .int a2), (3, .int s.1), (4, .int s.2.1), (5, .int s.2.2.1)] [0, 1, 2, 3, 4, 5] rfl ?_
      exact t_X12_flag_j75 a1 a2 s.1 s.2.1 s.2.2.1 s.2.2.2 (fun _ h => h) K0 h
noncomputable def X12_flag_j119 (s0 : Int32) (w : Wd) : Option (Int32 × Wd) :=
(X12_gives s0 w).bind fun q8 =>
some (q8.1, q8.2)
set_option maxRecDepth 20000 in
set_option maxHeartbeats 1000000 in
theorem t_X12_flag_j119 {κ : Kx} (s0 : Int32) (w : Wd) (h : ok (X12_flag_j119  s0 w) (PIw κ)) : J κ RX12 cX12_flag 6 (some .int) (rmk 4 94) 119 [] [.int s0, .ref (ad (gm κ) 97)] w := by
  unfold X12_flag_j119 at h
  obtain ⟨q8, e9, h⟩ := ok_b h
  refine j_callV (As := [.int s0]) (st := []) [.int q8.1] (c_X12_gives (kl κ) (gm κ) (kA κ) s0 w q8 e9) ck_RX12_316 im_X12_gives se_X12_gives sh_97 cx_12 ⟨rfl, rfl⟩ ⟨by decide, by decide⟩ rfl rfl (Nat.le_of_ble_eq_true rfl) dX12_flag_119 _ rfl ?_
  have h := ok_s h
  exact j_iret dX12_flag_122 rfl rfl h
noncomputable def X12_flag_j118 (w : Wd) : Option (Int32 × Wd) :=
X12_flag_j119 (0 : Int32) w
set_option maxRecDepth 20000 in
set_option maxHeartbeats 1000000 in
theorem t_X12_flag_j118 {κ : Kx} (w : Wd) (h : ok (X12_flag_j118  w) (PIw κ)) : J κ RX12 cX12_flag 6 (some .int) (rmk 4 94) 118 [] [.ref (ad (gm κ) 97)] w := by
  unfold X12_flag_j118 at h
  refine j_iconst (0 : Int32) dX12_flag_118 ki_0 ?_
  refine j_loc [] [] rfl ?_
  exact t_X12_flag_j119 (0 : Int32) w h
noncomputable def X12_flag (a1 : Int32) (a2 : Int32) (w : Wd) : Option (Int32 × Wd) :=
(if (X12_isPlace a1 w) = 0 then
X12_flag_j15 w
else
(if (X12_isWeek a2 w) = 0 then
X12_flag_j15 w
else
(lp (X12_flag_b29 a1 a2) ((0 : Int32), (0 : Int32), (0 : Int32), w)).bind fun e5 =>
gd (vp_in a1 16) <|
(X12_stand (e5.2.2.1 101 (ix a1)) a2 e5.2.2).bind fun q6 =>
(if e5.1 ≤ 0 then
X12_flag_j118 q6
else
(X12_lastOf (5 : Int32) (100 : Int32) q6).bind fun q10 =>
(if ((100 : Int32) * e5.2.1) < (q10 * e5.1) then
X12_flag_j118 q6
else
X12_flag_j119 (1 : Int32) q6))))
set_option maxRecDepth 20000 in
set_option maxHeartbeats 1000000 in
theorem t_X12_flag {κ : Kx} (a1 : Int32) (a2 : Int32) (w : Wd) (h : ok (X12_flag  a1 a2 w) (PIw κ)) : J κ RX12 cX12_flag 6 (some .int) (rmk 4 94) 0 [(0, .ref (ad (gm κ) 97)), (1, .int a1), (2, .int a2)] [] w := by
  unfold X12_flag at h
  refine j_aload_n 0 dX12_flag_0 rfl rfl ?_
  refine j_iload_n 1 dX12_flag_1 rfl rfl ?_
  refine j_callV (As := [.int a1]) (st := []) [.int (X12_isPlace a1 w)] (c_X12_isPlace (kl κ) (gm κ) (kA κ) a1 w) ck_RX12_319 im_X12_isPlace se_X12_isPlace sh_97 cx_12 ⟨rfl, rfl⟩ ⟨by decide, by decide⟩ rfl rfl (Nat.le_of_ble_eq_true rfl) dX12_flag_2 _ rfl ?_
  refine j_if_eq 15 dX12_flag_5 (by decide) h (fun h => ?_) (fun h => ?_)
  · refine j_loc [(0, .ref (ad (gm κ) 97))] [0] rfl ?_
    exact t_X12_flag_j15 w h
  · refine j_iload_n 2 dX12_flag_8 rfl rfl ?_
    refine j_callS (As := [.int a2]) (st := []) [.int (X12_isWeek a2 w)] (c_X12_isWeek (kl κ) (gm κ) (kA κ) a2 w) ck_RX12_322 st_X12_isWeek ⟨rfl, rfl⟩ ⟨by decide, by decide⟩ rfl rfl (Nat.le_of_ble_eq_true rfl) dX12_flag_9 _ rfl ?_
    refine j_if_ne 21 dX12_flag_12 (by decide) h (fun h => ?_) (fun h => ?_)
    · refine j_iconst (0 : Int32) dX12_flag_21 ki_0 ?_
      refine j_istore_n [(3, .int (0 : Int32)), (0, .ref (ad (gm κ) 97)), (1, .int a1), (2, .int a2)] dX12_flag_22 rfl (by decide) rfl ?_
      refine j_iconst (0 : Int32) dX12_flag_23 ki_0 ?_
      refine j_istore [(4, .int (0 : Int32)), (3, .int (0 : Int32)), (0, .ref (ad (gm κ) 97)), (1, .int a1), (2, .int a2)] dX12_flag_24 (by decide) rfl ?_
      refine j_iconst (0 : Int32) dX12_flag_26 ki_0 ?_
      refine j_istore [(5, .int (0 : Int32)), (4, .int (0 : Int32)), (3, .int (0 : Int32)), (0, .ref (ad (gm κ) 97)), (1, .int a1), (2, .int a2)] dX12_flag_27 (by decide) rfl ?_
      refine j_loc [(0, .ref (ad (gm κ) 97)), (1, .int a1), (2, .int a2), (3, .int (0 : Int32)), (4, .int (0 : Int32)), (5, .int (0 : Int32))] [3, 4, 5, 2, 1, 0] rfl ?_
      refine t_X12_flag_b29 a1 a2 (fun e5 h => ?_) ((0 : Int32), (0 : Int32), (0 : Int32), w) (ok_bb h)
      · refine j_aload_n 0 dX12_flag_81 rfl rfl ?_
        refine j_aload_n 0 dX12_flag_82 rfl rfl ?_
        refine j_getA 101 fl_RX12_24 sh_97 fk_97_12 (by decide) dX12_flag_83 ?_
        refine j_iload_n 1 dX12_flag_86 rfl rfl ?_
        refine j_iald sh_101 dX12_flag_87 h (fun h => ?_)
        refine j_iload_n 2 dX12_flag_88 rfl rfl ?_
        obtain ⟨q6, e7, h⟩ := ok_b h
        refine j_callV (As := [.int (e5.2.2.1 101 (ix a1)), .int a2]) (st := []) [] (c_X12_stand (kl κ) (gm κ) (kA κ) (e5.2.2.1 101 (ix a1)) a2 e5.2.2 q6 e7) ck_RX12_471 im_X12_stand se_X12_stand sh_97 cx_12 ⟨rfl, rfl⟩ ⟨by decide, by decide⟩ rfl rfl (Nat.le_of_ble_eq_true rfl) dX12_flag_89 _ rfl ?_
        refine j_aload_n 0 dX12_flag_92 rfl rfl ?_
        refine j_iload_n 3 dX12_flag_93 rfl rfl ?_
        refine j_if_le 118 dX12_flag_94 (by decide) h (fun h => ?_) (fun h => ?_)
        · refine j_loc [] [] rfl ?_
          exact t_X12_flag_j118 q6 h
        · refine j_bipush (100 : Int32) dX12_flag_97 kb_100 ?_
          refine j_iload 4 dX12_flag_99 rfl ?_
          refine j_imul dX12_flag_101 ?_
          refine j_aload_n 0 dX12_flag_102 rfl rfl ?_
          refine j_iconst (5 : Int32) dX12_flag_103 ki_5 ?_
          refine j_bipush (100 : Int32) dX12_flag_104 kb_100 ?_
          obtain ⟨q10, e11, h⟩ := ok_b h
          refine j_callV (As := [.int (5 : Int32), .int (100 : Int32)]) (st := [.int ((100 : Int32) * e5.2.1), .ref (ad (gm κ) 97)]) [.int q10, .int ((100 : Int32) * e5.2.1), .ref (ad (gm κ) 97)] (c_X12_lastOf (kl κ) (gm κ) (kA κ) (5 : Int32) (100 : Int32) q6 q10 e11) ck_RX12_474 im_X12_lastOf se_X12_lastOf sh_97 cx_12 ⟨rfl, rfl⟩ ⟨by decide, by decide⟩ rfl rfl (Nat.le_of_ble_eq_true rfl) dX12_flag_106 _ rfl ?_
          refine j_iload_n 3 dX12_flag_109 rfl rfl ?_
          refine j_imul dX12_flag_110 ?_
          refine j_ic_lt 118 dX12_flag_111 (by decide) h (fun h => ?_) (fun h => ?_)
          · refine j_loc [] [] rfl ?_
            exact t_X12_flag_j118 q6 h
          · refine j_iconst (1 : Int32) dX12_flag_114 ki_1 ?_
            refine j_goto 119 dX12_flag_115 (by decide) ?_
            refine j_loc [] [] rfl ?_
            exact t_X12_flag_j119 (1 : Int32) q6 h
    · refine j_loc [(0, .ref (ad (gm κ) 97))] [0] rfl ?_
      exact t_X12_flag_j15 w h
theorem c_X12_flag (l : Launch) (γ : Gm) (A : Nat → Prop) (a1 : Int32) (a2 : Int32) (w : Wd) (q : Int32 × Wd) (e : X12_flag  a1 a2 w = some q) : MetG l γ A yX12_flag cX12_flag 6 (some .int) (rmk 4 94) [.ref (ad (γ) 97), .int a1, .int a2] w (some (.int q.1)) q.2 := by
  refine met_of pn_RX12 (Nat.le_of_ble_eq_true rfl) ?_
  intro κ hl hγ hA hρ
  subst hl; subst hγ; subst hA
  exact t_X12_flag   a1 a2 w ⟨q, e, pIw hρ rfl rfl⟩
theorem dX12_tongueOf_0 : decode cX12_tongueOf 0 = .ok (.iconst (-1), 1) := by decide +kernel
theorem dX12_tongueOf_1 : decode cX12_tongueOf 1 = .ok (.istore_n 3, 1) := by decide +kernel
theorem dX12_tongueOf_2 : decode cX12_tongueOf 2 = .ok (.iconst 0, 1) := by decide +kernel
theorem dX12_tongueOf_3 : decode cX12_tongueOf 3 = .ok (.istore 4, 2) := by decide +kernel
theorem dX12_tongueOf_5 : decode cX12_tongueOf 5 = .ok (.iconst 0, 1) := by decide +kernel
theorem dX12_tongueOf_6 : decode cX12_tongueOf 6 = .ok (.istore 5, 2) := by decide +kernel
theorem dX12_tongueOf_8 : decode cX12_tongueOf 8 = .ok (.iload 5, 2) := by decide +kernel
theorem dX12_tongueOf_10 : decode cX12_tongueOf 10 = .ok (.iconst 5, 1) := by decide +kernel
theorem dX12_tongueOf_11 : decode cX12_tongueOf 11 = .ok (.if_icmp .ge 81, 3) := by decide +kernel
theorem dX12_tongueOf_14 : decode cX12_tongueOf 14 = .ok (.iconst 0, 1) := by decide +kernel
theorem dX12_tongueOf_15 : decode cX12_tongueOf 15 = .ok (.istore 6, 2) := by decide +kernel
theorem dX12_tongueOf_17 : decode cX12_tongueOf 17 = .ok (.iconst 0, 1) := by decide +kernel
theorem dX12_tongueOf_18 : decode cX12_tongueOf 18 = .ok (.istore 7, 2) := by decide +kernel
theorem dX12_tongueOf_20 : decode cX12_tongueOf 20 = .ok (.iload 7, 2) := by decide +kernel
theorem dX12_tongueOf_22 : decode cX12_tongueOf 22 = .ok (.aload_n 0, 1) := by decide +kernel
theorem dX12_tongueOf_23 : decode cX12_tongueOf 23 = .ok (.getfield 300, 3) := by decide +kernel
theorem dX12_tongueOf_26 : decode cX12_tongueOf 26 = .ok (.if_icmp .ge 43, 3) := by decide +kernel
theorem dX12_tongueOf_29 : decode cX12_tongueOf 29 = .ok (.iload 6, 2) := by decide +kernel
theorem dX12_tongueOf_31 : decode cX12_tongueOf 31 = .ok (.aload_n 0, 1) := by decide +kernel
theorem dX12_tongueOf_32 : decode cX12_tongueOf 32 = .ok (.getfield 51, 3) := by decide +kernel
theorem dX12_tongueOf_35 : decode cX12_tongueOf 35 = .ok (.iload 7, 2) := by decide +kernel
theorem dX12_tongueOf_37 : decode cX12_tongueOf 37 = .ok (.iaload, 1) := by decide +kernel
theorem dX12_tongueOf_38 : decode cX12_tongueOf 38 = .ok (.iload 5, 2) := by decide +kernel
theorem dX12_tongueOf_40 : decode cX12_tongueOf 40 = .ok (.if_icmp .ne 19, 3) := by decide +kernel
theorem dX12_tongueOf_43 : decode cX12_tongueOf 43 = .ok (.aload_n 0, 1) := by decide +kernel
theorem dX12_tongueOf_44 : decode cX12_tongueOf 44 = .ok (.iconst 1, 1) := by decide +kernel
theorem dX12_tongueOf_45 : decode cX12_tongueOf 45 = .ok (.iload 7, 2) := by decide +kernel
theorem dX12_tongueOf_47 : decode cX12_tongueOf 47 = .ok (.iload_n 2, 1) := by decide +kernel
theorem dX12_tongueOf_48 : decode cX12_tongueOf 48 = .ok (.invokevirtual 351, 3) := by decide +kernel
theorem dX12_tongueOf_51 : decode cX12_tongueOf 51 = .ok (.iload_n 1, 1) := by decide +kernel
theorem dX12_tongueOf_52 : decode cX12_tongueOf 52 = .ok (.if_icmp .ne 7, 3) := by decide +kernel
theorem dX12_tongueOf_55 : decode cX12_tongueOf 55 = .ok (.iconst 1, 1) := by decide +kernel
theorem dX12_tongueOf_56 : decode cX12_tongueOf 56 = .ok (.goto 4, 3) := by decide +kernel
theorem dX12_tongueOf_59 : decode cX12_tongueOf 59 = .ok (.iconst 0, 1) := by decide +kernel
theorem dX12_tongueOf_60 : decode cX12_tongueOf 60 = .ok (.iadd, 1) := by decide +kernel
theorem dX12_tongueOf_61 : decode cX12_tongueOf 61 = .ok (.istore 6, 2) := by decide +kernel
theorem dX12_tongueOf_63 : decode cX12_tongueOf 63 = .ok (.iinc 7 1, 3) := by decide +kernel
theorem dX12_tongueOf_66 : decode cX12_tongueOf 66 = .ok (.goto (-46), 3) := by decide +kernel
theorem dX12_tongueOf_69 : decode cX12_tongueOf 69 = .ok (.iload 6, 2) := by decide +kernel
theorem dX12_tongueOf_71 : decode cX12_tongueOf 71 = .ok (.iload 4, 2) := by decide +kernel
theorem dX12_tongueOf_73 : decode cX12_tongueOf 73 = .ok (.if_icmp .gt 6, 3) := by decide +kernel
theorem dX12_tongueOf_76 : decode cX12_tongueOf 76 = .ok (.goto 10, 3) := by decide +kernel
theorem dX12_tongueOf_79 : decode cX12_tongueOf 79 = .ok (.iload 6, 2) := by decide +kernel
theorem dX12_tongueOf_81 : decode cX12_tongueOf 81 = .ok (.istore 4, 2) := by decide +kernel
theorem dX12_tongueOf_83 : decode cX12_tongueOf 83 = .ok (.iload 5, 2) := by decide +kernel
theorem dX12_tongueOf_85 : decode cX12_tongueOf 85 = .ok (.istore_n 3, 1) := by decide +kernel
theorem dX12_tongueOf_86 : decode cX12_tongueOf 86 = .ok (.iinc 5 1, 3) := by decide +kernel
theorem dX12_tongueOf_89 : decode cX12_tongueOf 89 = .ok (.goto (-81), 3) := by decide +kernel
theorem dX12_tongueOf_92 : decode cX12_tongueOf 92 = .ok (.iload_n 3, 1) := by decide +kernel
theorem dX12_tongueOf_93 : decode cX12_tongueOf 93 = .ok (.ireturn, 1) := by decide +kernel
noncomputable def X12_tongueOf_j60 (a1 : Int32) (a2 : Int32) (a3 : Int32) (a4 : Int32) (a5 : Int32) (a7 : Int32) (s0 : Int32) (s1 : Int32) (w : Wd) : Option ((Int32 × Int32) ⊕ Int32) :=
some (.inl ((s1 + s0), (a7 + (1 : Int32))))
set_option maxRecDepth 20000 in
set_option maxHeartbeats 1000000 in
theorem t_X12_tongueOf_j60 {κ : Kx} (a1 : Int32) (a2 : Int32) (a3 : Int32) (a4 : Int32) (a5 : Int32) (a7 : Int32) (s0 : Int32) (s1 : Int32) (w : Wd) {G : (Int32 × Int32) → Prop} {P : Int32 → Prop} (KG : ∀ s, G s → J κ RX12 cX12_tongueOf 8 (some .int) (rmk 1 25) 20 [(0, .ref (ad (gm κ) 97)), (1, .int a1), (2, .int a2), (3, .int a3), (4, .int a4), (5, .int a5), (6, .int s.1), (7, .int s.2)] [] w) (K0 : ∀ e, P e → J κ RX12 cX12_tongueOf 8 (some .int) (rmk 1 25) 69 [(0, .ref (ad (gm κ) 97)), (1, .int a1), (2, .int a2), (3, .int a3), (4, .int a4), (5, .int a5), (6, .int e)] [] w) (h : ok (X12_tongueOf_j60  a1 a2 a3 a4 a5 a7 s0 s1 w) (sel G P)) : J κ RX12 cX12_tongueOf 8 (some .int) (rmk 1 25) 60 [(0, .ref (ad (gm κ) 97)), (1, .int a1), (2, .int a2), (3, .int a3), (4, .int a4), (5, .int a5), (7, .int a7)] [.int s0, .int s1] w := by
  unfold X12_tongueOf_j60 at h
  refine j_iadd dX12_tongueOf_60 ?_
  refine j_istore [(6, .int (s1 + s0)), (0, .ref (ad (gm κ) 97)), (1, .int a1), (2, .int a2), (3, .int a3), (4, .int a4), (5, .int a5), (7, .int a7)] dX12_tongueOf_61 (by decide) rfl ?_
  refine j_iinc (a7 + (1 : Int32)) 7 [(7, .int (a7 + (1 : Int32))), (6, .int (s1 + s0)), (0, .ref (ad (gm κ) 97)), (1, .int a1), (2, .int a2), (3, .int a3), (4, .int a4), (5, .int a5)] dX12_tongueOf_63 rfl (by rw [kn_1]) (by decide) rfl ?_
  refine j_goto 20 dX12_tongueOf_66 (by decide) ?_
  refine j_loc [(0, .ref (ad (gm κ) 97)), (1, .int a1), (2, .int a2), (3, .int a3), (4, .int a4), (5, .int a5), (6, .int (s1 + s0)), (7, .int (a7 + (1 : Int32)))] [2, 3, 4, 5, 6, 7, 1, 0] rfl ?_
  have h := sel_l h
  have h := KG _ h
  exact h
noncomputable def X12_tongueOf_j59 (a1 : Int32) (a2 : Int32) (a3 : Int32) (a4 : Int32) (a5 : Int32) (a7 : Int32) (s0 : Int32) (w : Wd) : Option ((Int32 × Int32) ⊕ Int32) :=
X12_tongueOf_j60 a1 a2 a3 a4 a5 a7 (0 : Int32) s0 w
set_option maxRecDepth 20000 in
set_option maxHeartbeats 1000000 in
theorem t_X12_tongueOf_j59 {κ : Kx} (a1 : Int32) (a2 : Int32) (a3 : Int32) (a4 : Int32) (a5 : Int32) (a7 : Int32) (s0 : Int32) (w : Wd) {G : (Int32 × Int32) → Prop} {P : Int32 → Prop} (KG : ∀ s, G s → J κ RX12 cX12_tongueOf 8 (some .int) (rmk 1 25) 20 [(0, .ref (ad (gm κ) 97)), (1, .int a1), (2, .int a2), (3, .int a3), (4, .int a4), (5, .int a5), (6, .int s.1), (7, .int s.2)] [] w) (K0 : ∀ e, P e → J κ RX12 cX12_tongueOf 8 (some .int) (rmk 1 25) 69 [(0, .ref (ad (gm κ) 97)), (1, .int a1), (2, .int a2), (3, .int a3), (4, .int a4), (5, .int a5), (6, .int e)] [] w) (h : ok (X12_tongueOf_j59  a1 a2 a3 a4 a5 a7 s0 w) (sel G P)) : J κ RX12 cX12_tongueOf 8 (some .int) (rmk 1 25) 59 [(0, .ref (ad (gm κ) 97)), (1, .int a1), (2, .int a2), (3, .int a3), (4, .int a4), (5, .int a5), (7, .int a7)] [.int s0] w := by
  unfold X12_tongueOf_j59 at h
  refine j_iconst (0 : Int32) dX12_tongueOf_59 ki_0 ?_
  refine j_loc [(0, .ref (ad (gm κ) 97)), (1, .int a1), (2, .int a2), (3, .int a3), (4, .int a4), (5, .int a5), (7, .int a7)] [0, 1, 2, 3, 4, 5, 6] rfl ?_
  exact t_X12_tongueOf_j60 a1 a2 a3 a4 a5 a7 (0 : Int32) s0 w KG K0 h
noncomputable def X12_tongueOf_b20 (a1 : Int32) (a2 : Int32) (a3 : Int32) (a4 : Int32) (a5 : Int32) (w : Wd) (s : (Int32 × Int32)) : Option ((Int32 × Int32) ⊕ Int32) :=
(if (w.1 97 6) ≤ s.2 then
some (.inr s.1)
else
gd (vp_in s.2 40) <|
(if (w.1 110 (ix s.2)) = a5 then
(X12_lampOf (1 : Int32) s.2 a2 w).bind fun q1 =>
(if q1 = a1 then
X12_tongueOf_j60 a1 a2 a3 a4 a5 s.2 (1 : Int32) s.1 w
else
X12_tongueOf_j59 a1 a2 a3 a4 a5 s.2 s.1 w)
else
X12_tongueOf_j59 a1 a2 a3 a4 a5 s.2 s.1 w))
set_option maxRecDepth 20000 in
set_option maxHeartbeats 1000000 in
theorem t_X12_tongueOf_b20 {κ : Kx} (a1 : Int32) (a2 : Int32) (a3 : Int32) (a4 : Int32) (a5 : Int32) (w : Wd) {P : Int32 → Prop} (K0 : ∀ e, P e → J κ RX12 cX12_tongueOf 8 (some .int) (rmk 1 25) 69 [(0, .ref (ad (gm κ) 97)), (1, .int a1), (2, .int a2), (3, .int a3), (4, .int a4), (5, .int a5), (6, .int e)] [] w) (s : (Int32 × Int32)) (h : ok (lp (X12_tongueOf_b20  a1 a2 a3 a4 a5 w) s) P) : J κ RX12 cX12_tongueOf 8 (some .int) (rmk 1 25) 20 [(0, .ref (ad (gm κ) 97)), (1, .int a1), (2, .int a2), (3, .int a3), (4, .int a4), (5, .int a5), (6, .int s.1), (7, .int s.2)] [] w := by
  refine lp_ind (fun s => J κ RX12 cX12_tongueOf 8 (some .int) (rmk 1 25) 20 [(0, .ref (ad (gm κ) 97)), (1, .int a1), (2, .int a2), (3, .int a3), (4, .int a4), (5, .int a5), (6, .int s.1), (7, .int s.2)] [] w) (fun s h => ?_) s h
  unfold X12_tongueOf_b20 at h
  refine j_iload 7 dX12_tongueOf_20 rfl ?_
  refine j_aload_n 0 dX12_tongueOf_22 rfl rfl ?_
  refine j_getI fl_RX12_300 sh_97 fk_97_6 dX12_tongueOf_23 ?_
  refine j_ic_ge 69 dX12_tongueOf_26 (by decide) h (fun h => ?_) (fun h => ?_)
  · refine j_loc [(0, .ref (ad (gm κ) 97)), (1, .int a1), (2, .int a2), (3, .int a3), (4, .int a4), (5, .int a5), (6, .int s.1)] [0, 1, 2, 3, 4, 5, 6] rfl ?_
    have h := sel_r h
    have h := K0 _ h
    exact h
  · refine j_iload 6 dX12_tongueOf_29 rfl ?_
    refine j_aload_n 0 dX12_tongueOf_31 rfl rfl ?_
    refine j_getA 110 fl_RX12_51 sh_97 fk_97_21 (by decide) dX12_tongueOf_32 ?_
    refine j_iload 7 dX12_tongueOf_35 rfl ?_
    refine j_iald sh_110 dX12_tongueOf_37 h (fun h => ?_)
    refine j_iload 5 dX12_tongueOf_38 rfl ?_
    refine j_ic_ne 59 dX12_tongueOf_40 (by decide) h (fun h => ?_) (fun h => ?_)
    · refine j_loc [(0, .ref (ad (gm κ) 97)), (1, .int a1), (2, .int a2), (3, .int a3), (4, .int a4), (5, .int a5), (7, .int s.2)] [0, 1, 2, 3, 4, 5, 7] rfl ?_
      exact t_X12_tongueOf_j59 a1 a2 a3 a4 a5 s.2 s.1 w (fun _ h => h) K0 h
    · refine j_aload_n 0 dX12_tongueOf_43 rfl rfl ?_
      refine j_iconst (1 : Int32) dX12_tongueOf_44 ki_1 ?_
      refine j_iload 7 dX12_tongueOf_45 rfl ?_
      refine j_iload_n 2 dX12_tongueOf_47 rfl rfl ?_
      obtain ⟨q1, e2, h⟩ := ok_b h
      refine j_callV (As := [.int (1 : Int32), .int s.2, .int a2]) (st := [.int s.1]) [.int q1, .int s.1] (c_X12_lampOf (kl κ) (gm κ) (kA κ) (1 : Int32) s.2 a2 w q1 e2) ck_RX12_351 im_X12_lampOf se_X12_lampOf sh_97 cx_12 ⟨rfl, rfl⟩ ⟨by decide, by decide⟩ rfl rfl (Nat.le_of_ble_eq_true rfl) dX12_tongueOf_48 _ rfl ?_
      refine j_iload_n 1 dX12_tongueOf_51 rfl rfl ?_
      refine j_ic_ne 59 dX12_tongueOf_52 (by decide) h (fun h => ?_) (fun h => ?_)
      · refine j_loc [(0, .ref (ad (gm κ) 97)), (1, .int a1), (2, .int a2), (3, .int a3), (4, .int a4), (5, .int a5), (7, .int s.2)] [0, 1, 2, 3, 4, 5, 7] rfl ?_
        exact t_X12_tongueOf_j59 a1 a2 a3 a4 a5 s.2 s.1 w (fun _ h => h) K0 h
      · refine j_iconst (1 : Int32) dX12_tongueOf_55 ki_1 ?_
        refine j_goto 60 dX12_tongueOf_56 (by decide) ?_
        refine j_loc [(0, .ref (ad (gm κ) 97)), (1, .int a1), (2, .int a2), (3, .int a3), (4, .int a4), (5, .int a5), (7, .int s.2)] [0, 1, 2, 3, 4, 5, 7] rfl ?_
        exact t_X12_tongueOf_j60 a1 a2 a3 a4 a5 s.2 (1 : Int32) s.1 w (fun _ h => h) K0 h
noncomputable def X12_tongueOf_j86 (a1 : Int32) (a2 : Int32) (a3 : Int32) (a4 : Int32) (a5 : Int32) (w : Wd) : Option ((Int32 × Int32 × Int32) ⊕ Int32) :=
some (.inl (a3, a4, (a5 + (1 : Int32))))
set_option maxRecDepth 20000 in
set_option maxHeartbeats 1000000 in
theorem t_X12_tongueOf_j86 {κ : Kx} (a1 : Int32) (a2 : Int32) (a3 : Int32) (a4 : Int32) (a5 : Int32) (w : Wd) {G : (Int32 × Int32 × Int32) → Prop} {P : Int32 → Prop} (KG : ∀ s, G s → J κ RX12 cX12_tongueOf 8 (some .int) (rmk 1 25) 8 [(0, .ref (ad (gm κ) 97)), (1, .int a1), (2, .int a2), (3, .int s.1), (4, .int s.2.1), (5, .int s.2.2)] [] w) (K0 : ∀ e, P e → J κ RX12 cX12_tongueOf 8 (some .int) (rmk 1 25) 92 [(3, .int e)] [] w) (h : ok (X12_tongueOf_j86  a1 a2 a3 a4 a5 w) (sel G P)) : J κ RX12 cX12_tongueOf 8 (some .int) (rmk 1 25) 86 [(0, .ref (ad (gm κ) 97)), (1, .int a1), (2, .int a2), (3, .int a3), (4, .int a4), (5, .int a5)] [] w := by
  unfold X12_tongueOf_j86 at h
  refine j_iinc (a5 + (1 : Int32)) 5 [(5, .int (a5 + (1 : Int32))), (0, .ref (ad (gm κ) 97)), (1, .int a1), (2, .int a2), (3, .int a3), (4, .int a4)] dX12_tongueOf_86 rfl (by rw [kn_1]) (by decide) rfl ?_
  refine j_goto 8 dX12_tongueOf_89 (by decide) ?_
  refine j_loc [(0, .ref (ad (gm κ) 97)), (1, .int a1), (2, .int a2), (3, .int a3), (4, .int a4), (5, .int (a5 + (1 : Int32)))] [1, 2, 3, 4, 5, 0] rfl ?_
  have h := sel_l h
  have h := KG _ h
  exact h
noncomputable def X12_tongueOf_b8 (a1 : Int32) (a2 : Int32) (w : Wd) (s : (Int32 × Int32 × Int32)) : Option ((Int32 × Int32 × Int32) ⊕ Int32) :=
(if (5 : Int32) ≤ s.2.2 then
some (.inr s.1)
else
(lp (X12_tongueOf_b20 a1 a2 s.1 s.2.1 s.2.2 w) ((0 : Int32), (0 : Int32))).bind fun e3 =>
(if s.2.1 < e3 then
X12_tongueOf_j86 a1 a2 s.2.2 e3 s.2.2 w
else
X12_tongueOf_j86 a1 a2 s.1 s.2.1 s.2.2 w))
set_option maxRecDepth 20000 in
set_option maxHeartbeats 1000000 in
theorem t_X12_tongueOf_b8 {κ : Kx} (a1 : Int32) (a2 : Int32) (w : Wd) {P : Int32 → Prop} (K0 : ∀ e, P e → J κ RX12 cX12_tongueOf 8 (some .int) (rmk 1 25) 92 [(3, .int e)] [] w) (s : (Int32 × Int32 × Int32)) (h : ok (lp (X12_tongueOf_b8  a1 a2 w) s) P) : J κ RX12 cX12_tongueOf 8 (some .int) (rmk 1 25) 8 [(0, .ref (ad (gm κ) 97)), (1, .int a1), (2, .int a2), (3, .int s.1), (4, .int s.2.1), (5, .int s.2.2)] [] w := by
  refine lp_ind (fun s => J κ RX12 cX12_tongueOf 8 (some .int) (rmk 1 25) 8 [(0, .ref (ad (gm κ) 97)), (1, .int a1), (2, .int a2), (3, .int s.1), (4, .int s.2.1), (5, .int s.2.2)] [] w) (fun s h => ?_) s h
  unfold X12_tongueOf_b8 at h
  refine j_iload 5 dX12_tongueOf_8 rfl ?_
  refine j_iconst (5 : Int32) dX12_tongueOf_10 ki_5 ?_
  refine j_ic_ge 92 dX12_tongueOf_11 (by decide) h (fun h => ?_) (fun h => ?_)
  · refine j_loc [(3, .int s.1)] [3] rfl ?_
    have h := sel_r h
    have h := K0 _ h
    exact h
  · refine j_iconst (0 : Int32) dX12_tongueOf_14 ki_0 ?_
    refine j_istore [(6, .int (0 : Int32)), (0, .ref (ad (gm κ) 97)), (1, .int a1), (2, .int a2), (3, .int s.1), (4, .int s.2.1), (5, .int s.2.2)] dX12_tongueOf_15 (by decide) rfl ?_
    refine j_iconst (0 : Int32) dX12_tongueOf_17 ki_0 ?_
    refine j_istore [(7, .int (0 : Int32)), (6, .int (0 : Int32)), (0, .ref (ad (gm κ) 97)), (1, .int a1), (2, .int a2), (3, .int s.1), (4, .int s.2.1), (5, .int s.2.2)] dX12_tongueOf_18 (by decide) rfl ?_
    refine j_loc [(0, .ref (ad (gm κ) 97)), (1, .int a1), (2, .int a2), (3, .int s.1), (4, .int s.2.1), (5, .int s.2.2), (6, .int (0 : Int32)), (7, .int (0 : Int32))] [2, 3, 4, 5, 6, 7, 1, 0] rfl ?_
    refine t_X12_tongueOf_b20 a1 a2 s.1 s.2.1 s.2.2 w (fun e3 h => ?_) ((0 : Int32), (0 : Int32)) (ok_bb h)
    · refine j_iload 6 dX12_tongueOf_69 rfl ?_
      refine j_iload 4 dX12_tongueOf_71 rfl ?_
      refine j_ic_gt 79 dX12_tongueOf_73 (by decide) h (fun h => ?_) (fun h => ?_)
      · refine j_iload 6 dX12_tongueOf_79 rfl ?_
        refine j_istore [(4, .int e3), (0, .ref (ad (gm κ) 97)), (1, .int a1), (2, .int a2), (3, .int s.1), (5, .int s.2.2), (6, .int e3)] dX12_tongueOf_81 (by decide) rfl ?_
        refine j_iload 5 dX12_tongueOf_83 rfl ?_
        refine j_istore_n [(3, .int s.2.2), (4, .int e3), (0, .ref (ad (gm κ) 97)), (1, .int a1), (2, .int a2), (5, .int s.2.2), (6, .int e3)] dX12_tongueOf_85 rfl (by decide) rfl ?_
        refine j_loc [(0, .ref (ad (gm κ) 97)), (1, .int a1), (2, .int a2), (3, .int s.2.2), (4, .int e3), (5, .int s.2.2)] [2, 3, 4, 0, 1, 5] rfl ?_
        exact t_X12_tongueOf_j86 a1 a2 s.2.2 e3 s.2.2 w (fun _ h => h) K0 h
      · refine j_goto 86 dX12_tongueOf_76 (by decide) ?_
        refine j_loc [(0, .ref (ad (gm κ) 97)), (1, .int a1), (2, .int a2), (3, .int s.1), (4, .int s.2.1), (5, .int s.2.2)] [0, 1, 2, 3, 4, 5] rfl ?_
        exact t_X12_tongueOf_j86 a1 a2 s.1 s.2.1 s.2.2 w (fun _ h => h) K0 h
noncomputable def X12_tongueOf (a1 : Int32) (a2 : Int32) (w : Wd) : Option (Int32) :=
(lp (X12_tongueOf_b8 a1 a2 w) ((-1 : Int32), (0 : Int32), (0 : Int32))).bind fun e4 =>
some e4
set_option maxRecDepth 20000 in
set_option maxHeartbeats 1000000 in
theorem t_X12_tongueOf {κ : Kx} (a1 : Int32) (a2 : Int32) (w : Wd) (h : ok (X12_tongueOf  a1 a2 w) (PI κ w)) : J κ RX12 cX12_tongueOf 8 (some .int) (rmk 1 25) 0 [(0, .ref (ad (gm κ) 97)), (1, .int a1), (2, .int a2)] [] w := by
  unfold X12_tongueOf at h
  refine j_iconst (-1 : Int32) dX12_tongueOf_0 ki_m1 ?_
  refine j_istore_n [(3, .int (-1 : Int32)), (0, .ref (ad (gm κ) 97)), (1, .int a1), (2, .int a2)] dX12_tongueOf_1 rfl (by decide) rfl ?_
  refine j_iconst (0 : Int32) dX12_tongueOf_2 ki_0 ?_
  refine j_istore [(4, .int (0 : Int32)), (3, .int (-1 : Int32)), (0, .ref (ad (gm κ) 97)), (1, .int a1), (2, .int a2)] dX12_tongueOf_3 (by decide) rfl ?_
  refine j_iconst (0 : Int32) dX12_tongueOf_5 ki_0 ?_
  refine j_istore [(5, .int (0 : Int32)), (4, .int (0 : Int32)), (3, .int (-1 : Int32)), (0, .ref (ad (gm κ) 97)), (1, .int a1), (2, .int a2)] dX12_tongueOf_6 (by decide) rfl ?_
  refine j_loc [(0, .ref (ad (gm κ) 97)), (1, .int a1), (2, .int a2), (3, .int (-1 : Int32)), (4, .int (0 : Int32)), (5, .int (0 : Int32))] [3, 4, 5, 2, 1, 0] rfl ?_
  refine t_X12_tongueOf_b8 a1 a2 w (fun e4 h => ?_) ((-1 : Int32), (0 : Int32), (0 : Int32)) (ok_bb h)
  · refine j_iload_n 0 dX12_tongueOf_92 rfl rfl ?_
    have h := ok_s h
    exact j_iret dX12_tongueOf_93 rfl rfl h
theorem c_X12_tongueOf (l : Launch) (γ : Gm) (A : Nat → Prop) (a1 : Int32) (a2 : Int32) (w : Wd) (q : Int32) (e : X12_tongueOf  a1 a2 w = some q) : MetG l γ A yX12_tongueOf cX12_tongueOf 8 (some .int) (rmk 1 25) [.ref (ad (γ) 97), .int a1, .int a2] w (some (.int q)) w := by
  refine met_of pn_RX12 (Nat.le_of_ble_eq_true rfl) ?_
  intro κ hl hγ hA hρ
  subst hl; subst hγ; subst hA
  exact t_X12_tongueOf   a1 a2 w ⟨q, e, pI hρ rfl rfl⟩
theorem dX12_isRow_0 : decode cX12_isRow 0 = .ok (.iconst 0, 1) := by decide +kernel
theorem dX12_isRow_1 : decode cX12_isRow 1 = .ok (.istore 5, 2) := by decide +kernel
theorem dX12_isRow_3 : decode cX12_isRow 3 = .ok (.iload 5, 2) := by decide +kernel
theorem dX12_isRow_5 : decode cX12_isRow 5 = .ok (.iload_n 2, 1) := by decide +kernel
theorem dX12_isRow_6 : decode cX12_isRow 6 = .ok (.if_icmp .ge 79, 3) := by decide +kernel
theorem dX12_isRow_9 : decode cX12_isRow 9 = .ok (.aload_n 0, 1) := by decide +kernel
theorem dX12_isRow_10 : decode cX12_isRow 10 = .ok (.getfield 16, 3) := by decide +kernel
theorem dX12_isRow_13 : decode cX12_isRow 13 = .ok (.bipush 60, 2) := by decide +kernel
theorem dX12_isRow_15 : decode cX12_isRow 15 = .ok (.iload_n 1, 1) := by decide +kernel
theorem dX12_isRow_16 : decode cX12_isRow 16 = .ok (.imul, 1) := by decide +kernel
theorem dX12_isRow_17 : decode cX12_isRow 17 = .ok (.iload 5, 2) := by decide +kernel
theorem dX12_isRow_19 : decode cX12_isRow 19 = .ok (.iadd, 1) := by decide +kernel
theorem dX12_isRow_20 : decode cX12_isRow 20 = .ok (.laload, 1) := by decide +kernel
theorem dX12_isRow_21 : decode cX12_isRow 21 = .ok (.lstore 6, 2) := by decide +kernel
theorem dX12_isRow_23 : decode cX12_isRow 23 = .ok (.lload 6, 2) := by decide +kernel
theorem dX12_isRow_25 : decode cX12_isRow 25 = .ok (.lconst 0, 1) := by decide +kernel
theorem dX12_isRow_26 : decode cX12_isRow 26 = .ok (.lcmp, 1) := by decide +kernel
theorem dX12_isRow_27 : decode cX12_isRow 27 = .ok (.ifCond .lt 11, 3) := by decide +kernel
theorem dX12_isRow_30 : decode cX12_isRow 30 = .ok (.lload 6, 2) := by decide +kernel
theorem dX12_isRow_32 : decode cX12_isRow 32 = .ok (.iload_n 3, 1) := by decide +kernel
theorem dX12_isRow_33 : decode cX12_isRow 33 = .ok (.i2l, 1) := by decide +kernel
theorem dX12_isRow_34 : decode cX12_isRow 34 = .ok (.lcmp, 1) := by decide +kernel
theorem dX12_isRow_35 : decode cX12_isRow 35 = .ok (.ifCond .lt 5, 3) := by decide +kernel
theorem dX12_isRow_38 : decode cX12_isRow 38 = .ok (.iconst 0, 1) := by decide +kernel
theorem dX12_isRow_39 : decode cX12_isRow 39 = .ok (.ireturn, 1) := by decide +kernel
theorem dX12_isRow_40 : decode cX12_isRow 40 = .ok (.aload 4, 2) := by decide +kernel
theorem dX12_isRow_42 : decode cX12_isRow 42 = .ok (.iload 5, 2) := by decide +kernel
theorem dX12_isRow_44 : decode cX12_isRow 44 = .ok (.lload 6, 2) := by decide +kernel
theorem dX12_isRow_46 : decode cX12_isRow 46 = .ok (.l2i, 1) := by decide +kernel
theorem dX12_isRow_47 : decode cX12_isRow 47 = .ok (.iastore, 1) := by decide +kernel
theorem dX12_isRow_48 : decode cX12_isRow 48 = .ok (.iconst 0, 1) := by decide +kernel
theorem dX12_isRow_49 : decode cX12_isRow 49 = .ok (.istore 8, 2) := by decide +kernel
theorem dX12_isRow_51 : decode cX12_isRow 51 = .ok (.iload 8, 2) := by decide +kernel
theorem dX12_isRow_53 : decode cX12_isRow 53 = .ok (.iload 5, 2) := by decide +kernel
theorem dX12_isRow_55 : decode cX12_isRow 55 = .ok (.if_icmp .ge 24, 3) := by decide +kernel
theorem dX12_isRow_58 : decode cX12_isRow 58 = .ok (.aload 4, 2) := by decide +kernel
theorem dX12_isRow_60 : decode cX12_isRow 60 = .ok (.iload 8, 2) := by decide +kernel
theorem dX12_isRow_62 : decode cX12_isRow 62 = .ok (.iaload, 1) := by decide +kernel
theorem dX12_isRow_63 : decode cX12_isRow 63 = .ok (.aload 4, 2) := by decide +kernel
theorem dX12_isRow_65 : decode cX12_isRow 65 = .ok (.iload 5, 2) := by decide +kernel
theorem dX12_isRow_67 : decode cX12_isRow 67 = .ok (.iaload, 1) := by decide +kernel
theorem dX12_isRow_68 : decode cX12_isRow 68 = .ok (.if_icmp .ne 5, 3) := by decide +kernel
theorem dX12_isRow_71 : decode cX12_isRow 71 = .ok (.iconst 0, 1) := by decide +kernel
theorem dX12_isRow_72 : decode cX12_isRow 72 = .ok (.ireturn, 1) := by decide +kernel
theorem dX12_isRow_73 : decode cX12_isRow 73 = .ok (.iinc 8 1, 3) := by decide +kernel
theorem dX12_isRow_76 : decode cX12_isRow 76 = .ok (.goto (-25), 3) := by decide +kernel
theorem dX12_isRow_79 : decode cX12_isRow 79 = .ok (.iinc 5 1, 3) := by decide +kernel
theorem dX12_isRow_82 : decode cX12_isRow 82 = .ok (.goto (-79), 3) := by decide +kernel
theorem dX12_isRow_85 : decode cX12_isRow 85 = .ok (.iconst 1, 1) := by decide +kernel
theorem dX12_isRow_86 : decode cX12_isRow 86 = .ok (.ireturn, 1) := by decide +kernel
noncomputable def X12_isRow_b51 (kv : Nat) (nv : Nat) (a1 : Int32) (a2 : Int32) (a3 : Int32) (a5 : Int32) (w : Wd) (s : Int32) : Option (Int32 ⊕ (Unit ⊕ Unit)) :=
(if a5 ≤ s then
some (.inr (.inr ()))
else
gd (vp_in s nv) <|
gd (vp_in a5 nv) <|
(if (w.1 kv (ix s)) = (w.1 kv (ix a5)) then
some (.inr (.inl ()))
else
some (.inl (s + (1 : Int32)))))
set_option maxRecDepth 20000 in
set_option maxHeartbeats 1000000 in
theorem t_X12_isRow_b51 {κ : Kx} (kv : Nat) (nv : Nat) (hkv : sh kv = (0, nv)) (a1 : Int32) (a2 : Int32) (a3 : Int32) (a5 : Int32) (w : Wd) {P : (Unit ⊕ Unit) → Prop} (K0 : ∀ e, P (.inl e) → J κ RX12 cX12_isRow 9 (some .boolean) (rmk 0 0) 71 [] [] w) (K1 : ∀ e, P (.inr e) → J κ RX12 cX12_isRow 9 (some .boolean) (rmk 0 0) 79 [(0, .ref (ad (gm κ) 97)), (1, .int a1), (2, .int a2), (3, .int a3), (4, .ref (ad (gm κ) kv)), (5, .int a5)] [] w) (s : Int32) (h : ok (lp (X12_isRow_b51 kv nv a1 a2 a3 a5 w) s) P) : J κ RX12 cX12_isRow 9 (some .boolean) (rmk 0 0) 51 [(0, .ref (ad (gm κ) 97)), (1, .int a1), (2, .int a2), (3, .int a3), (4, .ref (ad (gm κ) kv)), (5, .int a5), (8, .int s)] [] w := by
  refine lp_ind (fun s => J κ RX12 cX12_isRow 9 (some .boolean) (rmk 0 0) 51 [(0, .ref (ad (gm κ) 97)), (1, .int a1), (2, .int a2), (3, .int a3), (4, .ref (ad (gm κ) kv)), (5, .int a5), (8, .int s)] [] w) (fun s h => ?_) s h
  unfold X12_isRow_b51 at h
  refine j_iload 6 dX12_isRow_51 rfl ?_
  refine j_iload 5 dX12_isRow_53 rfl ?_
  refine j_ic_ge 79 dX12_isRow_55 (by decide) h (fun h => ?_) (fun h => ?_)
  · refine j_loc [(0, .ref (ad (gm κ) 97)), (1, .int a1), (2, .int a2), (3, .int a3), (4, .ref (ad (gm κ) kv)), (5, .int a5)] [0, 1, 2, 3, 4, 5] rfl ?_
    have h := sel_r h
    have h := K1 _ h
    exact h
  · refine j_aload 4 dX12_isRow_58 rfl ?_
    refine j_iload 6 dX12_isRow_60 rfl ?_
    refine j_iald hkv dX12_isRow_62 h (fun h => ?_)
    refine j_aload 4 dX12_isRow_63 rfl ?_
    refine j_iload 5 dX12_isRow_65 rfl ?_
    refine j_iald hkv dX12_isRow_67 h (fun h => ?_)
    refine j_ic_ne 73 dX12_isRow_68 (by decide) h (fun h => ?_) (fun h => ?_)
    · refine j_iinc (s + (1 : Int32)) 6 [(8, .int (s + (1 : Int32))), (0, .ref (ad (gm κ) 97)), (1, .int a1), (2, .int a2), (3, .int a3), (4, .ref (ad (gm κ) kv)), (5, .int a5)] dX12_isRow_73 rfl (by rw [kn_1]) (by decide) rfl ?_
      refine j_goto 51 dX12_isRow_76 (by decide) ?_
      refine j_loc [(0, .ref (ad (gm κ) 97)), (1, .int a1), (2, .int a2), (3, .int a3), (4, .ref (ad (gm κ) kv)), (5, .int a5), (8, .int (s + (1 : Int32)))] [1, 2, 3, 4, 5, 6, 0] rfl ?_
      have h := sel_l h
      exact h
    · refine j_loc [] [] rfl ?_
      have h := sel_r h
      have h := K0 _ h
      exact h
noncomputable def X12_isRow_b3 (kv : Nat) (nv : Nat) (a1 : Int32) (a2 : Int32) (a3 : Int32) (s : (Int32 × Wd)) : Option ((Int32 × Wd) ⊕ (Wd ⊕ Wd ⊕ Wd)) :=
(if a2 ≤ s.1 then
some (.inr (.inr (.inr s.2)))
else
gd (vp_in (((60 : Int32) * a1) + s.1) 240) <|
(some (s.2.2 100 (ix (((60 : Int32) * a1) + s.1)))).bind fun z1 =>
(if (lg_cmp z1 (0 : Int64)) < 0 then
some (.inr (.inl s.2))
else
(if (lg_cmp z1 (Int32.toInt64 a3)) < 0 then
gd (vp_in s.1 nv) <|
(some (puI s.2 kv (ix s.1) (Int64.toInt32 z1))).bind fun w2 =>
(lp (X12_isRow_b51 kv nv a1 a2 a3 s.1 w2) (0 : Int32)).bind fun e3 => match e3 with
| (.inl e4) => (some (.inr (.inr (.inl w2))))
| (.inr e5) => (some (.inl ((s.1 + (1 : Int32)), w2)))
else
some (.inr (.inl s.2)))))
set_option maxRecDepth 20000 in
set_option maxHeartbeats 1000000 in
theorem t_X12_isRow_b3 {κ : Kx} (kv : Nat) (nv : Nat) (hkv : sh kv = (0, nv)) (a1 : Int32) (a2 : Int32) (a3 : Int32) {P : (Wd ⊕ Wd ⊕ Wd) → Prop} (K0 : ∀ e, P (.inl e) → J κ RX12 cX12_isRow 9 (some .boolean) (rmk 0 0) 38 [] [] e) (K1 : ∀ e, P (.inr (.inl e)) → J κ RX12 cX12_isRow 9 (some .boolean) (rmk 0 0) 71 [] [] e) (K2 : ∀ e, P (.inr (.inr e)) → J κ RX12 cX12_isRow 9 (some .boolean) (rmk 0 0) 85 [] [] e) (s : (Int32 × Wd)) (h : ok (lp (X12_isRow_b3 kv nv a1 a2 a3) s) P) : J κ RX12 cX12_isRow 9 (some .boolean) (rmk 0 0) 3 [(0, .ref (ad (gm κ) 97)), (1, .int a1), (2, .int a2), (3, .int a3), (4, .ref (ad (gm κ) kv)), (5, .int s.1)] [] s.2 := by
  refine lp_ind (fun s => J κ RX12 cX12_isRow 9 (some .boolean) (rmk 0 0) 3 [(0, .ref (ad (gm κ) 97)), (1, .int a1), (2, .int a2), (3, .int a3), (4, .ref (ad (gm κ) kv)), (5, .int s.1)] [] s.2) (fun s h => ?_) s h
  unfold X12_isRow_b3 at h
  refine j_iload 5 dX12_isRow_3 rfl ?_
  refine j_iload_n 2 dX12_isRow_5 rfl rfl ?_
  refine j_ic_ge 85 dX12_isRow_6 (by decide) h (fun h => ?_) (fun h => ?_)
  · refine j_loc [] [] rfl ?_
    have h := sel_r h
    have h := K2 _ h
    exact h
  · refine j_aload_n 0 dX12_isRow_9 rfl rfl ?_
    refine j_getA 100 fl_RX12_16 sh_97 fk_97_3 (by decide) dX12_isRow_10 ?_
    refine j_bipush (60 : Int32) dX12_isRow_13 kb_60 ?_
    refine j_iload_n 1 dX12_isRow_15 rfl rfl ?_
    refine j_imul dX12_isRow_16 ?_
    refine j_iload 5 dX12_isRow_17 rfl ?_
    refine j_iadd dX12_isRow_19 ?_
    refine j_lald sh_100 dX12_isRow_20 h (fun h => ?_)
    refine j_lJ h (fun z1 h => ?_)
    refine j_lstore [(6, .long z1), (0, .ref (ad (gm κ) 97)), (1, .int a1), (2, .int a2), (3, .int a3), (4, .ref (ad (gm κ) kv)), (5, .int s.1)] dX12_isRow_21 (by decide) rfl ?_
    refine j_lload 0 dX12_isRow_23 rfl ?_
    refine j_lconst (0 : Int64) dX12_isRow_25 (by decide) ?_
    refine j_lcmp dX12_isRow_26 ?_
    refine j_if_lt 38 dX12_isRow_27 (by decide) h (fun h => ?_) (fun h => ?_)
    · refine j_loc [] [] rfl ?_
      have h := sel_r h
      have h := K0 _ h
      exact h
    · refine j_lload 0 dX12_isRow_30 rfl ?_
      refine j_iload_n 4 dX12_isRow_32 rfl rfl ?_
      refine j_i2l dX12_isRow_33 ?_
      refine j_lcmp dX12_isRow_34 ?_
      refine j_if_lt 40 dX12_isRow_35 (by decide) h (fun h => ?_) (fun h => ?_)
      · refine j_aload 5 dX12_isRow_40 rfl ?_
        refine j_iload 6 dX12_isRow_42 rfl ?_
        refine j_lload 0 dX12_isRow_44 rfl ?_
        refine j_l2i dX12_isRow_46 ?_
        refine j_iast hkv dX12_isRow_47 h (fun h => ?_)
        refine j_lW h (fun w2 h => ?_)
        refine j_iconst (0 : Int32) dX12_isRow_48 ki_0 ?_
        refine j_istore [(8, .int (0 : Int32)), (6, .long z1), (0, .ref (ad (gm κ) 97)), (1, .int a1), (2, .int a2), (3, .int a3), (4, .ref (ad (gm κ) kv)), (5, .int s.1)] dX12_isRow_49 (by decide) rfl ?_
        refine j_loc [(0, .ref (ad (gm κ) 97)), (1, .int a1), (2, .int a2), (3, .int a3), (4, .ref (ad (gm κ) kv)), (5, .int s.1), (8, .int (0 : Int32))] [2, 3, 4, 5, 6, 7, 0] rfl ?_
        refine t_X12_isRow_b51 kv nv hkv a1 a2 a3 s.1 w2 (fun e4 h => ?_) (fun e5 h => ?_) (0 : Int32) (ok_bb h)
        · refine j_loc [] [] rfl ?_
          have h := sel_r h
          have h := K1 _ h
          exact h
        · refine j_iinc (s.1 + (1 : Int32)) 5 [(5, .int (s.1 + (1 : Int32))), (0, .ref (ad (gm κ) 97)), (1, .int a1), (2, .int a2), (3, .int a3), (4, .ref (ad (gm κ) kv))] dX12_isRow_79 rfl (by rw [kn_1]) (by decide) rfl ?_
          refine j_goto 3 dX12_isRow_82 (by decide) ?_
          refine j_loc [(0, .ref (ad (gm κ) 97)), (1, .int a1), (2, .int a2), (3, .int a3), (4, .ref (ad (gm κ) kv)), (5, .int (s.1 + (1 : Int32)))] [1, 2, 3, 4, 5, 0] rfl ?_
          have h := sel_l h
          exact h
      · refine j_loc [] [] rfl ?_
        have h := sel_r h
        have h := K0 _ h
        exact h
noncomputable def X12_isRow (kv : Nat) (nv : Nat) (a1 : Int32) (a2 : Int32) (a3 : Int32) (w : Wd) : Option (Int32 × Wd) :=
(lp (X12_isRow_b3 kv nv a1 a2 a3) ((0 : Int32), w)).bind fun e6 => match e6 with
| (.inl e7) => (some ((0 : Int32), e7))
| (.inr (.inl e8)) => (some ((0 : Int32), e8))
| (.inr (.inr e9)) => (some ((1 : Int32), e9))
set_option maxRecDepth 20000 in
set_option maxHeartbeats 1000000 in
theorem t_X12_isRow {κ : Kx} (kv : Nat) (nv : Nat) (hkv : sh kv = (0, nv)) (a1 : Int32) (a2 : Int32) (a3 : Int32) (w : Wd) (h : ok (X12_isRow kv nv a1 a2 a3 w) (PIw κ)) : J κ RX12 cX12_isRow 9 (some .boolean) (rmk 0 0) 0 [(0, .ref (ad (gm κ) 97)), (1, .int a1), (2, .int a2), (3, .int a3), (4, .ref (ad (gm κ) kv))] [] w := by
  unfold X12_isRow at h
  refine j_iconst (0 : Int32) dX12_isRow_0 ki_0 ?_
  refine j_istore [(5, .int (0 : Int32)), (0, .ref (ad (gm κ) 97)), (1, .int a1), (2, .int a2), (3, .int a3), (4, .ref (ad (gm κ) kv))] dX12_isRow_1 (by decide) rfl ?_
  refine j_loc [(0, .ref (ad (gm κ) 97)), (1, .int a1), (2, .int a2), (3, .int a3), (4, .ref (ad (gm κ) kv)), (5, .int (0 : Int32))] [1, 2, 3, 4, 5, 0] rfl ?_
  refine t_X12_isRow_b3 kv nv hkv a1 a2 a3 (fun e7 h => ?_) (fun e8 h => ?_) (fun e9 h => ?_) ((0 : Int32), w) (ok_bb h)
  · refine j_iconst (0 : Int32) dX12_isRow_38 ki_0 ?_
    have h := ok_s h
    exact j_iret dX12_isRow_39 rfl (by decide) h
  · refine j_iconst (0 : Int32) dX12_isRow_71 ki_0 ?_
    have h := ok_s h
    exact j_iret dX12_isRow_72 rfl (by decide) h
  · refine j_iconst (1 : Int32) dX12_isRow_85 ki_1 ?_
    have h := ok_s h
    exact j_iret dX12_isRow_86 rfl (by decide) h
theorem c_X12_isRow (l : Launch) (γ : Gm) (A : Nat → Prop) (kv : Nat) (nv : Nat) (hkv : sh kv = (0, nv)) (a1 : Int32) (a2 : Int32) (a3 : Int32) (w : Wd) (q : Int32 × Wd) (e : X12_isRow kv nv a1 a2 a3 w = some q) : MetG l γ A yX12_isRow cX12_isRow 9 (some .boolean) (rmk 0 0) [.ref (ad (γ) 97), .int a1, .int a2, .int a3, .ref (ad (γ) kv)] w (some (.int q.1)) q.2 := by
  refine met_of pn_RX12 (Nat.le_of_ble_eq_true rfl) ?_
  intro κ hl hγ hA hρ
  subst hl; subst hγ; subst hA
  exact t_X12_isRow kv nv hkv a1 a2 a3 w ⟨q, e, pIw hρ rfl rfl⟩
theorem dX12_keyOf_0 : decode cX12_keyOf 0 = .ok (.iconst 0, 1) := by decide +kernel
theorem dX12_keyOf_1 : decode cX12_keyOf 1 = .ok (.istore_n 2, 1) := by decide +kernel
theorem dX12_keyOf_2 : decode cX12_keyOf 2 = .ok (.iconst 0, 1) := by decide +kernel
theorem dX12_keyOf_3 : decode cX12_keyOf 3 = .ok (.istore_n 3, 1) := by decide +kernel
theorem dX12_keyOf_4 : decode cX12_keyOf 4 = .ok (.iconst 0, 1) := by decide +kernel
theorem dX12_keyOf_5 : decode cX12_keyOf 5 = .ok (.istore 4, 2) := by decide +kernel
theorem dX12_keyOf_7 : decode cX12_keyOf 7 = .ok (.iload 4, 2) := by decide +kernel
theorem dX12_keyOf_9 : decode cX12_keyOf 9 = .ok (.iload_n 1, 1) := by decide +kernel
theorem dX12_keyOf_10 : decode cX12_keyOf 10 = .ok (.if_icmp .ge 86, 3) := by decide +kernel
theorem dX12_keyOf_13 : decode cX12_keyOf 13 = .ok (.aload_n 0, 1) := by decide +kernel
theorem dX12_keyOf_14 : decode cX12_keyOf 14 = .ok (.getfield 262, 3) := by decide +kernel
theorem dX12_keyOf_17 : decode cX12_keyOf 17 = .ok (.bipush 7, 2) := by decide +kernel
theorem dX12_keyOf_19 : decode cX12_keyOf 19 = .ok (.iload 4, 2) := by decide +kernel
theorem dX12_keyOf_21 : decode cX12_keyOf 21 = .ok (.imul, 1) := by decide +kernel
theorem dX12_keyOf_22 : decode cX12_keyOf 22 = .ok (.aload_n 0, 1) := by decide +kernel
theorem dX12_keyOf_23 : decode cX12_keyOf 23 = .ok (.getfield 265, 3) := by decide +kernel
theorem dX12_keyOf_26 : decode cX12_keyOf 26 = .ok (.iload 4, 2) := by decide +kernel
theorem dX12_keyOf_28 : decode cX12_keyOf 28 = .ok (.iaload, 1) := by decide +kernel
theorem dX12_keyOf_29 : decode cX12_keyOf 29 = .ok (.iadd, 1) := by decide +kernel
theorem dX12_keyOf_30 : decode cX12_keyOf 30 = .ok (.iaload, 1) := by decide +kernel
theorem dX12_keyOf_31 : decode cX12_keyOf 31 = .ok (.istore 5, 2) := by decide +kernel
theorem dX12_keyOf_33 : decode cX12_keyOf 33 = .ok (.iconst 0, 1) := by decide +kernel
theorem dX12_keyOf_34 : decode cX12_keyOf 34 = .ok (.istore 6, 2) := by decide +kernel
theorem dX12_keyOf_36 : decode cX12_keyOf 36 = .ok (.iload 6, 2) := by decide +kernel
theorem dX12_keyOf_38 : decode cX12_keyOf 38 = .ok (.iload 4, 2) := by decide +kernel
theorem dX12_keyOf_40 : decode cX12_keyOf 40 = .ok (.if_icmp .ge 28, 3) := by decide +kernel
theorem dX12_keyOf_43 : decode cX12_keyOf 43 = .ok (.aload_n 0, 1) := by decide +kernel
theorem dX12_keyOf_44 : decode cX12_keyOf 44 = .ok (.getfield 265, 3) := by decide +kernel
theorem dX12_keyOf_47 : decode cX12_keyOf 47 = .ok (.iload 6, 2) := by decide +kernel
theorem dX12_keyOf_49 : decode cX12_keyOf 49 = .ok (.iaload, 1) := by decide +kernel
theorem dX12_keyOf_50 : decode cX12_keyOf 50 = .ok (.aload_n 0, 1) := by decide +kernel
theorem dX12_keyOf_51 : decode cX12_keyOf 51 = .ok (.getfield 265, 3) := by decide +kernel
theorem dX12_keyOf_54 : decode cX12_keyOf 54 = .ok (.iload 4, 2) := by decide +kernel
theorem dX12_keyOf_56 : decode cX12_keyOf 56 = .ok (.iaload, 1) := by decide +kernel
theorem dX12_keyOf_57 : decode cX12_keyOf 57 = .ok (.if_icmp .ne 5, 3) := by decide +kernel
theorem dX12_keyOf_60 : decode cX12_keyOf 60 = .ok (.iconst (-1), 1) := by decide +kernel
theorem dX12_keyOf_61 : decode cX12_keyOf 61 = .ok (.ireturn, 1) := by decide +kernel
theorem dX12_keyOf_62 : decode cX12_keyOf 62 = .ok (.iinc 6 1, 3) := by decide +kernel
theorem dX12_keyOf_65 : decode cX12_keyOf 65 = .ok (.goto (-29), 3) := by decide +kernel
theorem dX12_keyOf_68 : decode cX12_keyOf 68 = .ok (.iload 5, 2) := by decide +kernel
theorem dX12_keyOf_70 : decode cX12_keyOf 70 = .ok (.sipush 1000, 3) := by decide +kernel
theorem dX12_keyOf_73 : decode cX12_keyOf 73 = .ok (.if_icmp .ne 5, 3) := by decide +kernel
theorem dX12_keyOf_76 : decode cX12_keyOf 76 = .ok (.iconst (-1), 1) := by decide +kernel
theorem dX12_keyOf_77 : decode cX12_keyOf 77 = .ok (.ireturn, 1) := by decide +kernel
theorem dX12_keyOf_78 : decode cX12_keyOf 78 = .ok (.iload_n 2, 1) := by decide +kernel
theorem dX12_keyOf_79 : decode cX12_keyOf 79 = .ok (.iload 5, 2) := by decide +kernel
theorem dX12_keyOf_81 : decode cX12_keyOf 81 = .ok (.invokestatic 586, 3) := by decide +kernel
theorem dX12_keyOf_84 : decode cX12_keyOf 84 = .ok (.istore_n 2, 1) := by decide +kernel
theorem dX12_keyOf_85 : decode cX12_keyOf 85 = .ok (.iload_n 3, 1) := by decide +kernel
theorem dX12_keyOf_86 : decode cX12_keyOf 86 = .ok (.iload 5, 2) := by decide +kernel
theorem dX12_keyOf_88 : decode cX12_keyOf 88 = .ok (.iadd, 1) := by decide +kernel
theorem dX12_keyOf_89 : decode cX12_keyOf 89 = .ok (.istore_n 3, 1) := by decide +kernel
theorem dX12_keyOf_90 : decode cX12_keyOf 90 = .ok (.iinc 4 1, 3) := by decide +kernel
theorem dX12_keyOf_93 : decode cX12_keyOf 93 = .ok (.goto (-86), 3) := by decide +kernel
theorem dX12_keyOf_96 : decode cX12_keyOf 96 = .ok (.sipush 1000, 3) := by decide +kernel
theorem dX12_keyOf_99 : decode cX12_keyOf 99 = .ok (.iload_n 2, 1) := by decide +kernel
theorem dX12_keyOf_100 : decode cX12_keyOf 100 = .ok (.imul, 1) := by decide +kernel
theorem dX12_keyOf_101 : decode cX12_keyOf 101 = .ok (.iload_n 3, 1) := by decide +kernel
theorem dX12_keyOf_102 : decode cX12_keyOf 102 = .ok (.iadd, 1) := by decide +kernel
theorem dX12_keyOf_103 : decode cX12_keyOf 103 = .ok (.ireturn, 1) := by decide +kernel
noncomputable def X12_keyOf_b36 (a1 : Int32) (a2 : Int32) (a3 : Int32) (a4 : Int32) (a5 : Int32) (w : Wd) (s : Int32) : Option (Int32 ⊕ (Unit ⊕ Unit)) :=
(if a4 ≤ s then
some (.inr (.inr ()))
else
gd (vp_in s 7) <|
gd (vp_in a4 7) <|
(if (w.1 174 (ix s)) = (w.1 174 (ix a4)) then
some (.inr (.inl ()))
else
some (.inl (s + (1 : Int32)))))
set_option maxRecDepth 20000 in
set_option maxHeartbeats 1000000 in
theorem t_X12_keyOf_b36 {κ : Kx} (a1 : Int32) (a2 : Int32) (a3 : Int32) (a4 : Int32) (a5 : Int32) (w : Wd) {P : (Unit ⊕ Unit) → Prop} (K0 : ∀ e, P (.inl e) → J κ RX12 cX12_keyOf 7 (some .int) (rmk 1 23) 60 [] [] w) (K1 : ∀ e, P (.inr e) → J κ RX12 cX12_keyOf 7 (some .int) (rmk 1 23) 68 [(0, .ref (ad (gm κ) 97)), (1, .int a1), (2, .int a2), (3, .int a3), (4, .int a4), (5, .int a5)] [] w) (s : Int32) (h : ok (lp (X12_keyOf_b36  a1 a2 a3 a4 a5 w) s) P) : J κ RX12 cX12_keyOf 7 (some .int) (rmk 1 23) 36 [(0, .ref (ad (gm κ) 97)), (1, .int a1), (2, .int a2), (3, .int a3), (4, .int a4), (5, .int a5), (6, .int s)] [] w := by
  refine lp_ind (fun s => J κ RX12 cX12_keyOf 7 (some .int) (rmk 1 23) 36 [(0, .ref (ad (gm κ) 97)), (1, .int a1), (2, .int a2), (3, .int a3), (4, .int a4), (5, .int a5), (6, .int s)] [] w) (fun s h => ?_) s h
  unfold X12_keyOf_b36 at h
  refine j_iload 6 dX12_keyOf_36 rfl ?_
  refine j_iload 4 dX12_keyOf_38 rfl ?_
  refine j_ic_ge 68 dX12_keyOf_40 (by decide) h (fun h => ?_) (fun h => ?_)
  · refine j_loc [(0, .ref (ad (gm κ) 97)), (1, .int a1), (2, .int a2), (3, .int a3), (4, .int a4), (5, .int a5)] [0, 1, 2, 3, 4, 5] rfl ?_
    have h := sel_r h
    have h := K1 _ h
    exact h
  · refine j_aload_n 0 dX12_keyOf_43 rfl rfl ?_
    refine j_getA 174 fl_RX12_265 sh_97 fk_97_103 (by decide) dX12_keyOf_44 ?_
    refine j_iload 6 dX12_keyOf_47 rfl ?_
    refine j_iald sh_174 dX12_keyOf_49 h (fun h => ?_)
    refine j_aload_n 0 dX12_keyOf_50 rfl rfl ?_
    refine j_getA 174 fl_RX12_265 sh_97 fk_97_103 (by decide) dX12_keyOf_51 ?_
    refine j_iload 4 dX12_keyOf_54 rfl ?_
    refine j_iald sh_174 dX12_keyOf_56 h (fun h => ?_)
    refine j_ic_ne 62 dX12_keyOf_57 (by decide) h (fun h => ?_) (fun h => ?_)
    · refine j_iinc (s + (1 : Int32)) 6 [(6, .int (s + (1 : Int32))), (0, .ref (ad (gm κ) 97)), (1, .int a1), (2, .int a2), (3, .int a3), (4, .int a4), (5, .int a5)] dX12_keyOf_62 rfl (by rw [kn_1]) (by decide) rfl ?_
      refine j_goto 36 dX12_keyOf_65 (by decide) ?_
      refine j_loc [(0, .ref (ad (gm κ) 97)), (1, .int a1), (2, .int a2), (3, .int a3), (4, .int a4), (5, .int a5), (6, .int (s + (1 : Int32)))] [1, 2, 3, 4, 5, 6, 0] rfl ?_
      have h := sel_l h
      exact h
    · refine j_loc [] [] rfl ?_
      have h := sel_r h
      have h := K0 _ h
      exact h
noncomputable def X12_keyOf_b7 (a1 : Int32) (w : Wd) (s : (Int32 × Int32 × Int32)) : Option ((Int32 × Int32 × Int32) ⊕ (Unit ⊕ Unit ⊕ (Int32 × Int32))) :=
(if a1 ≤ s.2.2 then
some (.inr (.inr (.inr (s.1, s.2.1))))
else
gd (vp_in s.2.2 7) <|
gd (vp_in (((7 : Int32) * s.2.2) + (w.1 174 (ix s.2.2))) 49) <|
(some (w.1 173 (ix (((7 : Int32) * s.2.2) + (w.1 174 (ix s.2.2)))))).bind fun z1 =>
(lp (X12_keyOf_b36 a1 s.1 s.2.1 s.2.2 z1 w) (0 : Int32)).bind fun e2 => match e2 with
| (.inl e3) => (some (.inr (.inl ())))
| (.inr e4) => ((if z1 = (1000 : Int32) then
some (.inr (.inr (.inl ())))
else
some (.inl ((mxI s.1 z1), (s.2.1 + z1), (s.2.2 + (1 : Int32)))))))
set_option maxRecDepth 20000 in
set_option maxHeartbeats 1000000 in
theorem t_X12_keyOf_b7 {κ : Kx} (a1 : Int32) (w : Wd) {P : (Unit ⊕ Unit ⊕ (Int32 × Int32)) → Prop} (K0 : ∀ e, P (.inl e) → J κ RX12 cX12_keyOf 7 (some .int) (rmk 1 23) 60 [] [] w) (K1 : ∀ e, P (.inr (.inl e)) → J κ RX12 cX12_keyOf 7 (some .int) (rmk 1 23) 76 [] [] w) (K2 : ∀ e, P (.inr (.inr e)) → J κ RX12 cX12_keyOf 7 (some .int) (rmk 1 23) 96 [(2, .int e.1), (3, .int e.2)] [] w) (s : (Int32 × Int32 × Int32)) (h : ok (lp (X12_keyOf_b7  a1 w) s) P) : J κ RX12 cX12_keyOf 7 (some .int) (rmk 1 23) 7 [(0, .ref (ad (gm κ) 97)), (1, .int a1), (2, .int s.1), (3, .int s.2.1), (4, .int s.2.2)] [] w := by
  refine lp_ind (fun s => J κ RX12 cX12_keyOf 7 (some .int) (rmk 1 23) 7 [(0, .ref (ad (gm κ) 97)), (1, .int a1), (2, .int s.1), (3, .int s.2.1), (4, .int s.2.2)] [] w) (fun s h => ?_) s h
  unfold X12_keyOf_b7 at h
  refine j_iload 4 dX12_keyOf_7 rfl ?_
  refine j_iload_n 1 dX12_keyOf_9 rfl rfl ?_
  refine j_ic_ge 96 dX12_keyOf_10 (by decide) h (fun h => ?_) (fun h => ?_)
  · refine j_loc [(2, .int s.1), (3, .int s.2.1)] [2, 3] rfl ?_
    have h := sel_r h
    have h := K2 _ h
    exact h
  · refine j_aload_n 0 dX12_keyOf_13 rfl rfl ?_
    refine j_getA 173 fl_RX12_262 sh_97 fk_97_102 (by decide) dX12_keyOf_14 ?_
    refine j_bipush (7 : Int32) dX12_keyOf_17 kb_7 ?_
    refine j_iload 4 dX12_keyOf_19 rfl ?_
    refine j_imul dX12_keyOf_21 ?_
    refine j_aload_n 0 dX12_keyOf_22 rfl rfl ?_
    refine j_getA 174 fl_RX12_265 sh_97 fk_97_103 (by decide) dX12_keyOf_23 ?_
    refine j_iload 4 dX12_keyOf_26 rfl ?_
    refine j_iald sh_174 dX12_keyOf_28 h (fun h => ?_)
    refine j_iadd dX12_keyOf_29 ?_
    refine j_iald sh_173 dX12_keyOf_30 h (fun h => ?_)
    refine j_lI h (fun z1 h => ?_)
    refine j_istore [(5, .int z1), (0, .ref (ad (gm κ) 97)), (1, .int a1), (2, .int s.1), (3, .int s.2.1), (4, .int s.2.2)] dX12_keyOf_31 (by decide) rfl ?_
    refine j_iconst (0 : Int32) dX12_keyOf_33 ki_0 ?_
    refine j_istore [(6, .int (0 : Int32)), (5, .int z1), (0, .ref (ad (gm κ) 97)), (1, .int a1), (2, .int s.1), (3, .int s.2.1), (4, .int s.2.2)] dX12_keyOf_34 (by decide) rfl ?_
    refine j_loc [(0, .ref (ad (gm κ) 97)), (1, .int a1), (2, .int s.1), (3, .int s.2.1), (4, .int s.2.2), (5, .int z1), (6, .int (0 : Int32))] [2, 3, 4, 5, 6, 1, 0] rfl ?_
    refine t_X12_keyOf_b36 a1 s.1 s.2.1 s.2.2 z1 w (fun e3 h => ?_) (fun e4 h => ?_) (0 : Int32) (ok_bb h)
    · refine j_loc [] [] rfl ?_
      have h := sel_r h
      have h := K0 _ h
      exact h
    · refine j_iload 5 dX12_keyOf_68 rfl ?_
      refine j_sipush (1000 : Int32) dX12_keyOf_70 ks_1000 ?_
      refine j_ic_ne 78 dX12_keyOf_73 (by decide) h (fun h => ?_) (fun h => ?_)
      · refine j_iload_n 2 dX12_keyOf_78 rfl rfl ?_
        refine j_iload 5 dX12_keyOf_79 rfl ?_
        refine j_mxI mt_RX12_586 (by decide) (Nat.le_of_ble_eq_true rfl) dX12_keyOf_81 ?_
        refine j_istore_n [(2, .int (mxI s.1 z1)), (0, .ref (ad (gm κ) 97)), (1, .int a1), (3, .int s.2.1), (4, .int s.2.2), (5, .int z1)] dX12_keyOf_84 rfl (by decide) rfl ?_
        refine j_iload_n 3 dX12_keyOf_85 rfl rfl ?_
        refine j_iload 5 dX12_keyOf_86 rfl ?_
        refine j_iadd dX12_keyOf_88 ?_
        refine j_istore_n [(3, .int (s.2.1 + z1)), (2, .int (mxI s.1 z1)), (0, .ref (ad (gm κ) 97)), (1, .int a1), (4, .int s.2.2), (5, .int z1)] dX12_keyOf_89 rfl (by decide) rfl ?_
        refine j_iinc (s.2.2 + (1 : Int32)) 4 [(4, .int (s.2.2 + (1 : Int32))), (3, .int (s.2.1 + z1)), (2, .int (mxI s.1 z1)), (0, .ref (ad (gm κ) 97)), (1, .int a1), (5, .int z1)] dX12_keyOf_90 rfl (by rw [kn_1]) (by decide) rfl ?_
        refine j_goto 7 dX12_keyOf_93 (by decide) ?_
        refine j_loc [(0, .ref (ad (gm κ) 97)), (1, .int a1), (2, .int (mxI s.1 z1)), (3, .int (s.2.1 + z1)), (4, .int (s.2.2 + (1 : Int32)))] [3, 4, 2, 1, 0] rfl ?_
        have h := sel_l h
        exact h
      · refine j_loc [] [] rfl ?_
        have h := sel_r h
        have h := K1 _ h
        exact h
noncomputable def X12_keyOf (a1 : Int32) (w : Wd) : Option (Int32) :=
(lp (X12_keyOf_b7 a1 w) ((0 : Int32), (0 : Int32), (0 : Int32))).bind fun e5 => match e5 with
| (.inl e6) => (some (-1 : Int32))
| (.inr (.inl e7)) => (some (-1 : Int32))
| (.inr (.inr e8)) => (some (((1000 : Int32) * e8.1) + e8.2))
set_option maxRecDepth 20000 in
set_option maxHeartbeats 1000000 in
theorem t_X12_keyOf {κ : Kx} (a1 : Int32) (w : Wd) (h : ok (X12_keyOf  a1 w) (PI κ w)) : J κ RX12 cX12_keyOf 7 (some .int) (rmk 1 23) 0 [(0, .ref (ad (gm κ) 97)), (1, .int a1)] [] w := by
  unfold X12_keyOf at h
  refine j_iconst (0 : Int32) dX12_keyOf_0 ki_0 ?_
  refine j_istore_n [(2, .int (0 : Int32)), (0, .ref (ad (gm κ) 97)), (1, .int a1)] dX12_keyOf_1 rfl (by decide) rfl ?_
  refine j_iconst (0 : Int32) dX12_keyOf_2 ki_0 ?_
  refine j_istore_n [(3, .int (0 : Int32)), (2, .int (0 : Int32)), (0, .ref (ad (gm κ) 97)), (1, .int a1)] dX12_keyOf_3 rfl (by decide) rfl ?_
  refine j_iconst (0 : Int32) dX12_keyOf_4 ki_0 ?_
  refine j_istore [(4, .int (0 : Int32)), (3, .int (0 : Int32)), (2, .int (0 : Int32)), (0, .ref (ad (gm κ) 97)), (1, .int a1)] dX12_keyOf_5 (by decide) rfl ?_
  refine j_loc [(0, .ref (ad (gm κ) 97)), (1, .int a1), (2, .int (0 : Int32)), (3, .int (0 : Int32)), (4, .int (0 : Int32))] [3, 4, 2, 1, 0] rfl ?_
  refine t_X12_keyOf_b7 a1 w (fun e6 h => ?_) (fun e7 h => ?_) (fun e8 h => ?_) ((0 : Int32), (0 : Int32), (0 : Int32)) (ok_bb h)
  · refine j_iconst (-1 : Int32) dX12_keyOf_60 ki_m1 ?_
    have h := ok_s h
    exact j_iret dX12_keyOf_61 rfl rfl h
  · refine j_iconst (-1 : Int32) dX12_keyOf_76 ki_m1 ?_
    have h := ok_s h
    exact j_iret dX12_keyOf_77 rfl rfl h
  · refine j_sipush (1000 : Int32) dX12_keyOf_96 ks_1000 ?_
    refine j_iload_n 0 dX12_keyOf_99 rfl rfl ?_
    refine j_imul dX12_keyOf_100 ?_
    refine j_iload_n 1 dX12_keyOf_101 rfl rfl ?_
    refine j_iadd dX12_keyOf_102 ?_
    have h := ok_s h
    exact j_iret dX12_keyOf_103 rfl rfl h
theorem c_X12_keyOf (l : Launch) (γ : Gm) (A : Nat → Prop) (a1 : Int32) (w : Wd) (q : Int32) (e : X12_keyOf  a1 w = some q) : MetG l γ A yX12_keyOf cX12_keyOf 7 (some .int) (rmk 1 23) [.ref (ad (γ) 97), .int a1] w (some (.int q)) w := by
  refine met_of pn_RX12 (Nat.le_of_ble_eq_true rfl) ?_
  intro κ hl hγ hA hρ
  subst hl; subst hγ; subst hA
  exact t_X12_keyOf   a1 w ⟨q, e, pI hρ rfl rfl⟩
theorem dX12_isLesser_0 : decode cX12_isLesser 0 = .ok (.iconst 0, 1) := by decide +kernel
theorem dX12_isLesser_1 : decode cX12_isLesser 1 = .ok (.istore_n 2, 1) := by decide +kernel
theorem dX12_isLesser_2 : decode cX12_isLesser 2 = .ok (.iload_n 2, 1) := by decide +kernel
theorem dX12_isLesser_3 : decode cX12_isLesser 3 = .ok (.iload_n 1, 1) := by decide +kernel
theorem dX12_isLesser_4 : decode cX12_isLesser 4 = .ok (.if_icmp .ge 55, 3) := by decide +kernel
theorem dX12_isLesser_7 : decode cX12_isLesser 7 = .ok (.aload_n 0, 1) := by decide +kernel
theorem dX12_isLesser_8 : decode cX12_isLesser 8 = .ok (.getfield 256, 3) := by decide +kernel
theorem dX12_isLesser_11 : decode cX12_isLesser 11 = .ok (.aload_n 0, 1) := by decide +kernel
theorem dX12_isLesser_12 : decode cX12_isLesser 12 = .ok (.getfield 265, 3) := by decide +kernel
theorem dX12_isLesser_15 : decode cX12_isLesser 15 = .ok (.iload_n 2, 1) := by decide +kernel
theorem dX12_isLesser_16 : decode cX12_isLesser 16 = .ok (.iaload, 1) := by decide +kernel
theorem dX12_isLesser_17 : decode cX12_isLesser 17 = .ok (.iaload, 1) := by decide +kernel
theorem dX12_isLesser_18 : decode cX12_isLesser 18 = .ok (.aload_n 0, 1) := by decide +kernel
theorem dX12_isLesser_19 : decode cX12_isLesser 19 = .ok (.getfield 271, 3) := by decide +kernel
theorem dX12_isLesser_22 : decode cX12_isLesser 22 = .ok (.iload_n 2, 1) := by decide +kernel
theorem dX12_isLesser_23 : decode cX12_isLesser 23 = .ok (.iaload, 1) := by decide +kernel
theorem dX12_isLesser_24 : decode cX12_isLesser 24 = .ok (.if_icmp .eq 29, 3) := by decide +kernel
theorem dX12_isLesser_27 : decode cX12_isLesser 27 = .ok (.aload_n 0, 1) := by decide +kernel
theorem dX12_isLesser_28 : decode cX12_isLesser 28 = .ok (.getfield 256, 3) := by decide +kernel
theorem dX12_isLesser_31 : decode cX12_isLesser 31 = .ok (.aload_n 0, 1) := by decide +kernel
theorem dX12_isLesser_32 : decode cX12_isLesser 32 = .ok (.getfield 265, 3) := by decide +kernel
theorem dX12_isLesser_35 : decode cX12_isLesser 35 = .ok (.iload_n 2, 1) := by decide +kernel
theorem dX12_isLesser_36 : decode cX12_isLesser 36 = .ok (.iaload, 1) := by decide +kernel
theorem dX12_isLesser_37 : decode cX12_isLesser 37 = .ok (.iaload, 1) := by decide +kernel
theorem dX12_isLesser_38 : decode cX12_isLesser 38 = .ok (.aload_n 0, 1) := by decide +kernel
theorem dX12_isLesser_39 : decode cX12_isLesser 39 = .ok (.getfield 271, 3) := by decide +kernel
theorem dX12_isLesser_42 : decode cX12_isLesser 42 = .ok (.iload_n 2, 1) := by decide +kernel
theorem dX12_isLesser_43 : decode cX12_isLesser 43 = .ok (.iaload, 1) := by decide +kernel
theorem dX12_isLesser_44 : decode cX12_isLesser 44 = .ok (.if_icmp .ge 7, 3) := by decide +kernel
theorem dX12_isLesser_47 : decode cX12_isLesser 47 = .ok (.iconst 1, 1) := by decide +kernel
theorem dX12_isLesser_48 : decode cX12_isLesser 48 = .ok (.goto 4, 3) := by decide +kernel
theorem dX12_isLesser_51 : decode cX12_isLesser 51 = .ok (.iconst 0, 1) := by decide +kernel
theorem dX12_isLesser_52 : decode cX12_isLesser 52 = .ok (.ireturn, 1) := by decide +kernel
theorem dX12_isLesser_53 : decode cX12_isLesser 53 = .ok (.iinc 2 1, 3) := by decide +kernel
theorem dX12_isLesser_56 : decode cX12_isLesser 56 = .ok (.goto (-54), 3) := by decide +kernel
theorem dX12_isLesser_59 : decode cX12_isLesser 59 = .ok (.iconst 0, 1) := by decide +kernel
theorem dX12_isLesser_60 : decode cX12_isLesser 60 = .ok (.ireturn, 1) := by decide +kernel
noncomputable def X12_isLesser_b2 (a1 : Int32) (w : Wd) (s : Int32) : Option (Int32 ⊕ (Int32 ⊕ Unit)) :=
(if a1 ≤ s then
some (.inr (.inr ()))
else
gd (vp_in s 7) <|
gd (vp_in (w.1 174 (ix s)) 7) <|
gd (vp_in s 7) <|
(if (w.1 171 (ix (w.1 174 (ix s)))) = (w.1 176 (ix s)) then
some (.inl (s + (1 : Int32)))
else
some (.inr (.inl s))))
set_option maxRecDepth 20000 in
set_option maxHeartbeats 1000000 in
theorem t_X12_isLesser_b2 {κ : Kx} (a1 : Int32) (w : Wd) {P : (Int32 ⊕ Unit) → Prop} (K0 : ∀ e, P (.inl e) → J κ RX12 cX12_isLesser 3 (some .boolean) (rmk 0 0) 27 [(0, .ref (ad (gm κ) 97)), (2, .int e)] [] w) (K1 : ∀ e, P (.inr e) → J κ RX12 cX12_isLesser 3 (some .boolean) (rmk 0 0) 59 [] [] w) (s : Int32) (h : ok (lp (X12_isLesser_b2  a1 w) s) P) : J κ RX12 cX12_isLesser 3 (some .boolean) (rmk 0 0) 2 [(0, .ref (ad (gm κ) 97)), (1, .int a1), (2, .int s)] [] w := by
  refine lp_ind (fun s => J κ RX12 cX12_isLesser 3 (some .boolean) (rmk 0 0) 2 [(0, .ref (ad (gm κ) 97)), (1, .int a1), (2, .int s)] [] w) (fun s h => ?_) s h
  unfold X12_isLesser_b2 at h
  refine j_iload_n 2 dX12_isLesser_2 rfl rfl ?_
  refine j_iload_n 1 dX12_isLesser_3 rfl rfl ?_
  refine j_ic_ge 59 dX12_isLesser_4 (by decide) h (fun h => ?_) (fun h => ?_)
  · refine j_loc [] [] rfl ?_
    have h := sel_r h
    have h := K1 _ h
    exact h
  · refine j_aload_n 0 dX12_isLesser_7 rfl rfl ?_
    refine j_getA 171 fl_RX12_256 sh_97 fk_97_100 (by decide) dX12_isLesser_8 ?_
    refine j_aload_n 0 dX12_isLesser_11 rfl rfl ?_
    refine j_getA 174 fl_RX12_265 sh_97 fk_97_103 (by decide) dX12_isLesser_12 ?_
    refine j_iload_n 2 dX12_isLesser_15 rfl rfl ?_
    refine j_iald sh_174 dX12_isLesser_16 h (fun h => ?_)
    refine j_iald sh_171 dX12_isLesser_17 h (fun h => ?_)
    refine j_aload_n 0 dX12_isLesser_18 rfl rfl ?_
    refine j_getA 176 fl_RX12_271 sh_97 fk_97_106 (by decide) dX12_isLesser_19 ?_
    refine j_iload_n 2 dX12_isLesser_22 rfl rfl ?_
    refine j_iald sh_176 dX12_isLesser_23 h (fun h => ?_)
    refine j_ic_eq 53 dX12_isLesser_24 (by decide) h (fun h => ?_) (fun h => ?_)
    · refine j_iinc (s + (1 : Int32)) 2 [(2, .int (s + (1 : Int32))), (0, .ref (ad (gm κ) 97)), (1, .int a1)] dX12_isLesser_53 rfl (by rw [kn_1]) (by decide) rfl ?_
      refine j_goto 2 dX12_isLesser_56 (by decide) ?_
      refine j_loc [(0, .ref (ad (gm κ) 97)), (1, .int a1), (2, .int (s + (1 : Int32)))] [1, 2, 0] rfl ?_
      have h := sel_l h
      exact h
    · refine j_loc [(0, .ref (ad (gm κ) 97)), (2, .int s)] [0, 2] rfl ?_
      have h := sel_r h
      have h := K0 _ h
      exact h
noncomputable def X12_isLesser (a1 : Int32) (w : Wd) : Option (Int32) :=
(lp (X12_isLesser_b2 a1 w) (0 : Int32)).bind fun e1 => match e1 with
| (.inl e2) => (gd (vp_in e2 7) <|
gd (vp_in (w.1 174 (ix e2)) 7) <|
gd (vp_in e2 7) <|
(if (w.1 176 (ix e2)) ≤ (w.1 171 (ix (w.1 174 (ix e2)))) then
some (0 : Int32)
else
some (1 : Int32)))
| (.inr e3) => (some (0 : Int32))
set_option maxRecDepth 20000 in
set_option maxHeartbeats 1000000 in
theorem t_X12_isLesser {κ : Kx} (a1 : Int32) (w : Wd) (h : ok (X12_isLesser  a1 w) (PI κ w)) : J κ RX12 cX12_isLesser 3 (some .boolean) (rmk 0 0) 0 [(0, .ref (ad (gm κ) 97)), (1, .int a1)] [] w := by
  unfold X12_isLesser at h
  refine j_iconst (0 : Int32) dX12_isLesser_0 ki_0 ?_
  refine j_istore_n [(2, .int (0 : Int32)), (0, .ref (ad (gm κ) 97)), (1, .int a1)] dX12_isLesser_1 rfl (by decide) rfl ?_
  refine j_loc [(0, .ref (ad (gm κ) 97)), (1, .int a1), (2, .int (0 : Int32))] [1, 2, 0] rfl ?_
  refine t_X12_isLesser_b2 a1 w (fun e2 h => ?_) (fun e3 h => ?_) (0 : Int32) (ok_bb h)
  · refine j_aload_n 0 dX12_isLesser_27 rfl rfl ?_
    refine j_getA 171 fl_RX12_256 sh_97 fk_97_100 (by decide) dX12_isLesser_28 ?_
    refine j_aload_n 0 dX12_isLesser_31 rfl rfl ?_
    refine j_getA 174 fl_RX12_265 sh_97 fk_97_103 (by decide) dX12_isLesser_32 ?_
    refine j_iload_n 1 dX12_isLesser_35 rfl rfl ?_
    refine j_iald sh_174 dX12_isLesser_36 h (fun h => ?_)
    refine j_iald sh_171 dX12_isLesser_37 h (fun h => ?_)
    refine j_aload_n 0 dX12_isLesser_38 rfl rfl ?_
    refine j_getA 176 fl_RX12_271 sh_97 fk_97_106 (by decide) dX12_isLesser_39 ?_
    refine j_iload_n 1 dX12_isLesser_42 rfl rfl ?_
    refine j_iald sh_176 dX12_isLesser_43 h (fun h => ?_)
    refine j_ic_ge 51 dX12_isLesser_44 (by decide) h (fun h => ?_) (fun h => ?_)
    · refine j_iconst (0 : Int32) dX12_isLesser_51 ki_0 ?_
      have h := ok_s h
      exact j_iret dX12_isLesser_52 rfl (by decide) h
    · refine j_iconst (1 : Int32) dX12_isLesser_47 ki_1 ?_
      refine j_goto 52 dX12_isLesser_48 (by decide) ?_
      have h := ok_s h
      exact j_iret dX12_isLesser_52 rfl (by decide) h
  · refine j_iconst (0 : Int32) dX12_isLesser_59 ki_0 ?_
    have h := ok_s h
    exact j_iret dX12_isLesser_60 rfl (by decide) h
theorem c_X12_isLesser (l : Launch) (γ : Gm) (A : Nat → Prop) (a1 : Int32) (w : Wd) (q : Int32) (e : X12_isLesser  a1 w = some q) : MetG l γ A yX12_isLesser cX12_isLesser 3 (some .boolean) (rmk 0 0) [.ref (ad (γ) 97), .int a1] w (some (.int q)) w := by
  refine met_of pn_RX12 (Nat.le_of_ble_eq_true rfl) ?_
  intro κ hl hγ hA hρ
  subst hl; subst hγ; subst hA
  exact t_X12_isLesser   a1 w ⟨q, e, pI hρ rfl rfl⟩
