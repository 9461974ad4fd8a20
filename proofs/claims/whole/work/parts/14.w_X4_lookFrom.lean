theorem dX4_lookFrom_0 : decode cX4_lookFrom 0 = .ok (.iload_n 1, 1) := by decide +kernel
theorem dX4_lookFrom_1 : decode cX4_lookFrom 1 = .ok (.aload_n 0, 1) := by decide +kernel
theorem dX4_lookFrom_2 : decode cX4_lookFrom 2 = .ok (.getfield 30, 3) := by decide +kernel
theorem dX4_lookFrom_5 : decode cX4_lookFrom 5 = .ok (.invokestatic 52, 3) := by decide +kernel
theorem dX4_lookFrom_8 : decode cX4_lookFrom 8 = .ok (.istore_n 2, 1) := by decide +kernel
theorem dX4_lookFrom_9 : decode cX4_lookFrom 9 = .ok (.iload_n 1, 1) := by decide +kernel
theorem dX4_lookFrom_10 : decode cX4_lookFrom 10 = .ok (.aload_n 0, 1) := by decide +kernel
theorem dX4_lookFrom_11 : decode cX4_lookFrom 11 = .ok (.getfield 30, 3) := by decide +kernel
theorem dX4_lookFrom_14 : decode cX4_lookFrom 14 = .ok (.invokestatic 58, 3) := by decide +kernel
theorem dX4_lookFrom_17 : decode cX4_lookFrom 17 = .ok (.istore_n 3, 1) := by decide +kernel
theorem dX4_lookFrom_18 : decode cX4_lookFrom 18 = .ok (.bipush 60, 2) := by decide +kernel
theorem dX4_lookFrom_20 : decode cX4_lookFrom 20 = .ok (.istore 4, 2) := by decide +kernel
theorem dX4_lookFrom_22 : decode cX4_lookFrom 22 = .ok (.iconst 0, 1) := by decide +kernel
theorem dX4_lookFrom_23 : decode cX4_lookFrom 23 = .ok (.istore 5, 2) := by decide +kernel
theorem dX4_lookFrom_25 : decode cX4_lookFrom 25 = .ok (.iload 5, 2) := by decide +kernel
theorem dX4_lookFrom_27 : decode cX4_lookFrom 27 = .ok (.aload_n 0, 1) := by decide +kernel
theorem dX4_lookFrom_28 : decode cX4_lookFrom 28 = .ok (.getfield 49, 3) := by decide +kernel
theorem dX4_lookFrom_31 : decode cX4_lookFrom 31 = .ok (.if_icmp .ge 45, 3) := by decide +kernel
theorem dX4_lookFrom_34 : decode cX4_lookFrom 34 = .ok (.aload_n 0, 1) := by decide +kernel
theorem dX4_lookFrom_35 : decode cX4_lookFrom 35 = .ok (.getfield 27, 3) := by decide +kernel
theorem dX4_lookFrom_38 : decode cX4_lookFrom 38 = .ok (.iload 5, 2) := by decide +kernel
theorem dX4_lookFrom_40 : decode cX4_lookFrom 40 = .ok (.iaload, 1) := by decide +kernel
theorem dX4_lookFrom_41 : decode cX4_lookFrom 41 = .ok (.iload_n 2, 1) := by decide +kernel
theorem dX4_lookFrom_42 : decode cX4_lookFrom 42 = .ok (.if_icmp .le 28, 3) := by decide +kernel
theorem dX4_lookFrom_45 : decode cX4_lookFrom 45 = .ok (.aload_n 0, 1) := by decide +kernel
theorem dX4_lookFrom_46 : decode cX4_lookFrom 46 = .ok (.getfield 27, 3) := by decide +kernel
theorem dX4_lookFrom_49 : decode cX4_lookFrom 49 = .ok (.iload 5, 2) := by decide +kernel
theorem dX4_lookFrom_51 : decode cX4_lookFrom 51 = .ok (.iaload, 1) := by decide +kernel
theorem dX4_lookFrom_52 : decode cX4_lookFrom 52 = .ok (.iload_n 3, 1) := by decide +kernel
theorem dX4_lookFrom_53 : decode cX4_lookFrom 53 = .ok (.if_icmp .gt 17, 3) := by decide +kernel
theorem dX4_lookFrom_56 : decode cX4_lookFrom 56 = .ok (.iload 4, 2) := by decide +kernel
theorem dX4_lookFrom_58 : decode cX4_lookFrom 58 = .ok (.aload_n 0, 1) := by decide +kernel
theorem dX4_lookFrom_59 : decode cX4_lookFrom 59 = .ok (.getfield 21, 3) := by decide +kernel
theorem dX4_lookFrom_62 : decode cX4_lookFrom 62 = .ok (.iload 5, 2) := by decide +kernel
theorem dX4_lookFrom_64 : decode cX4_lookFrom 64 = .ok (.iaload, 1) := by decide +kernel
theorem dX4_lookFrom_65 : decode cX4_lookFrom 65 = .ok (.invokestatic 52, 3) := by decide +kernel
theorem dX4_lookFrom_68 : decode cX4_lookFrom 68 = .ok (.istore 4, 2) := by decide +kernel
theorem dX4_lookFrom_70 : decode cX4_lookFrom 70 = .ok (.iinc 5 1, 3) := by decide +kernel
theorem dX4_lookFrom_73 : decode cX4_lookFrom 73 = .ok (.goto (-48), 3) := by decide +kernel
theorem dX4_lookFrom_76 : decode cX4_lookFrom 76 = .ok (.aload_n 0, 1) := by decide +kernel
theorem dX4_lookFrom_77 : decode cX4_lookFrom 77 = .ok (.iload_n 1, 1) := by decide +kernel
theorem dX4_lookFrom_78 : decode cX4_lookFrom 78 = .ok (.putfield 30, 3) := by decide +kernel
theorem dX4_lookFrom_81 : decode cX4_lookFrom 81 = .ok (.aload_n 0, 1) := by decide +kernel
theorem dX4_lookFrom_82 : decode cX4_lookFrom 82 = .ok (.iconst (-1), 1) := by decide +kernel
theorem dX4_lookFrom_83 : decode cX4_lookFrom 83 = .ok (.putfield 34, 3) := by decide +kernel
theorem dX4_lookFrom_86 : decode cX4_lookFrom 86 = .ok (.iload 4, 2) := by decide +kernel
theorem dX4_lookFrom_88 : decode cX4_lookFrom 88 = .ok (.ireturn, 1) := by decide +kernel
noncomputable def X4_lookFrom_j70 (a1 : Int32) (a2 : Int32) (a3 : Int32) (a4 : Int32) (a5 : Int32) (w : Wd) : Option ((Int32 × Int32) ⊕ Int32) :=
some (.inl (a4, (a5 + (1 : Int32))))
set_option maxRecDepth 20000 in
set_option maxHeartbeats 1000000 in
theorem t_X4_lookFrom_j70 {κ : Kx} (a1 : Int32) (a2 : Int32) (a3 : Int32) (a4 : Int32) (a5 : Int32) (w : Wd) {G : (Int32 × Int32) → Prop} {P : Int32 → Prop} (KG : ∀ s, G s → J κ RX4 cX4_lookFrom 6 (some .int) (rmk 1 23) 25 [(0, .ref (ad (gm κ) 19)), (1, .int a1), (2, .int a2), (3, .int a3), (4, .int s.1), (5, .int s.2)] [] w) (K0 : ∀ e, P e → J κ RX4 cX4_lookFrom 6 (some .int) (rmk 1 23) 76 [(0, .ref (ad (gm κ) 19)), (1, .int a1), (4, .int e)] [] w) (h : ok (X4_lookFrom_j70  a1 a2 a3 a4 a5 w) (sel G P)) : J κ RX4 cX4_lookFrom 6 (some .int) (rmk 1 23) 70 [(0, .ref (ad (gm κ) 19)), (1, .int a1), (2, .int a2), (3, .int a3), (4, .int a4), (5, .int a5)] [] w := by
  unfold X4_lookFrom_j70 at h
  refine j_iinc (a5 + (1 : Int32)) 5 [(5, .int (a5 + (1 : Int32))), (0, .ref (ad (gm κ) 19)), (1, .int a1), (2, .int a2), (3, .int a3), (4, .int a4)] dX4_lookFrom_70 rfl (by rw [kn_1]) (by decide) rfl ?_
  refine j_goto 25 dX4_lookFrom_73 (by decide) ?_
  refine j_loc [(0, .ref (ad (gm κ) 19)), (1, .int a1), (2, .int a2), (3, .int a3), (4, .int a4), (5, .int (a5 + (1 : Int32)))] [1, 2, 3, 4, 5, 0] rfl ?_
  have h := sel_l h
  have h := KG _ h
  exact h
noncomputable def X4_lookFrom_b25 (a1 : Int32) (a2 : Int32) (a3 : Int32) (w : Wd) (s : (Int32 × Int32)) : Option ((Int32 × Int32) ⊕ Int32) :=
(if (w.1 19 0) ≤ s.2 then
some (.inr s.1)
else
gd (vp_in s.2 160) <|
(if (w.1 25 (ix s.2)) ≤ a2 then
X4_lookFrom_j70 a1 a2 a3 s.1 s.2 w
else
gd (vp_in s.2 160) <|
(if a3 < (w.1 25 (ix s.2)) then
X4_lookFrom_j70 a1 a2 a3 s.1 s.2 w
else
gd (vp_in s.2 160) <|
(some (mnI s.1 (w.1 23 (ix s.2)))).bind fun z1 =>
X4_lookFrom_j70 a1 a2 a3 z1 s.2 w)))
set_option maxRecDepth 20000 in
set_option maxHeartbeats 1000000 in
theorem t_X4_lookFrom_b25 {κ : Kx} (a1 : Int32) (a2 : Int32) (a3 : Int32) (w : Wd) {P : Int32 → Prop} (K0 : ∀ e, P e → J κ RX4 cX4_lookFrom 6 (some .int) (rmk 1 23) 76 [(0, .ref (ad (gm κ) 19)), (1, .int a1), (4, .int e)] [] w) (s : (Int32 × Int32)) (h : ok (lp (X4_lookFrom_b25  a1 a2 a3 w) s) P) : J κ RX4 cX4_lookFrom 6 (some .int) (rmk 1 23) 25 [(0, .ref (ad (gm κ) 19)), (1, .int a1), (2, .int a2), (3, .int a3), (4, .int s.1), (5, .int s.2)] [] w := by
  refine lp_ind (fun s => J κ RX4 cX4_lookFrom 6 (some .int) (rmk 1 23) 25 [(0, .ref (ad (gm κ) 19)), (1, .int a1), (2, .int a2), (3, .int a3), (4, .int s.1), (5, .int s.2)] [] w) (fun s h => ?_) s h
  unfold X4_lookFrom_b25 at h
  refine j_iload 5 dX4_lookFrom_25 rfl ?_
  refine j_aload_n 0 dX4_lookFrom_27 rfl rfl ?_
  refine j_getI fl_RX4_49 sh_19 fk_19_0 dX4_lookFrom_28 ?_
  refine j_ic_ge 76 dX4_lookFrom_31 (by decide) h (fun h => ?_) (fun h => ?_)
  · refine j_loc [(0, .ref (ad (gm κ) 19)), (1, .int a1), (4, .int s.1)] [0, 1, 4] rfl ?_
    have h := sel_r h
    have h := K0 _ h
    exact h
  · refine j_aload_n 0 dX4_lookFrom_34 rfl rfl ?_
    refine j_getA 25 fl_RX4_27 sh_19 fk_19_6 (by decide) dX4_lookFrom_35 ?_
    refine j_iload 5 dX4_lookFrom_38 rfl ?_
    refine j_iald sh_25 dX4_lookFrom_40 h (fun h => ?_)
    refine j_iload_n 2 dX4_lookFrom_41 rfl rfl ?_
    refine j_ic_le 70 dX4_lookFrom_42 (by decide) h (fun h => ?_) (fun h => ?_)
    · refine j_loc [(0, .ref (ad (gm κ) 19)), (1, .int a1), (2, .int a2), (3, .int a3), (4, .int s.1), (5, .int s.2)] [0, 1, 2, 3, 4, 5] rfl ?_
      exact t_X4_lookFrom_j70 a1 a2 a3 s.1 s.2 w (fun _ h => h) K0 h
    · refine j_aload_n 0 dX4_lookFrom_45 rfl rfl ?_
      refine j_getA 25 fl_RX4_27 sh_19 fk_19_6 (by decide) dX4_lookFrom_46 ?_
      refine j_iload 5 dX4_lookFrom_49 rfl ?_
      refine j_iald sh_25 dX4_lookFrom_51 h (fun h => ?_)
      refine j_iload_n 3 dX4_lookFrom_52 rfl rfl ?_
      refine j_ic_gt 70 dX4_lookFrom_53 (by decide) h (fun h => ?_) (fun h => ?_)
      · refine j_loc [(0, .ref (ad (gm κ) 19)), (1, .int a1), (2, .int a2), (3, .int a3), (4, .int s.1), (5, .int s.2)] [0, 1, 2, 3, 4, 5] rfl ?_
        exact t_X4_lookFrom_j70 a1 a2 a3 s.1 s.2 w (fun _ h => h) K0 h
      · refine j_iload 4 dX4_lookFrom_56 rfl ?_
        refine j_aload_n 0 dX4_lookFrom_58 rfl rfl ?_
        refine j_getA 23 fl_RX4_21 sh_19 fk_19_4 (by decide) dX4_lookFrom_59 ?_
        refine j_iload 5 dX4_lookFrom_62 rfl ?_
        refine j_iald sh_23 dX4_lookFrom_64 h (fun h => ?_)
        refine j_mnI mt_RX4_52 (by decide) (Nat.le_of_ble_eq_true rfl) dX4_lookFrom_65 ?_
        refine j_lI h (fun z1 h => ?_)
        refine j_istore [(4, .int z1), (0, .ref (ad (gm κ) 19)), (1, .int a1), (2, .int a2), (3, .int a3), (5, .int s.2)] dX4_lookFrom_68 (by decide) rfl ?_
        refine j_loc [(0, .ref (ad (gm κ) 19)), (1, .int a1), (2, .int a2), (3, .int a3), (4, .int z1), (5, .int s.2)] [1, 2, 3, 4, 0, 5] rfl ?_
        exact t_X4_lookFrom_j70 a1 a2 a3 z1 s.2 w (fun _ h => h) K0 h
noncomputable def X4_lookFrom (a1 : Int32) (w : Wd) : Option (Int32 × Wd) :=
(lp (X4_lookFrom_b25 a1 (mnI a1 (w.1 19 7)) (mxI a1 (w.1 19 7)) w) ((60 : Int32), (0 : Int32))).bind fun e2 =>
(some (puI w 19 7 a1)).bind fun w3 =>
(some (puI w3 19 8 (-1 : Int32))).bind fun w4 =>
some (e2, w4)
set_option maxRecDepth 20000 in
set_option maxHeartbeats 1000000 in
theorem t_X4_lookFrom {κ : Kx} (a1 : Int32) (w : Wd) (h : ok (X4_lookFrom  a1 w) (PIw κ)) : J κ RX4 cX4_lookFrom 6 (some .int) (rmk 1 23) 0 [(0, .ref (ad (gm κ) 19)), (1, .int a1)] [] w := by
  unfold X4_lookFrom at h
  refine j_iload_n 1 dX4_lookFrom_0 rfl rfl ?_
  refine j_aload_n 0 dX4_lookFrom_1 rfl rfl ?_
  refine j_getI fl_RX4_30 sh_19 fk_19_7 dX4_lookFrom_2 ?_
  refine j_mnI mt_RX4_52 (by decide) (Nat.le_of_ble_eq_true rfl) dX4_lookFrom_5 ?_
  refine j_istore_n [(2, .int (mnI a1 (w.1 19 7))), (0, .ref (ad (gm κ) 19)), (1, .int a1)] dX4_lookFrom_8 rfl (by decide) rfl ?_
  refine j_iload_n 2 dX4_lookFrom_9 rfl rfl ?_
  refine j_aload_n 1 dX4_lookFrom_10 rfl rfl ?_
  refine j_getI fl_RX4_30 sh_19 fk_19_7 dX4_lookFrom_11 ?_
  refine j_mxI mt_RX4_58 (by decide) (Nat.le_of_ble_eq_true rfl) dX4_lookFrom_14 ?_
  refine j_istore_n [(3, .int (mxI a1 (w.1 19 7))), (2, .int (mnI a1 (w.1 19 7))), (0, .ref (ad (gm κ) 19)), (1, .int a1)] dX4_lookFrom_17 rfl (by decide) rfl ?_
  refine j_bipush (60 : Int32) dX4_lookFrom_18 kb_60 ?_
  refine j_istore [(4, .int (60 : Int32)), (3, .int (mxI a1 (w.1 19 7))), (2, .int (mnI a1 (w.1 19 7))), (0, .ref (ad (gm κ) 19)), (1, .int a1)] dX4_lookFrom_20 (by decide) rfl ?_
  refine j_iconst (0 : Int32) dX4_lookFrom_22 ki_0 ?_
  refine j_istore [(5, .int (0 : Int32)), (4, .int (60 : Int32)), (3, .int (mxI a1 (w.1 19 7))), (2, .int (mnI a1 (w.1 19 7))), (0, .ref (ad (gm κ) 19)), (1, .int a1)] dX4_lookFrom_23 (by decide) rfl ?_
  refine j_loc [(0, .ref (ad (gm κ) 19)), (1, .int a1), (2, .int (mnI a1 (w.1 19 7))), (3, .int (mxI a1 (w.1 19 7))), (4, .int (60 : Int32)), (5, .int (0 : Int32))] [4, 5, 3, 2, 1, 0] rfl ?_
  refine t_X4_lookFrom_b25 a1 (mnI a1 (w.1 19 7)) (mxI a1 (w.1 19 7)) w (fun e2 h => ?_) ((60 : Int32), (0 : Int32)) (ok_bb h)
  · refine j_aload_n 0 dX4_lookFrom_76 rfl rfl ?_
    refine j_iload_n 1 dX4_lookFrom_77 rfl rfl ?_
    refine j_putI fp_RX4_30 sh_19 fk_19_7 dX4_lookFrom_78 ?_
    refine j_lW h (fun w3 h => ?_)
    refine j_aload_n 0 dX4_lookFrom_81 rfl rfl ?_
    refine j_iconst (-1 : Int32) dX4_lookFrom_82 ki_m1 ?_
    refine j_putI fp_RX4_34 sh_19 fk_19_8 dX4_lookFrom_83 ?_
    refine j_lW h (fun w4 h => ?_)
    refine j_iload 2 dX4_lookFrom_86 rfl ?_
    have h := ok_s h
    exact j_iret dX4_lookFrom_88 rfl rfl h
theorem c_X4_lookFrom (l : Launch) (γ : Gm) (A : Nat → Prop) (a1 : Int32) (w : Wd) (q : Int32 × Wd) (e : X4_lookFrom  a1 w = some q) : MetG l γ A yX4_lookFrom cX4_lookFrom 6 (some .int) (rmk 1 23) [.ref (ad (γ) 19), .int a1] w (some (.int q.1)) q.2 := by
  refine met_of pn_RX4 (Nat.le_of_ble_eq_true rfl) ?_
  intro κ hl hγ hA hρ
  subst hl; subst hγ; subst hA
  exact t_X4_lookFrom   a1 w ⟨q, e, pIw hρ rfl rfl⟩
theorem dX4_tellsOf_0 : decode cX4_tellsOf 0 = .ok (.aload_n 0, 1) := by decide +kernel
theorem dX4_tellsOf_1 : decode cX4_tellsOf 1 = .ok (.getfield 21, 3) := by decide +kernel
theorem dX4_tellsOf_4 : decode cX4_tellsOf 4 = .ok (.iload_n 1, 1) := by decide +kernel
theorem dX4_tellsOf_5 : decode cX4_tellsOf 5 = .ok (.iaload, 1) := by decide +kernel
theorem dX4_tellsOf_6 : decode cX4_tellsOf 6 = .ok (.iload_n 2, 1) := by decide +kernel
theorem dX4_tellsOf_7 : decode cX4_tellsOf 7 = .ok (.if_icmp .gt 30, 3) := by decide +kernel
theorem dX4_tellsOf_10 : decode cX4_tellsOf 10 = .ok (.iload_n 2, 1) := by decide +kernel
theorem dX4_tellsOf_11 : decode cX4_tellsOf 11 = .ok (.aload_n 0, 1) := by decide +kernel
theorem dX4_tellsOf_12 : decode cX4_tellsOf 12 = .ok (.getfield 24, 3) := by decide +kernel
theorem dX4_tellsOf_15 : decode cX4_tellsOf 15 = .ok (.iload_n 1, 1) := by decide +kernel
theorem dX4_tellsOf_16 : decode cX4_tellsOf 16 = .ok (.iaload, 1) := by decide +kernel
theorem dX4_tellsOf_17 : decode cX4_tellsOf 17 = .ok (.if_icmp .gt 20, 3) := by decide +kernel
theorem dX4_tellsOf_20 : decode cX4_tellsOf 20 = .ok (.aload_n 0, 1) := by decide +kernel
theorem dX4_tellsOf_21 : decode cX4_tellsOf 21 = .ok (.getfield 27, 3) := by decide +kernel
theorem dX4_tellsOf_24 : decode cX4_tellsOf 24 = .ok (.iload_n 1, 1) := by decide +kernel
theorem dX4_tellsOf_25 : decode cX4_tellsOf 25 = .ok (.iaload, 1) := by decide +kernel
theorem dX4_tellsOf_26 : decode cX4_tellsOf 26 = .ok (.aload_n 0, 1) := by decide +kernel
theorem dX4_tellsOf_27 : decode cX4_tellsOf 27 = .ok (.getfield 30, 3) := by decide +kernel
theorem dX4_tellsOf_30 : decode cX4_tellsOf 30 = .ok (.if_icmp .gt 7, 3) := by decide +kernel
theorem dX4_tellsOf_33 : decode cX4_tellsOf 33 = .ok (.iconst 1, 1) := by decide +kernel
theorem dX4_tellsOf_34 : decode cX4_tellsOf 34 = .ok (.goto 4, 3) := by decide +kernel
theorem dX4_tellsOf_37 : decode cX4_tellsOf 37 = .ok (.iconst 0, 1) := by decide +kernel
theorem dX4_tellsOf_38 : decode cX4_tellsOf 38 = .ok (.ireturn, 1) := by decide +kernel
noncomputable def X4_tellsOf (a1 : Int32) (a2 : Int32) (w : Wd) : Option (Int32) :=
gd (vp_in a1 160) <|
(if a2 < (w.1 23 (ix a1)) then
some (0 : Int32)
else
gd (vp_in a1 160) <|
(if (w.1 24 (ix a1)) < a2 then
some (0 : Int32)
else
gd (vp_in a1 160) <|
(if (w.1 19 7) < (w.1 25 (ix a1)) then
some (0 : Int32)
else
some (1 : Int32))))
set_option maxRecDepth 20000 in
set_option maxHeartbeats 1000000 in
theorem t_X4_tellsOf {κ : Kx} (a1 : Int32) (a2 : Int32) (w : Wd) (h : ok (X4_tellsOf  a1 a2 w) (PI κ w)) : J κ RX4 cX4_tellsOf 3 (some .boolean) (rmk 0 0) 0 [(0, .ref (ad (gm κ) 19)), (1, .int a1), (2, .int a2)] [] w := by
  unfold X4_tellsOf at h
  refine j_aload_n 0 dX4_tellsOf_0 rfl rfl ?_
  refine j_getA 23 fl_RX4_21 sh_19 fk_19_4 (by decide) dX4_tellsOf_1 ?_
  refine j_iload_n 1 dX4_tellsOf_4 rfl rfl ?_
  refine j_iald sh_23 dX4_tellsOf_5 h (fun h => ?_)
  refine j_iload_n 2 dX4_tellsOf_6 rfl rfl ?_
  refine j_ic_gt 37 dX4_tellsOf_7 (by decide) h (fun h => ?_) (fun h => ?_)
  · refine j_iconst (0 : Int32) dX4_tellsOf_37 ki_0 ?_
    have h := ok_s h
    exact j_iret dX4_tellsOf_38 rfl (by decide) h
  · refine j_iload_n 2 dX4_tellsOf_10 rfl rfl ?_
    refine j_aload_n 0 dX4_tellsOf_11 rfl rfl ?_
    refine j_getA 24 fl_RX4_24 sh_19 fk_19_5 (by decide) dX4_tellsOf_12 ?_
    refine j_iload_n 1 dX4_tellsOf_15 rfl rfl ?_
    refine j_iald sh_24 dX4_tellsOf_16 h (fun h => ?_)
    refine j_ic_gt 37 dX4_tellsOf_17 (by decide) h (fun h => ?_) (fun h => ?_)
    · refine j_iconst (0 : Int32) dX4_tellsOf_37 ki_0 ?_
      have h := ok_s h
      exact j_iret dX4_tellsOf_38 rfl (by decide) h
    · refine j_aload_n 0 dX4_tellsOf_20 rfl rfl ?_
      refine j_getA 25 fl_RX4_27 sh_19 fk_19_6 (by decide) dX4_tellsOf_21 ?_
      refine j_iload_n 1 dX4_tellsOf_24 rfl rfl ?_
      refine j_iald sh_25 dX4_tellsOf_25 h (fun h => ?_)
      refine j_aload_n 0 dX4_tellsOf_26 rfl rfl ?_
      refine j_getI fl_RX4_30 sh_19 fk_19_7 dX4_tellsOf_27 ?_
      refine j_ic_gt 37 dX4_tellsOf_30 (by decide) h (fun h => ?_) (fun h => ?_)
      · refine j_iconst (0 : Int32) dX4_tellsOf_37 ki_0 ?_
        have h := ok_s h
        exact j_iret dX4_tellsOf_38 rfl (by decide) h
      · refine j_iconst (1 : Int32) dX4_tellsOf_33 ki_1 ?_
        refine j_goto 38 dX4_tellsOf_34 (by decide) ?_
        have h := ok_s h
        exact j_iret dX4_tellsOf_38 rfl (by decide) h
theorem c_X4_tellsOf (l : Launch) (γ : Gm) (A : Nat → Prop) (a1 : Int32) (a2 : Int32) (w : Wd) (q : Int32) (e : X4_tellsOf  a1 a2 w = some q) : MetG l γ A yX4_tellsOf cX4_tellsOf 3 (some .boolean) (rmk 0 0) [.ref (ad (γ) 19), .int a1, .int a2] w (some (.int q)) w := by
  refine met_of pn_RX4 (Nat.le_of_ble_eq_true rfl) ?_
  intro κ hl hγ hA hρ
  subst hl; subst hγ; subst hA
  exact t_X4_tellsOf   a1 a2 w ⟨q, e, pI hρ rfl rfl⟩
theorem dX4_gatherAtLamps_0 : decode cX4_gatherAtLamps 0 = .ok (.aload_n 0, 1) := by decide +kernel
theorem dX4_gatherAtLamps_1 : decode cX4_gatherAtLamps 1 = .ok (.getfield 43, 3) := by decide +kernel
theorem dX4_gatherAtLamps_4 : decode cX4_gatherAtLamps 4 = .ok (.iconst (-1), 1) := by decide +kernel
theorem dX4_gatherAtLamps_5 : decode cX4_gatherAtLamps 5 = .ok (.invokestatic 61, 3) := by decide +kernel
theorem dX4_gatherAtLamps_8 : decode cX4_gatherAtLamps 8 = .ok (.aload_n 0, 1) := by decide +kernel
theorem dX4_gatherAtLamps_9 : decode cX4_gatherAtLamps 9 = .ok (.getfield 46, 3) := by decide +kernel
theorem dX4_gatherAtLamps_12 : decode cX4_gatherAtLamps 12 = .ok (.iconst 0, 1) := by decide +kernel
theorem dX4_gatherAtLamps_13 : decode cX4_gatherAtLamps 13 = .ok (.invokestatic 61, 3) := by decide +kernel
theorem dX4_gatherAtLamps_16 : decode cX4_gatherAtLamps 16 = .ok (.bipush 19, 2) := by decide +kernel
theorem dX4_gatherAtLamps_18 : decode cX4_gatherAtLamps 18 = .ok (.istore_n 1, 1) := by decide +kernel
theorem dX4_gatherAtLamps_19 : decode cX4_gatherAtLamps 19 = .ok (.iload_n 1, 1) := by decide +kernel
theorem dX4_gatherAtLamps_20 : decode cX4_gatherAtLamps 20 = .ok (.ifCond .lt 31, 3) := by decide +kernel
theorem dX4_gatherAtLamps_23 : decode cX4_gatherAtLamps 23 = .ok (.aload_n 0, 1) := by decide +kernel
theorem dX4_gatherAtLamps_24 : decode cX4_gatherAtLamps 24 = .ok (.getfield 37, 3) := by decide +kernel
theorem dX4_gatherAtLamps_27 : decode cX4_gatherAtLamps 27 = .ok (.iload_n 1, 1) := by decide +kernel
theorem dX4_gatherAtLamps_28 : decode cX4_gatherAtLamps 28 = .ok (.iaload, 1) := by decide +kernel
theorem dX4_gatherAtLamps_29 : decode cX4_gatherAtLamps 29 = .ok (.iconst (-1), 1) := by decide +kernel
theorem dX4_gatherAtLamps_30 : decode cX4_gatherAtLamps 30 = .ok (.if_icmp .eq 15, 3) := by decide +kernel
theorem dX4_gatherAtLamps_33 : decode cX4_gatherAtLamps 33 = .ok (.aload_n 0, 1) := by decide +kernel
theorem dX4_gatherAtLamps_34 : decode cX4_gatherAtLamps 34 = .ok (.getfield 43, 3) := by decide +kernel
theorem dX4_gatherAtLamps_37 : decode cX4_gatherAtLamps 37 = .ok (.aload_n 0, 1) := by decide +kernel
theorem dX4_gatherAtLamps_38 : decode cX4_gatherAtLamps 38 = .ok (.getfield 37, 3) := by decide +kernel
theorem dX4_gatherAtLamps_41 : decode cX4_gatherAtLamps 41 = .ok (.iload_n 1, 1) := by decide +kernel
theorem dX4_gatherAtLamps_42 : decode cX4_gatherAtLamps 42 = .ok (.iaload, 1) := by decide +kernel
theorem dX4_gatherAtLamps_43 : decode cX4_gatherAtLamps 43 = .ok (.iload_n 1, 1) := by decide +kernel
theorem dX4_gatherAtLamps_44 : decode cX4_gatherAtLamps 44 = .ok (.iastore, 1) := by decide +kernel
theorem dX4_gatherAtLamps_45 : decode cX4_gatherAtLamps 45 = .ok (.iinc 1 (-1), 3) := by decide +kernel
theorem dX4_gatherAtLamps_48 : decode cX4_gatherAtLamps 48 = .ok (.goto (-29), 3) := by decide +kernel
theorem dX4_gatherAtLamps_51 : decode cX4_gatherAtLamps 51 = .ok (.iconst 0, 1) := by decide +kernel
theorem dX4_gatherAtLamps_52 : decode cX4_gatherAtLamps 52 = .ok (.istore_n 1, 1) := by decide +kernel
theorem dX4_gatherAtLamps_53 : decode cX4_gatherAtLamps 53 = .ok (.iload_n 1, 1) := by decide +kernel
theorem dX4_gatherAtLamps_54 : decode cX4_gatherAtLamps 54 = .ok (.bipush 40, 2) := by decide +kernel
theorem dX4_gatherAtLamps_56 : decode cX4_gatherAtLamps 56 = .ok (.if_icmp .ge 34, 3) := by decide +kernel
theorem dX4_gatherAtLamps_59 : decode cX4_gatherAtLamps 59 = .ok (.aload_n 0, 1) := by decide +kernel
theorem dX4_gatherAtLamps_60 : decode cX4_gatherAtLamps 60 = .ok (.getfield 40, 3) := by decide +kernel
theorem dX4_gatherAtLamps_63 : decode cX4_gatherAtLamps 63 = .ok (.iload_n 1, 1) := by decide +kernel
theorem dX4_gatherAtLamps_64 : decode cX4_gatherAtLamps 64 = .ok (.iaload, 1) := by decide +kernel
theorem dX4_gatherAtLamps_65 : decode cX4_gatherAtLamps 65 = .ok (.iconst (-1), 1) := by decide +kernel
theorem dX4_gatherAtLamps_66 : decode cX4_gatherAtLamps 66 = .ok (.if_icmp .eq 18, 3) := by decide +kernel
theorem dX4_gatherAtLamps_69 : decode cX4_gatherAtLamps 69 = .ok (.aload_n 0, 1) := by decide +kernel
theorem dX4_gatherAtLamps_70 : decode cX4_gatherAtLamps 70 = .ok (.getfield 46, 3) := by decide +kernel
theorem dX4_gatherAtLamps_73 : decode cX4_gatherAtLamps 73 = .ok (.aload_n 0, 1) := by decide +kernel
theorem dX4_gatherAtLamps_74 : decode cX4_gatherAtLamps 74 = .ok (.getfield 40, 3) := by decide +kernel
theorem dX4_gatherAtLamps_77 : decode cX4_gatherAtLamps 77 = .ok (.iload_n 1, 1) := by decide +kernel
theorem dX4_gatherAtLamps_78 : decode cX4_gatherAtLamps 78 = .ok (.iaload, 1) := by decide +kernel
theorem dX4_gatherAtLamps_79 : decode cX4_gatherAtLamps 79 = .ok (.dup2, 1) := by decide +kernel
theorem dX4_gatherAtLamps_80 : decode cX4_gatherAtLamps 80 = .ok (.iaload, 1) := by decide +kernel
theorem dX4_gatherAtLamps_81 : decode cX4_gatherAtLamps 81 = .ok (.iconst 1, 1) := by decide +kernel
theorem dX4_gatherAtLamps_82 : decode cX4_gatherAtLamps 82 = .ok (.iadd, 1) := by decide +kernel
theorem dX4_gatherAtLamps_83 : decode cX4_gatherAtLamps 83 = .ok (.iastore, 1) := by decide +kernel
theorem dX4_gatherAtLamps_84 : decode cX4_gatherAtLamps 84 = .ok (.iinc 1 1, 3) := by decide +kernel
theorem dX4_gatherAtLamps_87 : decode cX4_gatherAtLamps 87 = .ok (.goto (-34), 3) := by decide +kernel
theorem dX4_gatherAtLamps_90 : decode cX4_gatherAtLamps 90 = .ok (.return_, 1) := by decide +kernel
noncomputable def X4_gatherAtLamps_j45 (a1 : Int32) (w : Wd) : Option ((Int32 × Wd) ⊕ Wd) :=
some (.inl ((a1 + (-1 : Int32)), w))
set_option maxRecDepth 20000 in
set_option maxHeartbeats 1000000 in
theorem t_X4_gatherAtLamps_j45 {κ : Kx} (a1 : Int32) (w : Wd) {G : (Int32 × Wd) → Prop} {P : Wd → Prop} (KG : ∀ s, G s → J κ RX4 cX4_gatherAtLamps 2 none (rmk 1 23) 19 [(0, .ref (ad (gm κ) 19)), (1, .int s.1)] [] s.2) (K0 : ∀ e, P e → J κ RX4 cX4_gatherAtLamps 2 none (rmk 1 23) 51 [(0, .ref (ad (gm κ) 19))] [] e) (h : ok (X4_gatherAtLamps_j45  a1 w) (sel G P)) : J κ RX4 cX4_gatherAtLamps 2 none (rmk 1 23) 45 [(0, .ref (ad (gm κ) 19)), (1, .int a1)] [] w := by
  unfold X4_gatherAtLamps_j45 at h
  refine j_iinc (a1 + (-1 : Int32)) 1 [(1, .int (a1 + (-1 : Int32))), (0, .ref (ad (gm κ) 19))] dX4_gatherAtLamps_45 rfl (by rw [kn_m1]) (by decide) rfl ?_
  refine j_goto 19 dX4_gatherAtLamps_48 (by decide) ?_
  refine j_loc [(0, .ref (ad (gm κ) 19)), (1, .int (a1 + (-1 : Int32)))] [1, 0] rfl ?_
  have h := sel_l h
  have h := KG _ h
  exact h
noncomputable def X4_gatherAtLamps_b19 (s : (Int32 × Wd)) : Option ((Int32 × Wd) ⊕ Wd) :=
(if s.1 < 0 then
some (.inr s.2)
else
gd (vp_in s.1 20) <|
(if (s.2.1 26 (ix s.1)) = (-1 : Int32) then
X4_gatherAtLamps_j45 s.1 s.2
else
gd (vp_in s.1 20) <|
gd (vp_in (s.2.1 26 (ix s.1)) 12) <|
(some (puI s.2 28 (ix (s.2.1 26 (ix s.1))) s.1)).bind fun w5 =>
X4_gatherAtLamps_j45 s.1 w5))
set_option maxRecDepth 20000 in
set_option maxHeartbeats 1000000 in
theorem t_X4_gatherAtLamps_b19 {κ : Kx} {P : Wd → Prop} (K0 : ∀ e, P e → J κ RX4 cX4_gatherAtLamps 2 none (rmk 1 23) 51 [(0, .ref (ad (gm κ) 19))] [] e) (s : (Int32 × Wd)) (h : ok (lp (X4_gatherAtLamps_b19  ) s) P) : J κ RX4 cX4_gatherAtLamps 2 none (rmk 1 23) 19 [(0, .ref (ad (gm κ) 19)), (1, .int s.1)] [] s.2 := by
  refine lp_ind (fun s => J κ RX4 cX4_gatherAtLamps 2 none (rmk 1 23) 19 [(0, .ref (ad (gm κ) 19)), (1, .int s.1)] [] s.2) (fun s h => ?_) s h
  unfold X4_gatherAtLamps_b19 at h
  refine j_iload_n 1 dX4_gatherAtLamps_19 rfl rfl ?_
  refine j_if_lt 51 dX4_gatherAtLamps_20 (by decide) h (fun h => ?_) (fun h => ?_)
  · refine j_loc [(0, .ref (ad (gm κ) 19))] [0] rfl ?_
    have h := sel_r h
    have h := K0 _ h
    exact h
  · refine j_aload_n 0 dX4_gatherAtLamps_23 rfl rfl ?_
    refine j_getA 26 fl_RX4_37 sh_19 fk_19_9 (by decide) dX4_gatherAtLamps_24 ?_
    refine j_iload_n 1 dX4_gatherAtLamps_27 rfl rfl ?_
    refine j_iald sh_26 dX4_gatherAtLamps_28 h (fun h => ?_)
    refine j_iconst (-1 : Int32) dX4_gatherAtLamps_29 ki_m1 ?_
    refine j_ic_eq 45 dX4_gatherAtLamps_30 (by decide) h (fun h => ?_) (fun h => ?_)
    · refine j_loc [(0, .ref (ad (gm κ) 19)), (1, .int s.1)] [0, 1] rfl ?_
      exact t_X4_gatherAtLamps_j45 s.1 s.2 (fun _ h => h) K0 h
    · refine j_aload_n 0 dX4_gatherAtLamps_33 rfl rfl ?_
      refine j_getA 28 fl_RX4_43 sh_19 fk_19_11 (by decide) dX4_gatherAtLamps_34 ?_
      refine j_aload_n 0 dX4_gatherAtLamps_37 rfl rfl ?_
      refine j_getA 26 fl_RX4_37 sh_19 fk_19_9 (by decide) dX4_gatherAtLamps_38 ?_
      refine j_iload_n 1 dX4_gatherAtLamps_41 rfl rfl ?_
      refine j_iald sh_26 dX4_gatherAtLamps_42 h (fun h => ?_)
      refine j_iload_n 1 dX4_gatherAtLamps_43 rfl rfl ?_
      refine j_iast sh_28 dX4_gatherAtLamps_44 h (fun h => ?_)
      refine j_lW h (fun w5 h => ?_)
      refine j_loc [(0, .ref (ad (gm κ) 19)), (1, .int s.1)] [0, 1] rfl ?_
      exact t_X4_gatherAtLamps_j45 s.1 w5 (fun _ h => h) K0 h
noncomputable def X4_gatherAtLamps_j84 (a1 : Int32) (w : Wd) : Option ((Int32 × Wd) ⊕ Wd) :=
some (.inl ((a1 + (1 : Int32)), w))
set_option maxRecDepth 20000 in
set_option maxHeartbeats 1000000 in
theorem t_X4_gatherAtLamps_j84 {κ : Kx} (a1 : Int32) (w : Wd) {G : (Int32 × Wd) → Prop} {P : Wd → Prop} (KG : ∀ s, G s → J κ RX4 cX4_gatherAtLamps 2 none (rmk 1 23) 53 [(0, .ref (ad (gm κ) 19)), (1, .int s.1)] [] s.2) (K0 : ∀ e, P e → J κ RX4 cX4_gatherAtLamps 2 none (rmk 1 23) 90 [] [] e) (h : ok (X4_gatherAtLamps_j84  a1 w) (sel G P)) : J κ RX4 cX4_gatherAtLamps 2 none (rmk 1 23) 84 [(0, .ref (ad (gm κ) 19)), (1, .int a1)] [] w := by
  unfold X4_gatherAtLamps_j84 at h
  refine j_iinc (a1 + (1 : Int32)) 1 [(1, .int (a1 + (1 : Int32))), (0, .ref (ad (gm κ) 19))] dX4_gatherAtLamps_84 rfl (by rw [kn_1]) (by decide) rfl ?_
  refine j_goto 53 dX4_gatherAtLamps_87 (by decide) ?_
  refine j_loc [(0, .ref (ad (gm κ) 19)), (1, .int (a1 + (1 : Int32)))] [1, 0] rfl ?_
  have h := sel_l h
  have h := KG _ h
  exact h
noncomputable def X4_gatherAtLamps_b53 (s : (Int32 × Wd)) : Option ((Int32 × Wd) ⊕ Wd) :=
(if (40 : Int32) ≤ s.1 then
some (.inr s.2)
else
gd (vp_in s.1 40) <|
(if (s.2.1 27 (ix s.1)) = (-1 : Int32) then
X4_gatherAtLamps_j84 s.1 s.2
else
gd (vp_in s.1 40) <|
gd (vp_in (s.2.1 27 (ix s.1)) 12) <|
gd (vp_in (s.2.1 27 (ix s.1)) 12) <|
(some (puI s.2 29 (ix (s.2.1 27 (ix s.1))) ((s.2.1 29 (ix (s.2.1 27 (ix s.1)))) + (1 : Int32)))).bind fun w7 =>
X4_gatherAtLamps_j84 s.1 w7))
set_option maxRecDepth 20000 in
set_option maxHeartbeats 1000000 in
theorem t_X4_gatherAtLamps_b53 {κ : Kx} {P : Wd → Prop} (K0 : ∀ e, P e → J κ RX4 cX4_gatherAtLamps 2 none (rmk 1 23) 90 [] [] e) (s : (Int32 × Wd)) (h : ok (lp (X4_gatherAtLamps_b53  ) s) P) : J κ RX4 cX4_gatherAtLamps 2 none (rmk 1 23) 53 [(0, .ref (ad (gm κ) 19)), (1, .int s.1)] [] s.2 := by
  refine lp_ind (fun s => J κ RX4 cX4_gatherAtLamps 2 none (rmk 1 23) 53 [(0, .ref (ad (gm κ) 19)), (1, .int s.1)] [] s.2) (fun s h => ?_) s h
  unfold X4_gatherAtLamps_b53 at h
  refine j_iload_n 1 dX4_gatherAtLamps_53 rfl rfl ?_
  refine j_bipush (40 : Int32) dX4_gatherAtLamps_54 kb_40 ?_
  refine j_ic_ge 90 dX4_gatherAtLamps_56 (by decide) h (fun h => ?_) (fun h => ?_)
  · refine j_loc [] [] rfl ?_
    have h := sel_r h
    have h := K0 _ h
    exact h
  · refine j_aload_n 0 dX4_gatherAtLamps_59 rfl rfl ?_
    refine j_getA 27 fl_RX4_40 sh_19 fk_19_10 (by decide) dX4_gatherAtLamps_60 ?_
    refine j_iload_n 1 dX4_gatherAtLamps_63 rfl rfl ?_
    refine j_iald sh_27 dX4_gatherAtLamps_64 h (fun h => ?_)
    refine j_iconst (-1 : Int32) dX4_gatherAtLamps_65 ki_m1 ?_
    refine j_ic_eq 84 dX4_gatherAtLamps_66 (by decide) h (fun h => ?_) (fun h => ?_)
    · refine j_loc [(0, .ref (ad (gm κ) 19)), (1, .int s.1)] [0, 1] rfl ?_
      exact t_X4_gatherAtLamps_j84 s.1 s.2 (fun _ h => h) K0 h
    · refine j_aload_n 0 dX4_gatherAtLamps_69 rfl rfl ?_
      refine j_getA 29 fl_RX4_46 sh_19 fk_19_12 (by decide) dX4_gatherAtLamps_70 ?_
      refine j_aload_n 0 dX4_gatherAtLamps_73 rfl rfl ?_
      refine j_getA 27 fl_RX4_40 sh_19 fk_19_10 (by decide) dX4_gatherAtLamps_74 ?_
      refine j_iload_n 1 dX4_gatherAtLamps_77 rfl rfl ?_
      refine j_iald sh_27 dX4_gatherAtLamps_78 h (fun h => ?_)
      refine j_dup2 dX4_gatherAtLamps_79 rfl rfl ?_
      refine j_iald sh_29 dX4_gatherAtLamps_80 h (fun h => ?_)
      refine j_iconst (1 : Int32) dX4_gatherAtLamps_81 ki_1 ?_
      refine j_iadd dX4_gatherAtLamps_82 ?_
      refine j_iast sh_29 dX4_gatherAtLamps_83 h (fun h => ?_)
      refine j_lW h (fun w7 h => ?_)
      refine j_loc [(0, .ref (ad (gm κ) 19)), (1, .int s.1)] [0, 1] rfl ?_
      exact t_X4_gatherAtLamps_j84 s.1 w7 (fun _ h => h) K0 h
noncomputable def X4_gatherAtLamps (w : Wd) : Option (Wd) :=
(J7_fill_53178 28 12 (-1 : Int32) w).bind fun q1 =>
(J7_fill_53178 29 12 (0 : Int32) q1).bind fun q3 =>
(lp (X4_gatherAtLamps_b19 ) ((19 : Int32), q3)).bind fun e6 =>
(lp (X4_gatherAtLamps_b53 ) ((0 : Int32), e6)).bind fun e8 =>
some e8
set_option maxRecDepth 20000 in
set_option maxHeartbeats 1000000 in
theorem t_X4_gatherAtLamps {κ : Kx} (w : Wd) (h : ok (X4_gatherAtLamps   w) (PVw κ)) : J κ RX4 cX4_gatherAtLamps 2 none (rmk 1 23) 0 [(0, .ref (ad (gm κ) 19))] [] w := by
  unfold X4_gatherAtLamps at h
  refine j_aload_n 0 dX4_gatherAtLamps_0 rfl rfl ?_
  refine j_getA 28 fl_RX4_43 sh_19 fk_19_11 (by decide) dX4_gatherAtLamps_1 ?_
  refine j_iconst (-1 : Int32) dX4_gatherAtLamps_4 ki_m1 ?_
  obtain ⟨q1, e2, h⟩ := ok_b h
  refine j_callS (As := [.ref (ad (gm κ) 28), .int (-1 : Int32)]) (st := []) [] (c_J7_fill_53178 (kl κ) (gm κ) (kA κ) 28 12 sh_28 (-1 : Int32) w q1 e2) ck_RX4_61 st_J7_fill_53178 ⟨rfl, rfl⟩ ⟨by decide, by decide⟩ rfl rfl (Nat.le_of_ble_eq_true rfl) dX4_gatherAtLamps_5 _ rfl ?_
  refine j_aload_n 0 dX4_gatherAtLamps_8 rfl rfl ?_
  refine j_getA 29 fl_RX4_46 sh_19 fk_19_12 (by decide) dX4_gatherAtLamps_9 ?_
  refine j_iconst (0 : Int32) dX4_gatherAtLamps_12 ki_0 ?_
  obtain ⟨q3, e4, h⟩ := ok_b h
  refine j_callS (As := [.ref (ad (gm κ) 29), .int (0 : Int32)]) (st := []) [] (c_J7_fill_53178 (kl κ) (gm κ) (kA κ) 29 12 sh_29 (0 : Int32) q1 q3 e4) ck_RX4_61 st_J7_fill_53178 ⟨rfl, rfl⟩ ⟨by decide, by decide⟩ rfl rfl (Nat.le_of_ble_eq_true rfl) dX4_gatherAtLamps_13 _ rfl ?_
  refine j_bipush (19 : Int32) dX4_gatherAtLamps_16 kb_19 ?_
  refine j_istore_n [(1, .int (19 : Int32)), (0, .ref (ad (gm κ) 19))] dX4_gatherAtLamps_18 rfl (by decide) rfl ?_
  refine j_loc [(0, .ref (ad (gm κ) 19)), (1, .int (19 : Int32))] [1, 0] rfl ?_
  refine t_X4_gatherAtLamps_b19  (fun e6 h => ?_) ((19 : Int32), q3) (ok_bb h)
  · refine j_iconst (0 : Int32) dX4_gatherAtLamps_51 ki_0 ?_
    refine j_istore_n [(1, .int (0 : Int32)), (0, .ref (ad (gm κ) 19))] dX4_gatherAtLamps_52 rfl (by decide) rfl ?_
    refine j_loc [(0, .ref (ad (gm κ) 19)), (1, .int (0 : Int32))] [1, 0] rfl ?_
    refine t_X4_gatherAtLamps_b53  (fun e8 h => ?_) ((0 : Int32), e6) (ok_bb h)
    · have h := ok_s h
      exact j_vret dX4_gatherAtLamps_90 rfl h
theorem c_X4_gatherAtLamps (l : Launch) (γ : Gm) (A : Nat → Prop) (w : Wd) (q : Wd) (e : X4_gatherAtLamps   w = some q) : MetG l γ A yX4_gatherAtLamps cX4_gatherAtLamps 2 none (rmk 1 23) [.ref (ad (γ) 19)] w none q := by
  refine met_of pn_RX4 (Nat.le_of_ble_eq_true rfl) ?_
  intro κ hl hγ hA hρ
  subst hl; subst hγ; subst hA
  exact t_X4_gatherAtLamps    w ⟨q, e, pVw hρ rfl rfl⟩
theorem dX4_callUp_0 : decode cX4_callUp 0 = .ok (.aload_n 0, 1) := by decide +kernel
theorem dX4_callUp_1 : decode cX4_callUp 1 = .ok (.getfield 34, 3) := by decide +kernel
theorem dX4_callUp_4 : decode cX4_callUp 4 = .ok (.iload_n 1, 1) := by decide +kernel
theorem dX4_callUp_5 : decode cX4_callUp 5 = .ok (.if_icmp .ne 4, 3) := by decide +kernel
theorem dX4_callUp_8 : decode cX4_callUp 8 = .ok (.return_, 1) := by decide +kernel
theorem dX4_callUp_9 : decode cX4_callUp 9 = .ok (.aload_n 0, 1) := by decide +kernel
theorem dX4_callUp_10 : decode cX4_callUp 10 = .ok (.iload_n 1, 1) := by decide +kernel
theorem dX4_callUp_11 : decode cX4_callUp 11 = .ok (.putfield 34, 3) := by decide +kernel
theorem dX4_callUp_14 : decode cX4_callUp 14 = .ok (.aload_n 0, 1) := by decide +kernel
theorem dX4_callUp_15 : decode cX4_callUp 15 = .ok (.getfield 37, 3) := by decide +kernel
theorem dX4_callUp_18 : decode cX4_callUp 18 = .ok (.iconst (-1), 1) := by decide +kernel
theorem dX4_callUp_19 : decode cX4_callUp 19 = .ok (.invokestatic 61, 3) := by decide +kernel
theorem dX4_callUp_22 : decode cX4_callUp 22 = .ok (.aload_n 0, 1) := by decide +kernel
theorem dX4_callUp_23 : decode cX4_callUp 23 = .ok (.getfield 40, 3) := by decide +kernel
theorem dX4_callUp_26 : decode cX4_callUp 26 = .ok (.iconst (-1), 1) := by decide +kernel
theorem dX4_callUp_27 : decode cX4_callUp 27 = .ok (.invokestatic 61, 3) := by decide +kernel
theorem dX4_callUp_30 : decode cX4_callUp 30 = .ok (.iconst 0, 1) := by decide +kernel
theorem dX4_callUp_31 : decode cX4_callUp 31 = .ok (.istore_n 2, 1) := by decide +kernel
theorem dX4_callUp_32 : decode cX4_callUp 32 = .ok (.iload_n 2, 1) := by decide +kernel
theorem dX4_callUp_33 : decode cX4_callUp 33 = .ok (.aload_n 0, 1) := by decide +kernel
theorem dX4_callUp_34 : decode cX4_callUp 34 = .ok (.getfield 49, 3) := by decide +kernel
theorem dX4_callUp_37 : decode cX4_callUp 37 = .ok (.if_icmp .ge 83, 3) := by decide +kernel
theorem dX4_callUp_40 : decode cX4_callUp 40 = .ok (.aload_n 0, 1) := by decide +kernel
theorem dX4_callUp_41 : decode cX4_callUp 41 = .ok (.iload_n 2, 1) := by decide +kernel
theorem dX4_callUp_42 : decode cX4_callUp 42 = .ok (.iload_n 1, 1) := by decide +kernel
theorem dX4_callUp_43 : decode cX4_callUp 43 = .ok (.invokevirtual 67, 3) := by decide +kernel
theorem dX4_callUp_46 : decode cX4_callUp 46 = .ok (.ifCond .eq 32, 3) := by decide +kernel
theorem dX4_callUp_49 : decode cX4_callUp 49 = .ok (.aload_n 0, 1) := by decide +kernel
theorem dX4_callUp_50 : decode cX4_callUp 50 = .ok (.getfield 9, 3) := by decide +kernel
theorem dX4_callUp_53 : decode cX4_callUp 53 = .ok (.iload_n 2, 1) := by decide +kernel
theorem dX4_callUp_54 : decode cX4_callUp 54 = .ok (.iaload, 1) := by decide +kernel
theorem dX4_callUp_55 : decode cX4_callUp 55 = .ok (.ifCond .ne 23, 3) := by decide +kernel
theorem dX4_callUp_58 : decode cX4_callUp 58 = .ok (.aload_n 0, 1) := by decide +kernel
theorem dX4_callUp_59 : decode cX4_callUp 59 = .ok (.getfield 37, 3) := by decide +kernel
theorem dX4_callUp_62 : decode cX4_callUp 62 = .ok (.aload_n 0, 1) := by decide +kernel
theorem dX4_callUp_63 : decode cX4_callUp 63 = .ok (.getfield 15, 3) := by decide +kernel
theorem dX4_callUp_66 : decode cX4_callUp 66 = .ok (.iload_n 2, 1) := by decide +kernel
theorem dX4_callUp_67 : decode cX4_callUp 67 = .ok (.iaload, 1) := by decide +kernel
theorem dX4_callUp_68 : decode cX4_callUp 68 = .ok (.aload_n 0, 1) := by decide +kernel
theorem dX4_callUp_69 : decode cX4_callUp 69 = .ok (.getfield 18, 3) := by decide +kernel
theorem dX4_callUp_72 : decode cX4_callUp 72 = .ok (.iload_n 2, 1) := by decide +kernel
theorem dX4_callUp_73 : decode cX4_callUp 73 = .ok (.iaload, 1) := by decide +kernel
theorem dX4_callUp_74 : decode cX4_callUp 74 = .ok (.iastore, 1) := by decide +kernel
theorem dX4_callUp_75 : decode cX4_callUp 75 = .ok (.goto 39, 3) := by decide +kernel
theorem dX4_callUp_78 : decode cX4_callUp 78 = .ok (.aload_n 0, 1) := by decide +kernel
theorem dX4_callUp_79 : decode cX4_callUp 79 = .ok (.iload_n 2, 1) := by decide +kernel
theorem dX4_callUp_80 : decode cX4_callUp 80 = .ok (.iload_n 1, 1) := by decide +kernel
theorem dX4_callUp_81 : decode cX4_callUp 81 = .ok (.invokevirtual 67, 3) := by decide +kernel
theorem dX4_callUp_84 : decode cX4_callUp 84 = .ok (.ifCond .eq 30, 3) := by decide +kernel
theorem dX4_callUp_87 : decode cX4_callUp 87 = .ok (.aload_n 0, 1) := by decide +kernel
theorem dX4_callUp_88 : decode cX4_callUp 88 = .ok (.getfield 9, 3) := by decide +kernel
theorem dX4_callUp_91 : decode cX4_callUp 91 = .ok (.iload_n 2, 1) := by decide +kernel
theorem dX4_callUp_92 : decode cX4_callUp 92 = .ok (.iaload, 1) := by decide +kernel
theorem dX4_callUp_93 : decode cX4_callUp 93 = .ok (.iconst 1, 1) := by decide +kernel
theorem dX4_callUp_94 : decode cX4_callUp 94 = .ok (.if_icmp .ne 20, 3) := by decide +kernel
theorem dX4_callUp_97 : decode cX4_callUp 97 = .ok (.aload_n 0, 1) := by decide +kernel
theorem dX4_callUp_98 : decode cX4_callUp 98 = .ok (.getfield 40, 3) := by decide +kernel
theorem dX4_callUp_101 : decode cX4_callUp 101 = .ok (.aload_n 0, 1) := by decide +kernel
theorem dX4_callUp_102 : decode cX4_callUp 102 = .ok (.getfield 15, 3) := by decide +kernel
theorem dX4_callUp_105 : decode cX4_callUp 105 = .ok (.iload_n 2, 1) := by decide +kernel
theorem dX4_callUp_106 : decode cX4_callUp 106 = .ok (.iaload, 1) := by decide +kernel
theorem dX4_callUp_107 : decode cX4_callUp 107 = .ok (.aload_n 0, 1) := by decide +kernel
theorem dX4_callUp_108 : decode cX4_callUp 108 = .ok (.getfield 18, 3) := by decide +kernel
theorem dX4_callUp_111 : decode cX4_callUp 111 = .ok (.iload_n 2, 1) := by decide +kernel
theorem dX4_callUp_112 : decode cX4_callUp 112 = .ok (.iaload, 1) := by decide +kernel
theorem dX4_callUp_113 : decode cX4_callUp 113 = .ok (.iastore, 1) := by decide +kernel
theorem dX4_callUp_114 : decode cX4_callUp 114 = .ok (.iinc 2 1, 3) := by decide +kernel
theorem dX4_callUp_117 : decode cX4_callUp 117 = .ok (.goto (-85), 3) := by decide +kernel
theorem dX4_callUp_120 : decode cX4_callUp 120 = .ok (.iconst 0, 1) := by decide +kernel
theorem dX4_callUp_121 : decode cX4_callUp 121 = .ok (.istore_n 2, 1) := by decide +kernel
theorem dX4_callUp_122 : decode cX4_callUp 122 = .ok (.iload_n 2, 1) := by decide +kernel
theorem dX4_callUp_123 : decode cX4_callUp 123 = .ok (.aload_n 0, 1) := by decide +kernel
theorem dX4_callUp_124 : decode cX4_callUp 124 = .ok (.getfield 49, 3) := by decide +kernel
theorem dX4_callUp_127 : decode cX4_callUp 127 = .ok (.if_icmp .ge 74, 3) := by decide +kernel
theorem dX4_callUp_130 : decode cX4_callUp 130 = .ok (.aload_n 0, 1) := by decide +kernel
theorem dX4_callUp_131 : decode cX4_callUp 131 = .ok (.iload_n 2, 1) := by decide +kernel
theorem dX4_callUp_132 : decode cX4_callUp 132 = .ok (.iload_n 1, 1) := by decide +kernel
theorem dX4_callUp_133 : decode cX4_callUp 133 = .ok (.invokevirtual 67, 3) := by decide +kernel
theorem dX4_callUp_136 : decode cX4_callUp 136 = .ok (.ifCond .eq 28, 3) := by decide +kernel
theorem dX4_callUp_139 : decode cX4_callUp 139 = .ok (.aload_n 0, 1) := by decide +kernel
theorem dX4_callUp_140 : decode cX4_callUp 140 = .ok (.getfield 9, 3) := by decide +kernel
theorem dX4_callUp_143 : decode cX4_callUp 143 = .ok (.iload_n 2, 1) := by decide +kernel
theorem dX4_callUp_144 : decode cX4_callUp 144 = .ok (.iaload, 1) := by decide +kernel
theorem dX4_callUp_145 : decode cX4_callUp 145 = .ok (.iconst 2, 1) := by decide +kernel
theorem dX4_callUp_146 : decode cX4_callUp 146 = .ok (.if_icmp .ne 18, 3) := by decide +kernel
theorem dX4_callUp_149 : decode cX4_callUp 149 = .ok (.aload_n 0, 1) := by decide +kernel
theorem dX4_callUp_150 : decode cX4_callUp 150 = .ok (.getfield 40, 3) := by decide +kernel
theorem dX4_callUp_153 : decode cX4_callUp 153 = .ok (.aload_n 0, 1) := by decide +kernel
theorem dX4_callUp_154 : decode cX4_callUp 154 = .ok (.getfield 15, 3) := by decide +kernel
theorem dX4_callUp_157 : decode cX4_callUp 157 = .ok (.iload_n 2, 1) := by decide +kernel
theorem dX4_callUp_158 : decode cX4_callUp 158 = .ok (.iaload, 1) := by decide +kernel
theorem dX4_callUp_159 : decode cX4_callUp 159 = .ok (.iconst (-1), 1) := by decide +kernel
theorem dX4_callUp_160 : decode cX4_callUp 160 = .ok (.iastore, 1) := by decide +kernel
theorem dX4_callUp_161 : decode cX4_callUp 161 = .ok (.goto 34, 3) := by decide +kernel
theorem dX4_callUp_164 : decode cX4_callUp 164 = .ok (.aload_n 0, 1) := by decide +kernel
theorem dX4_callUp_165 : decode cX4_callUp 165 = .ok (.iload_n 2, 1) := by decide +kernel
theorem dX4_callUp_166 : decode cX4_callUp 166 = .ok (.iload_n 1, 1) := by decide +kernel
theorem dX4_callUp_167 : decode cX4_callUp 167 = .ok (.invokevirtual 67, 3) := by decide +kernel
theorem dX4_callUp_170 : decode cX4_callUp 170 = .ok (.ifCond .eq 25, 3) := by decide +kernel
theorem dX4_callUp_173 : decode cX4_callUp 173 = .ok (.aload_n 0, 1) := by decide +kernel
theorem dX4_callUp_174 : decode cX4_callUp 174 = .ok (.getfield 9, 3) := by decide +kernel
theorem dX4_callUp_177 : decode cX4_callUp 177 = .ok (.iload_n 2, 1) := by decide +kernel
theorem dX4_callUp_178 : decode cX4_callUp 178 = .ok (.iaload, 1) := by decide +kernel
theorem dX4_callUp_179 : decode cX4_callUp 179 = .ok (.iconst 3, 1) := by decide +kernel
theorem dX4_callUp_180 : decode cX4_callUp 180 = .ok (.if_icmp .ne 15, 3) := by decide +kernel
theorem dX4_callUp_183 : decode cX4_callUp 183 = .ok (.aload_n 0, 1) := by decide +kernel
theorem dX4_callUp_184 : decode cX4_callUp 184 = .ok (.getfield 37, 3) := by decide +kernel
theorem dX4_callUp_187 : decode cX4_callUp 187 = .ok (.aload_n 0, 1) := by decide +kernel
theorem dX4_callUp_188 : decode cX4_callUp 188 = .ok (.getfield 15, 3) := by decide +kernel
theorem dX4_callUp_191 : decode cX4_callUp 191 = .ok (.iload_n 2, 1) := by decide +kernel
theorem dX4_callUp_192 : decode cX4_callUp 192 = .ok (.iaload, 1) := by decide +kernel
theorem dX4_callUp_193 : decode cX4_callUp 193 = .ok (.iconst (-1), 1) := by decide +kernel
theorem dX4_callUp_194 : decode cX4_callUp 194 = .ok (.iastore, 1) := by decide +kernel
theorem dX4_callUp_195 : decode cX4_callUp 195 = .ok (.iinc 2 1, 3) := by decide +kernel
theorem dX4_callUp_198 : decode cX4_callUp 198 = .ok (.goto (-76), 3) := by decide +kernel
theorem dX4_callUp_201 : decode cX4_callUp 201 = .ok (.aload_n 0, 1) := by decide +kernel
theorem dX4_callUp_202 : decode cX4_callUp 202 = .ok (.invokevirtual 71, 3) := by decide +kernel
theorem dX4_callUp_205 : decode cX4_callUp 205 = .ok (.return_, 1) := by decide +kernel
noncomputable def X4_callUp_j114 (a1 : Int32) (a2 : Int32) (w : Wd) : Option ((Int32 × Wd) ⊕ Wd) :=
some (.inl ((a2 + (1 : Int32)), w))
set_option maxRecDepth 20000 in
set_option maxHeartbeats 1000000 in
theorem t_X4_callUp_j114 {κ : Kx} (a1 : Int32) (a2 : Int32) (w : Wd) {G : (Int32 × Wd) → Prop} {P : Wd → Prop} (KG : ∀ s, G s → J κ RX4 cX4_callUp 3 none (rmk 2 44) 32 [(0, .ref (ad (gm κ) 19)), (1, .int a1), (2, .int s.1)] [] s.2) (K0 : ∀ e, P e → J κ RX4 cX4_callUp 3 none (rmk 2 44) 120 [(0, .ref (ad (gm κ) 19)), (1, .int a1)] [] e) (h : ok (X4_callUp_j114  a1 a2 w) (sel G P)) : J κ RX4 cX4_callUp 3 none (rmk 2 44) 114 [(0, .ref (ad (gm κ) 19)), (1, .int a1), (2, .int a2)] [] w := by
  unfold X4_callUp_j114 at h
  refine j_iinc (a2 + (1 : Int32)) 2 [(2, .int (a2 + (1 : Int32))), (0, .ref (ad (gm κ) 19)), (1, .int a1)] dX4_callUp_114 rfl (by rw [kn_1]) (by decide) rfl ?_
  refine j_goto 32 dX4_callUp_117 (by decide) ?_
  refine j_loc [(0, .ref (ad (gm κ) 19)), (1, .int a1), (2, .int (a2 + (1 : Int32)))] [1, 2, 0] rfl ?_
  have h := sel_l h
  have h := KG _ h
  exact h
noncomputable def X4_callUp_j78 (a1 : Int32) (a2 : Int32) (w : Wd) : Option ((Int32 × Wd) ⊕ Wd) :=
(X4_tellsOf a2 a1 w).bind fun q8 =>
(if q8 = 0 then
X4_callUp_j114 a1 a2 w
else
gd (vp_in a2 160) <|
(if (w.1 20 (ix a2)) = (1 : Int32) then
gd (vp_in a2 160) <|
gd (vp_in a2 160) <|
gd (vp_in (w.1 21 (ix a2)) 40) <|
(some (puI w 27 (ix (w.1 21 (ix a2))) (w.1 22 (ix a2)))).bind fun w10 =>
X4_callUp_j114 a1 a2 w10
else
X4_callUp_j114 a1 a2 w))
set_option maxRecDepth 20000 in
set_option maxHeartbeats 1000000 in
theorem t_X4_callUp_j78 {κ : Kx} (a1 : Int32) (a2 : Int32) (w : Wd) {G : (Int32 × Wd) → Prop} {P : Wd → Prop} (KG : ∀ s, G s → J κ RX4 cX4_callUp 3 none (rmk 2 44) 32 [(0, .ref (ad (gm κ) 19)), (1, .int a1), (2, .int s.1)] [] s.2) (K0 : ∀ e, P e → J κ RX4 cX4_callUp 3 none (rmk 2 44) 120 [(0, .ref (ad (gm κ) 19)), (1, .int a1)] [] e) (h : ok (X4_callUp_j78  a1 a2 w) (sel G P)) : J κ RX4 cX4_callUp 3 none (rmk 2 44) 78 [(0, .ref (ad (gm κ) 19)), (1, .int a1), (2, .int a2)] [] w := by
  unfold X4_callUp_j78 at h
  refine j_aload_n 0 dX4_callUp_78 rfl rfl ?_
  refine j_iload_n 2 dX4_callUp_79 rfl rfl ?_
  refine j_iload_n 1 dX4_callUp_80 rfl rfl ?_
  obtain ⟨q8, e9, h⟩ := ok_b h
  refine j_callV (As := [.int a2, .int a1]) (st := []) [.int q8] (c_X4_tellsOf (kl κ) (gm κ) (kA κ) a2 a1 w q8 e9) ck_RX4_67 im_X4_tellsOf se_X4_tellsOf sh_19 cx_4 ⟨rfl, rfl⟩ ⟨by decide, by decide⟩ rfl rfl (Nat.le_of_ble_eq_true rfl) dX4_callUp_81 _ rfl ?_
  refine j_if_eq 114 dX4_callUp_84 (by decide) h (fun h => ?_) (fun h => ?_)
  · refine j_loc [(0, .ref (ad (gm κ) 19)), (1, .int a1), (2, .int a2)] [0, 1, 2] rfl ?_
    exact t_X4_callUp_j114 a1 a2 w KG K0 h
  · refine j_aload_n 0 dX4_callUp_87 rfl rfl ?_
    refine j_getA 20 fl_RX4_9 sh_19 fk_19_1 (by decide) dX4_callUp_88 ?_
    refine j_iload_n 2 dX4_callUp_91 rfl rfl ?_
    refine j_iald sh_20 dX4_callUp_92 h (fun h => ?_)
    refine j_iconst (1 : Int32) dX4_callUp_93 ki_1 ?_
    refine j_ic_ne 114 dX4_callUp_94 (by decide) h (fun h => ?_) (fun h => ?_)
    · refine j_loc [(0, .ref (ad (gm κ) 19)), (1, .int a1), (2, .int a2)] [0, 1, 2] rfl ?_
      exact t_X4_callUp_j114 a1 a2 w KG K0 h
    · refine j_aload_n 0 dX4_callUp_97 rfl rfl ?_
      refine j_getA 27 fl_RX4_40 sh_19 fk_19_10 (by decide) dX4_callUp_98 ?_
      refine j_aload_n 0 dX4_callUp_101 rfl rfl ?_
      refine j_getA 21 fl_RX4_15 sh_19 fk_19_2 (by decide) dX4_callUp_102 ?_
      refine j_iload_n 2 dX4_callUp_105 rfl rfl ?_
      refine j_iald sh_21 dX4_callUp_106 h (fun h => ?_)
      refine j_aload_n 0 dX4_callUp_107 rfl rfl ?_
      refine j_getA 22 fl_RX4_18 sh_19 fk_19_3 (by decide) dX4_callUp_108 ?_
      refine j_iload_n 2 dX4_callUp_111 rfl rfl ?_
      refine j_iald sh_22 dX4_callUp_112 h (fun h => ?_)
      refine j_iast sh_27 dX4_callUp_113 h (fun h => ?_)
      refine j_lW h (fun w10 h => ?_)
      refine j_loc [(0, .ref (ad (gm κ) 19)), (1, .int a1), (2, .int a2)] [0, 1, 2] rfl ?_
      exact t_X4_callUp_j114 a1 a2 w10 KG K0 h
noncomputable def X4_callUp_b32 (a1 : Int32) (s : (Int32 × Wd)) : Option ((Int32 × Wd) ⊕ Wd) :=
(if (s.2.1 19 0) ≤ s.1 then
some (.inr s.2)
else
(X4_tellsOf s.1 a1 s.2).bind fun q6 =>
(if q6 = 0 then
X4_callUp_j78 a1 s.1 s.2
else
gd (vp_in s.1 160) <|
(if (s.2.1 20 (ix s.1)) = 0 then
gd (vp_in s.1 160) <|
gd (vp_in s.1 160) <|
gd (vp_in (s.2.1 21 (ix s.1)) 20) <|
(some (puI s.2 26 (ix (s.2.1 21 (ix s.1))) (s.2.1 22 (ix s.1)))).bind fun w11 =>
X4_callUp_j114 a1 s.1 w11
else
X4_callUp_j78 a1 s.1 s.2)))
set_option maxRecDepth 20000 in
set_option maxHeartbeats 1000000 in
theorem t_X4_callUp_b32 {κ : Kx} (a1 : Int32) {P : Wd → Prop} (K0 : ∀ e, P e → J κ RX4 cX4_callUp 3 none (rmk 2 44) 120 [(0, .ref (ad (gm κ) 19)), (1, .int a1)] [] e) (s : (Int32 × Wd)) (h : ok (lp (X4_callUp_b32  a1) s) P) : J κ RX4 cX4_callUp 3 none (rmk 2 44) 32 [(0, .ref (ad (gm κ) 19)), (1, .int a1), (2, .int s.1)] [] s.2 := by
  refine lp_ind (fun s => J κ RX4 cX4_callUp 3 none (rmk 2 44) 32 [(0, .ref (ad (gm κ) 19)), (1, .int a1), (2, .int s.1)] [] s.2) (fun s h => ?_) s h
  unfold X4_callUp_b32 at h
  refine j_iload_n 2 dX4_callUp_32 rfl rfl ?_
  refine j_aload_n 0 dX4_callUp_33 rfl rfl ?_
  refine j_getI fl_RX4_49 sh_19 fk_19_0 dX4_callUp_34 ?_
  refine j_ic_ge 120 dX4_callUp_37 (by decide) h (fun h => ?_) (fun h => ?_)
  · refine j_loc [(0, .ref (ad (gm κ) 19)), (1, .int a1)] [0, 1] rfl ?_
    have h := sel_r h
    have h := K0 _ h
    exact h
  · refine j_aload_n 0 dX4_callUp_40 rfl rfl ?_
    refine j_iload_n 2 dX4_callUp_41 rfl rfl ?_
    refine j_iload_n 1 dX4_callUp_42 rfl rfl ?_
    obtain ⟨q6, e7, h⟩ := ok_b h
    refine j_callV (As := [.int s.1, .int a1]) (st := []) [.int q6] (c_X4_tellsOf (kl κ) (gm κ) (kA κ) s.1 a1 s.2 q6 e7) ck_RX4_67 im_X4_tellsOf se_X4_tellsOf sh_19 cx_4 ⟨rfl, rfl⟩ ⟨by decide, by decide⟩ rfl rfl (Nat.le_of_ble_eq_true rfl) dX4_callUp_43 _ rfl ?_
    refine j_if_eq 78 dX4_callUp_46 (by decide) h (fun h => ?_) (fun h => ?_)
    · refine j_loc [(0, .ref (ad (gm κ) 19)), (1, .int a1), (2, .int s.1)] [0, 1, 2] rfl ?_
      exact t_X4_callUp_j78 a1 s.1 s.2 (fun _ h => h) K0 h
    · refine j_aload_n 0 dX4_callUp_49 rfl rfl ?_
      refine j_getA 20 fl_RX4_9 sh_19 fk_19_1 (by decide) dX4_callUp_50 ?_
      refine j_iload_n 2 dX4_callUp_53 rfl rfl ?_
      refine j_iald sh_20 dX4_callUp_54 h (fun h => ?_)
      refine j_if_ne 78 dX4_callUp_55 (by decide) h (fun h => ?_) (fun h => ?_)
      · refine j_loc [(0, .ref (ad (gm κ) 19)), (1, .int a1), (2, .int s.1)] [0, 1, 2] rfl ?_
        exact t_X4_callUp_j78 a1 s.1 s.2 (fun _ h => h) K0 h
      · refine j_aload_n 0 dX4_callUp_58 rfl rfl ?_
        refine j_getA 26 fl_RX4_37 sh_19 fk_19_9 (by decide) dX4_callUp_59 ?_
        refine j_aload_n 0 dX4_callUp_62 rfl rfl ?_
        refine j_getA 21 fl_RX4_15 sh_19 fk_19_2 (by decide) dX4_callUp_63 ?_
        refine j_iload_n 2 dX4_callUp_66 rfl rfl ?_
        refine j_iald sh_21 dX4_callUp_67 h (fun h => ?_)
        refine j_aload_n 0 dX4_callUp_68 rfl rfl ?_
        refine j_getA 22 fl_RX4_18 sh_19 fk_19_3 (by decide) dX4_callUp_69 ?_
        refine j_iload_n 2 dX4_callUp_72 rfl rfl ?_
        refine j_iald sh_22 dX4_callUp_73 h (fun h => ?_)
        refine j_iast sh_26 dX4_callUp_74 h (fun h => ?_)
        refine j_lW h (fun w11 h => ?_)
        refine j_goto 114 dX4_callUp_75 (by decide) ?_
        refine j_loc [(0, .ref (ad (gm κ) 19)), (1, .int a1), (2, .int s.1)] [0, 1, 2] rfl ?_
        exact t_X4_callUp_j114 a1 s.1 w11 (fun _ h => h) K0 h
noncomputable def X4_callUp_j195 (a1 : Int32) (a2 : Int32) (w : Wd) : Option ((Int32 × Wd) ⊕ Wd) :=
some (.inl ((a2 + (1 : Int32)), w))
set_option maxRecDepth 20000 in
set_option maxHeartbeats 1000000 in
theorem t_X4_callUp_j195 {κ : Kx} (a1 : Int32) (a2 : Int32) (w : Wd) {G : (Int32 × Wd) → Prop} {P : Wd → Prop} (KG : ∀ s, G s → J κ RX4 cX4_callUp 3 none (rmk 2 44) 122 [(0, .ref (ad (gm κ) 19)), (1, .int a1), (2, .int s.1)] [] s.2) (K0 : ∀ e, P e → J κ RX4 cX4_callUp 3 none (rmk 2 44) 201 [(0, .ref (ad (gm κ) 19))] [] e) (h : ok (X4_callUp_j195  a1 a2 w) (sel G P)) : J κ RX4 cX4_callUp 3 none (rmk 2 44) 195 [(0, .ref (ad (gm κ) 19)), (1, .int a1), (2, .int a2)] [] w := by
  unfold X4_callUp_j195 at h
  refine j_iinc (a2 + (1 : Int32)) 2 [(2, .int (a2 + (1 : Int32))), (0, .ref (ad (gm κ) 19)), (1, .int a1)] dX4_callUp_195 rfl (by rw [kn_1]) (by decide) rfl ?_
  refine j_goto 122 dX4_callUp_198 (by decide) ?_
  refine j_loc [(0, .ref (ad (gm κ) 19)), (1, .int a1), (2, .int (a2 + (1 : Int32)))] [1, 2, 0] rfl ?_
  have h := sel_l h
  have h := KG _ h
  exact h
noncomputable def X4_callUp_j164 (a1 : Int32) (a2 : Int32) (w : Wd) : Option ((Int32 × Wd) ⊕ Wd) :=
(X4_tellsOf a2 a1 w).bind fun q15 =>
(if q15 = 0 then
X4_callUp_j195 a1 a2 w
else
gd (vp_in a2 160) <|
(if (w.1 20 (ix a2)) = (3 : Int32) then
gd (vp_in a2 160) <|
gd (vp_in (w.1 21 (ix a2)) 20) <|
(some (puI w 26 (ix (w.1 21 (ix a2))) (-1 : Int32))).bind fun w17 =>
X4_callUp_j195 a1 a2 w17
else
X4_callUp_j195 a1 a2 w))
set_option maxRecDepth 20000 in
set_option maxHeartbeats 1000000 in
theorem t_X4_callUp_j164 {κ : Kx} (a1 : Int32) (a2 : Int32) (w : Wd) {G : (Int32 × Wd) → Prop} {P : Wd → Prop} (KG : ∀ s, G s → J κ RX4 cX4_callUp 3 none (rmk 2 44) 122 [(0, .ref (ad (gm κ) 19)), (1, .int a1), (2, .int s.1)] [] s.2) (K0 : ∀ e, P e → J κ RX4 cX4_callUp 3 none (rmk 2 44) 201 [(0, .ref (ad (gm κ) 19))] [] e) (h : ok (X4_callUp_j164  a1 a2 w) (sel G P)) : J κ RX4 cX4_callUp 3 none (rmk 2 44) 164 [(0, .ref (ad (gm κ) 19)), (1, .int a1), (2, .int a2)] [] w := by
  unfold X4_callUp_j164 at h
  refine j_aload_n 0 dX4_callUp_164 rfl rfl ?_
  refine j_iload_n 2 dX4_callUp_165 rfl rfl ?_
  refine j_iload_n 1 dX4_callUp_166 rfl rfl ?_
  obtain ⟨q15, e16, h⟩ := ok_b h
  refine j_callV (As := [.int a2, .int a1]) (st := []) [.int q15] (c_X4_tellsOf (kl κ) (gm κ) (kA κ) a2 a1 w q15 e16) ck_RX4_67 im_X4_tellsOf se_X4_tellsOf sh_19 cx_4 ⟨rfl, rfl⟩ ⟨by decide, by decide⟩ rfl rfl (Nat.le_of_ble_eq_true rfl) dX4_callUp_167 _ rfl ?_
  refine j_if_eq 195 dX4_callUp_170 (by decide) h (fun h => ?_) (fun h => ?_)
  · refine j_loc [(0, .ref (ad (gm κ) 19)), (1, .int a1), (2, .int a2)] [0, 1, 2] rfl ?_
    exact t_X4_callUp_j195 a1 a2 w KG K0 h
  · refine j_aload_n 0 dX4_callUp_173 rfl rfl ?_
    refine j_getA 20 fl_RX4_9 sh_19 fk_19_1 (by decide) dX4_callUp_174 ?_
    refine j_iload_n 2 dX4_callUp_177 rfl rfl ?_
    refine j_iald sh_20 dX4_callUp_178 h (fun h => ?_)
    refine j_iconst (3 : Int32) dX4_callUp_179 ki_3 ?_
    refine j_ic_ne 195 dX4_callUp_180 (by decide) h (fun h => ?_) (fun h => ?_)
    · refine j_loc [(0, .ref (ad (gm κ) 19)), (1, .int a1), (2, .int a2)] [0, 1, 2] rfl ?_
      exact t_X4_callUp_j195 a1 a2 w KG K0 h
    · refine j_aload_n 0 dX4_callUp_183 rfl rfl ?_
      refine j_getA 26 fl_RX4_37 sh_19 fk_19_9 (by decide) dX4_callUp_184 ?_
      refine j_aload_n 0 dX4_callUp_187 rfl rfl ?_
      refine j_getA 21 fl_RX4_15 sh_19 fk_19_2 (by decide) dX4_callUp_188 ?_
      refine j_iload_n 2 dX4_callUp_191 rfl rfl ?_
      refine j_iald sh_21 dX4_callUp_192 h (fun h => ?_)
      refine j_iconst (-1 : Int32) dX4_callUp_193 ki_m1 ?_
      refine j_iast sh_26 dX4_callUp_194 h (fun h => ?_)
      refine j_lW h (fun w17 h => ?_)
      refine j_loc [(0, .ref (ad (gm κ) 19)), (1, .int a1), (2, .int a2)] [0, 1, 2] rfl ?_
      exact t_X4_callUp_j195 a1 a2 w17 KG K0 h
noncomputable def X4_callUp_b122 (a1 : Int32) (s : (Int32 × Wd)) : Option ((Int32 × Wd) ⊕ Wd) :=
(if (s.2.1 19 0) ≤ s.1 then
some (.inr s.2)
else
(X4_tellsOf s.1 a1 s.2).bind fun q13 =>
(if q13 = 0 then
X4_callUp_j164 a1 s.1 s.2
else
gd (vp_in s.1 160) <|
(if (s.2.1 20 (ix s.1)) = (2 : Int32) then
gd (vp_in s.1 160) <|
gd (vp_in (s.2.1 21 (ix s.1)) 40) <|
(some (puI s.2 27 (ix (s.2.1 21 (ix s.1))) (-1 : Int32))).bind fun w18 =>
X4_callUp_j195 a1 s.1 w18
else
X4_callUp_j164 a1 s.1 s.2)))
set_option maxRecDepth 20000 in
set_option maxHeartbeats 1000000 in
theorem t_X4_callUp_b122 {κ : Kx} (a1 : Int32) {P : Wd → Prop} (K0 : ∀ e, P e → J κ RX4 cX4_callUp 3 none (rmk 2 44) 201 [(0, .ref (ad (gm κ) 19))] [] e) (s : (Int32 × Wd)) (h : ok (lp (X4_callUp_b122  a1) s) P) : J κ RX4 cX4_callUp 3 none (rmk 2 44) 122 [(0, .ref (ad (gm κ) 19)), (1, .int a1), (2, .int s.1)] [] s.2 := by
  refine lp_ind (fun s => J κ RX4 cX4_callUp 3 none (rmk 2 44) 122 [(0, .ref (ad (gm κ) 19)), (1, .int a1), (2, .int s.1)] [] s.2) (fun s h => ?_) s h
  unfold X4_callUp_b122 at h
  refine j_iload_n 2 dX4_callUp_122 rfl rfl ?_
  refine j_aload_n 0 dX4_callUp_123 rfl rfl ?_
  refine j_getI fl_RX4_49 sh_19 fk_19_0 dX4_callUp_124 ?_
  refine j_ic_ge 201 dX4_callUp_127 (by decide) h (fun h => ?_) (fun h => ?_)
  · refine j_loc [(0, .ref (ad (gm κ) 19))] [0] rfl ?_
    have h := sel_r h
    have h := K0 _ h
    exact h
  · refine j_aload_n 0 dX4_callUp_130 rfl rfl ?_
    refine j_iload_n 2 dX4_callUp_131 rfl rfl ?_
    refine j_iload_n 1 dX4_callUp_132 rfl rfl ?_
    obtain ⟨q13, e14, h⟩ := ok_b h
    refine j_callV (As := [.int s.1, .int a1]) (st := []) [.int q13] (c_X4_tellsOf (kl κ) (gm κ) (kA κ) s.1 a1 s.2 q13 e14) ck_RX4_67 im_X4_tellsOf se_X4_tellsOf sh_19 cx_4 ⟨rfl, rfl⟩ ⟨by decide, by decide⟩ rfl rfl (Nat.le_of_ble_eq_true rfl) dX4_callUp_133 _ rfl ?_
    refine j_if_eq 164 dX4_callUp_136 (by decide) h (fun h => ?_) (fun h => ?_)
    · refine j_loc [(0, .ref (ad (gm κ) 19)), (1, .int a1), (2, .int s.1)] [0, 1, 2] rfl ?_
      exact t_X4_callUp_j164 a1 s.1 s.2 (fun _ h => h) K0 h
    · refine j_aload_n 0 dX4_callUp_139 rfl rfl ?_
      refine j_getA 20 fl_RX4_9 sh_19 fk_19_1 (by decide) dX4_callUp_140 ?_
      refine j_iload_n 2 dX4_callUp_143 rfl rfl ?_
      refine j_iald sh_20 dX4_callUp_144 h (fun h => ?_)
      refine j_iconst (2 : Int32) dX4_callUp_145 ki_2 ?_
      refine j_ic_ne 164 dX4_callUp_146 (by decide) h (fun h => ?_) (fun h => ?_)
      · refine j_loc [(0, .ref (ad (gm κ) 19)), (1, .int a1), (2, .int s.1)] [0, 1, 2] rfl ?_
        exact t_X4_callUp_j164 a1 s.1 s.2 (fun _ h => h) K0 h
      · refine j_aload_n 0 dX4_callUp_149 rfl rfl ?_
        refine j_getA 27 fl_RX4_40 sh_19 fk_19_10 (by decide) dX4_callUp_150 ?_
        refine j_aload_n 0 dX4_callUp_153 rfl rfl ?_
        refine j_getA 21 fl_RX4_15 sh_19 fk_19_2 (by decide) dX4_callUp_154 ?_
        refine j_iload_n 2 dX4_callUp_157 rfl rfl ?_
        refine j_iald sh_21 dX4_callUp_158 h (fun h => ?_)
        refine j_iconst (-1 : Int32) dX4_callUp_159 ki_m1 ?_
        refine j_iast sh_27 dX4_callUp_160 h (fun h => ?_)
        refine j_lW h (fun w18 h => ?_)
        refine j_goto 195 dX4_callUp_161 (by decide) ?_
        refine j_loc [(0, .ref (ad (gm κ) 19)), (1, .int a1), (2, .int s.1)] [0, 1, 2] rfl ?_
        exact t_X4_callUp_j195 a1 s.1 w18 (fun _ h => h) K0 h
noncomputable def X4_callUp (a1 : Int32) (w : Wd) : Option (Wd) :=
(if (w.1 19 8) = a1 then
some w
else
(some (puI w 19 8 a1)).bind fun w1 =>
(J7_fill_53178 26 20 (-1 : Int32) w1).bind fun q2 =>
(J7_fill_53178 27 40 (-1 : Int32) q2).bind fun q4 =>
(lp (X4_callUp_b32 a1) ((0 : Int32), q4)).bind fun e12 =>
(lp (X4_callUp_b122 a1) ((0 : Int32), e12)).bind fun e19 =>
(X4_gatherAtLamps e19).bind fun q20 =>
some q20)
set_option maxRecDepth 20000 in
set_option maxHeartbeats 1000000 in
theorem t_X4_callUp {κ : Kx} (a1 : Int32) (w : Wd) (h : ok (X4_callUp  a1 w) (PVw κ)) : J κ RX4 cX4_callUp 3 none (rmk 2 44) 0 [(0, .ref (ad (gm κ) 19)), (1, .int a1)] [] w := by
  unfold X4_callUp at h
  refine j_aload_n 0 dX4_callUp_0 rfl rfl ?_
  refine j_getI fl_RX4_34 sh_19 fk_19_8 dX4_callUp_1 ?_
  refine j_iload_n 1 dX4_callUp_4 rfl rfl ?_
  refine j_ic_ne 9 dX4_callUp_5 (by decide) h (fun h => ?_) (fun h => ?_)
  · refine j_aload_n 0 dX4_callUp_9 rfl rfl ?_
    refine j_iload_n 1 dX4_callUp_10 rfl rfl ?_
    refine j_putI fp_RX4_34 sh_19 fk_19_8 dX4_callUp_11 ?_
    refine j_lW h (fun w1 h => ?_)
    refine j_aload_n 0 dX4_callUp_14 rfl rfl ?_
    refine j_getA 26 fl_RX4_37 sh_19 fk_19_9 (by decide) dX4_callUp_15 ?_
    refine j_iconst (-1 : Int32) dX4_callUp_18 ki_m1 ?_
    obtain ⟨q2, e3, h⟩ := ok_b h
    refine j_callS (As := [.ref (ad (gm κ) 26), .int (-1 : Int32)]) (st := []) [] (c_J7_fill_53178 (kl κ) (gm κ) (kA κ) 26 20 sh_26 (-1 : Int32) w1 q2 e3) ck_RX4_61 st_J7_fill_53178 ⟨rfl, rfl⟩ ⟨by decide, by decide⟩ rfl rfl (Nat.le_of_ble_eq_true rfl) dX4_callUp_19 _ rfl ?_
    refine j_aload_n 0 dX4_callUp_22 rfl rfl ?_
    refine j_getA 27 fl_RX4_40 sh_19 fk_19_10 (by decide) dX4_callUp_23 ?_
    refine j_iconst (-1 : Int32) dX4_callUp_26 ki_m1 ?_
    obtain ⟨q4, e5, h⟩ := ok_b h
    refine j_callS (As := [.ref (ad (gm κ) 27), .int (-1 : Int32)]) (st := []) [] (c_J7_fill_53178 (kl κ) (gm κ) (kA κ) 27 40 sh_27 (-1 : Int32) q2 q4 e5) ck_RX4_61 st_J7_fill_53178 ⟨rfl, rfl⟩ ⟨by decide, by decide⟩ rfl rfl (Nat.le_of_ble_eq_true rfl) dX4_callUp_27 _ rfl ?_
    refine j_iconst (0 : Int32) dX4_callUp_30 ki_0 ?_
    refine j_istore_n [(2, .int (0 : Int32)), (0, .ref (ad (gm κ) 19)), (1, .int a1)] dX4_callUp_31 rfl (by decide) rfl ?_
    refine j_loc [(0, .ref (ad (gm κ) 19)), (1, .int a1), (2, .int (0 : Int32))] [1, 2, 0] rfl ?_
    refine t_X4_callUp_b32 a1 (fun e12 h => ?_) ((0 : Int32), q4) (ok_bb h)
    · refine j_iconst (0 : Int32) dX4_callUp_120 ki_0 ?_
      refine j_istore_n [(2, .int (0 : Int32)), (0, .ref (ad (gm κ) 19)), (1, .int a1)] dX4_callUp_121 rfl (by decide) rfl ?_
      refine j_loc [(0, .ref (ad (gm κ) 19)), (1, .int a1), (2, .int (0 : Int32))] [1, 2, 0] rfl ?_
      refine t_X4_callUp_b122 a1 (fun e19 h => ?_) ((0 : Int32), e12) (ok_bb h)
      · refine j_aload_n 0 dX4_callUp_201 rfl rfl ?_
        obtain ⟨q20, e21, h⟩ := ok_b h
        refine j_callV (As := []) (st := []) [] (c_X4_gatherAtLamps (kl κ) (gm κ) (kA κ) e19 q20 e21) ck_RX4_71 im_X4_gatherAtLamps se_X4_gatherAtLamps sh_19 cx_4 ⟨rfl, rfl⟩ ⟨by decide, by decide⟩ rfl rfl (Nat.le_of_ble_eq_true rfl) dX4_callUp_202 _ rfl ?_
        have h := ok_s h
        exact j_vret dX4_callUp_205 rfl h
  · have h := ok_s h
    exact j_vret dX4_callUp_8 rfl h
theorem c_X4_callUp (l : Launch) (γ : Gm) (A : Nat → Prop) (a1 : Int32) (w : Wd) (q : Wd) (e : X4_callUp  a1 w = some q) : MetG l γ A yX4_callUp cX4_callUp 3 none (rmk 2 44) [.ref (ad (γ) 19), .int a1] w none q := by
  refine met_of pn_RX4 (Nat.le_of_ble_eq_true rfl) ?_
  intro κ hl hγ hA hρ
  subst hl; subst hγ; subst hA
  exact t_X4_callUp   a1 w ⟨q, e, pVw hρ rfl rfl⟩
theorem dX5_isProof_0 : decode cX5_isProof 0 = .ok (.iload_n 1, 1) := by decide +kernel
theorem dX5_isProof_1 : decode cX5_isProof 1 = .ok (.iconst 0, 1) := by decide +kernel
theorem dX5_isProof_2 : decode cX5_isProof 2 = .ok (.aload_n 0, 1) := by decide +kernel
theorem dX5_isProof_3 : decode cX5_isProof 3 = .ok (.getfield 34, 3) := by decide +kernel
theorem dX5_isProof_6 : decode cX5_isProof 6 = .ok (.iconst 1, 1) := by decide +kernel
theorem dX5_isProof_7 : decode cX5_isProof 7 = .ok (.isub, 1) := by decide +kernel
theorem dX5_isProof_8 : decode cX5_isProof 8 = .ok (.invokestatic 38, 3) := by decide +kernel
theorem dX5_isProof_11 : decode cX5_isProof 11 = .ok (.ireturn, 1) := by decide +kernel
noncomputable def X5_isProofO (a1 : Int32) (w : Wd) : Option (Int32) :=
some (X11_within a1 (0 : Int32) ((w.1 80 0) - (1 : Int32)) w)
set_option maxRecDepth 20000 in
set_option maxHeartbeats 1000000 in
theorem t_X5_isProof {κ : Kx} (a1 : Int32) (w : Wd) (h : ok (X5_isProofO  a1 w) (PI κ w)) : J κ RX5 cX5_isProof 2 (some .boolean) (rmk 1 22) 0 [(0, .ref (ad (gm κ) 80)), (1, .int a1)] [] w := by
  unfold X5_isProofO at h
  refine j_iload_n 1 dX5_isProof_0 rfl rfl ?_
  refine j_iconst (0 : Int32) dX5_isProof_1 ki_0 ?_
  refine j_aload_n 0 dX5_isProof_2 rfl rfl ?_
  refine j_getI fl_RX5_34 sh_80 fk_80_0 dX5_isProof_3 ?_
  refine j_iconst (1 : Int32) dX5_isProof_6 ki_1 ?_
  refine j_isub dX5_isProof_7 ?_
  refine j_callS (As := [.int a1, .int (0 : Int32), .int ((w.1 80 0) - (1 : Int32))]) (st := []) [.int (X11_within a1 (0 : Int32) ((w.1 80 0) - (1 : Int32)) w)] (c_X11_within (kl κ) (gm κ) (kA κ) a1 (0 : Int32) ((w.1 80 0) - (1 : Int32)) w) ck_RX5_38 st_X11_within ⟨rfl, rfl⟩ ⟨by decide, by decide⟩ rfl rfl (Nat.le_of_ble_eq_true rfl) dX5_isProof_8 _ rfl ?_
  have h := ok_s h
  exact j_iret dX5_isProof_11 rfl (nz_X11_within _ _ _ _) h
noncomputable def X5_isProof (a1 : Int32) (w : Wd) : Int32 := (X5_isProofO  a1 w).getD 0
theorem X5_isProof_eq (a1 : Int32) (w : Wd) : X5_isProofO  a1 w = some (X5_isProof  a1 w) := by
  unfold X5_isProof X5_isProofO
  repeat (first | rfl | split)
theorem nz_X5_isProof (a1 : Int32) (w : Wd) : narrow .boolean (.int (X5_isProof  a1 w)) = .int (X5_isProof  a1 w) := by
  unfold X5_isProof X5_isProofO
  repeat (first | rfl | split | exact nz_X11_within _ _ _ _)
theorem c_X5_isProof (l : Launch) (γ : Gm) (A : Nat → Prop) (a1 : Int32) (w : Wd) : MetG l γ A yX5_isProof cX5_isProof 2 (some .boolean) (rmk 1 22) [.ref (ad (γ) 80), .int a1] w (some (.int (X5_isProof  a1 w))) w := by
  refine met_of pn_RX5 (Nat.le_of_ble_eq_true rfl) ?_
  intro κ hl hγ hA hρ
  subst hl; subst hγ; subst hA
  exact t_X5_isProof   a1 w ⟨_, X5_isProof_eq  a1 w, pI hρ rfl rfl⟩
theorem dX5_lengthOf_0 : decode cX5_lengthOf 0 = .ok (.lload_n 0, 1) := by decide +kernel
theorem dX5_lengthOf_1 : decode cX5_lengthOf 1 = .ok (.lstore_n 2, 1) := by decide +kernel
theorem dX5_lengthOf_2 : decode cX5_lengthOf 2 = .ok (.iconst 0, 1) := by decide +kernel
theorem dX5_lengthOf_3 : decode cX5_lengthOf 3 = .ok (.istore 4, 2) := by decide +kernel
theorem dX5_lengthOf_5 : decode cX5_lengthOf 5 = .ok (.iload 4, 2) := by decide +kernel
theorem dX5_lengthOf_7 : decode cX5_lengthOf 7 = .ok (.bipush 8, 2) := by decide +kernel
theorem dX5_lengthOf_9 : decode cX5_lengthOf 9 = .ok (.if_icmp .ge 43, 3) := by decide +kernel
theorem dX5_lengthOf_12 : decode cX5_lengthOf 12 = .ok (.lload_n 2, 1) := by decide +kernel
theorem dX5_lengthOf_13 : decode cX5_lengthOf 13 = .ok (.lconst 0, 1) := by decide +kernel
theorem dX5_lengthOf_14 : decode cX5_lengthOf 14 = .ok (.lcmp, 1) := by decide +kernel
theorem dX5_lengthOf_15 : decode cX5_lengthOf 15 = .ok (.ifCond .le 37, 3) := by decide +kernel
theorem dX5_lengthOf_18 : decode cX5_lengthOf 18 = .ok (.lload_n 2, 1) := by decide +kernel
theorem dX5_lengthOf_19 : decode cX5_lengthOf 19 = .ok (.ldc2_w 42, 3) := by decide +kernel
theorem dX5_lengthOf_22 : decode cX5_lengthOf 22 = .ok (.land, 1) := by decide +kernel
theorem dX5_lengthOf_23 : decode cX5_lengthOf 23 = .ok (.lconst 1, 1) := by decide +kernel
theorem dX5_lengthOf_24 : decode cX5_lengthOf 24 = .ok (.lcmp, 1) := by decide +kernel
theorem dX5_lengthOf_25 : decode cX5_lengthOf 25 = .ok (.ifCond .lt 15, 3) := by decide +kernel
theorem dX5_lengthOf_28 : decode cX5_lengthOf 28 = .ok (.lload_n 2, 1) := by decide +kernel
theorem dX5_lengthOf_29 : decode cX5_lengthOf 29 = .ok (.ldc2_w 42, 3) := by decide +kernel
theorem dX5_lengthOf_32 : decode cX5_lengthOf 32 = .ok (.land, 1) := by decide +kernel
theorem dX5_lengthOf_33 : decode cX5_lengthOf 33 = .ok (.ldc2_w 44, 3) := by decide +kernel
theorem dX5_lengthOf_36 : decode cX5_lengthOf 36 = .ok (.lcmp, 1) := by decide +kernel
theorem dX5_lengthOf_37 : decode cX5_lengthOf 37 = .ok (.ifCond .le 5, 3) := by decide +kernel
theorem dX5_lengthOf_40 : decode cX5_lengthOf 40 = .ok (.iconst 0, 1) := by decide +kernel
theorem dX5_lengthOf_41 : decode cX5_lengthOf 41 = .ok (.ireturn, 1) := by decide +kernel
theorem dX5_lengthOf_42 : decode cX5_lengthOf 42 = .ok (.lload_n 2, 1) := by decide +kernel
theorem dX5_lengthOf_43 : decode cX5_lengthOf 43 = .ok (.iconst 5, 1) := by decide +kernel
theorem dX5_lengthOf_44 : decode cX5_lengthOf 44 = .ok (.lshr, 1) := by decide +kernel
theorem dX5_lengthOf_45 : decode cX5_lengthOf 45 = .ok (.lstore_n 2, 1) := by decide +kernel
theorem dX5_lengthOf_46 : decode cX5_lengthOf 46 = .ok (.iinc 4 1, 3) := by decide +kernel
theorem dX5_lengthOf_49 : decode cX5_lengthOf 49 = .ok (.goto (-44), 3) := by decide +kernel
theorem dX5_lengthOf_52 : decode cX5_lengthOf 52 = .ok (.lload_n 2, 1) := by decide +kernel
theorem dX5_lengthOf_53 : decode cX5_lengthOf 53 = .ok (.lconst 0, 1) := by decide +kernel
theorem dX5_lengthOf_54 : decode cX5_lengthOf 54 = .ok (.lcmp, 1) := by decide +kernel
theorem dX5_lengthOf_55 : decode cX5_lengthOf 55 = .ok (.ifCond .ne 8, 3) := by decide +kernel
theorem dX5_lengthOf_58 : decode cX5_lengthOf 58 = .ok (.iload 4, 2) := by decide +kernel
theorem dX5_lengthOf_60 : decode cX5_lengthOf 60 = .ok (.goto 4, 3) := by decide +kernel
theorem dX5_lengthOf_63 : decode cX5_lengthOf 63 = .ok (.iconst 0, 1) := by decide +kernel
theorem dX5_lengthOf_64 : decode cX5_lengthOf 64 = .ok (.ireturn, 1) := by decide +kernel
noncomputable def X5_lengthOf_b5 (w : Wd) (s : (Int64 × Int32)) : Option ((Int64 × Int32) ⊕ (Unit ⊕ (Int64 × Int32))) :=
(if (8 : Int32) ≤ s.2 then
some (.inr (.inr (s.1, s.2)))
else
(if (lg_cmp s.1 (0 : Int64)) ≤ 0 then
some (.inr (.inr (s.1, s.2)))
else
(if (lg_cmp (s.1 &&& (31 : Int64)) (1 : Int64)) < 0 then
some (.inr (.inl ()))
else
(if (lg_cmp (s.1 &&& (31 : Int64)) (26 : Int64)) ≤ 0 then
(some (s.1 >>> (Int32.toInt64 (5 : Int32) &&& 63))).bind fun z1 =>
some (.inl (z1, (s.2 + (1 : Int32))))
else
some (.inr (.inl ()))))))
set_option maxRecDepth 20000 in
set_option maxHeartbeats 1000000 in
theorem t_X5_lengthOf_b5 {κ : Kx} (w : Wd) {P : (Unit ⊕ (Int64 × Int32)) → Prop} (K0 : ∀ e, P (.inl e) → J κ RX5 cX5_lengthOf 5 (some .int) (rmk 0 0) 40 [] [] w) (K1 : ∀ e, P (.inr e) → J κ RX5 cX5_lengthOf 5 (some .int) (rmk 0 0) 52 [(2, .long e.1), (4, .int e.2)] [] w) (s : (Int64 × Int32)) (h : ok (lp (X5_lengthOf_b5  w) s) P) : J κ RX5 cX5_lengthOf 5 (some .int) (rmk 0 0) 5 [(2, .long s.1), (4, .int s.2)] [] w := by
  refine lp_ind (fun s => J κ RX5 cX5_lengthOf 5 (some .int) (rmk 0 0) 5 [(2, .long s.1), (4, .int s.2)] [] w) (fun s h => ?_) s h
  unfold X5_lengthOf_b5 at h
  refine j_iload 1 dX5_lengthOf_5 rfl ?_
  refine j_bipush (8 : Int32) dX5_lengthOf_7 kb_8 ?_
  refine j_ic_ge 52 dX5_lengthOf_9 (by decide) h (fun h => ?_) (fun h => ?_)
  · refine j_loc [(2, .long s.1), (4, .int s.2)] [0, 1] rfl ?_
    have h := sel_r h
    have h := K1 _ h
    exact h
  · refine j_lload_n 0 dX5_lengthOf_12 rfl rfl ?_
    refine j_lconst (0 : Int64) dX5_lengthOf_13 (by decide) ?_
    refine j_lcmp dX5_lengthOf_14 ?_
    refine j_if_le 52 dX5_lengthOf_15 (by decide) h (fun h => ?_) (fun h => ?_)
    · refine j_loc [(2, .long s.1), (4, .int s.2)] [0, 1] rfl ?_
      have h := sel_r h
      have h := K1 _ h
      exact h
    · refine j_lload_n 0 dX5_lengthOf_18 rfl rfl ?_
      refine j_ldc2 cl_RX5_42 dX5_lengthOf_19 ?_
      refine j_land dX5_lengthOf_22 ?_
      refine j_lconst (1 : Int64) dX5_lengthOf_23 (by decide) ?_
      refine j_lcmp dX5_lengthOf_24 ?_
      refine j_if_lt 40 dX5_lengthOf_25 (by decide) h (fun h => ?_) (fun h => ?_)
      · refine j_loc [] [] rfl ?_
        have h := sel_r h
        have h := K0 _ h
        exact h
      · refine j_lload_n 0 dX5_lengthOf_28 rfl rfl ?_
        refine j_ldc2 cl_RX5_42 dX5_lengthOf_29 ?_
        refine j_land dX5_lengthOf_32 ?_
        refine j_ldc2 cl_RX5_44 dX5_lengthOf_33 ?_
        refine j_lcmp dX5_lengthOf_36 ?_
        refine j_if_le 42 dX5_lengthOf_37 (by decide) h (fun h => ?_) (fun h => ?_)
        · refine j_lload_n 0 dX5_lengthOf_42 rfl rfl ?_
          refine j_iconst (5 : Int32) dX5_lengthOf_43 ki_5 ?_
          refine j_lshr dX5_lengthOf_44 ?_
          refine j_lJ h (fun z1 h => ?_)
          refine j_lstore_n [(2, .long z1), (4, .int s.2)] dX5_lengthOf_45 rfl (by decide) rfl ?_
          refine j_iinc (s.2 + (1 : Int32)) 1 [(4, .int (s.2 + (1 : Int32))), (2, .long z1)] dX5_lengthOf_46 rfl (by rw [kn_1]) (by decide) rfl ?_
          refine j_goto 5 dX5_lengthOf_49 (by decide) ?_
          refine j_loc [(2, .long z1), (4, .int (s.2 + (1 : Int32)))] [1, 0] rfl ?_
          have h := sel_l h
          exact h
        · refine j_loc [] [] rfl ?_
          have h := sel_r h
          have h := K0 _ h
          exact h
noncomputable def X5_lengthOf (a0 : Int64) (w : Wd) : Option (Int32) :=
(lp (X5_lengthOf_b5 w) (a0, (0 : Int32))).bind fun e2 => match e2 with
| (.inl e3) => (some (0 : Int32))
| (.inr e4) => ((if (lg_cmp e4.1 (0 : Int64)) = 0 then
some e4.2
else
some (0 : Int32)))
set_option maxRecDepth 20000 in
set_option maxHeartbeats 1000000 in
theorem t_X5_lengthOf {κ : Kx} (a0 : Int64) (w : Wd) (h : ok (X5_lengthOf  a0 w) (PI κ w)) : J κ RX5 cX5_lengthOf 5 (some .int) (rmk 0 0) 0 [(0, .long a0)] [] w := by
  unfold X5_lengthOf at h
  refine j_lload_n 0 dX5_lengthOf_0 rfl rfl ?_
  refine j_lstore_n [(2, .long a0), (0, .long a0)] dX5_lengthOf_1 rfl (by decide) rfl ?_
  refine j_iconst (0 : Int32) dX5_lengthOf_2 ki_0 ?_
  refine j_istore [(4, .int (0 : Int32)), (2, .long a0), (0, .long a0)] dX5_lengthOf_3 (by decide) rfl ?_
  refine j_loc [(2, .long a0), (4, .int (0 : Int32))] [1, 0] rfl ?_
  refine t_X5_lengthOf_b5 w (fun e3 h => ?_) (fun e4 h => ?_) (a0, (0 : Int32)) (ok_bb h)
  · refine j_iconst (0 : Int32) dX5_lengthOf_40 ki_0 ?_
    have h := ok_s h
    exact j_iret dX5_lengthOf_41 rfl rfl h
  · refine j_lload_n 0 dX5_lengthOf_52 rfl rfl ?_
    refine j_lconst (0 : Int64) dX5_lengthOf_53 (by decide) ?_
    refine j_lcmp dX5_lengthOf_54 ?_
    refine j_if_ne 63 dX5_lengthOf_55 (by decide) h (fun h => ?_) (fun h => ?_)
    · refine j_iconst (0 : Int32) dX5_lengthOf_63 ki_0 ?_
      have h := ok_s h
      exact j_iret dX5_lengthOf_64 rfl rfl h
    · refine j_iload 1 dX5_lengthOf_58 rfl ?_
      refine j_goto 64 dX5_lengthOf_60 (by decide) ?_
      have h := ok_s h
      exact j_iret dX5_lengthOf_64 rfl rfl h
theorem c_X5_lengthOf (l : Launch) (γ : Gm) (A : Nat → Prop) (a0 : Int64) (w : Wd) (q : Int32) (e : X5_lengthOf  a0 w = some q) : MetG l γ A yX5_lengthOf cX5_lengthOf 5 (some .int) (rmk 0 0) [.long a0] w (some (.int q)) w := by
  refine met_of pn_RX5 (Nat.le_of_ble_eq_true rfl) ?_
  intro κ hl hγ hA hρ
  subst hl; subst hγ; subst hA
  exact t_X5_lengthOf   a0 w ⟨q, e, pI hρ rfl rfl⟩
theorem dX5_spell_0 : decode cX5_spell 0 = .ok (.lload_n 0, 1) := by decide +kernel
theorem dX5_spell_1 : decode cX5_spell 1 = .ok (.invokestatic 46, 3) := by decide +kernel
theorem dX5_spell_4 : decode cX5_spell 4 = .ok (.istore_n 3, 1) := by decide +kernel
theorem dX5_spell_5 : decode cX5_spell 5 = .ok (.lload_n 0, 1) := by decide +kernel
theorem dX5_spell_6 : decode cX5_spell 6 = .ok (.lstore 4, 2) := by decide +kernel
theorem dX5_spell_8 : decode cX5_spell 8 = .ok (.iload_n 3, 1) := by decide +kernel
theorem dX5_spell_9 : decode cX5_spell 9 = .ok (.iconst 1, 1) := by decide +kernel
theorem dX5_spell_10 : decode cX5_spell 10 = .ok (.isub, 1) := by decide +kernel
theorem dX5_spell_11 : decode cX5_spell 11 = .ok (.istore 6, 2) := by decide +kernel
theorem dX5_spell_13 : decode cX5_spell 13 = .ok (.iload 6, 2) := by decide +kernel
theorem dX5_spell_15 : decode cX5_spell 15 = .ok (.ifCond .lt 28, 3) := by decide +kernel
theorem dX5_spell_18 : decode cX5_spell 18 = .ok (.aload_n 2, 1) := by decide +kernel
theorem dX5_spell_19 : decode cX5_spell 19 = .ok (.iload 6, 2) := by decide +kernel
theorem dX5_spell_21 : decode cX5_spell 21 = .ok (.lload 4, 2) := by decide +kernel
theorem dX5_spell_23 : decode cX5_spell 23 = .ok (.ldc2_w 42, 3) := by decide +kernel
theorem dX5_spell_26 : decode cX5_spell 26 = .ok (.land, 1) := by decide +kernel
theorem dX5_spell_27 : decode cX5_spell 27 = .ok (.l2i, 1) := by decide +kernel
theorem dX5_spell_28 : decode cX5_spell 28 = .ok (.iconst 1, 1) := by decide +kernel
theorem dX5_spell_29 : decode cX5_spell 29 = .ok (.isub, 1) := by decide +kernel
theorem dX5_spell_30 : decode cX5_spell 30 = .ok (.iastore, 1) := by decide +kernel
theorem dX5_spell_31 : decode cX5_spell 31 = .ok (.lload 4, 2) := by decide +kernel
theorem dX5_spell_33 : decode cX5_spell 33 = .ok (.iconst 5, 1) := by decide +kernel
theorem dX5_spell_34 : decode cX5_spell 34 = .ok (.lshr, 1) := by decide +kernel
theorem dX5_spell_35 : decode cX5_spell 35 = .ok (.lstore 4, 2) := by decide +kernel
theorem dX5_spell_37 : decode cX5_spell 37 = .ok (.iinc 6 (-1), 3) := by decide +kernel
theorem dX5_spell_40 : decode cX5_spell 40 = .ok (.goto (-27), 3) := by decide +kernel
theorem dX5_spell_43 : decode cX5_spell 43 = .ok (.iload_n 3, 1) := by decide +kernel
theorem dX5_spell_44 : decode cX5_spell 44 = .ok (.ireturn, 1) := by decide +kernel
noncomputable def X5_spell_b13 (kv : Nat) (nv : Nat) (a3 : Int32) (s : (Int64 × Int32 × Wd)) : Option ((Int64 × Int32 × Wd) ⊕ Wd) :=
(if s.2.1 < 0 then
some (.inr s.2.2)
else
gd (vp_in s.2.1 nv) <|
(some (puI s.2.2 kv (ix s.2.1) ((Int64.toInt32 (s.1 &&& (31 : Int64))) - (1 : Int32)))).bind fun w3 =>
(some (s.1 >>> (Int32.toInt64 (5 : Int32) &&& 63))).bind fun z4 =>
some (.inl (z4, (s.2.1 + (-1 : Int32)), w3)))
set_option maxRecDepth 20000 in
set_option maxHeartbeats 1000000 in
theorem t_X5_spell_b13 {κ : Kx} (kv : Nat) (nv : Nat) (hkv : sh kv = (0, nv)) (a3 : Int32) {P : Wd → Prop} (K0 : ∀ e, P e → J κ RX5 cX5_spell 7 (some .int) (rmk 1 24) 43 [(3, .int a3)] [] e) (s : (Int64 × Int32 × Wd)) (h : ok (lp (X5_spell_b13 kv nv a3) s) P) : J κ RX5 cX5_spell 7 (some .int) (rmk 1 24) 13 [(2, .ref (ad (gm κ) kv)), (3, .int a3), (4, .long s.1), (6, .int s.2.1)] [] s.2.2 := by
  refine lp_ind (fun s => J κ RX5 cX5_spell 7 (some .int) (rmk 1 24) 13 [(2, .ref (ad (gm κ) kv)), (3, .int a3), (4, .long s.1), (6, .int s.2.1)] [] s.2.2) (fun s h => ?_) s h
  unfold X5_spell_b13 at h
  refine j_iload 3 dX5_spell_13 rfl ?_
  refine j_if_lt 43 dX5_spell_15 (by decide) h (fun h => ?_) (fun h => ?_)
  · refine j_loc [(3, .int a3)] [1] rfl ?_
    have h := sel_r h
    have h := K0 _ h
    exact h
  · refine j_aload_n 0 dX5_spell_18 rfl rfl ?_
    refine j_iload 3 dX5_spell_19 rfl ?_
    refine j_lload 2 dX5_spell_21 rfl ?_
    refine j_ldc2 cl_RX5_42 dX5_spell_23 ?_
    refine j_land dX5_spell_26 ?_
    refine j_l2i dX5_spell_27 ?_
    refine j_iconst (1 : Int32) dX5_spell_28 ki_1 ?_
    refine j_isub dX5_spell_29 ?_
    refine j_iast hkv dX5_spell_30 h (fun h => ?_)
    refine j_lW h (fun w3 h => ?_)
    refine j_lload 2 dX5_spell_31 rfl ?_
    refine j_iconst (5 : Int32) dX5_spell_33 ki_5 ?_
    refine j_lshr dX5_spell_34 ?_
    refine j_lJ h (fun z4 h => ?_)
    refine j_lstore [(4, .long z4), (2, .ref (ad (gm κ) kv)), (3, .int a3), (6, .int s.2.1)] dX5_spell_35 (by decide) rfl ?_
    refine j_iinc (s.2.1 + (-1 : Int32)) 3 [(6, .int (s.2.1 + (-1 : Int32))), (4, .long z4), (2, .ref (ad (gm κ) kv)), (3, .int a3)] dX5_spell_37 rfl (by rw [kn_m1]) (by decide) rfl ?_
    refine j_goto 13 dX5_spell_40 (by decide) ?_
    refine j_loc [(2, .ref (ad (gm κ) kv)), (3, .int a3), (4, .long z4), (6, .int (s.2.1 + (-1 : Int32)))] [2, 3, 1, 0] rfl ?_
    have h := sel_l h
    exact h
noncomputable def X5_spell (kv : Nat) (nv : Nat) (a0 : Int64) (w : Wd) : Option (Int32 × Wd) :=
(X5_lengthOf a0 w).bind fun q1 =>
(lp (X5_spell_b13 kv nv q1) (a0, (q1 - (1 : Int32)), w)).bind fun e5 =>
some (q1, e5)
set_option maxRecDepth 20000 in
set_option maxHeartbeats 1000000 in
theorem t_X5_spell {κ : Kx} (kv : Nat) (nv : Nat) (hkv : sh kv = (0, nv)) (a0 : Int64) (w : Wd) (h : ok (X5_spell kv nv a0 w) (PIw κ)) : J κ RX5 cX5_spell 7 (some .int) (rmk 1 24) 0 [(0, .long a0), (2, .ref (ad (gm κ) kv))] [] w := by
  unfold X5_spell at h
  refine j_lload_n 0 dX5_spell_0 rfl rfl ?_
  obtain ⟨q1, e2, h⟩ := ok_b h
  refine j_callS (As := [.long a0]) (st := []) [.int q1] (c_X5_lengthOf (kl κ) (gm κ) (kA κ) a0 w q1 e2) ck_RX5_46 st_X5_lengthOf ⟨rfl, rfl⟩ ⟨by decide, by decide⟩ rfl rfl (Nat.le_of_ble_eq_true rfl) dX5_spell_1 _ rfl ?_
  refine j_istore_n [(3, .int q1), (0, .long a0), (2, .ref (ad (gm κ) kv))] dX5_spell_4 rfl (by decide) rfl ?_
  refine j_lload_n 1 dX5_spell_5 rfl rfl ?_
  refine j_lstore [(4, .long a0), (3, .int q1), (0, .long a0), (2, .ref (ad (gm κ) kv))] dX5_spell_6 (by decide) rfl ?_
  refine j_iload_n 1 dX5_spell_8 rfl rfl ?_
  refine j_iconst (1 : Int32) dX5_spell_9 ki_1 ?_
  refine j_isub dX5_spell_10 ?_
  refine j_istore [(6, .int (q1 - (1 : Int32))), (4, .long a0), (3, .int q1), (0, .long a0), (2, .ref (ad (gm κ) kv))] dX5_spell_11 (by decide) rfl ?_
  refine j_loc [(2, .ref (ad (gm κ) kv)), (3, .int q1), (4, .long a0), (6, .int (q1 - (1 : Int32)))] [4, 2, 1, 0] rfl ?_
  refine t_X5_spell_b13 kv nv hkv q1 (fun e5 h => ?_) (a0, (q1 - (1 : Int32)), w) (ok_bb h)
  · refine j_iload_n 0 dX5_spell_43 rfl rfl ?_
    have h := ok_s h
    exact j_iret dX5_spell_44 rfl rfl h
theorem c_X5_spell (l : Launch) (γ : Gm) (A : Nat → Prop) (kv : Nat) (nv : Nat) (hkv : sh kv = (0, nv)) (a0 : Int64) (w : Wd) (q : Int32 × Wd) (e : X5_spell kv nv a0 w = some q) : MetG l γ A yX5_spell cX5_spell 7 (some .int) (rmk 1 24) [.long a0, .ref (ad (γ) kv)] w (some (.int q.1)) q.2 := by
  refine met_of pn_RX5 (Nat.le_of_ble_eq_true rfl) ?_
  intro κ hl hγ hA hρ
  subst hl; subst hγ; subst hA
  exact t_X5_spell kv nv hkv a0 w ⟨q, e, pIw hρ rfl rfl⟩
theorem dX5_slipOf_0 : decode cX5_slipOf 0 = .ok (.aload_n 0, 1) := by decide +kernel
theorem dX5_slipOf_1 : decode cX5_slipOf 1 = .ok (.getfield 25, 3) := by decide +kernel
theorem dX5_slipOf_4 : decode cX5_slipOf 4 = .ok (.iload_n 1, 1) := by decide +kernel
theorem dX5_slipOf_5 : decode cX5_slipOf 5 = .ok (.iaload, 1) := by decide +kernel
theorem dX5_slipOf_6 : decode cX5_slipOf 6 = .ok (.aload_n 0, 1) := by decide +kernel
theorem dX5_slipOf_7 : decode cX5_slipOf 7 = .ok (.getfield 28, 3) := by decide +kernel
theorem dX5_slipOf_10 : decode cX5_slipOf 10 = .ok (.iload_n 2, 1) := by decide +kernel
theorem dX5_slipOf_11 : decode cX5_slipOf 11 = .ok (.iaload, 1) := by decide +kernel
theorem dX5_slipOf_12 : decode cX5_slipOf 12 = .ok (.if_icmp .ne 7, 3) := by decide +kernel
theorem dX5_slipOf_15 : decode cX5_slipOf 15 = .ok (.iconst 0, 1) := by decide +kernel
theorem dX5_slipOf_16 : decode cX5_slipOf 16 = .ok (.goto 4, 3) := by decide +kernel
theorem dX5_slipOf_19 : decode cX5_slipOf 19 = .ok (.iconst 1, 1) := by decide +kernel
theorem dX5_slipOf_20 : decode cX5_slipOf 20 = .ok (.ireturn, 1) := by decide +kernel
noncomputable def X5_slipOf (a1 : Int32) (a2 : Int32) (w : Wd) : Option (Int32) :=
gd (vp_in a1 8) <|
gd (vp_in a2 8) <|
(if (w.1 85 (ix a1)) = (w.1 86 (ix a2)) then
some (0 : Int32)
else
some (1 : Int32))
set_option maxRecDepth 20000 in
set_option maxHeartbeats 1000000 in
theorem t_X5_slipOf {κ : Kx} (a1 : Int32) (a2 : Int32) (w : Wd) (h : ok (X5_slipOf  a1 a2 w) (PI κ w)) : J κ RX5 cX5_slipOf 3 (some .int) (rmk 0 0) 0 [(0, .ref (ad (gm κ) 80)), (1, .int a1), (2, .int a2)] [] w := by
  unfold X5_slipOf at h
  refine j_aload_n 0 dX5_slipOf_0 rfl rfl ?_
  refine j_getA 85 fl_RX5_25 sh_80 fk_80_5 (by decide) dX5_slipOf_1 ?_
  refine j_iload_n 1 dX5_slipOf_4 rfl rfl ?_
  refine j_iald sh_85 dX5_slipOf_5 h (fun h => ?_)
  refine j_aload_n 0 dX5_slipOf_6 rfl rfl ?_
  refine j_getA 86 fl_RX5_28 sh_80 fk_80_6 (by decide) dX5_slipOf_7 ?_
  refine j_iload_n 2 dX5_slipOf_10 rfl rfl ?_
  refine j_iald sh_86 dX5_slipOf_11 h (fun h => ?_)
  refine j_ic_ne 19 dX5_slipOf_12 (by decide) h (fun h => ?_) (fun h => ?_)
  · refine j_iconst (1 : Int32) dX5_slipOf_19 ki_1 ?_
    have h := ok_s h
    exact j_iret dX5_slipOf_20 rfl rfl h
  · refine j_iconst (0 : Int32) dX5_slipOf_15 ki_0 ?_
    refine j_goto 20 dX5_slipOf_16 (by decide) ?_
    have h := ok_s h
    exact j_iret dX5_slipOf_20 rfl rfl h
theorem c_X5_slipOf (l : Launch) (γ : Gm) (A : Nat → Prop) (a1 : Int32) (a2 : Int32) (w : Wd) (q : Int32) (e : X5_slipOf  a1 a2 w = some q) : MetG l γ A yX5_slipOf cX5_slipOf 3 (some .int) (rmk 0 0) [.ref (ad (γ) 80), .int a1, .int a2] w (some (.int q)) w := by
  refine met_of pn_RX5 (Nat.le_of_ble_eq_true rfl) ?_
  intro κ hl hγ hA hρ
  subst hl; subst hγ; subst hA
  exact t_X5_slipOf   a1 a2 w ⟨q, e, pI hρ rfl rfl⟩
theorem dX5_fewestAt_0 : decode cX5_fewestAt 0 = .ok (.aload_n 0, 1) := by decide +kernel
theorem dX5_fewestAt_1 : decode cX5_fewestAt 1 = .ok (.getfield 31, 3) := by decide +kernel
theorem dX5_fewestAt_4 : decode cX5_fewestAt 4 = .ok (.iload_n 1, 1) := by decide +kernel
theorem dX5_fewestAt_5 : decode cX5_fewestAt 5 = .ok (.bipush 9, 2) := by decide +kernel
theorem dX5_fewestAt_7 : decode cX5_fewestAt 7 = .ok (.imul, 1) := by decide +kernel
theorem dX5_fewestAt_8 : decode cX5_fewestAt 8 = .ok (.iload_n 2, 1) := by decide +kernel
theorem dX5_fewestAt_9 : decode cX5_fewestAt 9 = .ok (.iadd, 1) := by decide +kernel
theorem dX5_fewestAt_10 : decode cX5_fewestAt 10 = .ok (.iaload, 1) := by decide +kernel
theorem dX5_fewestAt_11 : decode cX5_fewestAt 11 = .ok (.ireturn, 1) := by decide +kernel
noncomputable def X5_fewestAt (a1 : Int32) (a2 : Int32) (w : Wd) : Option (Int32) :=
gd (vp_in ((a1 * (9 : Int32)) + a2) 81) <|
some (w.1 87 (ix ((a1 * (9 : Int32)) + a2)))
set_option maxRecDepth 20000 in
set_option maxHeartbeats 1000000 in
theorem t_X5_fewestAt {κ : Kx} (a1 : Int32) (a2 : Int32) (w : Wd) (h : ok (X5_fewestAt  a1 a2 w) (PI κ w)) : J κ RX5 cX5_fewestAt 3 (some .int) (rmk 0 0) 0 [(0, .ref (ad (gm κ) 80)), (1, .int a1), (2, .int a2)] [] w := by
  unfold X5_fewestAt at h
  refine j_aload_n 0 dX5_fewestAt_0 rfl rfl ?_
  refine j_getA 87 fl_RX5_31 sh_80 fk_80_7 (by decide) dX5_fewestAt_1 ?_
  refine j_iload_n 1 dX5_fewestAt_4 rfl rfl ?_
  refine j_bipush (9 : Int32) dX5_fewestAt_5 kb_9 ?_
  refine j_imul dX5_fewestAt_7 ?_
  refine j_iload_n 2 dX5_fewestAt_8 rfl rfl ?_
  refine j_iadd dX5_fewestAt_9 ?_
  refine j_iald sh_87 dX5_fewestAt_10 h (fun h => ?_)
  have h := ok_s h
  exact j_iret dX5_fewestAt_11 rfl rfl h
theorem c_X5_fewestAt (l : Launch) (γ : Gm) (A : Nat → Prop) (a1 : Int32) (a2 : Int32) (w : Wd) (q : Int32) (e : X5_fewestAt  a1 a2 w = some q) : MetG l γ A yX5_fewestAt cX5_fewestAt 3 (some .int) (rmk 0 0) [.ref (ad (γ) 80), .int a1, .int a2] w (some (.int q)) w := by
  refine met_of pn_RX5 (Nat.le_of_ble_eq_true rfl) ?_
  intro κ hl hγ hA hρ
  subst hl; subst hγ; subst hA
  exact t_X5_fewestAt   a1 a2 w ⟨q, e, pI hρ rfl rfl⟩
