theorem dX6_append_0 : decode cX6_append 0 = .ok (.bipush 24, 2) := by decide +kernel
theorem dX6_append_2 : decode cX6_append 2 = .ok (.istore_n 2, 1) := by decide +kernel
theorem dX6_append_3 : decode cX6_append 3 = .ok (.iload_n 2, 1) := by decide +kernel
theorem dX6_append_4 : decode cX6_append 4 = .ok (.ifCond .lt 42, 3) := by decide +kernel
theorem dX6_append_7 : decode cX6_append 7 = .ok (.aload_n 0, 1) := by decide +kernel
theorem dX6_append_8 : decode cX6_append 8 = .ok (.getfield 52, 3) := by decide +kernel
theorem dX6_append_11 : decode cX6_append 11 = .ok (.sipush 600, 3) := by decide +kernel
theorem dX6_append_14 : decode cX6_append 14 = .ok (.if_icmp .ge 32, 3) := by decide +kernel
theorem dX6_append_17 : decode cX6_append 17 = .ok (.aload_n 0, 1) := by decide +kernel
theorem dX6_append_18 : decode cX6_append 18 = .ok (.getfield 9, 3) := by decide +kernel
theorem dX6_append_21 : decode cX6_append 21 = .ok (.aload_n 0, 1) := by decide +kernel
theorem dX6_append_22 : decode cX6_append 22 = .ok (.getfield 52, 3) := by decide +kernel
theorem dX6_append_25 : decode cX6_append 25 = .ok (.iload_n 1, 1) := by decide +kernel
theorem dX6_append_26 : decode cX6_append 26 = .ok (.iload_n 2, 1) := by decide +kernel
theorem dX6_append_27 : decode cX6_append 27 = .ok (.ishr, 1) := by decide +kernel
theorem dX6_append_28 : decode cX6_append 28 = .ok (.i2b, 1) := by decide +kernel
theorem dX6_append_29 : decode cX6_append 29 = .ok (.bastore, 1) := by decide +kernel
theorem dX6_append_30 : decode cX6_append 30 = .ok (.aload_n 0, 1) := by decide +kernel
theorem dX6_append_31 : decode cX6_append 31 = .ok (.dup, 1) := by decide +kernel
theorem dX6_append_32 : decode cX6_append 32 = .ok (.getfield 52, 3) := by decide +kernel
theorem dX6_append_35 : decode cX6_append 35 = .ok (.iconst 1, 1) := by decide +kernel
theorem dX6_append_36 : decode cX6_append 36 = .ok (.iadd, 1) := by decide +kernel
theorem dX6_append_37 : decode cX6_append 37 = .ok (.putfield 52, 3) := by decide +kernel
theorem dX6_append_40 : decode cX6_append 40 = .ok (.iinc 2 (-8), 3) := by decide +kernel
theorem dX6_append_43 : decode cX6_append 43 = .ok (.goto (-40), 3) := by decide +kernel
theorem dX6_append_46 : decode cX6_append 46 = .ok (.return_, 1) := by decide +kernel
noncomputable def X6_append_b3 (a1 : Int32) (s : (Int32 × Wd)) : Option ((Int32 × Wd) ⊕ Wd) :=
(if s.1 < 0 then
some (.inr s.2)
else
(if (600 : Int32) ≤ (s.2.1 65 2) then
some (.inr s.2)
else
gd (vp_in (s.2.1 65 2) 600) <|
(some (puI s.2 66 (ix (s.2.1 65 2)) (vp_nar .byte (Int32.toInt8 (a1 >>> (s.1 &&& 31))).toInt32))).bind fun w1 =>
(some (puI w1 65 2 ((w1.1 65 2) + (1 : Int32)))).bind fun w2 =>
some (.inl ((s.1 + (-8 : Int32)), w2))))
set_option maxRecDepth 20000 in
set_option maxHeartbeats 1000000 in
theorem t_X6_append_b3 {κ : Kx} (a1 : Int32) {P : Wd → Prop} (K0 : ∀ e, P e → J κ RX6 cX6_append 3 none (rmk 0 0) 46 [] [] e) (s : (Int32 × Wd)) (h : ok (lp (X6_append_b3  a1) s) P) : J κ RX6 cX6_append 3 none (rmk 0 0) 3 [(0, .ref (ad (gm κ) 65)), (1, .int a1), (2, .int s.1)] [] s.2 := by
  refine lp_ind (fun s => J κ RX6 cX6_append 3 none (rmk 0 0) 3 [(0, .ref (ad (gm κ) 65)), (1, .int a1), (2, .int s.1)] [] s.2) (fun s h => ?_) s h
  unfold X6_append_b3 at h
  refine j_iload_n 2 dX6_append_3 rfl rfl ?_
  refine j_if_lt 46 dX6_append_4 (by decide) h (fun h => ?_) (fun h => ?_)
  · refine j_loc [] [] rfl ?_
    have h := sel_r h
    have h := K0 _ h
    exact h
  · refine j_aload_n 0 dX6_append_7 rfl rfl ?_
    refine j_getI fl_RX6_52 sh_65 fk_65_2 dX6_append_8 ?_
    refine j_sipush (600 : Int32) dX6_append_11 ks_600 ?_
    refine j_ic_ge 46 dX6_append_14 (by decide) h (fun h => ?_) (fun h => ?_)
    · refine j_loc [] [] rfl ?_
      have h := sel_r h
      have h := K0 _ h
      exact h
    · refine j_aload_n 0 dX6_append_17 rfl rfl ?_
      refine j_getA 66 fl_RX6_9 sh_65 fk_65_1 (by decide) dX6_append_18 ?_
      refine j_aload_n 0 dX6_append_21 rfl rfl ?_
      refine j_getI fl_RX6_52 sh_65 fk_65_2 dX6_append_22 ?_
      refine j_iload_n 1 dX6_append_25 rfl rfl ?_
      refine j_iload_n 2 dX6_append_26 rfl rfl ?_
      refine j_ishr dX6_append_27 ?_
      refine j_i2b dX6_append_28 ?_
      refine j_bast sh_66 dX6_append_29 h (fun h => ?_)
      refine j_lW h (fun w1 h => ?_)
      refine j_aload_n 0 dX6_append_30 rfl rfl ?_
      refine j_dup dX6_append_31 rfl ?_
      refine j_getI fl_RX6_52 sh_65 fk_65_2 dX6_append_32 ?_
      refine j_iconst (1 : Int32) dX6_append_35 ki_1 ?_
      refine j_iadd dX6_append_36 ?_
      refine j_putI fp_RX6_52 sh_65 fk_65_2 dX6_append_37 ?_
      refine j_lW h (fun w2 h => ?_)
      refine j_iinc (s.1 + (-8 : Int32)) 2 [(2, .int (s.1 + (-8 : Int32))), (0, .ref (ad (gm κ) 65)), (1, .int a1)] dX6_append_40 rfl (by rw [kn_m8]) (by decide) rfl ?_
      refine j_goto 3 dX6_append_43 (by decide) ?_
      refine j_loc [(0, .ref (ad (gm κ) 65)), (1, .int a1), (2, .int (s.1 + (-8 : Int32)))] [1, 2, 0] rfl ?_
      have h := sel_l h
      exact h
noncomputable def X6_append (a1 : Int32) (w : Wd) : Option (Wd) :=
(lp (X6_append_b3 a1) ((24 : Int32), w)).bind fun e3 =>
some e3
set_option maxRecDepth 20000 in
set_option maxHeartbeats 1000000 in
theorem t_X6_append {κ : Kx} (a1 : Int32) (w : Wd) (h : ok (X6_append  a1 w) (PVw κ)) : J κ RX6 cX6_append 3 none (rmk 0 0) 0 [(0, .ref (ad (gm κ) 65)), (1, .int a1)] [] w := by
  unfold X6_append at h
  refine j_bipush (24 : Int32) dX6_append_0 kb_24 ?_
  refine j_istore_n [(2, .int (24 : Int32)), (0, .ref (ad (gm κ) 65)), (1, .int a1)] dX6_append_2 rfl (by decide) rfl ?_
  refine j_loc [(0, .ref (ad (gm κ) 65)), (1, .int a1), (2, .int (24 : Int32))] [1, 2, 0] rfl ?_
  refine t_X6_append_b3 a1 (fun e3 h => ?_) ((24 : Int32), w) (ok_bb h)
  · have h := ok_s h
    exact j_vret dX6_append_46 rfl h
theorem c_X6_append (l : Launch) (γ : Gm) (A : Nat → Prop) (a1 : Int32) (w : Wd) (q : Wd) (e : X6_append  a1 w = some q) : MetG l γ A yX6_append cX6_append 3 none (rmk 0 0) [.ref (ad (γ) 65), .int a1] w none q := by
  refine met_of pn_RX6 (Nat.le_of_ble_eq_true rfl) ?_
  intro κ hl hγ hA hρ
  subst hl; subst hγ; subst hA
  exact t_X6_append   a1 w ⟨q, e, pVw hρ rfl rfl⟩
theorem dX6_isLetter_0 : decode cX6_isLetter 0 = .ok (.iload_n 0, 1) := by decide +kernel
theorem dX6_isLetter_1 : decode cX6_isLetter 1 = .ok (.bipush 97, 2) := by decide +kernel
theorem dX6_isLetter_3 : decode cX6_isLetter 3 = .ok (.if_icmp .lt 13, 3) := by decide +kernel
theorem dX6_isLetter_6 : decode cX6_isLetter 6 = .ok (.iload_n 0, 1) := by decide +kernel
theorem dX6_isLetter_7 : decode cX6_isLetter 7 = .ok (.bipush 122, 2) := by decide +kernel
theorem dX6_isLetter_9 : decode cX6_isLetter 9 = .ok (.if_icmp .gt 7, 3) := by decide +kernel
theorem dX6_isLetter_12 : decode cX6_isLetter 12 = .ok (.iconst 1, 1) := by decide +kernel
theorem dX6_isLetter_13 : decode cX6_isLetter 13 = .ok (.goto 4, 3) := by decide +kernel
theorem dX6_isLetter_16 : decode cX6_isLetter 16 = .ok (.iconst 0, 1) := by decide +kernel
theorem dX6_isLetter_17 : decode cX6_isLetter 17 = .ok (.ireturn, 1) := by decide +kernel
noncomputable def X6_isLetterO (a0 : Int32) (w : Wd) : Option (Int32) :=
(if a0 < (97 : Int32) then
some (0 : Int32)
else
(if (122 : Int32) < a0 then
some (0 : Int32)
else
some (1 : Int32)))
set_option maxRecDepth 20000 in
set_option maxHeartbeats 1000000 in
theorem t_X6_isLetter {κ : Kx} (a0 : Int32) (w : Wd) (h : ok (X6_isLetterO  a0 w) (PI κ w)) : J κ RX6 cX6_isLetter 1 (some .boolean) (rmk 0 0) 0 [(0, .int a0)] [] w := by
  unfold X6_isLetterO at h
  refine j_iload_n 0 dX6_isLetter_0 rfl rfl ?_
  refine j_bipush (97 : Int32) dX6_isLetter_1 kb_97 ?_
  refine j_ic_lt 16 dX6_isLetter_3 (by decide) h (fun h => ?_) (fun h => ?_)
  · refine j_iconst (0 : Int32) dX6_isLetter_16 ki_0 ?_
    have h := ok_s h
    exact j_iret dX6_isLetter_17 rfl (by decide) h
  · refine j_iload_n 0 dX6_isLetter_6 rfl rfl ?_
    refine j_bipush (122 : Int32) dX6_isLetter_7 kb_122 ?_
    refine j_ic_gt 16 dX6_isLetter_9 (by decide) h (fun h => ?_) (fun h => ?_)
    · refine j_iconst (0 : Int32) dX6_isLetter_16 ki_0 ?_
      have h := ok_s h
      exact j_iret dX6_isLetter_17 rfl (by decide) h
    · refine j_iconst (1 : Int32) dX6_isLetter_12 ki_1 ?_
      refine j_goto 17 dX6_isLetter_13 (by decide) ?_
      have h := ok_s h
      exact j_iret dX6_isLetter_17 rfl (by decide) h
noncomputable def X6_isLetter (a0 : Int32) (w : Wd) : Int32 := (X6_isLetterO  a0 w).getD 0
theorem X6_isLetter_eq (a0 : Int32) (w : Wd) : X6_isLetterO  a0 w = some (X6_isLetter  a0 w) := by
  unfold X6_isLetter X6_isLetterO
  repeat (first | rfl | split)
theorem nz_X6_isLetter (a0 : Int32) (w : Wd) : narrow .boolean (.int (X6_isLetter  a0 w)) = .int (X6_isLetter  a0 w) := by
  unfold X6_isLetter X6_isLetterO
  repeat (first | rfl | split)
theorem c_X6_isLetter (l : Launch) (γ : Gm) (A : Nat → Prop) (a0 : Int32) (w : Wd) : MetG l γ A yX6_isLetter cX6_isLetter 1 (some .boolean) (rmk 0 0) [.int a0] w (some (.int (X6_isLetter  a0 w))) w := by
  refine met_of pn_RX6 (Nat.le_of_ble_eq_true rfl) ?_
  intro κ hl hγ hA hρ
  subst hl; subst hγ; subst hA
  exact t_X6_isLetter   a0 w ⟨_, X6_isLetter_eq  a0 w, pI hρ rfl rfl⟩
theorem dX6_scanWord_0 : decode cX6_scanWord 0 = .ok (.lconst 0, 1) := by decide +kernel
theorem dX6_scanWord_1 : decode cX6_scanWord 1 = .ok (.lstore_n 2, 1) := by decide +kernel
theorem dX6_scanWord_2 : decode cX6_scanWord 2 = .ok (.aload_n 0, 1) := by decide +kernel
theorem dX6_scanWord_3 : decode cX6_scanWord 3 = .ok (.getfield 57, 3) := by decide +kernel
theorem dX6_scanWord_6 : decode cX6_scanWord 6 = .ok (.iload_n 1, 1) := by decide +kernel
theorem dX6_scanWord_7 : decode cX6_scanWord 7 = .ok (.if_icmp .ge 45, 3) := by decide +kernel
theorem dX6_scanWord_10 : decode cX6_scanWord 10 = .ok (.aload_n 0, 1) := by decide +kernel
theorem dX6_scanWord_11 : decode cX6_scanWord 11 = .ok (.getfield 9, 3) := by decide +kernel
theorem dX6_scanWord_14 : decode cX6_scanWord 14 = .ok (.aload_n 0, 1) := by decide +kernel
theorem dX6_scanWord_15 : decode cX6_scanWord 15 = .ok (.getfield 57, 3) := by decide +kernel
theorem dX6_scanWord_18 : decode cX6_scanWord 18 = .ok (.baload, 1) := by decide +kernel
theorem dX6_scanWord_19 : decode cX6_scanWord 19 = .ok (.invokestatic 76, 3) := by decide +kernel
theorem dX6_scanWord_22 : decode cX6_scanWord 22 = .ok (.ifCond .eq 30, 3) := by decide +kernel
theorem dX6_scanWord_25 : decode cX6_scanWord 25 = .ok (.lload_n 2, 1) := by decide +kernel
theorem dX6_scanWord_26 : decode cX6_scanWord 26 = .ok (.aload_n 0, 1) := by decide +kernel
theorem dX6_scanWord_27 : decode cX6_scanWord 27 = .ok (.getfield 9, 3) := by decide +kernel
theorem dX6_scanWord_30 : decode cX6_scanWord 30 = .ok (.aload_n 0, 1) := by decide +kernel
theorem dX6_scanWord_31 : decode cX6_scanWord 31 = .ok (.getfield 57, 3) := by decide +kernel
theorem dX6_scanWord_34 : decode cX6_scanWord 34 = .ok (.baload, 1) := by decide +kernel
theorem dX6_scanWord_35 : decode cX6_scanWord 35 = .ok (.invokestatic 48, 3) := by decide +kernel
theorem dX6_scanWord_38 : decode cX6_scanWord 38 = .ok (.lstore_n 2, 1) := by decide +kernel
theorem dX6_scanWord_39 : decode cX6_scanWord 39 = .ok (.aload_n 0, 1) := by decide +kernel
theorem dX6_scanWord_40 : decode cX6_scanWord 40 = .ok (.dup, 1) := by decide +kernel
theorem dX6_scanWord_41 : decode cX6_scanWord 41 = .ok (.getfield 57, 3) := by decide +kernel
theorem dX6_scanWord_44 : decode cX6_scanWord 44 = .ok (.iconst 1, 1) := by decide +kernel
theorem dX6_scanWord_45 : decode cX6_scanWord 45 = .ok (.iadd, 1) := by decide +kernel
theorem dX6_scanWord_46 : decode cX6_scanWord 46 = .ok (.putfield 57, 3) := by decide +kernel
theorem dX6_scanWord_49 : decode cX6_scanWord 49 = .ok (.goto (-47), 3) := by decide +kernel
theorem dX6_scanWord_52 : decode cX6_scanWord 52 = .ok (.aload_n 0, 1) := by decide +kernel
theorem dX6_scanWord_53 : decode cX6_scanWord 53 = .ok (.lload_n 2, 1) := by decide +kernel
theorem dX6_scanWord_54 : decode cX6_scanWord 54 = .ok (.putfield 95, 3) := by decide +kernel
theorem dX6_scanWord_57 : decode cX6_scanWord 57 = .ok (.aload_n 0, 1) := by decide +kernel
theorem dX6_scanWord_58 : decode cX6_scanWord 58 = .ok (.aload_n 0, 1) := by decide +kernel
theorem dX6_scanWord_59 : decode cX6_scanWord 59 = .ok (.getfield 57, 3) := by decide +kernel
theorem dX6_scanWord_62 : decode cX6_scanWord 62 = .ok (.aload_n 0, 1) := by decide +kernel
theorem dX6_scanWord_63 : decode cX6_scanWord 63 = .ok (.getfield 73, 3) := by decide +kernel
theorem dX6_scanWord_66 : decode cX6_scanWord 66 = .ok (.isub, 1) := by decide +kernel
theorem dX6_scanWord_67 : decode cX6_scanWord 67 = .ok (.bipush 8, 2) := by decide +kernel
theorem dX6_scanWord_69 : decode cX6_scanWord 69 = .ok (.if_icmp .le 7, 3) := by decide +kernel
theorem dX6_scanWord_72 : decode cX6_scanWord 72 = .ok (.iconst 4, 1) := by decide +kernel
theorem dX6_scanWord_73 : decode cX6_scanWord 73 = .ok (.goto 4, 3) := by decide +kernel
theorem dX6_scanWord_76 : decode cX6_scanWord 76 = .ok (.iconst 3, 1) := by decide +kernel
theorem dX6_scanWord_77 : decode cX6_scanWord 77 = .ok (.putfield 67, 3) := by decide +kernel
theorem dX6_scanWord_80 : decode cX6_scanWord 80 = .ok (.iconst 0, 1) := by decide +kernel
theorem dX6_scanWord_81 : decode cX6_scanWord 81 = .ok (.istore 4, 2) := by decide +kernel
theorem dX6_scanWord_83 : decode cX6_scanWord 83 = .ok (.iload 4, 2) := by decide +kernel
theorem dX6_scanWord_85 : decode cX6_scanWord 85 = .ok (.aload_n 0, 1) := by decide +kernel
theorem dX6_scanWord_86 : decode cX6_scanWord 86 = .ok (.getfield 17, 3) := by decide +kernel
theorem dX6_scanWord_89 : decode cX6_scanWord 89 = .ok (.arraylength, 1) := by decide +kernel
theorem dX6_scanWord_90 : decode cX6_scanWord 90 = .ok (.if_icmp .ge 38, 3) := by decide +kernel
theorem dX6_scanWord_93 : decode cX6_scanWord 93 = .ok (.aload_n 0, 1) := by decide +kernel
theorem dX6_scanWord_94 : decode cX6_scanWord 94 = .ok (.getfield 67, 3) := by decide +kernel
theorem dX6_scanWord_97 : decode cX6_scanWord 97 = .ok (.iconst 3, 1) := by decide +kernel
theorem dX6_scanWord_98 : decode cX6_scanWord 98 = .ok (.if_icmp .ne 30, 3) := by decide +kernel
theorem dX6_scanWord_101 : decode cX6_scanWord 101 = .ok (.aload_n 0, 1) := by decide +kernel
theorem dX6_scanWord_102 : decode cX6_scanWord 102 = .ok (.getfield 17, 3) := by decide +kernel
theorem dX6_scanWord_105 : decode cX6_scanWord 105 = .ok (.iload 4, 2) := by decide +kernel
theorem dX6_scanWord_107 : decode cX6_scanWord 107 = .ok (.laload, 1) := by decide +kernel
theorem dX6_scanWord_108 : decode cX6_scanWord 108 = .ok (.lload_n 2, 1) := by decide +kernel
theorem dX6_scanWord_109 : decode cX6_scanWord 109 = .ok (.lcmp, 1) := by decide +kernel
theorem dX6_scanWord_110 : decode cX6_scanWord 110 = .ok (.ifCond .ne 12, 3) := by decide +kernel
theorem dX6_scanWord_113 : decode cX6_scanWord 113 = .ok (.aload_n 0, 1) := by decide +kernel
theorem dX6_scanWord_114 : decode cX6_scanWord 114 = .ok (.bipush 100, 2) := by decide +kernel
theorem dX6_scanWord_116 : decode cX6_scanWord 116 = .ok (.iload 4, 2) := by decide +kernel
theorem dX6_scanWord_118 : decode cX6_scanWord 118 = .ok (.iadd, 1) := by decide +kernel
theorem dX6_scanWord_119 : decode cX6_scanWord 119 = .ok (.putfield 67, 3) := by decide +kernel
theorem dX6_scanWord_122 : decode cX6_scanWord 122 = .ok (.iinc 4 1, 3) := by decide +kernel
theorem dX6_scanWord_125 : decode cX6_scanWord 125 = .ok (.goto (-42), 3) := by decide +kernel
theorem dX6_scanWord_128 : decode cX6_scanWord 128 = .ok (.return_, 1) := by decide +kernel
noncomputable def X6_scanWord_b2 (a1 : Int32) (s : (Int64 × Wd)) : Option ((Int64 × Wd) ⊕ (Int64 × Wd)) :=
(if a1 ≤ (s.2.1 65 6) then
some (.inr (s.1, s.2))
else
gd (vp_in (s.2.1 65 6) 600) <|
(if (X6_isLetter (s.2.1 66 (ix (s.2.1 65 6))) s.2) = 0 then
some (.inr (s.1, s.2))
else
gd (vp_in (s.2.1 65 6) 600) <|
(some (X6_pack s.1 (s.2.1 66 (ix (s.2.1 65 6))) s.2)).bind fun z1 =>
(some (puI s.2 65 6 ((s.2.1 65 6) + (1 : Int32)))).bind fun w2 =>
some (.inl (z1, w2))))
set_option maxRecDepth 20000 in
set_option maxHeartbeats 1000000 in
theorem t_X6_scanWord_b2 {κ : Kx} (a1 : Int32) {P : (Int64 × Wd) → Prop} (K0 : ∀ e, P e → J κ RX6 cX6_scanWord 5 none (rmk 1 22) 52 [(0, .ref (ad (gm κ) 65)), (2, .long e.1)] [] e.2) (s : (Int64 × Wd)) (h : ok (lp (X6_scanWord_b2  a1) s) P) : J κ RX6 cX6_scanWord 5 none (rmk 1 22) 2 [(0, .ref (ad (gm κ) 65)), (1, .int a1), (2, .long s.1)] [] s.2 := by
  refine lp_ind (fun s => J κ RX6 cX6_scanWord 5 none (rmk 1 22) 2 [(0, .ref (ad (gm κ) 65)), (1, .int a1), (2, .long s.1)] [] s.2) (fun s h => ?_) s h
  unfold X6_scanWord_b2 at h
  refine j_aload_n 0 dX6_scanWord_2 rfl rfl ?_
  refine j_getI fl_RX6_57 sh_65 fk_65_6 dX6_scanWord_3 ?_
  refine j_iload_n 1 dX6_scanWord_6 rfl rfl ?_
  refine j_ic_ge 52 dX6_scanWord_7 (by decide) h (fun h => ?_) (fun h => ?_)
  · refine j_loc [(0, .ref (ad (gm κ) 65)), (2, .long s.1)] [0, 2] rfl ?_
    have h := sel_r h
    have h := K0 _ h
    exact h
  · refine j_aload_n 0 dX6_scanWord_10 rfl rfl ?_
    refine j_getA 66 fl_RX6_9 sh_65 fk_65_1 (by decide) dX6_scanWord_11 ?_
    refine j_aload_n 0 dX6_scanWord_14 rfl rfl ?_
    refine j_getI fl_RX6_57 sh_65 fk_65_6 dX6_scanWord_15 ?_
    refine j_bald sh_66 dX6_scanWord_18 h (fun h => ?_)
    refine j_callS (As := [.int (s.2.1 66 (ix (s.2.1 65 6)))]) (st := []) [.int (X6_isLetter (s.2.1 66 (ix (s.2.1 65 6))) s.2)] (c_X6_isLetter (kl κ) (gm κ) (kA κ) (s.2.1 66 (ix (s.2.1 65 6))) s.2) ck_RX6_76 st_X6_isLetter ⟨rfl, rfl⟩ ⟨by decide, by decide⟩ rfl rfl (Nat.le_of_ble_eq_true rfl) dX6_scanWord_19 _ rfl ?_
    refine j_if_eq 52 dX6_scanWord_22 (by decide) h (fun h => ?_) (fun h => ?_)
    · refine j_loc [(0, .ref (ad (gm κ) 65)), (2, .long s.1)] [0, 2] rfl ?_
      have h := sel_r h
      have h := K0 _ h
      exact h
    · refine j_lload_n 2 dX6_scanWord_25 rfl rfl ?_
      refine j_aload_n 0 dX6_scanWord_26 rfl rfl ?_
      refine j_getA 66 fl_RX6_9 sh_65 fk_65_1 (by decide) dX6_scanWord_27 ?_
      refine j_aload_n 0 dX6_scanWord_30 rfl rfl ?_
      refine j_getI fl_RX6_57 sh_65 fk_65_6 dX6_scanWord_31 ?_
      refine j_bald sh_66 dX6_scanWord_34 h (fun h => ?_)
      refine j_callS (As := [.long s.1, .int (s.2.1 66 (ix (s.2.1 65 6)))]) (st := []) [.long (X6_pack s.1 (s.2.1 66 (ix (s.2.1 65 6))) s.2)] (c_X6_pack (kl κ) (gm κ) (kA κ) s.1 (s.2.1 66 (ix (s.2.1 65 6))) s.2) ck_RX6_48 st_X6_pack ⟨rfl, rfl⟩ ⟨by decide, by decide⟩ rfl rfl (Nat.le_of_ble_eq_true rfl) dX6_scanWord_35 _ rfl ?_
      refine j_lJ h (fun z1 h => ?_)
      refine j_lstore_n [(2, .long z1), (0, .ref (ad (gm κ) 65)), (1, .int a1)] dX6_scanWord_38 rfl (by decide) rfl ?_
      refine j_aload_n 1 dX6_scanWord_39 rfl rfl ?_
      refine j_dup dX6_scanWord_40 rfl ?_
      refine j_getI fl_RX6_57 sh_65 fk_65_6 dX6_scanWord_41 ?_
      refine j_iconst (1 : Int32) dX6_scanWord_44 ki_1 ?_
      refine j_iadd dX6_scanWord_45 ?_
      refine j_putI fp_RX6_57 sh_65 fk_65_6 dX6_scanWord_46 ?_
      refine j_lW h (fun w2 h => ?_)
      refine j_goto 2 dX6_scanWord_49 (by decide) ?_
      refine j_loc [(0, .ref (ad (gm κ) 65)), (1, .int a1), (2, .long z1)] [1, 2, 0] rfl ?_
      have h := sel_l h
      exact h
noncomputable def X6_scanWord_j122 (a2 : Int64) (a4 : Int32) (w : Wd) : Option ((Int32 × Wd) ⊕ Wd) :=
some (.inl ((a4 + (1 : Int32)), w))
set_option maxRecDepth 20000 in
set_option maxHeartbeats 1000000 in
theorem t_X6_scanWord_j122 {κ : Kx} (a2 : Int64) (a4 : Int32) (w : Wd) {G : (Int32 × Wd) → Prop} {P : Wd → Prop} (KG : ∀ s, G s → J κ RX6 cX6_scanWord 5 none (rmk 1 22) 83 [(0, .ref (ad (gm κ) 65)), (2, .long a2), (4, .int s.1)] [] s.2) (K0 : ∀ e, P e → J κ RX6 cX6_scanWord 5 none (rmk 1 22) 128 [] [] e) (h : ok (X6_scanWord_j122  a2 a4 w) (sel G P)) : J κ RX6 cX6_scanWord 5 none (rmk 1 22) 122 [(0, .ref (ad (gm κ) 65)), (2, .long a2), (4, .int a4)] [] w := by
  unfold X6_scanWord_j122 at h
  refine j_iinc (a4 + (1 : Int32)) 2 [(4, .int (a4 + (1 : Int32))), (0, .ref (ad (gm κ) 65)), (2, .long a2)] dX6_scanWord_122 rfl (by rw [kn_1]) (by decide) rfl ?_
  refine j_goto 83 dX6_scanWord_125 (by decide) ?_
  refine j_loc [(0, .ref (ad (gm κ) 65)), (2, .long a2), (4, .int (a4 + (1 : Int32)))] [1, 2, 0] rfl ?_
  have h := sel_l h
  have h := KG _ h
  exact h
noncomputable def X6_scanWord_b83 (a2 : Int64) (s : (Int32 × Wd)) : Option ((Int32 × Wd) ⊕ Wd) :=
(if (17 : Int32) ≤ s.1 then
some (.inr s.2)
else
(if (s.2.1 65 7) = (3 : Int32) then
gd (vp_in s.1 17) <|
(if (lg_cmp (s.2.2 67 (ix s.1)) a2) = 0 then
(some (puI s.2 65 7 ((100 : Int32) + s.1))).bind fun w6 =>
X6_scanWord_j122 a2 s.1 w6
else
X6_scanWord_j122 a2 s.1 s.2)
else
some (.inr s.2)))
set_option maxRecDepth 20000 in
set_option maxHeartbeats 1000000 in
theorem t_X6_scanWord_b83 {κ : Kx} (a2 : Int64) {P : Wd → Prop} (K0 : ∀ e, P e → J κ RX6 cX6_scanWord 5 none (rmk 1 22) 128 [] [] e) (s : (Int32 × Wd)) (h : ok (lp (X6_scanWord_b83  a2) s) P) : J κ RX6 cX6_scanWord 5 none (rmk 1 22) 83 [(0, .ref (ad (gm κ) 65)), (2, .long a2), (4, .int s.1)] [] s.2 := by
  refine lp_ind (fun s => J κ RX6 cX6_scanWord 5 none (rmk 1 22) 83 [(0, .ref (ad (gm κ) 65)), (2, .long a2), (4, .int s.1)] [] s.2) (fun s h => ?_) s h
  unfold X6_scanWord_b83 at h
  refine j_iload 2 dX6_scanWord_83 rfl ?_
  refine j_aload_n 0 dX6_scanWord_85 rfl rfl ?_
  refine j_getA 67 fl_RX6_17 sh_65 fk_65_3 (by decide) dX6_scanWord_86 ?_
  refine j_alenJ (v := (17 : Int32)) sh_67 (by decide) dX6_scanWord_89 ?_
  refine j_ic_ge 128 dX6_scanWord_90 (by decide) h (fun h => ?_) (fun h => ?_)
  · refine j_loc [] [] rfl ?_
    have h := sel_r h
    have h := K0 _ h
    exact h
  · refine j_aload_n 0 dX6_scanWord_93 rfl rfl ?_
    refine j_getI fl_RX6_67 sh_65 fk_65_7 dX6_scanWord_94 ?_
    refine j_iconst (3 : Int32) dX6_scanWord_97 ki_3 ?_
    refine j_ic_ne 128 dX6_scanWord_98 (by decide) h (fun h => ?_) (fun h => ?_)
    · refine j_loc [] [] rfl ?_
      have h := sel_r h
      have h := K0 _ h
      exact h
    · refine j_aload_n 0 dX6_scanWord_101 rfl rfl ?_
      refine j_getA 67 fl_RX6_17 sh_65 fk_65_3 (by decide) dX6_scanWord_102 ?_
      refine j_iload 2 dX6_scanWord_105 rfl ?_
      refine j_lald sh_67 dX6_scanWord_107 h (fun h => ?_)
      refine j_lload_n 1 dX6_scanWord_108 rfl rfl ?_
      refine j_lcmp dX6_scanWord_109 ?_
      refine j_if_ne 122 dX6_scanWord_110 (by decide) h (fun h => ?_) (fun h => ?_)
      · refine j_loc [(0, .ref (ad (gm κ) 65)), (2, .long a2), (4, .int s.1)] [0, 1, 2] rfl ?_
        exact t_X6_scanWord_j122 a2 s.1 s.2 (fun _ h => h) K0 h
      · refine j_aload_n 0 dX6_scanWord_113 rfl rfl ?_
        refine j_bipush (100 : Int32) dX6_scanWord_114 kb_100 ?_
        refine j_iload 2 dX6_scanWord_116 rfl ?_
        refine j_iadd dX6_scanWord_118 ?_
        refine j_putI fp_RX6_67 sh_65 fk_65_7 dX6_scanWord_119 ?_
        refine j_lW h (fun w6 h => ?_)
        refine j_loc [(0, .ref (ad (gm κ) 65)), (2, .long a2), (4, .int s.1)] [0, 1, 2] rfl ?_
        exact t_X6_scanWord_j122 a2 s.1 w6 (fun _ h => h) K0 h
noncomputable def X6_scanWord_j77 (a2 : Int64) (s0 : Int32) (w : Wd) : Option (Wd) :=
(some (puI w 65 7 s0)).bind fun w5 =>
(lp (X6_scanWord_b83 a2) ((0 : Int32), w5)).bind fun e7 =>
some e7
set_option maxRecDepth 20000 in
set_option maxHeartbeats 1000000 in
theorem t_X6_scanWord_j77 {κ : Kx} (a2 : Int64) (s0 : Int32) (w : Wd) (h : ok (X6_scanWord_j77  a2 s0 w) (PVw κ)) : J κ RX6 cX6_scanWord 5 none (rmk 1 22) 77 [(0, .ref (ad (gm κ) 65)), (2, .long a2)] [.int s0, .ref (ad (gm κ) 65)] w := by
  unfold X6_scanWord_j77 at h
  refine j_putI fp_RX6_67 sh_65 fk_65_7 dX6_scanWord_77 ?_
  refine j_lW h (fun w5 h => ?_)
  refine j_iconst (0 : Int32) dX6_scanWord_80 ki_0 ?_
  refine j_istore [(4, .int (0 : Int32)), (0, .ref (ad (gm κ) 65)), (2, .long a2)] dX6_scanWord_81 (by decide) rfl ?_
  refine j_loc [(0, .ref (ad (gm κ) 65)), (2, .long a2), (4, .int (0 : Int32))] [1, 2, 0] rfl ?_
  refine t_X6_scanWord_b83 a2 (fun e7 h => ?_) ((0 : Int32), w5) (ok_bb h)
  · have h := ok_s h
    exact j_vret dX6_scanWord_128 rfl h
noncomputable def X6_scanWord (a1 : Int32) (w : Wd) : Option (Wd) :=
(lp (X6_scanWord_b2 a1) ((0 : Int64), w)).bind fun e3 =>
(some (puJ e3.2 65 9 e3.1)).bind fun w4 =>
(if ((w4.1 65 6) - (w4.1 65 8)) ≤ (8 : Int32) then
X6_scanWord_j77 e3.1 (3 : Int32) w4
else
X6_scanWord_j77 e3.1 (4 : Int32) w4)
set_option maxRecDepth 20000 in
set_option maxHeartbeats 1000000 in
theorem t_X6_scanWord {κ : Kx} (a1 : Int32) (w : Wd) (h : ok (X6_scanWord  a1 w) (PVw κ)) : J κ RX6 cX6_scanWord 5 none (rmk 1 22) 0 [(0, .ref (ad (gm κ) 65)), (1, .int a1)] [] w := by
  unfold X6_scanWord at h
  refine j_lconst (0 : Int64) dX6_scanWord_0 (by decide) ?_
  refine j_lstore_n [(2, .long (0 : Int64)), (0, .ref (ad (gm κ) 65)), (1, .int a1)] dX6_scanWord_1 rfl (by decide) rfl ?_
  refine j_loc [(0, .ref (ad (gm κ) 65)), (1, .int a1), (2, .long (0 : Int64))] [1, 2, 0] rfl ?_
  refine t_X6_scanWord_b2 a1 (fun e3 h => ?_) ((0 : Int64), w) (ok_bb h)
  · refine j_aload_n 0 dX6_scanWord_52 rfl rfl ?_
    refine j_lload_n 1 dX6_scanWord_53 rfl rfl ?_
    refine j_putJ fp_RX6_95 sh_65 fk_65_9 dX6_scanWord_54 ?_
    refine j_lW h (fun w4 h => ?_)
    refine j_aload_n 0 dX6_scanWord_57 rfl rfl ?_
    refine j_aload_n 0 dX6_scanWord_58 rfl rfl ?_
    refine j_getI fl_RX6_57 sh_65 fk_65_6 dX6_scanWord_59 ?_
    refine j_aload_n 0 dX6_scanWord_62 rfl rfl ?_
    refine j_getI fl_RX6_73 sh_65 fk_65_8 dX6_scanWord_63 ?_
    refine j_isub dX6_scanWord_66 ?_
    refine j_bipush (8 : Int32) dX6_scanWord_67 kb_8 ?_
    refine j_ic_le 76 dX6_scanWord_69 (by decide) h (fun h => ?_) (fun h => ?_)
    · refine j_iconst (3 : Int32) dX6_scanWord_76 ki_3 ?_
      refine j_loc [(0, .ref (ad (gm κ) 65)), (2, .long e3.1)] [0, 1] rfl ?_
      exact t_X6_scanWord_j77 e3.1 (3 : Int32) w4 h
    · refine j_iconst (4 : Int32) dX6_scanWord_72 ki_4 ?_
      refine j_goto 77 dX6_scanWord_73 (by decide) ?_
      refine j_loc [(0, .ref (ad (gm κ) 65)), (2, .long e3.1)] [0, 1] rfl ?_
      exact t_X6_scanWord_j77 e3.1 (4 : Int32) w4 h
theorem c_X6_scanWord (l : Launch) (γ : Gm) (A : Nat → Prop) (a1 : Int32) (w : Wd) (q : Wd) (e : X6_scanWord  a1 w = some q) : MetG l γ A yX6_scanWord cX6_scanWord 5 none (rmk 1 22) [.ref (ad (γ) 65), .int a1] w none q := by
  refine met_of pn_RX6 (Nat.le_of_ble_eq_true rfl) ?_
  intro κ hl hγ hA hρ
  subst hl; subst hγ; subst hA
  exact t_X6_scanWord   a1 w ⟨q, e, pVw hρ rfl rfl⟩
theorem dX6_isDigit_0 : decode cX6_isDigit 0 = .ok (.iload_n 0, 1) := by decide +kernel
theorem dX6_isDigit_1 : decode cX6_isDigit 1 = .ok (.bipush 48, 2) := by decide +kernel
theorem dX6_isDigit_3 : decode cX6_isDigit 3 = .ok (.if_icmp .lt 13, 3) := by decide +kernel
theorem dX6_isDigit_6 : decode cX6_isDigit 6 = .ok (.iload_n 0, 1) := by decide +kernel
theorem dX6_isDigit_7 : decode cX6_isDigit 7 = .ok (.bipush 57, 2) := by decide +kernel
theorem dX6_isDigit_9 : decode cX6_isDigit 9 = .ok (.if_icmp .gt 7, 3) := by decide +kernel
theorem dX6_isDigit_12 : decode cX6_isDigit 12 = .ok (.iconst 1, 1) := by decide +kernel
theorem dX6_isDigit_13 : decode cX6_isDigit 13 = .ok (.goto 4, 3) := by decide +kernel
theorem dX6_isDigit_16 : decode cX6_isDigit 16 = .ok (.iconst 0, 1) := by decide +kernel
theorem dX6_isDigit_17 : decode cX6_isDigit 17 = .ok (.ireturn, 1) := by decide +kernel
noncomputable def X6_isDigitO (a0 : Int32) (w : Wd) : Option (Int32) :=
(if a0 < (48 : Int32) then
some (0 : Int32)
else
(if (57 : Int32) < a0 then
some (0 : Int32)
else
some (1 : Int32)))
set_option maxRecDepth 20000 in
set_option maxHeartbeats 1000000 in
theorem t_X6_isDigit {κ : Kx} (a0 : Int32) (w : Wd) (h : ok (X6_isDigitO  a0 w) (PI κ w)) : J κ RX6 cX6_isDigit 1 (some .boolean) (rmk 0 0) 0 [(0, .int a0)] [] w := by
  unfold X6_isDigitO at h
  refine j_iload_n 0 dX6_isDigit_0 rfl rfl ?_
  refine j_bipush (48 : Int32) dX6_isDigit_1 kb_48 ?_
  refine j_ic_lt 16 dX6_isDigit_3 (by decide) h (fun h => ?_) (fun h => ?_)
  · refine j_iconst (0 : Int32) dX6_isDigit_16 ki_0 ?_
    have h := ok_s h
    exact j_iret dX6_isDigit_17 rfl (by decide) h
  · refine j_iload_n 0 dX6_isDigit_6 rfl rfl ?_
    refine j_bipush (57 : Int32) dX6_isDigit_7 kb_57 ?_
    refine j_ic_gt 16 dX6_isDigit_9 (by decide) h (fun h => ?_) (fun h => ?_)
    · refine j_iconst (0 : Int32) dX6_isDigit_16 ki_0 ?_
      have h := ok_s h
      exact j_iret dX6_isDigit_17 rfl (by decide) h
    · refine j_iconst (1 : Int32) dX6_isDigit_12 ki_1 ?_
      refine j_goto 17 dX6_isDigit_13 (by decide) ?_
      have h := ok_s h
      exact j_iret dX6_isDigit_17 rfl (by decide) h
noncomputable def X6_isDigit (a0 : Int32) (w : Wd) : Int32 := (X6_isDigitO  a0 w).getD 0
theorem X6_isDigit_eq (a0 : Int32) (w : Wd) : X6_isDigitO  a0 w = some (X6_isDigit  a0 w) := by
  unfold X6_isDigit X6_isDigitO
  repeat (first | rfl | split)
theorem nz_X6_isDigit (a0 : Int32) (w : Wd) : narrow .boolean (.int (X6_isDigit  a0 w)) = .int (X6_isDigit  a0 w) := by
  unfold X6_isDigit X6_isDigitO
  repeat (first | rfl | split)
theorem c_X6_isDigit (l : Launch) (γ : Gm) (A : Nat → Prop) (a0 : Int32) (w : Wd) : MetG l γ A yX6_isDigit cX6_isDigit 1 (some .boolean) (rmk 0 0) [.int a0] w (some (.int (X6_isDigit  a0 w))) w := by
  refine met_of pn_RX6 (Nat.le_of_ble_eq_true rfl) ?_
  intro κ hl hγ hA hρ
  subst hl; subst hγ; subst hA
  exact t_X6_isDigit   a0 w ⟨_, X6_isDigit_eq  a0 w, pI hρ rfl rfl⟩
theorem dX6_scanNumber_0 : decode cX6_scanNumber 0 = .ok (.iconst 0, 1) := by decide +kernel
theorem dX6_scanNumber_1 : decode cX6_scanNumber 1 = .ok (.istore_n 2, 1) := by decide +kernel
theorem dX6_scanNumber_2 : decode cX6_scanNumber 2 = .ok (.aload_n 0, 1) := by decide +kernel
theorem dX6_scanNumber_3 : decode cX6_scanNumber 3 = .ok (.getfield 57, 3) := by decide +kernel
theorem dX6_scanNumber_6 : decode cX6_scanNumber 6 = .ok (.iload_n 1, 1) := by decide +kernel
theorem dX6_scanNumber_7 : decode cX6_scanNumber 7 = .ok (.if_icmp .ge 49, 3) := by decide +kernel
theorem dX6_scanNumber_10 : decode cX6_scanNumber 10 = .ok (.aload_n 0, 1) := by decide +kernel
theorem dX6_scanNumber_11 : decode cX6_scanNumber 11 = .ok (.getfield 9, 3) := by decide +kernel
theorem dX6_scanNumber_14 : decode cX6_scanNumber 14 = .ok (.aload_n 0, 1) := by decide +kernel
theorem dX6_scanNumber_15 : decode cX6_scanNumber 15 = .ok (.getfield 57, 3) := by decide +kernel
theorem dX6_scanNumber_18 : decode cX6_scanNumber 18 = .ok (.baload, 1) := by decide +kernel
theorem dX6_scanNumber_19 : decode cX6_scanNumber 19 = .ok (.invokestatic 83, 3) := by decide +kernel
theorem dX6_scanNumber_22 : decode cX6_scanNumber 22 = .ok (.ifCond .eq 34, 3) := by decide +kernel
theorem dX6_scanNumber_25 : decode cX6_scanNumber 25 = .ok (.iload_n 2, 1) := by decide +kernel
theorem dX6_scanNumber_26 : decode cX6_scanNumber 26 = .ok (.bipush 10, 2) := by decide +kernel
theorem dX6_scanNumber_28 : decode cX6_scanNumber 28 = .ok (.imul, 1) := by decide +kernel
theorem dX6_scanNumber_29 : decode cX6_scanNumber 29 = .ok (.aload_n 0, 1) := by decide +kernel
theorem dX6_scanNumber_30 : decode cX6_scanNumber 30 = .ok (.getfield 9, 3) := by decide +kernel
theorem dX6_scanNumber_33 : decode cX6_scanNumber 33 = .ok (.aload_n 0, 1) := by decide +kernel
theorem dX6_scanNumber_34 : decode cX6_scanNumber 34 = .ok (.getfield 57, 3) := by decide +kernel
theorem dX6_scanNumber_37 : decode cX6_scanNumber 37 = .ok (.baload, 1) := by decide +kernel
theorem dX6_scanNumber_38 : decode cX6_scanNumber 38 = .ok (.iadd, 1) := by decide +kernel
theorem dX6_scanNumber_39 : decode cX6_scanNumber 39 = .ok (.bipush 48, 2) := by decide +kernel
theorem dX6_scanNumber_41 : decode cX6_scanNumber 41 = .ok (.isub, 1) := by decide +kernel
theorem dX6_scanNumber_42 : decode cX6_scanNumber 42 = .ok (.istore_n 2, 1) := by decide +kernel
theorem dX6_scanNumber_43 : decode cX6_scanNumber 43 = .ok (.aload_n 0, 1) := by decide +kernel
theorem dX6_scanNumber_44 : decode cX6_scanNumber 44 = .ok (.dup, 1) := by decide +kernel
theorem dX6_scanNumber_45 : decode cX6_scanNumber 45 = .ok (.getfield 57, 3) := by decide +kernel
theorem dX6_scanNumber_48 : decode cX6_scanNumber 48 = .ok (.iconst 1, 1) := by decide +kernel
theorem dX6_scanNumber_49 : decode cX6_scanNumber 49 = .ok (.iadd, 1) := by decide +kernel
theorem dX6_scanNumber_50 : decode cX6_scanNumber 50 = .ok (.putfield 57, 3) := by decide +kernel
theorem dX6_scanNumber_53 : decode cX6_scanNumber 53 = .ok (.goto (-51), 3) := by decide +kernel
theorem dX6_scanNumber_56 : decode cX6_scanNumber 56 = .ok (.aload_n 0, 1) := by decide +kernel
theorem dX6_scanNumber_57 : decode cX6_scanNumber 57 = .ok (.iload_n 2, 1) := by decide +kernel
theorem dX6_scanNumber_58 : decode cX6_scanNumber 58 = .ok (.putfield 99, 3) := by decide +kernel
theorem dX6_scanNumber_61 : decode cX6_scanNumber 61 = .ok (.aload_n 0, 1) := by decide +kernel
theorem dX6_scanNumber_62 : decode cX6_scanNumber 62 = .ok (.aload_n 0, 1) := by decide +kernel
theorem dX6_scanNumber_63 : decode cX6_scanNumber 63 = .ok (.getfield 57, 3) := by decide +kernel
theorem dX6_scanNumber_66 : decode cX6_scanNumber 66 = .ok (.aload_n 0, 1) := by decide +kernel
theorem dX6_scanNumber_67 : decode cX6_scanNumber 67 = .ok (.getfield 73, 3) := by decide +kernel
theorem dX6_scanNumber_70 : decode cX6_scanNumber 70 = .ok (.isub, 1) := by decide +kernel
theorem dX6_scanNumber_71 : decode cX6_scanNumber 71 = .ok (.iconst 4, 1) := by decide +kernel
theorem dX6_scanNumber_72 : decode cX6_scanNumber 72 = .ok (.if_icmp .le 7, 3) := by decide +kernel
theorem dX6_scanNumber_75 : decode cX6_scanNumber 75 = .ok (.iconst 0, 1) := by decide +kernel
theorem dX6_scanNumber_76 : decode cX6_scanNumber 76 = .ok (.goto 4, 3) := by decide +kernel
theorem dX6_scanNumber_79 : decode cX6_scanNumber 79 = .ok (.iconst 2, 1) := by decide +kernel
theorem dX6_scanNumber_80 : decode cX6_scanNumber 80 = .ok (.putfield 67, 3) := by decide +kernel
theorem dX6_scanNumber_83 : decode cX6_scanNumber 83 = .ok (.return_, 1) := by decide +kernel
noncomputable def X6_scanNumber_b2 (a1 : Int32) (s : (Int32 × Wd)) : Option ((Int32 × Wd) ⊕ (Int32 × Wd)) :=
(if a1 ≤ (s.2.1 65 6) then
some (.inr (s.1, s.2))
else
gd (vp_in (s.2.1 65 6) 600) <|
(if (X6_isDigit (s.2.1 66 (ix (s.2.1 65 6))) s.2) = 0 then
some (.inr (s.1, s.2))
else
gd (vp_in (s.2.1 65 6) 600) <|
(some (((s.1 * (10 : Int32)) + (s.2.1 66 (ix (s.2.1 65 6)))) - (48 : Int32))).bind fun z1 =>
(some (puI s.2 65 6 ((s.2.1 65 6) + (1 : Int32)))).bind fun w2 =>
some (.inl (z1, w2))))
set_option maxRecDepth 20000 in
set_option maxHeartbeats 1000000 in
theorem t_X6_scanNumber_b2 {κ : Kx} (a1 : Int32) {P : (Int32 × Wd) → Prop} (K0 : ∀ e, P e → J κ RX6 cX6_scanNumber 3 none (rmk 1 20) 56 [(0, .ref (ad (gm κ) 65)), (2, .int e.1)] [] e.2) (s : (Int32 × Wd)) (h : ok (lp (X6_scanNumber_b2  a1) s) P) : J κ RX6 cX6_scanNumber 3 none (rmk 1 20) 2 [(0, .ref (ad (gm κ) 65)), (1, .int a1), (2, .int s.1)] [] s.2 := by
  refine lp_ind (fun s => J κ RX6 cX6_scanNumber 3 none (rmk 1 20) 2 [(0, .ref (ad (gm κ) 65)), (1, .int a1), (2, .int s.1)] [] s.2) (fun s h => ?_) s h
  unfold X6_scanNumber_b2 at h
  refine j_aload_n 0 dX6_scanNumber_2 rfl rfl ?_
  refine j_getI fl_RX6_57 sh_65 fk_65_6 dX6_scanNumber_3 ?_
  refine j_iload_n 1 dX6_scanNumber_6 rfl rfl ?_
  refine j_ic_ge 56 dX6_scanNumber_7 (by decide) h (fun h => ?_) (fun h => ?_)
  · refine j_loc [(0, .ref (ad (gm κ) 65)), (2, .int s.1)] [0, 2] rfl ?_
    have h := sel_r h
    have h := K0 _ h
    exact h
  · refine j_aload_n 0 dX6_scanNumber_10 rfl rfl ?_
    refine j_getA 66 fl_RX6_9 sh_65 fk_65_1 (by decide) dX6_scanNumber_11 ?_
    refine j_aload_n 0 dX6_scanNumber_14 rfl rfl ?_
    refine j_getI fl_RX6_57 sh_65 fk_65_6 dX6_scanNumber_15 ?_
    refine j_bald sh_66 dX6_scanNumber_18 h (fun h => ?_)
    refine j_callS (As := [.int (s.2.1 66 (ix (s.2.1 65 6)))]) (st := []) [.int (X6_isDigit (s.2.1 66 (ix (s.2.1 65 6))) s.2)] (c_X6_isDigit (kl κ) (gm κ) (kA κ) (s.2.1 66 (ix (s.2.1 65 6))) s.2) ck_RX6_83 st_X6_isDigit ⟨rfl, rfl⟩ ⟨by decide, by decide⟩ rfl rfl (Nat.le_of_ble_eq_true rfl) dX6_scanNumber_19 _ rfl ?_
    refine j_if_eq 56 dX6_scanNumber_22 (by decide) h (fun h => ?_) (fun h => ?_)
    · refine j_loc [(0, .ref (ad (gm κ) 65)), (2, .int s.1)] [0, 2] rfl ?_
      have h := sel_r h
      have h := K0 _ h
      exact h
    · refine j_iload_n 2 dX6_scanNumber_25 rfl rfl ?_
      refine j_bipush (10 : Int32) dX6_scanNumber_26 kb_10 ?_
      refine j_imul dX6_scanNumber_28 ?_
      refine j_aload_n 0 dX6_scanNumber_29 rfl rfl ?_
      refine j_getA 66 fl_RX6_9 sh_65 fk_65_1 (by decide) dX6_scanNumber_30 ?_
      refine j_aload_n 0 dX6_scanNumber_33 rfl rfl ?_
      refine j_getI fl_RX6_57 sh_65 fk_65_6 dX6_scanNumber_34 ?_
      refine j_bald sh_66 dX6_scanNumber_37 h (fun h => ?_)
      refine j_iadd dX6_scanNumber_38 ?_
      refine j_bipush (48 : Int32) dX6_scanNumber_39 kb_48 ?_
      refine j_isub dX6_scanNumber_41 ?_
      refine j_lI h (fun z1 h => ?_)
      refine j_istore_n [(2, .int z1), (0, .ref (ad (gm κ) 65)), (1, .int a1)] dX6_scanNumber_42 rfl (by decide) rfl ?_
      refine j_aload_n 1 dX6_scanNumber_43 rfl rfl ?_
      refine j_dup dX6_scanNumber_44 rfl ?_
      refine j_getI fl_RX6_57 sh_65 fk_65_6 dX6_scanNumber_45 ?_
      refine j_iconst (1 : Int32) dX6_scanNumber_48 ki_1 ?_
      refine j_iadd dX6_scanNumber_49 ?_
      refine j_putI fp_RX6_57 sh_65 fk_65_6 dX6_scanNumber_50 ?_
      refine j_lW h (fun w2 h => ?_)
      refine j_goto 2 dX6_scanNumber_53 (by decide) ?_
      refine j_loc [(0, .ref (ad (gm κ) 65)), (1, .int a1), (2, .int z1)] [1, 2, 0] rfl ?_
      have h := sel_l h
      exact h
noncomputable def X6_scanNumber_j80 (s0 : Int32) (w : Wd) : Option (Wd) :=
(some (puI w 65 7 s0)).bind fun w5 =>
some w5
set_option maxRecDepth 20000 in
set_option maxHeartbeats 1000000 in
theorem t_X6_scanNumber_j80 {κ : Kx} (s0 : Int32) (w : Wd) (h : ok (X6_scanNumber_j80  s0 w) (PVw κ)) : J κ RX6 cX6_scanNumber 3 none (rmk 1 20) 80 [] [.int s0, .ref (ad (gm κ) 65)] w := by
  unfold X6_scanNumber_j80 at h
  refine j_putI fp_RX6_67 sh_65 fk_65_7 dX6_scanNumber_80 ?_
  refine j_lW h (fun w5 h => ?_)
  have h := ok_s h
  exact j_vret dX6_scanNumber_83 rfl h
noncomputable def X6_scanNumber (a1 : Int32) (w : Wd) : Option (Wd) :=
(lp (X6_scanNumber_b2 a1) ((0 : Int32), w)).bind fun e3 =>
(some (puI e3.2 65 10 e3.1)).bind fun w4 =>
(if ((w4.1 65 6) - (w4.1 65 8)) ≤ (4 : Int32) then
X6_scanNumber_j80 (2 : Int32) w4
else
X6_scanNumber_j80 (0 : Int32) w4)
set_option maxRecDepth 20000 in
set_option maxHeartbeats 1000000 in
theorem t_X6_scanNumber {κ : Kx} (a1 : Int32) (w : Wd) (h : ok (X6_scanNumber  a1 w) (PVw κ)) : J κ RX6 cX6_scanNumber 3 none (rmk 1 20) 0 [(0, .ref (ad (gm κ) 65)), (1, .int a1)] [] w := by
  unfold X6_scanNumber at h
  refine j_iconst (0 : Int32) dX6_scanNumber_0 ki_0 ?_
  refine j_istore_n [(2, .int (0 : Int32)), (0, .ref (ad (gm κ) 65)), (1, .int a1)] dX6_scanNumber_1 rfl (by decide) rfl ?_
  refine j_loc [(0, .ref (ad (gm κ) 65)), (1, .int a1), (2, .int (0 : Int32))] [1, 2, 0] rfl ?_
  refine t_X6_scanNumber_b2 a1 (fun e3 h => ?_) ((0 : Int32), w) (ok_bb h)
  · refine j_aload_n 0 dX6_scanNumber_56 rfl rfl ?_
    refine j_iload_n 1 dX6_scanNumber_57 rfl rfl ?_
    refine j_putI fp_RX6_99 sh_65 fk_65_10 dX6_scanNumber_58 ?_
    refine j_lW h (fun w4 h => ?_)
    refine j_aload_n 0 dX6_scanNumber_61 rfl rfl ?_
    refine j_aload_n 0 dX6_scanNumber_62 rfl rfl ?_
    refine j_getI fl_RX6_57 sh_65 fk_65_6 dX6_scanNumber_63 ?_
    refine j_aload_n 0 dX6_scanNumber_66 rfl rfl ?_
    refine j_getI fl_RX6_73 sh_65 fk_65_8 dX6_scanNumber_67 ?_
    refine j_isub dX6_scanNumber_70 ?_
    refine j_iconst (4 : Int32) dX6_scanNumber_71 ki_4 ?_
    refine j_ic_le 79 dX6_scanNumber_72 (by decide) h (fun h => ?_) (fun h => ?_)
    · refine j_iconst (2 : Int32) dX6_scanNumber_79 ki_2 ?_
      refine j_loc [] [] rfl ?_
      exact t_X6_scanNumber_j80 (2 : Int32) w4 h
    · refine j_iconst (0 : Int32) dX6_scanNumber_75 ki_0 ?_
      refine j_goto 80 dX6_scanNumber_76 (by decide) ?_
      refine j_loc [] [] rfl ?_
      exact t_X6_scanNumber_j80 (0 : Int32) w4 h
theorem c_X6_scanNumber (l : Launch) (γ : Gm) (A : Nat → Prop) (a1 : Int32) (w : Wd) (q : Wd) (e : X6_scanNumber  a1 w = some q) : MetG l γ A yX6_scanNumber cX6_scanNumber 3 none (rmk 1 20) [.ref (ad (γ) 65), .int a1] w none q := by
  refine met_of pn_RX6 (Nat.le_of_ble_eq_true rfl) ?_
  intro κ hl hγ hA hρ
  subst hl; subst hγ; subst hA
  exact t_X6_scanNumber   a1 w ⟨q, e, pVw hρ rfl rfl⟩
theorem dJ0_isLatin1_aae02_0 : decode cJ0_isLatin1_aae02 0 = .ok (.getstatic 38, 3) := by decide +kernel
theorem dJ0_isLatin1_aae02_3 : decode cJ0_isLatin1_aae02 3 = .ok (.ifCond .eq 14, 3) := by decide +kernel
theorem dJ0_isLatin1_aae02_6 : decode cJ0_isLatin1_aae02 6 = .ok (.aload_n 0, 1) := by decide +kernel
theorem dJ0_isLatin1_aae02_7 : decode cJ0_isLatin1_aae02 7 = .ok (.getfield 15, 3) := by decide +kernel
theorem dJ0_isLatin1_aae02_10 : decode cJ0_isLatin1_aae02 10 = .ok (.ifCond .ne 7, 3) := by decide +kernel
theorem dJ0_isLatin1_aae02_13 : decode cJ0_isLatin1_aae02 13 = .ok (.iconst 1, 1) := by decide +kernel
theorem dJ0_isLatin1_aae02_14 : decode cJ0_isLatin1_aae02 14 = .ok (.goto 4, 3) := by decide +kernel
theorem dJ0_isLatin1_aae02_17 : decode cJ0_isLatin1_aae02 17 = .ok (.iconst 0, 1) := by decide +kernel
theorem dJ0_isLatin1_aae02_18 : decode cJ0_isLatin1_aae02 18 = .ok (.ireturn, 1) := by decide +kernel
noncomputable def J0_isLatin1_aae02O (ti : Nat) (w : Wd) : Option (Int32) :=
(if (1 : Int32) = 0 then
some (0 : Int32)
else
(if (0 : Int32) = 0 then
some (1 : Int32)
else
some (0 : Int32)))
set_option maxRecDepth 20000 in
set_option maxHeartbeats 1000000 in
theorem t_J0_isLatin1_aae02 {κ : Kx} (ti : Nat) (hti : ti < 4) (w : Wd) (h : ok (J0_isLatin1_aae02O ti  w) (PI κ w)) : J κ RJ0 cJ0_isLatin1_aae02 1 (some .boolean) (rmk 0 0) 0 [(0, .ref (sK (gm κ) ti))] [] w := by
  unfold J0_isLatin1_aae02O at h
  refine j_gets fw_RJ0_38 dJ0_isLatin1_aae02_0 ?_
  refine j_if_eq 17 dJ0_isLatin1_aae02_3 (by decide) h (fun h => ?_) (fun h => ?_)
  · refine j_iconst (0 : Int32) dJ0_isLatin1_aae02_17 ki_0 ?_
    have h := ok_s h
    exact j_iret dJ0_isLatin1_aae02_18 rfl (by decide) h
  · refine j_aload_n 0 dJ0_isLatin1_aae02_6 rfl rfl ?_
    refine j_textC hti fw_RJ0_15 dJ0_isLatin1_aae02_7 ?_
    refine j_if_ne 17 dJ0_isLatin1_aae02_10 (by decide) h (fun h => ?_) (fun h => ?_)
    · refine j_iconst (0 : Int32) dJ0_isLatin1_aae02_17 ki_0 ?_
      have h := ok_s h
      exact j_iret dJ0_isLatin1_aae02_18 rfl (by decide) h
    · refine j_iconst (1 : Int32) dJ0_isLatin1_aae02_13 ki_1 ?_
      refine j_goto 18 dJ0_isLatin1_aae02_14 (by decide) ?_
      have h := ok_s h
      exact j_iret dJ0_isLatin1_aae02_18 rfl (by decide) h
noncomputable def J0_isLatin1_aae02 (ti : Nat) (w : Wd) : Int32 := (J0_isLatin1_aae02O ti  w).getD 0
theorem J0_isLatin1_aae02_eq (ti : Nat) (w : Wd) : J0_isLatin1_aae02O ti  w = some (J0_isLatin1_aae02 ti  w) := by
  unfold J0_isLatin1_aae02 J0_isLatin1_aae02O
  repeat (first | rfl | split)
theorem nz_J0_isLatin1_aae02 (ti : Nat) (w : Wd) : narrow .boolean (.int (J0_isLatin1_aae02 ti  w)) = .int (J0_isLatin1_aae02 ti  w) := by
  unfold J0_isLatin1_aae02 J0_isLatin1_aae02O
  repeat (first | rfl | split)
theorem c_J0_isLatin1_aae02 (l : Launch) (γ : Gm) (A : Nat → Prop) (ti : Nat) (hti : ti < 4) (w : Wd) : MetG l γ A yJ0_isLatin1_aae02 cJ0_isLatin1_aae02 1 (some .boolean) (rmk 0 0) [.ref (sK (γ) ti)] w (some (.int (J0_isLatin1_aae02 ti  w))) w := by
  refine met_of pn_RJ0 (Nat.le_of_ble_eq_true rfl) ?_
  intro κ hl hγ hA hρ
  subst hl; subst hγ; subst hA
  exact t_J0_isLatin1_aae02 ti hti  w ⟨_, J0_isLatin1_aae02_eq ti  w, pI hρ rfl rfl⟩
theorem dJ0_coder_7d493_0 : decode cJ0_coder_7d493 0 = .ok (.getstatic 38, 3) := by decide +kernel
theorem dJ0_coder_7d493_3 : decode cJ0_coder_7d493 3 = .ok (.ifCond .eq 10, 3) := by decide +kernel
theorem dJ0_coder_7d493_6 : decode cJ0_coder_7d493 6 = .ok (.aload_n 0, 1) := by decide +kernel
theorem dJ0_coder_7d493_7 : decode cJ0_coder_7d493 7 = .ok (.getfield 15, 3) := by decide +kernel
theorem dJ0_coder_7d493_10 : decode cJ0_coder_7d493 10 = .ok (.goto 4, 3) := by decide +kernel
theorem dJ0_coder_7d493_13 : decode cJ0_coder_7d493 13 = .ok (.iconst 1, 1) := by decide +kernel
theorem dJ0_coder_7d493_14 : decode cJ0_coder_7d493 14 = .ok (.ireturn, 1) := by decide +kernel
noncomputable def J0_coder_7d493O (ti : Nat) (w : Wd) : Option (Int32) :=
(if (1 : Int32) = 0 then
some (1 : Int32)
else
some (0 : Int32))
set_option maxRecDepth 20000 in
set_option maxHeartbeats 1000000 in
theorem t_J0_coder_7d493 {κ : Kx} (ti : Nat) (hti : ti < 4) (w : Wd) (h : ok (J0_coder_7d493O ti  w) (PI κ w)) : J κ RJ0 cJ0_coder_7d493 1 (some .byte) (rmk 0 0) 0 [(0, .ref (sK (gm κ) ti))] [] w := by
  unfold J0_coder_7d493O at h
  refine j_gets fw_RJ0_38 dJ0_coder_7d493_0 ?_
  refine j_if_eq 13 dJ0_coder_7d493_3 (by decide) h (fun h => ?_) (fun h => ?_)
  · refine j_iconst (1 : Int32) dJ0_coder_7d493_13 ki_1 ?_
    have h := ok_s h
    exact j_iret dJ0_coder_7d493_14 rfl (by decide) h
  · refine j_aload_n 0 dJ0_coder_7d493_6 rfl rfl ?_
    refine j_textC hti fw_RJ0_15 dJ0_coder_7d493_7 ?_
    refine j_goto 14 dJ0_coder_7d493_10 (by decide) ?_
    have h := ok_s h
    exact j_iret dJ0_coder_7d493_14 rfl (by decide) h
noncomputable def J0_coder_7d493 (ti : Nat) (w : Wd) : Int32 := (J0_coder_7d493O ti  w).getD 0
theorem J0_coder_7d493_eq (ti : Nat) (w : Wd) : J0_coder_7d493O ti  w = some (J0_coder_7d493 ti  w) := by
  unfold J0_coder_7d493 J0_coder_7d493O
  repeat (first | rfl | split)
theorem nz_J0_coder_7d493 (ti : Nat) (w : Wd) : narrow .byte (.int (J0_coder_7d493 ti  w)) = .int (J0_coder_7d493 ti  w) := by
  unfold J0_coder_7d493 J0_coder_7d493O
  repeat (first | rfl | split)
theorem c_J0_coder_7d493 (l : Launch) (γ : Gm) (A : Nat → Prop) (ti : Nat) (hti : ti < 4) (w : Wd) : MetG l γ A yJ0_coder_7d493 cJ0_coder_7d493 1 (some .byte) (rmk 0 0) [.ref (sK (γ) ti)] w (some (.int (J0_coder_7d493 ti  w))) w := by
  refine met_of pn_RJ0 (Nat.le_of_ble_eq_true rfl) ?_
  intro κ hl hγ hA hρ
  subst hl; subst hγ; subst hA
  exact t_J0_coder_7d493 ti hti  w ⟨_, J0_coder_7d493_eq ti  w, pI hρ rfl rfl⟩
theorem dJ0_length_8abf5_0 : decode cJ0_length_8abf5 0 = .ok (.aload_n 0, 1) := by decide +kernel
theorem dJ0_length_8abf5_1 : decode cJ0_length_8abf5 1 = .ok (.getfield 9, 3) := by decide +kernel
theorem dJ0_length_8abf5_4 : decode cJ0_length_8abf5 4 = .ok (.arraylength, 1) := by decide +kernel
theorem dJ0_length_8abf5_5 : decode cJ0_length_8abf5 5 = .ok (.aload_n 0, 1) := by decide +kernel
theorem dJ0_length_8abf5_6 : decode cJ0_length_8abf5 6 = .ok (.invokevirtual 335, 3) := by decide +kernel
theorem dJ0_length_8abf5_9 : decode cJ0_length_8abf5 9 = .ok (.ishr, 1) := by decide +kernel
theorem dJ0_length_8abf5_10 : decode cJ0_length_8abf5 10 = .ok (.ireturn, 1) := by decide +kernel
noncomputable def J0_length_8abf5O (ti : Nat) (w : Wd) : Option (Int32) :=
some ((Int32.ofNat (strN.getD ti 0)) >>> ((J0_coder_7d493 ti w) &&& 31))
set_option maxRecDepth 20000 in
set_option maxHeartbeats 1000000 in
theorem t_J0_length_8abf5 {κ : Kx} (ti : Nat) (hti : ti < 4) (w : Wd) (h : ok (J0_length_8abf5O ti  w) (PI κ w)) : J κ RJ0 cJ0_length_8abf5 1 (some .int) (rmk 1 20) 0 [(0, .ref (sK (gm κ) ti))] [] w := by
  unfold J0_length_8abf5O at h
  refine j_aload_n 0 dJ0_length_8abf5_0 rfl rfl ?_
  refine j_textV hti fw_RJ0_9 dJ0_length_8abf5_1 ?_
  refine j_tlen hti dJ0_length_8abf5_4 ?_
  refine j_aload_n 0 dJ0_length_8abf5_5 rfl rfl ?_
  refine j_callT (As := []) (st := [.int (Int32.ofNat (strN.getD ti 0))]) [.int (J0_coder_7d493 ti w), .int (Int32.ofNat (strN.getD ti 0))] (c_J0_coder_7d493 (kl κ) (gm κ) (kA κ) ti hti w) ck_RJ0_335 im_J0_coder_7d493 se_J0_coder_7d493 hti rfl ⟨rfl, rfl⟩ ⟨by decide, by decide⟩ rfl rfl (Nat.le_of_ble_eq_true rfl) dJ0_length_8abf5_6 _ rfl ?_
  refine j_ishr dJ0_length_8abf5_9 ?_
  have h := ok_s h
  exact j_iret dJ0_length_8abf5_10 rfl rfl h
noncomputable def J0_length_8abf5 (ti : Nat) (w : Wd) : Int32 := (J0_length_8abf5O ti  w).getD 0
theorem J0_length_8abf5_eq (ti : Nat) (w : Wd) : J0_length_8abf5O ti  w = some (J0_length_8abf5 ti  w) := by
  unfold J0_length_8abf5 J0_length_8abf5O
  repeat (first | rfl | split)
theorem c_J0_length_8abf5 (l : Launch) (γ : Gm) (A : Nat → Prop) (ti : Nat) (hti : ti < 4) (w : Wd) : MetG l γ A yJ0_length_8abf5 cJ0_length_8abf5 1 (some .int) (rmk 1 20) [.ref (sK (γ) ti)] w (some (.int (J0_length_8abf5 ti  w))) w := by
  refine met_of pn_RJ0 (Nat.le_of_ble_eq_true rfl) ?_
  intro κ hl hγ hA hρ
  subst hl; subst hγ; subst hA
  exact t_J0_length_8abf5 ti hti  w ⟨_, J0_length_8abf5_eq ti  w, pI hρ rfl rfl⟩
theorem dJ1_canEncode_9a6ad_0 : decode cJ1_canEncode_9a6ad 0 = .ok (.iload_n 0, 1) := by decide +kernel
theorem dJ1_canEncode_9a6ad_1 : decode cJ1_canEncode_9a6ad 1 = .ok (.ifCond .lt 14, 3) := by decide +kernel
theorem dJ1_canEncode_9a6ad_4 : decode cJ1_canEncode_9a6ad 4 = .ok (.iload_n 0, 1) := by decide +kernel
theorem dJ1_canEncode_9a6ad_5 : decode cJ1_canEncode_9a6ad 5 = .ok (.sipush 255, 3) := by decide +kernel
theorem dJ1_canEncode_9a6ad_8 : decode cJ1_canEncode_9a6ad 8 = .ok (.if_icmp .gt 7, 3) := by decide +kernel
theorem dJ1_canEncode_9a6ad_11 : decode cJ1_canEncode_9a6ad 11 = .ok (.iconst 1, 1) := by decide +kernel
theorem dJ1_canEncode_9a6ad_12 : decode cJ1_canEncode_9a6ad 12 = .ok (.goto 4, 3) := by decide +kernel
theorem dJ1_canEncode_9a6ad_15 : decode cJ1_canEncode_9a6ad 15 = .ok (.iconst 0, 1) := by decide +kernel
theorem dJ1_canEncode_9a6ad_16 : decode cJ1_canEncode_9a6ad 16 = .ok (.ireturn, 1) := by decide +kernel
noncomputable def J1_canEncode_9a6adO (a0 : Int32) (w : Wd) : Option (Int32) :=
(if a0 < 0 then
some (0 : Int32)
else
(if (255 : Int32) < a0 then
some (0 : Int32)
else
some (1 : Int32)))
set_option maxRecDepth 20000 in
set_option maxHeartbeats 1000000 in
theorem t_J1_canEncode_9a6ad {κ : Kx} (a0 : Int32) (w : Wd) (h : ok (J1_canEncode_9a6adO  a0 w) (PI κ w)) : J κ RJ1 cJ1_canEncode_9a6ad 1 (some .boolean) (rmk 0 0) 0 [(0, .int a0)] [] w := by
  unfold J1_canEncode_9a6adO at h
  refine j_iload_n 0 dJ1_canEncode_9a6ad_0 rfl rfl ?_
  refine j_if_lt 15 dJ1_canEncode_9a6ad_1 (by decide) h (fun h => ?_) (fun h => ?_)
  · refine j_iconst (0 : Int32) dJ1_canEncode_9a6ad_15 ki_0 ?_
    have h := ok_s h
    exact j_iret dJ1_canEncode_9a6ad_16 rfl (by decide) h
  · refine j_iload_n 0 dJ1_canEncode_9a6ad_4 rfl rfl ?_
    refine j_sipush (255 : Int32) dJ1_canEncode_9a6ad_5 ks_255 ?_
    refine j_ic_gt 15 dJ1_canEncode_9a6ad_8 (by decide) h (fun h => ?_) (fun h => ?_)
    · refine j_iconst (0 : Int32) dJ1_canEncode_9a6ad_15 ki_0 ?_
      have h := ok_s h
      exact j_iret dJ1_canEncode_9a6ad_16 rfl (by decide) h
    · refine j_iconst (1 : Int32) dJ1_canEncode_9a6ad_11 ki_1 ?_
      refine j_goto 16 dJ1_canEncode_9a6ad_12 (by decide) ?_
      have h := ok_s h
      exact j_iret dJ1_canEncode_9a6ad_16 rfl (by decide) h
noncomputable def J1_canEncode_9a6ad (a0 : Int32) (w : Wd) : Int32 := (J1_canEncode_9a6adO  a0 w).getD 0
theorem J1_canEncode_9a6ad_eq (a0 : Int32) (w : Wd) : J1_canEncode_9a6adO  a0 w = some (J1_canEncode_9a6ad  a0 w) := by
  unfold J1_canEncode_9a6ad J1_canEncode_9a6adO
  repeat (first | rfl | split)
theorem nz_J1_canEncode_9a6ad (a0 : Int32) (w : Wd) : narrow .boolean (.int (J1_canEncode_9a6ad  a0 w)) = .int (J1_canEncode_9a6ad  a0 w) := by
  unfold J1_canEncode_9a6ad J1_canEncode_9a6adO
  repeat (first | rfl | split)
theorem c_J1_canEncode_9a6ad (l : Launch) (γ : Gm) (A : Nat → Prop) (a0 : Int32) (w : Wd) : MetG l γ A yJ1_canEncode_9a6ad cJ1_canEncode_9a6ad 1 (some .boolean) (rmk 0 0) [.int a0] w (some (.int (J1_canEncode_9a6ad  a0 w))) w := by
  refine met_of pn_RJ1 (Nat.le_of_ble_eq_true rfl) ?_
  intro κ hl hγ hA hρ
  subst hl; subst hγ; subst hA
  exact t_J1_canEncode_9a6ad   a0 w ⟨_, J1_canEncode_9a6ad_eq  a0 w, pI hρ rfl rfl⟩
theorem dJ1_indexOfChar_4cfef_0 : decode cJ1_indexOfChar_4cfef 0 = .ok (.iload_n 1, 1) := by decide +kernel
theorem dJ1_indexOfChar_4cfef_1 : decode cJ1_indexOfChar_4cfef 1 = .ok (.i2b, 1) := by decide +kernel
theorem dJ1_indexOfChar_4cfef_2 : decode cJ1_indexOfChar_4cfef 2 = .ok (.istore 4, 2) := by decide +kernel
theorem dJ1_indexOfChar_4cfef_4 : decode cJ1_indexOfChar_4cfef 4 = .ok (.iload_n 2, 1) := by decide +kernel
theorem dJ1_indexOfChar_4cfef_5 : decode cJ1_indexOfChar_4cfef 5 = .ok (.istore 5, 2) := by decide +kernel
theorem dJ1_indexOfChar_4cfef_7 : decode cJ1_indexOfChar_4cfef 7 = .ok (.iload 5, 2) := by decide +kernel
theorem dJ1_indexOfChar_4cfef_9 : decode cJ1_indexOfChar_4cfef 9 = .ok (.iload_n 3, 1) := by decide +kernel
theorem dJ1_indexOfChar_4cfef_10 : decode cJ1_indexOfChar_4cfef 10 = .ok (.if_icmp .ge 21, 3) := by decide +kernel
theorem dJ1_indexOfChar_4cfef_13 : decode cJ1_indexOfChar_4cfef 13 = .ok (.aload_n 0, 1) := by decide +kernel
theorem dJ1_indexOfChar_4cfef_14 : decode cJ1_indexOfChar_4cfef 14 = .ok (.iload 5, 2) := by decide +kernel
theorem dJ1_indexOfChar_4cfef_16 : decode cJ1_indexOfChar_4cfef 16 = .ok (.baload, 1) := by decide +kernel
theorem dJ1_indexOfChar_4cfef_17 : decode cJ1_indexOfChar_4cfef 17 = .ok (.iload 4, 2) := by decide +kernel
theorem dJ1_indexOfChar_4cfef_19 : decode cJ1_indexOfChar_4cfef 19 = .ok (.if_icmp .ne 6, 3) := by decide +kernel
theorem dJ1_indexOfChar_4cfef_22 : decode cJ1_indexOfChar_4cfef 22 = .ok (.iload 5, 2) := by decide +kernel
theorem dJ1_indexOfChar_4cfef_24 : decode cJ1_indexOfChar_4cfef 24 = .ok (.ireturn, 1) := by decide +kernel
theorem dJ1_indexOfChar_4cfef_25 : decode cJ1_indexOfChar_4cfef 25 = .ok (.iinc 5 1, 3) := by decide +kernel
theorem dJ1_indexOfChar_4cfef_28 : decode cJ1_indexOfChar_4cfef 28 = .ok (.goto (-21), 3) := by decide +kernel
theorem dJ1_indexOfChar_4cfef_31 : decode cJ1_indexOfChar_4cfef 31 = .ok (.iconst (-1), 1) := by decide +kernel
theorem dJ1_indexOfChar_4cfef_32 : decode cJ1_indexOfChar_4cfef 32 = .ok (.ireturn, 1) := by decide +kernel
noncomputable def J1_indexOfChar_4cfef_b7 (ti : Nat) (a3 : Int32) (a4 : Int32) (w : Wd) (s : Int32) : Option (Int32 ⊕ (Int32 ⊕ Unit)) :=
(if a3 ≤ s then
some (.inr (.inr ()))
else
gd (vp_in s (strN.getD ti 0)) <|
(if ((strB.getD ti []).getD (ix s) 0) = a4 then
some (.inr (.inl s))
else
some (.inl (s + (1 : Int32)))))
set_option maxRecDepth 20000 in
set_option maxHeartbeats 1000000 in
theorem t_J1_indexOfChar_4cfef_b7 {κ : Kx} (ti : Nat) (hti : ti < 4) (a3 : Int32) (a4 : Int32) (w : Wd) {P : (Int32 ⊕ Unit) → Prop} (K0 : ∀ e, P (.inl e) → J κ RJ1 cJ1_indexOfChar_4cfef 6 (some .int) (rmk 0 0) 22 [(5, .int e)] [] w) (K1 : ∀ e, P (.inr e) → J κ RJ1 cJ1_indexOfChar_4cfef 6 (some .int) (rmk 0 0) 31 [] [] w) (s : Int32) (h : ok (lp (J1_indexOfChar_4cfef_b7 ti a3 a4 w) s) P) : J κ RJ1 cJ1_indexOfChar_4cfef 6 (some .int) (rmk 0 0) 7 [(0, .ref (sV (gm κ) ti)), (3, .int a3), (4, .int a4), (5, .int s)] [] w := by
  refine lp_ind (fun s => J κ RJ1 cJ1_indexOfChar_4cfef 6 (some .int) (rmk 0 0) 7 [(0, .ref (sV (gm κ) ti)), (3, .int a3), (4, .int a4), (5, .int s)] [] w) (fun s h => ?_) s h
  unfold J1_indexOfChar_4cfef_b7 at h
  refine j_iload 3 dJ1_indexOfChar_4cfef_7 rfl ?_
  refine j_iload_n 1 dJ1_indexOfChar_4cfef_9 rfl rfl ?_
  refine j_ic_ge 31 dJ1_indexOfChar_4cfef_10 (by decide) h (fun h => ?_) (fun h => ?_)
  · refine j_loc [] [] rfl ?_
    have h := sel_r h
    have h := K1 _ h
    exact h
  · refine j_aload_n 0 dJ1_indexOfChar_4cfef_13 rfl rfl ?_
    refine j_iload 3 dJ1_indexOfChar_4cfef_14 rfl ?_
    refine j_tb hti dJ1_indexOfChar_4cfef_16 h (fun h => ?_)
    refine j_iload 2 dJ1_indexOfChar_4cfef_17 rfl ?_
    refine j_ic_ne 25 dJ1_indexOfChar_4cfef_19 (by decide) h (fun h => ?_) (fun h => ?_)
    · refine j_iinc (s + (1 : Int32)) 3 [(5, .int (s + (1 : Int32))), (0, .ref (sV (gm κ) ti)), (3, .int a3), (4, .int a4)] dJ1_indexOfChar_4cfef_25 rfl (by rw [kn_1]) (by decide) rfl ?_
      refine j_goto 7 dJ1_indexOfChar_4cfef_28 (by decide) ?_
      refine j_loc [(0, .ref (sV (gm κ) ti)), (3, .int a3), (4, .int a4), (5, .int (s + (1 : Int32)))] [1, 2, 3, 0] rfl ?_
      have h := sel_l h
      exact h
    · refine j_loc [(5, .int s)] [3] rfl ?_
      have h := sel_r h
      have h := K0 _ h
      exact h
noncomputable def J1_indexOfChar_4cfef (ti : Nat) (a1 : Int32) (a2 : Int32) (a3 : Int32) (w : Wd) : Option (Int32) :=
(some (Int32.toInt8 a1).toInt32).bind fun z1 =>
(lp (J1_indexOfChar_4cfef_b7 ti a3 z1 w) a2).bind fun e2 => match e2 with
| (.inl e3) => (some e3)
| (.inr e4) => (some (-1 : Int32))
set_option maxRecDepth 20000 in
set_option maxHeartbeats 1000000 in
theorem t_J1_indexOfChar_4cfef {κ : Kx} (ti : Nat) (hti : ti < 4) (a1 : Int32) (a2 : Int32) (a3 : Int32) (w : Wd) (h : ok (J1_indexOfChar_4cfef ti a1 a2 a3 w) (PI κ w)) : J κ RJ1 cJ1_indexOfChar_4cfef 6 (some .int) (rmk 0 0) 0 [(0, .ref (sV (gm κ) ti)), (1, .int a1), (2, .int a2), (3, .int a3)] [] w := by
  unfold J1_indexOfChar_4cfef at h
  refine j_iload_n 1 dJ1_indexOfChar_4cfef_0 rfl rfl ?_
  refine j_i2b dJ1_indexOfChar_4cfef_1 ?_
  refine j_lI h (fun z1 h => ?_)
  refine j_istore [(4, .int z1), (0, .ref (sV (gm κ) ti)), (1, .int a1), (2, .int a2), (3, .int a3)] dJ1_indexOfChar_4cfef_2 (by decide) rfl ?_
  refine j_iload_n 3 dJ1_indexOfChar_4cfef_4 rfl rfl ?_
  refine j_istore [(5, .int a2), (4, .int z1), (0, .ref (sV (gm κ) ti)), (1, .int a1), (2, .int a2), (3, .int a3)] dJ1_indexOfChar_4cfef_5 (by decide) rfl ?_
  refine j_loc [(0, .ref (sV (gm κ) ti)), (3, .int a3), (4, .int z1), (5, .int a2)] [2, 5, 1, 0] rfl ?_
  refine t_J1_indexOfChar_4cfef_b7 ti hti a3 z1 w (fun e3 h => ?_) (fun e4 h => ?_) a2 (ok_bb h)
  · refine j_iload 0 dJ1_indexOfChar_4cfef_22 rfl ?_
    have h := ok_s h
    exact j_iret dJ1_indexOfChar_4cfef_24 rfl rfl h
  · refine j_iconst (-1 : Int32) dJ1_indexOfChar_4cfef_31 ki_m1 ?_
    have h := ok_s h
    exact j_iret dJ1_indexOfChar_4cfef_32 rfl rfl h
theorem c_J1_indexOfChar_4cfef (l : Launch) (γ : Gm) (A : Nat → Prop) (ti : Nat) (hti : ti < 4) (a1 : Int32) (a2 : Int32) (a3 : Int32) (w : Wd) (q : Int32) (e : J1_indexOfChar_4cfef ti a1 a2 a3 w = some q) : MetG l γ A yJ1_indexOfChar_4cfef cJ1_indexOfChar_4cfef 6 (some .int) (rmk 0 0) [.ref (sV (γ) ti), .int a1, .int a2, .int a3] w (some (.int q)) w := by
  refine met_of pn_RJ1 (Nat.le_of_ble_eq_true rfl) ?_
  intro κ hl hγ hA hρ
  subst hl; subst hγ; subst hA
  exact t_J1_indexOfChar_4cfef ti hti a1 a2 a3 w ⟨q, e, pI hρ rfl rfl⟩
theorem dJ1_indexOf_4cfef_0 : decode cJ1_indexOf_4cfef 0 = .ok (.iload_n 1, 1) := by decide +kernel
theorem dJ1_indexOf_4cfef_1 : decode cJ1_indexOf_4cfef 1 = .ok (.invokestatic 88, 3) := by decide +kernel
theorem dJ1_indexOf_4cfef_4 : decode cJ1_indexOf_4cfef 4 = .ok (.ifCond .ne 5, 3) := by decide +kernel
theorem dJ1_indexOf_4cfef_7 : decode cJ1_indexOf_4cfef 7 = .ok (.iconst (-1), 1) := by decide +kernel
theorem dJ1_indexOf_4cfef_8 : decode cJ1_indexOf_4cfef 8 = .ok (.ireturn, 1) := by decide +kernel
theorem dJ1_indexOf_4cfef_9 : decode cJ1_indexOf_4cfef 9 = .ok (.iload_n 2, 1) := by decide +kernel
theorem dJ1_indexOf_4cfef_10 : decode cJ1_indexOf_4cfef 10 = .ok (.iconst 0, 1) := by decide +kernel
theorem dJ1_indexOf_4cfef_11 : decode cJ1_indexOf_4cfef 11 = .ok (.invokestatic 92, 3) := by decide +kernel
theorem dJ1_indexOf_4cfef_14 : decode cJ1_indexOf_4cfef 14 = .ok (.istore_n 2, 1) := by decide +kernel
theorem dJ1_indexOf_4cfef_15 : decode cJ1_indexOf_4cfef 15 = .ok (.iload_n 3, 1) := by decide +kernel
theorem dJ1_indexOf_4cfef_16 : decode cJ1_indexOf_4cfef 16 = .ok (.aload_n 0, 1) := by decide +kernel
theorem dJ1_indexOf_4cfef_17 : decode cJ1_indexOf_4cfef 17 = .ok (.arraylength, 1) := by decide +kernel
theorem dJ1_indexOf_4cfef_18 : decode cJ1_indexOf_4cfef 18 = .ok (.invokestatic 38, 3) := by decide +kernel
theorem dJ1_indexOf_4cfef_21 : decode cJ1_indexOf_4cfef 21 = .ok (.istore_n 3, 1) := by decide +kernel
theorem dJ1_indexOf_4cfef_22 : decode cJ1_indexOf_4cfef 22 = .ok (.iload_n 2, 1) := by decide +kernel
theorem dJ1_indexOf_4cfef_23 : decode cJ1_indexOf_4cfef 23 = .ok (.iload_n 3, 1) := by decide +kernel
theorem dJ1_indexOf_4cfef_24 : decode cJ1_indexOf_4cfef 24 = .ok (.if_icmp .lt 5, 3) := by decide +kernel
theorem dJ1_indexOf_4cfef_27 : decode cJ1_indexOf_4cfef 27 = .ok (.iconst (-1), 1) := by decide +kernel
theorem dJ1_indexOf_4cfef_28 : decode cJ1_indexOf_4cfef 28 = .ok (.ireturn, 1) := by decide +kernel
theorem dJ1_indexOf_4cfef_29 : decode cJ1_indexOf_4cfef 29 = .ok (.aload_n 0, 1) := by decide +kernel
theorem dJ1_indexOf_4cfef_30 : decode cJ1_indexOf_4cfef 30 = .ok (.iload_n 1, 1) := by decide +kernel
theorem dJ1_indexOf_4cfef_31 : decode cJ1_indexOf_4cfef 31 = .ok (.iload_n 2, 1) := by decide +kernel
theorem dJ1_indexOf_4cfef_32 : decode cJ1_indexOf_4cfef 32 = .ok (.iload_n 3, 1) := by decide +kernel
theorem dJ1_indexOf_4cfef_33 : decode cJ1_indexOf_4cfef 33 = .ok (.invokestatic 95, 3) := by decide +kernel
theorem dJ1_indexOf_4cfef_36 : decode cJ1_indexOf_4cfef 36 = .ok (.ireturn, 1) := by decide +kernel
noncomputable def J1_indexOf_4cfef (ti : Nat) (a1 : Int32) (a2 : Int32) (a3 : Int32) (w : Wd) : Option (Int32) :=
(if (J1_canEncode_9a6ad a1 w) = 0 then
some (-1 : Int32)
else
(some (mnI a3 (Int32.ofNat (strN.getD ti 0)))).bind fun z1 =>
(if (mxI a2 (0 : Int32)) < z1 then
(J1_indexOfChar_4cfef ti a1 (mxI a2 (0 : Int32)) z1 w).bind fun q2 =>
some q2
else
some (-1 : Int32)))
set_option maxRecDepth 20000 in
set_option maxHeartbeats 1000000 in
theorem t_J1_indexOf_4cfef {κ : Kx} (ti : Nat) (hti : ti < 4) (a1 : Int32) (a2 : Int32) (a3 : Int32) (w : Wd) (h : ok (J1_indexOf_4cfef ti a1 a2 a3 w) (PI κ w)) : J κ RJ1 cJ1_indexOf_4cfef 4 (some .int) (rmk 1 25) 0 [(0, .ref (sV (gm κ) ti)), (1, .int a1), (2, .int a2), (3, .int a3)] [] w := by
  unfold J1_indexOf_4cfef at h
  refine j_iload_n 1 dJ1_indexOf_4cfef_0 rfl rfl ?_
  refine j_callS (As := [.int a1]) (st := []) [.int (J1_canEncode_9a6ad a1 w)] (c_J1_canEncode_9a6ad (kl κ) (gm κ) (kA κ) a1 w) ck_RJ1_88 st_J1_canEncode_9a6ad ⟨rfl, rfl⟩ ⟨by decide, by decide⟩ rfl rfl (Nat.le_of_ble_eq_true rfl) dJ1_indexOf_4cfef_1 _ rfl ?_
  refine j_if_ne 9 dJ1_indexOf_4cfef_4 (by decide) h (fun h => ?_) (fun h => ?_)
  · refine j_iload_n 2 dJ1_indexOf_4cfef_9 rfl rfl ?_
    refine j_iconst (0 : Int32) dJ1_indexOf_4cfef_10 ki_0 ?_
    refine j_mxI mt_RJ1_92 (by decide) (Nat.le_of_ble_eq_true rfl) dJ1_indexOf_4cfef_11 ?_
    refine j_istore_n [(2, .int (mxI a2 (0 : Int32))), (0, .ref (sV (gm κ) ti)), (1, .int a1), (3, .int a3)] dJ1_indexOf_4cfef_14 rfl (by decide) rfl ?_
    refine j_iload_n 3 dJ1_indexOf_4cfef_15 rfl rfl ?_
    refine j_aload_n 1 dJ1_indexOf_4cfef_16 rfl rfl ?_
    refine j_tlen hti dJ1_indexOf_4cfef_17 ?_
    refine j_mnI mt_RJ1_38 (by decide) (Nat.le_of_ble_eq_true rfl) dJ1_indexOf_4cfef_18 ?_
    refine j_lI h (fun z1 h => ?_)
    refine j_istore_n [(3, .int z1), (2, .int (mxI a2 (0 : Int32))), (0, .ref (sV (gm κ) ti)), (1, .int a1)] dJ1_indexOf_4cfef_21 rfl (by decide) rfl ?_
    refine j_iload_n 1 dJ1_indexOf_4cfef_22 rfl rfl ?_
    refine j_iload_n 0 dJ1_indexOf_4cfef_23 rfl rfl ?_
    refine j_ic_lt 29 dJ1_indexOf_4cfef_24 (by decide) h (fun h => ?_) (fun h => ?_)
    · refine j_aload_n 2 dJ1_indexOf_4cfef_29 rfl rfl ?_
      refine j_iload_n 3 dJ1_indexOf_4cfef_30 rfl rfl ?_
      refine j_iload_n 1 dJ1_indexOf_4cfef_31 rfl rfl ?_
      refine j_iload_n 0 dJ1_indexOf_4cfef_32 rfl rfl ?_
      obtain ⟨q2, e3, h⟩ := ok_b h
      refine j_callS (As := [.ref (sV (gm κ) ti), .int a1, .int (mxI a2 (0 : Int32)), .int z1]) (st := []) [.int q2] (c_J1_indexOfChar_4cfef (kl κ) (gm κ) (kA κ) ti hti a1 (mxI a2 (0 : Int32)) z1 w q2 e3) ck_RJ1_95 st_J1_indexOfChar_4cfef ⟨rfl, rfl⟩ ⟨by decide, by decide⟩ rfl rfl (Nat.le_of_ble_eq_true rfl) dJ1_indexOf_4cfef_33 _ rfl ?_
      have h := ok_s h
      exact j_iret dJ1_indexOf_4cfef_36 rfl rfl h
    · refine j_iconst (-1 : Int32) dJ1_indexOf_4cfef_27 ki_m1 ?_
      have h := ok_s h
      exact j_iret dJ1_indexOf_4cfef_28 rfl rfl h
  · refine j_iconst (-1 : Int32) dJ1_indexOf_4cfef_7 ki_m1 ?_
    have h := ok_s h
    exact j_iret dJ1_indexOf_4cfef_8 rfl rfl h
theorem c_J1_indexOf_4cfef (l : Launch) (γ : Gm) (A : Nat → Prop) (ti : Nat) (hti : ti < 4) (a1 : Int32) (a2 : Int32) (a3 : Int32) (w : Wd) (q : Int32) (e : J1_indexOf_4cfef ti a1 a2 a3 w = some q) : MetG l γ A yJ1_indexOf_4cfef cJ1_indexOf_4cfef 4 (some .int) (rmk 1 25) [.ref (sV (γ) ti), .int a1, .int a2, .int a3] w (some (.int q)) w := by
  refine met_of pn_RJ1 (Nat.le_of_ble_eq_true rfl) ?_
  intro κ hl hγ hA hρ
  subst hl; subst hγ; subst hA
  exact t_J1_indexOf_4cfef ti hti a1 a2 a3 w ⟨q, e, pI hρ rfl rfl⟩
theorem dJ0_indexOf_7cf53_0 : decode cJ0_indexOf_7cf53 0 = .ok (.aload_n 0, 1) := by decide +kernel
theorem dJ0_indexOf_7cf53_1 : decode cJ0_indexOf_7cf53 1 = .ok (.invokevirtual 492, 3) := by decide +kernel
theorem dJ0_indexOf_7cf53_4 : decode cJ0_indexOf_7cf53 4 = .ok (.ifCond .eq 19, 3) := by decide +kernel
theorem dJ0_indexOf_7cf53_7 : decode cJ0_indexOf_7cf53 7 = .ok (.aload_n 0, 1) := by decide +kernel
theorem dJ0_indexOf_7cf53_8 : decode cJ0_indexOf_7cf53 8 = .ok (.getfield 9, 3) := by decide +kernel
theorem dJ0_indexOf_7cf53_11 : decode cJ0_indexOf_7cf53 11 = .ok (.iload_n 1, 1) := by decide +kernel
theorem dJ0_indexOf_7cf53_12 : decode cJ0_indexOf_7cf53 12 = .ok (.iload_n 2, 1) := by decide +kernel
theorem dJ0_indexOf_7cf53_13 : decode cJ0_indexOf_7cf53 13 = .ok (.aload_n 0, 1) := by decide +kernel
theorem dJ0_indexOf_7cf53_14 : decode cJ0_indexOf_7cf53 14 = .ok (.invokevirtual 505, 3) := by decide +kernel
theorem dJ0_indexOf_7cf53_17 : decode cJ0_indexOf_7cf53 17 = .ok (.invokestatic 637, 3) := by decide +kernel
theorem dJ0_indexOf_7cf53_20 : decode cJ0_indexOf_7cf53 20 = .ok (.goto 16, 3) := by decide +kernel
theorem dJ0_indexOf_7cf53_23 : decode cJ0_indexOf_7cf53 23 = .ok (.aload_n 0, 1) := by decide +kernel
theorem dJ0_indexOf_7cf53_24 : decode cJ0_indexOf_7cf53 24 = .ok (.getfield 9, 3) := by decide +kernel
theorem dJ0_indexOf_7cf53_27 : decode cJ0_indexOf_7cf53 27 = .ok (.iload_n 1, 1) := by decide +kernel
theorem dJ0_indexOf_7cf53_28 : decode cJ0_indexOf_7cf53 28 = .ok (.iload_n 2, 1) := by decide +kernel
theorem dJ0_indexOf_7cf53_29 : decode cJ0_indexOf_7cf53 29 = .ok (.aload_n 0, 1) := by decide +kernel
theorem dJ0_indexOf_7cf53_30 : decode cJ0_indexOf_7cf53 30 = .ok (.invokevirtual 505, 3) := by decide +kernel
theorem dJ0_indexOf_7cf53_33 : decode cJ0_indexOf_7cf53 33 = .ok (.invokestatic 640, 3) := by decide +kernel
theorem dJ0_indexOf_7cf53_36 : decode cJ0_indexOf_7cf53 36 = .ok (.ireturn, 1) := by decide +kernel
noncomputable def J0_indexOf_7cf53 (ti : Nat) (a1 : Int32) (a2 : Int32) (w : Wd) : Option (Int32) :=
(if (J0_isLatin1_aae02 ti w) = 0 then
none
else
(J1_indexOf_4cfef ti a1 a2 (J0_length_8abf5 ti w) w).bind fun q1 =>
some q1)
set_option maxRecDepth 20000 in
set_option maxHeartbeats 1000000 in
theorem t_J0_indexOf_7cf53 {κ : Kx} (ti : Nat) (hti : ti < 4) (a1 : Int32) (a2 : Int32) (w : Wd) (h : ok (J0_indexOf_7cf53 ti a1 a2 w) (PI κ w)) : J κ RJ0 cJ0_indexOf_7cf53 3 (some .int) (rmk 2 48) 0 [(0, .ref (sK (gm κ) ti)), (1, .int a1), (2, .int a2)] [] w := by
  unfold J0_indexOf_7cf53 at h
  refine j_aload_n 0 dJ0_indexOf_7cf53_0 rfl rfl ?_
  refine j_callT (As := []) (st := []) [.int (J0_isLatin1_aae02 ti w)] (c_J0_isLatin1_aae02 (kl κ) (gm κ) (kA κ) ti hti w) ck_RJ0_492 im_J0_isLatin1_aae02 se_J0_isLatin1_aae02 hti rfl ⟨rfl, rfl⟩ ⟨by decide, by decide⟩ rfl rfl (Nat.le_of_ble_eq_true rfl) dJ0_indexOf_7cf53_1 _ rfl ?_
  refine j_if_eq 23 dJ0_indexOf_7cf53_4 (by decide) h (fun h => ?_) (fun h => ?_)
  · refine j_aload_n 0 dJ0_indexOf_7cf53_23 rfl rfl ?_
    refine j_textV hti fw_RJ0_9 dJ0_indexOf_7cf53_24 ?_
    refine j_iload_n 1 dJ0_indexOf_7cf53_27 rfl rfl ?_
    refine j_iload_n 2 dJ0_indexOf_7cf53_28 rfl rfl ?_
    refine j_aload_n 0 dJ0_indexOf_7cf53_29 rfl rfl ?_
    refine j_callT (As := []) (st := [.int a2, .int a1, .ref (sV (gm κ) ti)]) [.int (J0_length_8abf5 ti w), .int a2, .int a1, .ref (sV (gm κ) ti)] (c_J0_length_8abf5 (kl κ) (gm κ) (kA κ) ti hti w) ck_RJ0_505 im_J0_length_8abf5 se_J0_length_8abf5 hti rfl ⟨rfl, rfl⟩ ⟨by decide, by decide⟩ rfl rfl (Nat.le_of_ble_eq_true rfl) dJ0_indexOf_7cf53_30 _ rfl ?_
    exact ok_n h
  · refine j_aload_n 0 dJ0_indexOf_7cf53_7 rfl rfl ?_
    refine j_textV hti fw_RJ0_9 dJ0_indexOf_7cf53_8 ?_
    refine j_iload_n 1 dJ0_indexOf_7cf53_11 rfl rfl ?_
    refine j_iload_n 2 dJ0_indexOf_7cf53_12 rfl rfl ?_
    refine j_aload_n 0 dJ0_indexOf_7cf53_13 rfl rfl ?_
    refine j_callT (As := []) (st := [.int a2, .int a1, .ref (sV (gm κ) ti)]) [.int (J0_length_8abf5 ti w), .int a2, .int a1, .ref (sV (gm κ) ti)] (c_J0_length_8abf5 (kl κ) (gm κ) (kA κ) ti hti w) ck_RJ0_505 im_J0_length_8abf5 se_J0_length_8abf5 hti rfl ⟨rfl, rfl⟩ ⟨by decide, by decide⟩ rfl rfl (Nat.le_of_ble_eq_true rfl) dJ0_indexOf_7cf53_14 _ rfl ?_
    obtain ⟨q1, e2, h⟩ := ok_b h
    refine j_callS (As := [.ref (sV (gm κ) ti), .int a1, .int a2, .int (J0_length_8abf5 ti w)]) (st := []) [.int q1] (c_J1_indexOf_4cfef (kl κ) (gm κ) (kA κ) ti hti a1 a2 (J0_length_8abf5 ti w) w q1 e2) ck_RJ0_637 st_J1_indexOf_4cfef ⟨rfl, rfl⟩ ⟨by decide, by decide⟩ rfl rfl (Nat.le_of_ble_eq_true rfl) dJ0_indexOf_7cf53_17 _ rfl ?_
    refine j_goto 36 dJ0_indexOf_7cf53_20 (by decide) ?_
    have h := ok_s h
    exact j_iret dJ0_indexOf_7cf53_36 rfl rfl h
theorem c_J0_indexOf_7cf53 (l : Launch) (γ : Gm) (A : Nat → Prop) (ti : Nat) (hti : ti < 4) (a1 : Int32) (a2 : Int32) (w : Wd) (q : Int32) (e : J0_indexOf_7cf53 ti a1 a2 w = some q) : MetG l γ A yJ0_indexOf_7cf53 cJ0_indexOf_7cf53 3 (some .int) (rmk 2 48) [.ref (sK (γ) ti), .int a1, .int a2] w (some (.int q)) w := by
  refine met_of pn_RJ0 (Nat.le_of_ble_eq_true rfl) ?_
  intro κ hl hγ hA hρ
  subst hl; subst hγ; subst hA
  exact t_J0_indexOf_7cf53 ti hti a1 a2 w ⟨q, e, pI hρ rfl rfl⟩
theorem dJ0_indexOf_0f7a4_0 : decode cJ0_indexOf_0f7a4 0 = .ok (.aload_n 0, 1) := by decide +kernel
theorem dJ0_indexOf_0f7a4_1 : decode cJ0_indexOf_0f7a4 1 = .ok (.iload_n 1, 1) := by decide +kernel
theorem dJ0_indexOf_0f7a4_2 : decode cJ0_indexOf_0f7a4 2 = .ok (.iconst 0, 1) := by decide +kernel
theorem dJ0_indexOf_0f7a4_3 : decode cJ0_indexOf_0f7a4 3 = .ok (.invokevirtual 633, 3) := by decide +kernel
theorem dJ0_indexOf_0f7a4_6 : decode cJ0_indexOf_0f7a4 6 = .ok (.ireturn, 1) := by decide +kernel
noncomputable def J0_indexOf_0f7a4 (ti : Nat) (a1 : Int32) (w : Wd) : Option (Int32) :=
(J0_indexOf_7cf53 ti a1 (0 : Int32) w).bind fun q1 =>
some q1
set_option maxRecDepth 20000 in
set_option maxHeartbeats 1000000 in
theorem t_J0_indexOf_0f7a4 {κ : Kx} (ti : Nat) (hti : ti < 4) (a1 : Int32) (w : Wd) (h : ok (J0_indexOf_0f7a4 ti a1 w) (PI κ w)) : J κ RJ0 cJ0_indexOf_0f7a4 2 (some .int) (rmk 3 70) 0 [(0, .ref (sK (gm κ) ti)), (1, .int a1)] [] w := by
  unfold J0_indexOf_0f7a4 at h
  refine j_aload_n 0 dJ0_indexOf_0f7a4_0 rfl rfl ?_
  refine j_iload_n 1 dJ0_indexOf_0f7a4_1 rfl rfl ?_
  refine j_iconst (0 : Int32) dJ0_indexOf_0f7a4_2 ki_0 ?_
  obtain ⟨q1, e2, h⟩ := ok_b h
  refine j_callT (As := [.int a1, .int (0 : Int32)]) (st := []) [.int q1] (c_J0_indexOf_7cf53 (kl κ) (gm κ) (kA κ) ti hti a1 (0 : Int32) w q1 e2) ck_RJ0_633 im_J0_indexOf_7cf53 se_J0_indexOf_7cf53 hti rfl ⟨rfl, rfl⟩ ⟨by decide, by decide⟩ rfl rfl (Nat.le_of_ble_eq_true rfl) dJ0_indexOf_0f7a4_3 _ rfl ?_
  have h := ok_s h
  exact j_iret dJ0_indexOf_0f7a4_6 rfl rfl h
theorem c_J0_indexOf_0f7a4 (l : Launch) (γ : Gm) (A : Nat → Prop) (ti : Nat) (hti : ti < 4) (a1 : Int32) (w : Wd) (q : Int32) (e : J0_indexOf_0f7a4 ti a1 w = some q) : MetG l γ A yJ0_indexOf_0f7a4 cJ0_indexOf_0f7a4 2 (some .int) (rmk 3 70) [.ref (sK (γ) ti), .int a1] w (some (.int q)) w := by
  refine met_of pn_RJ0 (Nat.le_of_ble_eq_true rfl) ?_
  intro κ hl hγ hA hρ
  subst hl; subst hγ; subst hA
  exact t_J0_indexOf_0f7a4 ti hti a1 w ⟨q, e, pI hρ rfl rfl⟩
