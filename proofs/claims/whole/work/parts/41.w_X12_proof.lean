theorem dX12_proof_0 : decode cX12_proof 0 = .ok (.aload_n 0, 1) := by decide +kernel
theorem dX12_proof_1 : decode cX12_proof 1 = .ok (.iload_n 1, 1) := by decide +kernel
theorem dX12_proof_2 : decode cX12_proof 2 = .ok (.invokevirtual 339, 3) := by decide +kernel
theorem dX12_proof_5 : decode cX12_proof 5 = .ok (.ifCond .eq 25, 3) := by decide +kernel
theorem dX12_proof_8 : decode cX12_proof 8 = .ok (.iload_n 2, 1) := by decide +kernel
theorem dX12_proof_9 : decode cX12_proof 9 = .ok (.invokestatic 322, 3) := by decide +kernel
theorem dX12_proof_12 : decode cX12_proof 12 = .ok (.ifCond .eq 18, 3) := by decide +kernel
theorem dX12_proof_15 : decode cX12_proof 15 = .ok (.lload_n 3, 1) := by decide +kernel
theorem dX12_proof_16 : decode cX12_proof 16 = .ok (.invokestatic 529, 3) := by decide +kernel
theorem dX12_proof_19 : decode cX12_proof 19 = .ok (.ifCond .eq 11, 3) := by decide +kernel
theorem dX12_proof_22 : decode cX12_proof 22 = .ok (.lload 5, 2) := by decide +kernel
theorem dX12_proof_24 : decode cX12_proof 24 = .ok (.invokestatic 529, 3) := by decide +kernel
theorem dX12_proof_27 : decode cX12_proof 27 = .ok (.ifCond .ne 9, 3) := by decide +kernel
theorem dX12_proof_30 : decode cX12_proof 30 = .ok (.aload_n 0, 1) := by decide +kernel
theorem dX12_proof_31 : decode cX12_proof 31 = .ok (.iconst 1, 1) := by decide +kernel
theorem dX12_proof_32 : decode cX12_proof 32 = .ok (.invokevirtual 312, 3) := by decide +kernel
theorem dX12_proof_35 : decode cX12_proof 35 = .ok (.ireturn, 1) := by decide +kernel
theorem dX12_proof_36 : decode cX12_proof 36 = .ok (.aload_n 0, 1) := by decide +kernel
theorem dX12_proof_37 : decode cX12_proof 37 = .ok (.getfield 533, 3) := by decide +kernel
theorem dX12_proof_40 : decode cX12_proof 40 = .ok (.bipush 60, 2) := by decide +kernel
theorem dX12_proof_42 : decode cX12_proof 42 = .ok (.if_icmp .ne 9, 3) := by decide +kernel
theorem dX12_proof_45 : decode cX12_proof 45 = .ok (.aload_n 0, 1) := by decide +kernel
theorem dX12_proof_46 : decode cX12_proof 46 = .ok (.iconst 4, 1) := by decide +kernel
theorem dX12_proof_47 : decode cX12_proof 47 = .ok (.invokevirtual 312, 3) := by decide +kernel
theorem dX12_proof_50 : decode cX12_proof 50 = .ok (.ireturn, 1) := by decide +kernel
theorem dX12_proof_51 : decode cX12_proof 51 = .ok (.aload_n 0, 1) := by decide +kernel
theorem dX12_proof_52 : decode cX12_proof 52 = .ok (.getfield 226, 3) := by decide +kernel
theorem dX12_proof_55 : decode cX12_proof 55 = .ok (.aload_n 0, 1) := by decide +kernel
theorem dX12_proof_56 : decode cX12_proof 56 = .ok (.getfield 533, 3) := by decide +kernel
theorem dX12_proof_59 : decode cX12_proof 59 = .ok (.iload_n 1, 1) := by decide +kernel
theorem dX12_proof_60 : decode cX12_proof 60 = .ok (.iastore, 1) := by decide +kernel
theorem dX12_proof_61 : decode cX12_proof 61 = .ok (.aload_n 0, 1) := by decide +kernel
theorem dX12_proof_62 : decode cX12_proof 62 = .ok (.getfield 229, 3) := by decide +kernel
theorem dX12_proof_65 : decode cX12_proof 65 = .ok (.aload_n 0, 1) := by decide +kernel
theorem dX12_proof_66 : decode cX12_proof 66 = .ok (.getfield 533, 3) := by decide +kernel
theorem dX12_proof_69 : decode cX12_proof 69 = .ok (.iload_n 2, 1) := by decide +kernel
theorem dX12_proof_70 : decode cX12_proof 70 = .ok (.iastore, 1) := by decide +kernel
theorem dX12_proof_71 : decode cX12_proof 71 = .ok (.aload_n 0, 1) := by decide +kernel
theorem dX12_proof_72 : decode cX12_proof 72 = .ok (.getfield 247, 3) := by decide +kernel
theorem dX12_proof_75 : decode cX12_proof 75 = .ok (.aload_n 0, 1) := by decide +kernel
theorem dX12_proof_76 : decode cX12_proof 76 = .ok (.getfield 533, 3) := by decide +kernel
theorem dX12_proof_79 : decode cX12_proof 79 = .ok (.lload_n 3, 1) := by decide +kernel
theorem dX12_proof_80 : decode cX12_proof 80 = .ok (.lastore, 1) := by decide +kernel
theorem dX12_proof_81 : decode cX12_proof 81 = .ok (.aload_n 0, 1) := by decide +kernel
theorem dX12_proof_82 : decode cX12_proof 82 = .ok (.getfield 250, 3) := by decide +kernel
theorem dX12_proof_85 : decode cX12_proof 85 = .ok (.aload_n 0, 1) := by decide +kernel
theorem dX12_proof_86 : decode cX12_proof 86 = .ok (.getfield 533, 3) := by decide +kernel
theorem dX12_proof_89 : decode cX12_proof 89 = .ok (.lload 5, 2) := by decide +kernel
theorem dX12_proof_91 : decode cX12_proof 91 = .ok (.lastore, 1) := by decide +kernel
theorem dX12_proof_92 : decode cX12_proof 92 = .ok (.aload_n 0, 1) := by decide +kernel
theorem dX12_proof_93 : decode cX12_proof 93 = .ok (.dup, 1) := by decide +kernel
theorem dX12_proof_94 : decode cX12_proof 94 = .ok (.getfield 533, 3) := by decide +kernel
theorem dX12_proof_97 : decode cX12_proof 97 = .ok (.iconst 1, 1) := by decide +kernel
theorem dX12_proof_98 : decode cX12_proof 98 = .ok (.iadd, 1) := by decide +kernel
theorem dX12_proof_99 : decode cX12_proof 99 = .ok (.putfield 533, 3) := by decide +kernel
theorem dX12_proof_102 : decode cX12_proof 102 = .ok (.aload_n 0, 1) := by decide +kernel
theorem dX12_proof_103 : decode cX12_proof 103 = .ok (.aload_n 0, 1) := by decide +kernel
theorem dX12_proof_104 : decode cX12_proof 104 = .ok (.getfield 533, 3) := by decide +kernel
theorem dX12_proof_107 : decode cX12_proof 107 = .ok (.iconst 1, 1) := by decide +kernel
theorem dX12_proof_108 : decode cX12_proof 108 = .ok (.isub, 1) := by decide +kernel
theorem dX12_proof_109 : decode cX12_proof 109 = .ok (.invokevirtual 316, 3) := by decide +kernel
theorem dX12_proof_112 : decode cX12_proof 112 = .ok (.ireturn, 1) := by decide +kernel
noncomputable def X12_proof_j30 (w : Wd) : Option (Int32 × Wd) :=
(X12_refuse (1 : Int32) w).bind fun q1 =>
some (q1.1, q1.2)
set_option maxRecDepth 20000 in
set_option maxHeartbeats 1000000 in
theorem t_X12_proof_j30 {κ : Kx} (w : Wd) (h : ok (X12_proof_j30  w) (PIw κ)) : J κ RX12 cX12_proof 7 (some .int) (rmk 1 24) 30 [(0, .ref (ad (gm κ) 97))] [] w := by
  unfold X12_proof_j30 at h
  refine j_aload_n 0 dX12_proof_30 rfl rfl ?_
  refine j_iconst (1 : Int32) dX12_proof_31 ki_1 ?_
  obtain ⟨q1, e2, h⟩ := ok_b h
  refine j_callV (As := [.int (1 : Int32)]) (st := []) [.int q1.1] (c_X12_refuse (kl κ) (gm κ) (kA κ) (1 : Int32) w q1 e2) ck_RX12_312 im_X12_refuse se_X12_refuse sh_97 cx_12 ⟨rfl, rfl⟩ ⟨by decide, by decide⟩ rfl rfl (Nat.le_of_ble_eq_true rfl) dX12_proof_32 _ rfl ?_
  have h := ok_s h
  exact j_iret dX12_proof_35 rfl rfl h
noncomputable def X12_proof (a1 : Int32) (a2 : Int32) (a3 : Int64) (a5 : Int64) (w : Wd) : Option (Int32 × Wd) :=
(if (X12_isLearner a1 w) = 0 then
X12_proof_j30 w
else
(if (X12_isWeek a2 w) = 0 then
X12_proof_j30 w
else
(X12_isWord a3 w).bind fun q3 =>
(if q3 = 0 then
X12_proof_j30 w
else
(X12_isWord a5 w).bind fun q5 =>
(if q5 = 0 then
X12_proof_j30 w
else
(if (w.1 97 86) = (60 : Int32) then
(X12_refuse (4 : Int32) w).bind fun q14 =>
some (q14.1, q14.2)
else
gd (vp_in (w.1 97 86) 60) <|
(some (puI w 161 (ix (w.1 97 86)) a1)).bind fun w7 =>
gd (vp_in (w7.1 97 86) 60) <|
(some (puI w7 162 (ix (w7.1 97 86)) a2)).bind fun w8 =>
gd (vp_in (w8.1 97 86) 60) <|
(some (puJ w8 168 (ix (w8.1 97 86)) a3)).bind fun w9 =>
gd (vp_in (w9.1 97 86) 60) <|
(some (puJ w9 169 (ix (w9.1 97 86)) a5)).bind fun w10 =>
(some (puI w10 97 86 ((w10.1 97 86) + (1 : Int32)))).bind fun w11 =>
(X12_gives ((w11.1 97 86) - (1 : Int32)) w11).bind fun q12 =>
some (q12.1, q12.2))))))
set_option maxRecDepth 20000 in
set_option maxHeartbeats 1000000 in
theorem t_X12_proof {κ : Kx} (a1 : Int32) (a2 : Int32) (a3 : Int64) (a5 : Int64) (w : Wd) (h : ok (X12_proof  a1 a2 a3 a5 w) (PIw κ)) : J κ RX12 cX12_proof 7 (some .int) (rmk 1 24) 0 [(0, .ref (ad (gm κ) 97)), (1, .int a1), (2, .int a2), (3, .long a3), (5, .long a5)] [] w := by
  unfold X12_proof at h
  refine j_aload_n 0 dX12_proof_0 rfl rfl ?_
  refine j_iload_n 1 dX12_proof_1 rfl rfl ?_
  refine j_callV (As := [.int a1]) (st := []) [.int (X12_isLearner a1 w)] (c_X12_isLearner (kl κ) (gm κ) (kA κ) a1 w) ck_RX12_339 im_X12_isLearner se_X12_isLearner sh_97 cx_12 ⟨rfl, rfl⟩ ⟨by decide, by decide⟩ rfl rfl (Nat.le_of_ble_eq_true rfl) dX12_proof_2 _ rfl ?_
  refine j_if_eq 30 dX12_proof_5 (by decide) h (fun h => ?_) (fun h => ?_)
  · refine j_loc [(0, .ref (ad (gm κ) 97))] [0] rfl ?_
    exact t_X12_proof_j30 w h
  · refine j_iload_n 2 dX12_proof_8 rfl rfl ?_
    refine j_callS (As := [.int a2]) (st := []) [.int (X12_isWeek a2 w)] (c_X12_isWeek (kl κ) (gm κ) (kA κ) a2 w) ck_RX12_322 st_X12_isWeek ⟨rfl, rfl⟩ ⟨by decide, by decide⟩ rfl rfl (Nat.le_of_ble_eq_true rfl) dX12_proof_9 _ rfl ?_
    refine j_if_eq 30 dX12_proof_12 (by decide) h (fun h => ?_) (fun h => ?_)
    · refine j_loc [(0, .ref (ad (gm κ) 97))] [0] rfl ?_
      exact t_X12_proof_j30 w h
    · refine j_lload_n 3 dX12_proof_15 rfl rfl ?_
      obtain ⟨q3, e4, h⟩ := ok_b h
      refine j_callS (As := [.long a3]) (st := []) [.int q3] (c_X12_isWord (kl κ) (gm κ) (kA κ) a3 w q3 e4) ck_RX12_529 st_X12_isWord ⟨rfl, rfl⟩ ⟨by decide, by decide⟩ rfl rfl (Nat.le_of_ble_eq_true rfl) dX12_proof_16 _ rfl ?_
      refine j_if_eq 30 dX12_proof_19 (by decide) h (fun h => ?_) (fun h => ?_)
      · refine j_loc [(0, .ref (ad (gm κ) 97))] [0] rfl ?_
        exact t_X12_proof_j30 w h
      · refine j_lload 4 dX12_proof_22 rfl ?_
        obtain ⟨q5, e6, h⟩ := ok_b h
        refine j_callS (As := [.long a5]) (st := []) [.int q5] (c_X12_isWord (kl κ) (gm κ) (kA κ) a5 w q5 e6) ck_RX12_529 st_X12_isWord ⟨rfl, rfl⟩ ⟨by decide, by decide⟩ rfl rfl (Nat.le_of_ble_eq_true rfl) dX12_proof_24 _ rfl ?_
        refine j_if_ne 36 dX12_proof_27 (by decide) h (fun h => ?_) (fun h => ?_)
        · refine j_aload_n 0 dX12_proof_36 rfl rfl ?_
          refine j_getI fl_RX12_533 sh_97 fk_97_86 dX12_proof_37 ?_
          refine j_bipush (60 : Int32) dX12_proof_40 kb_60 ?_
          refine j_ic_ne 51 dX12_proof_42 (by decide) h (fun h => ?_) (fun h => ?_)
          · refine j_aload_n 0 dX12_proof_51 rfl rfl ?_
            refine j_getA 161 fl_RX12_226 sh_97 fk_97_87 (by decide) dX12_proof_52 ?_
            refine j_aload_n 0 dX12_proof_55 rfl rfl ?_
            refine j_getI fl_RX12_533 sh_97 fk_97_86 dX12_proof_56 ?_
            refine j_iload_n 1 dX12_proof_59 rfl rfl ?_
            refine j_iast sh_161 dX12_proof_60 h (fun h => ?_)
            refine j_lW h (fun w7 h => ?_)
            refine j_aload_n 0 dX12_proof_61 rfl rfl ?_
            refine j_getA 162 fl_RX12_229 sh_97 fk_97_88 (by decide) dX12_proof_62 ?_
            refine j_aload_n 0 dX12_proof_65 rfl rfl ?_
            refine j_getI fl_RX12_533 sh_97 fk_97_86 dX12_proof_66 ?_
            refine j_iload_n 2 dX12_proof_69 rfl rfl ?_
            refine j_iast sh_162 dX12_proof_70 h (fun h => ?_)
            refine j_lW h (fun w8 h => ?_)
            refine j_aload_n 0 dX12_proof_71 rfl rfl ?_
            refine j_getA 168 fl_RX12_247 sh_97 fk_97_94 (by decide) dX12_proof_72 ?_
            refine j_aload_n 0 dX12_proof_75 rfl rfl ?_
            refine j_getI fl_RX12_533 sh_97 fk_97_86 dX12_proof_76 ?_
            refine j_lload_n 3 dX12_proof_79 rfl rfl ?_
            refine j_last sh_168 dX12_proof_80 h (fun h => ?_)
            refine j_lW h (fun w9 h => ?_)
            refine j_aload_n 0 dX12_proof_81 rfl rfl ?_
            refine j_getA 169 fl_RX12_250 sh_97 fk_97_95 (by decide) dX12_proof_82 ?_
            refine j_aload_n 0 dX12_proof_85 rfl rfl ?_
            refine j_getI fl_RX12_533 sh_97 fk_97_86 dX12_proof_86 ?_
            refine j_lload 4 dX12_proof_89 rfl ?_
            refine j_last sh_169 dX12_proof_91 h (fun h => ?_)
            refine j_lW h (fun w10 h => ?_)
            refine j_aload_n 0 dX12_proof_92 rfl rfl ?_
            refine j_dup dX12_proof_93 rfl ?_
            refine j_getI fl_RX12_533 sh_97 fk_97_86 dX12_proof_94 ?_
            refine j_iconst (1 : Int32) dX12_proof_97 ki_1 ?_
            refine j_iadd dX12_proof_98 ?_
            refine j_putI fp_RX12_533 sh_97 fk_97_86 dX12_proof_99 ?_
            refine j_lW h (fun w11 h => ?_)
            refine j_aload_n 0 dX12_proof_102 rfl rfl ?_
            refine j_aload_n 0 dX12_proof_103 rfl rfl ?_
            refine j_getI fl_RX12_533 sh_97 fk_97_86 dX12_proof_104 ?_
            refine j_iconst (1 : Int32) dX12_proof_107 ki_1 ?_
            refine j_isub dX12_proof_108 ?_
            obtain ⟨q12, e13, h⟩ := ok_b h
            refine j_callV (As := [.int ((w11.1 97 86) - (1 : Int32))]) (st := []) [.int q12.1] (c_X12_gives (kl κ) (gm κ) (kA κ) ((w11.1 97 86) - (1 : Int32)) w11 q12 e13) ck_RX12_316 im_X12_gives se_X12_gives sh_97 cx_12 ⟨rfl, rfl⟩ ⟨by decide, by decide⟩ rfl rfl (Nat.le_of_ble_eq_true rfl) dX12_proof_109 _ rfl ?_
            have h := ok_s h
            exact j_iret dX12_proof_112 rfl rfl h
          · refine j_aload_n 0 dX12_proof_45 rfl rfl ?_
            refine j_iconst (4 : Int32) dX12_proof_46 ki_4 ?_
            obtain ⟨q14, e15, h⟩ := ok_b h
            refine j_callV (As := [.int (4 : Int32)]) (st := []) [.int q14.1] (c_X12_refuse (kl κ) (gm κ) (kA κ) (4 : Int32) w q14 e15) ck_RX12_312 im_X12_refuse se_X12_refuse sh_97 cx_12 ⟨rfl, rfl⟩ ⟨by decide, by decide⟩ rfl rfl (Nat.le_of_ble_eq_true rfl) dX12_proof_47 _ rfl ?_
            have h := ok_s h
            exact j_iret dX12_proof_50 rfl rfl h
        · refine j_loc [(0, .ref (ad (gm κ) 97))] [0] rfl ?_
          exact t_X12_proof_j30 w h
theorem c_X12_proof (l : Launch) (γ : Gm) (A : Nat → Prop) (a1 : Int32) (a2 : Int32) (a3 : Int64) (a5 : Int64) (w : Wd) (q : Int32 × Wd) (e : X12_proof  a1 a2 a3 a5 w = some q) : MetG l γ A yX12_proof cX12_proof 7 (some .int) (rmk 1 24) [.ref (ad (γ) 97), .int a1, .int a2, .long a3, .long a5] w (some (.int q.1)) q.2 := by
  refine met_of pn_RX12 (Nat.le_of_ble_eq_true rfl) ?_
  intro κ hl hγ hA hρ
  subst hl; subst hγ; subst hA
  exact t_X12_proof   a1 a2 a3 a5 w ⟨q, e, pIw hρ rfl rfl⟩
theorem dX12_spell_0 : decode cX12_spell 0 = .ok (.iconst 0, 1) := by decide +kernel
theorem dX12_spell_1 : decode cX12_spell 1 = .ok (.istore_n 3, 1) := by decide +kernel
theorem dX12_spell_2 : decode cX12_spell 2 = .ok (.lload_n 0, 1) := by decide +kernel
theorem dX12_spell_3 : decode cX12_spell 3 = .ok (.lstore 4, 2) := by decide +kernel
theorem dX12_spell_5 : decode cX12_spell 5 = .ok (.lload 4, 2) := by decide +kernel
theorem dX12_spell_7 : decode cX12_spell 7 = .ok (.lconst 0, 1) := by decide +kernel
theorem dX12_spell_8 : decode cX12_spell 8 = .ok (.lcmp, 1) := by decide +kernel
theorem dX12_spell_9 : decode cX12_spell 9 = .ok (.ifCond .le 15, 3) := by decide +kernel
theorem dX12_spell_12 : decode cX12_spell 12 = .ok (.iinc 3 1, 3) := by decide +kernel
theorem dX12_spell_15 : decode cX12_spell 15 = .ok (.lload 4, 2) := by decide +kernel
theorem dX12_spell_17 : decode cX12_spell 17 = .ok (.iconst 5, 1) := by decide +kernel
theorem dX12_spell_18 : decode cX12_spell 18 = .ok (.lshr, 1) := by decide +kernel
theorem dX12_spell_19 : decode cX12_spell 19 = .ok (.lstore 4, 2) := by decide +kernel
theorem dX12_spell_21 : decode cX12_spell 21 = .ok (.goto (-16), 3) := by decide +kernel
theorem dX12_spell_24 : decode cX12_spell 24 = .ok (.iconst 0, 1) := by decide +kernel
theorem dX12_spell_25 : decode cX12_spell 25 = .ok (.istore 4, 2) := by decide +kernel
theorem dX12_spell_27 : decode cX12_spell 27 = .ok (.iload 4, 2) := by decide +kernel
theorem dX12_spell_29 : decode cX12_spell 29 = .ok (.iload_n 3, 1) := by decide +kernel
theorem dX12_spell_30 : decode cX12_spell 30 = .ok (.if_icmp .ge 30, 3) := by decide +kernel
theorem dX12_spell_33 : decode cX12_spell 33 = .ok (.aload_n 2, 1) := by decide +kernel
theorem dX12_spell_34 : decode cX12_spell 34 = .ok (.iload 4, 2) := by decide +kernel
theorem dX12_spell_36 : decode cX12_spell 36 = .ok (.lload_n 0, 1) := by decide +kernel
theorem dX12_spell_37 : decode cX12_spell 37 = .ok (.iconst 5, 1) := by decide +kernel
theorem dX12_spell_38 : decode cX12_spell 38 = .ok (.iload_n 3, 1) := by decide +kernel
theorem dX12_spell_39 : decode cX12_spell 39 = .ok (.iconst 1, 1) := by decide +kernel
theorem dX12_spell_40 : decode cX12_spell 40 = .ok (.isub, 1) := by decide +kernel
theorem dX12_spell_41 : decode cX12_spell 41 = .ok (.iload 4, 2) := by decide +kernel
theorem dX12_spell_43 : decode cX12_spell 43 = .ok (.isub, 1) := by decide +kernel
theorem dX12_spell_44 : decode cX12_spell 44 = .ok (.imul, 1) := by decide +kernel
theorem dX12_spell_45 : decode cX12_spell 45 = .ok (.lshr, 1) := by decide +kernel
theorem dX12_spell_46 : decode cX12_spell 46 = .ok (.ldc2_w 525, 3) := by decide +kernel
theorem dX12_spell_49 : decode cX12_spell 49 = .ok (.land, 1) := by decide +kernel
theorem dX12_spell_50 : decode cX12_spell 50 = .ok (.l2i, 1) := by decide +kernel
theorem dX12_spell_51 : decode cX12_spell 51 = .ok (.iconst 1, 1) := by decide +kernel
theorem dX12_spell_52 : decode cX12_spell 52 = .ok (.isub, 1) := by decide +kernel
theorem dX12_spell_53 : decode cX12_spell 53 = .ok (.iastore, 1) := by decide +kernel
theorem dX12_spell_54 : decode cX12_spell 54 = .ok (.iinc 4 1, 3) := by decide +kernel
theorem dX12_spell_57 : decode cX12_spell 57 = .ok (.goto (-30), 3) := by decide +kernel
theorem dX12_spell_60 : decode cX12_spell 60 = .ok (.iload_n 3, 1) := by decide +kernel
theorem dX12_spell_61 : decode cX12_spell 61 = .ok (.ireturn, 1) := by decide +kernel
noncomputable def X12_spell_b5 (kv : Nat) (nv : Nat) (a0 : Int64) (w : Wd) (s : (Int32 × Int64)) : Option ((Int32 × Int64) ⊕ Int32) :=
(if (lg_cmp s.2 (0 : Int64)) ≤ 0 then
some (.inr s.1)
else
(some (s.2 >>> (Int32.toInt64 (5 : Int32) &&& 63))).bind fun z1 =>
some (.inl ((s.1 + (1 : Int32)), z1)))
set_option maxRecDepth 20000 in
set_option maxHeartbeats 1000000 in
theorem t_X12_spell_b5 {κ : Kx} (kv : Nat) (nv : Nat) (hkv : sh kv = (0, nv)) (a0 : Int64) (w : Wd) {P : Int32 → Prop} (K0 : ∀ e, P e → J κ RX12 cX12_spell 6 (some .int) (rmk 0 0) 24 [(0, .long a0), (2, .ref (ad (gm κ) kv)), (3, .int e)] [] w) (s : (Int32 × Int64)) (h : ok (lp (X12_spell_b5 kv nv a0 w) s) P) : J κ RX12 cX12_spell 6 (some .int) (rmk 0 0) 5 [(0, .long a0), (2, .ref (ad (gm κ) kv)), (3, .int s.1), (4, .long s.2)] [] w := by
  refine lp_ind (fun s => J κ RX12 cX12_spell 6 (some .int) (rmk 0 0) 5 [(0, .long a0), (2, .ref (ad (gm κ) kv)), (3, .int s.1), (4, .long s.2)] [] w) (fun s h => ?_) s h
  unfold X12_spell_b5 at h
  refine j_lload 3 dX12_spell_5 rfl ?_
  refine j_lconst (0 : Int64) dX12_spell_7 (by decide) ?_
  refine j_lcmp dX12_spell_8 ?_
  refine j_if_le 24 dX12_spell_9 (by decide) h (fun h => ?_) (fun h => ?_)
  · refine j_loc [(0, .long a0), (2, .ref (ad (gm κ) kv)), (3, .int s.1)] [0, 1, 2] rfl ?_
    have h := sel_r h
    have h := K0 _ h
    exact h
  · refine j_iinc (s.1 + (1 : Int32)) 2 [(3, .int (s.1 + (1 : Int32))), (0, .long a0), (2, .ref (ad (gm κ) kv)), (4, .long s.2)] dX12_spell_12 rfl (by rw [kn_1]) (by decide) rfl ?_
    refine j_lload 3 dX12_spell_15 rfl ?_
    refine j_iconst (5 : Int32) dX12_spell_17 ki_5 ?_
    refine j_lshr dX12_spell_18 ?_
    refine j_lJ h (fun z1 h => ?_)
    refine j_lstore [(4, .long z1), (3, .int (s.1 + (1 : Int32))), (0, .long a0), (2, .ref (ad (gm κ) kv))] dX12_spell_19 (by decide) rfl ?_
    refine j_goto 5 dX12_spell_21 (by decide) ?_
    refine j_loc [(0, .long a0), (2, .ref (ad (gm κ) kv)), (3, .int (s.1 + (1 : Int32))), (4, .long z1)] [2, 3, 1, 0] rfl ?_
    have h := sel_l h
    exact h
noncomputable def X12_spell_b27 (kv : Nat) (nv : Nat) (a0 : Int64) (a3 : Int32) (s : (Int32 × Wd)) : Option ((Int32 × Wd) ⊕ Wd) :=
(if a3 ≤ s.1 then
some (.inr s.2)
else
gd (vp_in s.1 nv) <|
(some (puI s.2 kv (ix s.1) ((Int64.toInt32 ((a0 >>> (Int32.toInt64 ((5 : Int32) * ((a3 - (1 : Int32)) - s.1)) &&& 63)) &&& (31 : Int64))) - (1 : Int32)))).bind fun w3 =>
some (.inl ((s.1 + (1 : Int32)), w3)))
set_option maxRecDepth 20000 in
set_option maxHeartbeats 1000000 in
theorem t_X12_spell_b27 {κ : Kx} (kv : Nat) (nv : Nat) (hkv : sh kv = (0, nv)) (a0 : Int64) (a3 : Int32) {P : Wd → Prop} (K0 : ∀ e, P e → J κ RX12 cX12_spell 6 (some .int) (rmk 0 0) 60 [(3, .int a3)] [] e) (s : (Int32 × Wd)) (h : ok (lp (X12_spell_b27 kv nv a0 a3) s) P) : J κ RX12 cX12_spell 6 (some .int) (rmk 0 0) 27 [(0, .long a0), (2, .ref (ad (gm κ) kv)), (3, .int a3), (4, .int s.1)] [] s.2 := by
  refine lp_ind (fun s => J κ RX12 cX12_spell 6 (some .int) (rmk 0 0) 27 [(0, .long a0), (2, .ref (ad (gm κ) kv)), (3, .int a3), (4, .int s.1)] [] s.2) (fun s h => ?_) s h
  unfold X12_spell_b27 at h
  refine j_iload 3 dX12_spell_27 rfl ?_
  refine j_iload_n 2 dX12_spell_29 rfl rfl ?_
  refine j_ic_ge 60 dX12_spell_30 (by decide) h (fun h => ?_) (fun h => ?_)
  · refine j_loc [(3, .int a3)] [2] rfl ?_
    have h := sel_r h
    have h := K0 _ h
    exact h
  · refine j_aload_n 1 dX12_spell_33 rfl rfl ?_
    refine j_iload 3 dX12_spell_34 rfl ?_
    refine j_lload_n 0 dX12_spell_36 rfl rfl ?_
    refine j_iconst (5 : Int32) dX12_spell_37 ki_5 ?_
    refine j_iload_n 2 dX12_spell_38 rfl rfl ?_
    refine j_iconst (1 : Int32) dX12_spell_39 ki_1 ?_
    refine j_isub dX12_spell_40 ?_
    refine j_iload 3 dX12_spell_41 rfl ?_
    refine j_isub dX12_spell_43 ?_
    refine j_imul dX12_spell_44 ?_
    refine j_lshr dX12_spell_45 ?_
    refine j_ldc2 cl_RX12_525 dX12_spell_46 ?_
    refine j_land dX12_spell_49 ?_
    refine j_l2i dX12_spell_50 ?_
    refine j_iconst (1 : Int32) dX12_spell_51 ki_1 ?_
    refine j_isub dX12_spell_52 ?_
    refine j_iast hkv dX12_spell_53 h (fun h => ?_)
    refine j_lW h (fun w3 h => ?_)
    refine j_iinc (s.1 + (1 : Int32)) 3 [(4, .int (s.1 + (1 : Int32))), (0, .long a0), (2, .ref (ad (gm κ) kv)), (3, .int a3)] dX12_spell_54 rfl (by rw [kn_1]) (by decide) rfl ?_
    refine j_goto 27 dX12_spell_57 (by decide) ?_
    refine j_loc [(0, .long a0), (2, .ref (ad (gm κ) kv)), (3, .int a3), (4, .int (s.1 + (1 : Int32)))] [1, 2, 3, 0] rfl ?_
    have h := sel_l h
    exact h
noncomputable def X12_spell (kv : Nat) (nv : Nat) (a0 : Int64) (w : Wd) : Option (Int32 × Wd) :=
(lp (X12_spell_b5 kv nv a0 w) ((0 : Int32), a0)).bind fun e2 =>
(lp (X12_spell_b27 kv nv a0 e2) ((0 : Int32), w)).bind fun e4 =>
some (e2, e4)
set_option maxRecDepth 20000 in
set_option maxHeartbeats 1000000 in
theorem t_X12_spell {κ : Kx} (kv : Nat) (nv : Nat) (hkv : sh kv = (0, nv)) (a0 : Int64) (w : Wd) (h : ok (X12_spell kv nv a0 w) (PIw κ)) : J κ RX12 cX12_spell 6 (some .int) (rmk 0 0) 0 [(0, .long a0), (2, .ref (ad (gm κ) kv))] [] w := by
  unfold X12_spell at h
  refine j_iconst (0 : Int32) dX12_spell_0 ki_0 ?_
  refine j_istore_n [(3, .int (0 : Int32)), (0, .long a0), (2, .ref (ad (gm κ) kv))] dX12_spell_1 rfl (by decide) rfl ?_
  refine j_lload_n 1 dX12_spell_2 rfl rfl ?_
  refine j_lstore [(4, .long a0), (3, .int (0 : Int32)), (0, .long a0), (2, .ref (ad (gm κ) kv))] dX12_spell_3 (by decide) rfl ?_
  refine j_loc [(0, .long a0), (2, .ref (ad (gm κ) kv)), (3, .int (0 : Int32)), (4, .long a0)] [2, 3, 1, 0] rfl ?_
  refine t_X12_spell_b5 kv nv hkv a0 w (fun e2 h => ?_) ((0 : Int32), a0) (ok_bb h)
  · refine j_iconst (0 : Int32) dX12_spell_24 ki_0 ?_
    refine j_istore [(4, .int (0 : Int32)), (0, .long a0), (2, .ref (ad (gm κ) kv)), (3, .int e2)] dX12_spell_25 (by decide) rfl ?_
    refine j_loc [(0, .long a0), (2, .ref (ad (gm κ) kv)), (3, .int e2), (4, .int (0 : Int32))] [1, 2, 3, 0] rfl ?_
    refine t_X12_spell_b27 kv nv hkv a0 e2 (fun e4 h => ?_) ((0 : Int32), w) (ok_bb h)
    · refine j_iload_n 0 dX12_spell_60 rfl rfl ?_
      have h := ok_s h
      exact j_iret dX12_spell_61 rfl rfl h
theorem c_X12_spell (l : Launch) (γ : Gm) (A : Nat → Prop) (kv : Nat) (nv : Nat) (hkv : sh kv = (0, nv)) (a0 : Int64) (w : Wd) (q : Int32 × Wd) (e : X12_spell kv nv a0 w = some q) : MetG l γ A yX12_spell cX12_spell 6 (some .int) (rmk 0 0) [.long a0, .ref (ad (γ) kv)] w (some (.int q.1)) q.2 := by
  refine met_of pn_RX12 (Nat.le_of_ble_eq_true rfl) ?_
  intro κ hl hγ hA hρ
  subst hl; subst hγ; subst hA
  exact t_X12_spell kv nv hkv a0 w ⟨q, e, pIw hρ rfl rfl⟩
theorem dX12_pairs_0 : decode cX12_pairs 0 = .ok (.aload_n 0, 1) := by decide +kernel
theorem dX12_pairs_1 : decode cX12_pairs 1 = .ok (.getfield 232, 3) := by decide +kernel
theorem dX12_pairs_4 : decode cX12_pairs 4 = .ok (.iload_n 1, 1) := by decide +kernel
theorem dX12_pairs_5 : decode cX12_pairs 5 = .ok (.iaload, 1) := by decide +kernel
theorem dX12_pairs_6 : decode cX12_pairs 6 = .ok (.aload_n 0, 1) := by decide +kernel
theorem dX12_pairs_7 : decode cX12_pairs 7 = .ok (.getfield 235, 3) := by decide +kernel
theorem dX12_pairs_10 : decode cX12_pairs 10 = .ok (.iload_n 2, 1) := by decide +kernel
theorem dX12_pairs_11 : decode cX12_pairs 11 = .ok (.iaload, 1) := by decide +kernel
theorem dX12_pairs_12 : decode cX12_pairs 12 = .ok (.if_icmp .ne 7, 3) := by decide +kernel
theorem dX12_pairs_15 : decode cX12_pairs 15 = .ok (.iconst 0, 1) := by decide +kernel
theorem dX12_pairs_16 : decode cX12_pairs 16 = .ok (.goto 4, 3) := by decide +kernel
theorem dX12_pairs_19 : decode cX12_pairs 19 = .ok (.iconst 1, 1) := by decide +kernel
theorem dX12_pairs_20 : decode cX12_pairs 20 = .ok (.ireturn, 1) := by decide +kernel
noncomputable def X12_pairs (a1 : Int32) (a2 : Int32) (w : Wd) : Option (Int32) :=
gd (vp_in a1 8) <|
gd (vp_in a2 8) <|
(if (w.1 163 (ix a1)) = (w.1 164 (ix a2)) then
some (0 : Int32)
else
some (1 : Int32))
set_option maxRecDepth 20000 in
set_option maxHeartbeats 1000000 in
theorem t_X12_pairs {κ : Kx} (a1 : Int32) (a2 : Int32) (w : Wd) (h : ok (X12_pairs  a1 a2 w) (PI κ w)) : J κ RX12 cX12_pairs 3 (some .int) (rmk 0 0) 0 [(0, .ref (ad (gm κ) 97)), (1, .int a1), (2, .int a2)] [] w := by
  unfold X12_pairs at h
  refine j_aload_n 0 dX12_pairs_0 rfl rfl ?_
  refine j_getA 163 fl_RX12_232 sh_97 fk_97_89 (by decide) dX12_pairs_1 ?_
  refine j_iload_n 1 dX12_pairs_4 rfl rfl ?_
  refine j_iald sh_163 dX12_pairs_5 h (fun h => ?_)
  refine j_aload_n 0 dX12_pairs_6 rfl rfl ?_
  refine j_getA 164 fl_RX12_235 sh_97 fk_97_90 (by decide) dX12_pairs_7 ?_
  refine j_iload_n 2 dX12_pairs_10 rfl rfl ?_
  refine j_iald sh_164 dX12_pairs_11 h (fun h => ?_)
  refine j_ic_ne 19 dX12_pairs_12 (by decide) h (fun h => ?_) (fun h => ?_)
  · refine j_iconst (1 : Int32) dX12_pairs_19 ki_1 ?_
    have h := ok_s h
    exact j_iret dX12_pairs_20 rfl rfl h
  · refine j_iconst (0 : Int32) dX12_pairs_15 ki_0 ?_
    refine j_goto 20 dX12_pairs_16 (by decide) ?_
    have h := ok_s h
    exact j_iret dX12_pairs_20 rfl rfl h
theorem c_X12_pairs (l : Launch) (γ : Gm) (A : Nat → Prop) (a1 : Int32) (a2 : Int32) (w : Wd) (q : Int32) (e : X12_pairs  a1 a2 w = some q) : MetG l γ A yX12_pairs cX12_pairs 3 (some .int) (rmk 0 0) [.ref (ad (γ) 97), .int a1, .int a2] w (some (.int q)) w := by
  refine met_of pn_RX12 (Nat.le_of_ble_eq_true rfl) ?_
  intro κ hl hγ hA hρ
  subst hl; subst hγ; subst hA
  exact t_X12_pairs   a1 a2 w ⟨q, e, pI hρ rfl rfl⟩
theorem dX12_slips0_0 : decode cX12_slips0 0 = .ok (.aload_n 0, 1) := by decide +kernel
theorem dX12_slips0_1 : decode cX12_slips0 1 = .ok (.getfield 241, 3) := by decide +kernel
theorem dX12_slips0_4 : decode cX12_slips0 4 = .ok (.aload_n 0, 1) := by decide +kernel
theorem dX12_slips0_5 : decode cX12_slips0 5 = .ok (.getfield 549, 3) := by decide +kernel
theorem dX12_slips0_8 : decode cX12_slips0 8 = .ok (.iload_n 1, 1) := by decide +kernel
theorem dX12_slips0_9 : decode cX12_slips0 9 = .ok (.iastore, 1) := by decide +kernel
theorem dX12_slips0_10 : decode cX12_slips0 10 = .ok (.aload_n 0, 1) := by decide +kernel
theorem dX12_slips0_11 : decode cX12_slips0 11 = .ok (.dup, 1) := by decide +kernel
theorem dX12_slips0_12 : decode cX12_slips0 12 = .ok (.getfield 549, 3) := by decide +kernel
theorem dX12_slips0_15 : decode cX12_slips0 15 = .ok (.iconst 1, 1) := by decide +kernel
theorem dX12_slips0_16 : decode cX12_slips0 16 = .ok (.iadd, 1) := by decide +kernel
theorem dX12_slips0_17 : decode cX12_slips0 17 = .ok (.putfield 549, 3) := by decide +kernel
theorem dX12_slips0_20 : decode cX12_slips0 20 = .ok (.return_, 1) := by decide +kernel
noncomputable def X12_slips0 (a1 : Int32) (w : Wd) : Option (Wd) :=
gd (vp_in (w.1 97 98) 16) <|
(some (puI w 166 (ix (w.1 97 98)) a1)).bind fun w1 =>
(some (puI w1 97 98 ((w1.1 97 98) + (1 : Int32)))).bind fun w2 =>
some w2
set_option maxRecDepth 20000 in
set_option maxHeartbeats 1000000 in
theorem t_X12_slips0 {κ : Kx} (a1 : Int32) (w : Wd) (h : ok (X12_slips0  a1 w) (PVw κ)) : J κ RX12 cX12_slips0 2 none (rmk 0 0) 0 [(0, .ref (ad (gm κ) 97)), (1, .int a1)] [] w := by
  unfold X12_slips0 at h
  refine j_aload_n 0 dX12_slips0_0 rfl rfl ?_
  refine j_getA 166 fl_RX12_241 sh_97 fk_97_92 (by decide) dX12_slips0_1 ?_
  refine j_aload_n 0 dX12_slips0_4 rfl rfl ?_
  refine j_getI fl_RX12_549 sh_97 fk_97_98 dX12_slips0_5 ?_
  refine j_iload_n 1 dX12_slips0_8 rfl rfl ?_
  refine j_iast sh_166 dX12_slips0_9 h (fun h => ?_)
  refine j_lW h (fun w1 h => ?_)
  refine j_aload_n 0 dX12_slips0_10 rfl rfl ?_
  refine j_dup dX12_slips0_11 rfl ?_
  refine j_getI fl_RX12_549 sh_97 fk_97_98 dX12_slips0_12 ?_
  refine j_iconst (1 : Int32) dX12_slips0_15 ki_1 ?_
  refine j_iadd dX12_slips0_16 ?_
  refine j_putI fp_RX12_549 sh_97 fk_97_98 dX12_slips0_17 ?_
  refine j_lW h (fun w2 h => ?_)
  have h := ok_s h
  exact j_vret dX12_slips0_20 rfl h
theorem c_X12_slips0 (l : Launch) (γ : Gm) (A : Nat → Prop) (a1 : Int32) (w : Wd) (q : Wd) (e : X12_slips0  a1 w = some q) : MetG l γ A yX12_slips0 cX12_slips0 2 none (rmk 0 0) [.ref (ad (γ) 97), .int a1] w none q := by
  refine met_of pn_RX12 (Nat.le_of_ble_eq_true rfl) ?_
  intro κ hl hγ hA hρ
  subst hl; subst hγ; subst hA
  exact t_X12_slips0   a1 w ⟨q, e, pVw hρ rfl rfl⟩
theorem dX12_spellOut_0 : decode cX12_spellOut 0 = .ok (.aload_n 0, 1) := by decide +kernel
theorem dX12_spellOut_1 : decode cX12_spellOut 1 = .ok (.aload_n 0, 1) := by decide +kernel
theorem dX12_spellOut_2 : decode cX12_spellOut 2 = .ok (.getfield 247, 3) := by decide +kernel
theorem dX12_spellOut_5 : decode cX12_spellOut 5 = .ok (.iload_n 1, 1) := by decide +kernel
theorem dX12_spellOut_6 : decode cX12_spellOut 6 = .ok (.laload, 1) := by decide +kernel
theorem dX12_spellOut_7 : decode cX12_spellOut 7 = .ok (.aload_n 0, 1) := by decide +kernel
theorem dX12_spellOut_8 : decode cX12_spellOut 8 = .ok (.getfield 232, 3) := by decide +kernel
theorem dX12_spellOut_11 : decode cX12_spellOut 11 = .ok (.invokestatic 536, 3) := by decide +kernel
theorem dX12_spellOut_14 : decode cX12_spellOut 14 = .ok (.putfield 540, 3) := by decide +kernel
theorem dX12_spellOut_17 : decode cX12_spellOut 17 = .ok (.aload_n 0, 1) := by decide +kernel
theorem dX12_spellOut_18 : decode cX12_spellOut 18 = .ok (.aload_n 0, 1) := by decide +kernel
theorem dX12_spellOut_19 : decode cX12_spellOut 19 = .ok (.getfield 250, 3) := by decide +kernel
theorem dX12_spellOut_22 : decode cX12_spellOut 22 = .ok (.iload_n 1, 1) := by decide +kernel
theorem dX12_spellOut_23 : decode cX12_spellOut 23 = .ok (.laload, 1) := by decide +kernel
theorem dX12_spellOut_24 : decode cX12_spellOut 24 = .ok (.aload_n 0, 1) := by decide +kernel
theorem dX12_spellOut_25 : decode cX12_spellOut 25 = .ok (.getfield 235, 3) := by decide +kernel
theorem dX12_spellOut_28 : decode cX12_spellOut 28 = .ok (.invokestatic 536, 3) := by decide +kernel
theorem dX12_spellOut_31 : decode cX12_spellOut 31 = .ok (.putfield 543, 3) := by decide +kernel
theorem dX12_spellOut_34 : decode cX12_spellOut 34 = .ok (.aload_n 0, 1) := by decide +kernel
theorem dX12_spellOut_35 : decode cX12_spellOut 35 = .ok (.getfield 540, 3) := by decide +kernel
theorem dX12_spellOut_38 : decode cX12_spellOut 38 = .ok (.istore_n 2, 1) := by decide +kernel
theorem dX12_spellOut_39 : decode cX12_spellOut 39 = .ok (.iload_n 2, 1) := by decide +kernel
theorem dX12_spellOut_40 : decode cX12_spellOut 40 = .ok (.ifCond .lt 162, 3) := by decide +kernel
theorem dX12_spellOut_43 : decode cX12_spellOut 43 = .ok (.aload_n 0, 1) := by decide +kernel
theorem dX12_spellOut_44 : decode cX12_spellOut 44 = .ok (.getfield 543, 3) := by decide +kernel
theorem dX12_spellOut_47 : decode cX12_spellOut 47 = .ok (.istore_n 3, 1) := by decide +kernel
theorem dX12_spellOut_48 : decode cX12_spellOut 48 = .ok (.iload_n 3, 1) := by decide +kernel
theorem dX12_spellOut_49 : decode cX12_spellOut 49 = .ok (.ifCond .lt 147, 3) := by decide +kernel
theorem dX12_spellOut_52 : decode cX12_spellOut 52 = .ok (.iload_n 2, 1) := by decide +kernel
theorem dX12_spellOut_53 : decode cX12_spellOut 53 = .ok (.aload_n 0, 1) := by decide +kernel
theorem dX12_spellOut_54 : decode cX12_spellOut 54 = .ok (.getfield 540, 3) := by decide +kernel
theorem dX12_spellOut_57 : decode cX12_spellOut 57 = .ok (.if_icmp .ne 15, 3) := by decide +kernel
theorem dX12_spellOut_60 : decode cX12_spellOut 60 = .ok (.iload_n 3, 1) := by decide +kernel
theorem dX12_spellOut_61 : decode cX12_spellOut 61 = .ok (.aload_n 0, 1) := by decide +kernel
theorem dX12_spellOut_62 : decode cX12_spellOut 62 = .ok (.getfield 543, 3) := by decide +kernel
theorem dX12_spellOut_65 : decode cX12_spellOut 65 = .ok (.if_icmp .ne 7, 3) := by decide +kernel
theorem dX12_spellOut_68 : decode cX12_spellOut 68 = .ok (.iconst 0, 1) := by decide +kernel
theorem dX12_spellOut_69 : decode cX12_spellOut 69 = .ok (.goto 6, 3) := by decide +kernel
theorem dX12_spellOut_72 : decode cX12_spellOut 72 = .ok (.sipush 1000, 3) := by decide +kernel
theorem dX12_spellOut_75 : decode cX12_spellOut 75 = .ok (.istore 4, 2) := by decide +kernel
theorem dX12_spellOut_77 : decode cX12_spellOut 77 = .ok (.iload_n 2, 1) := by decide +kernel
theorem dX12_spellOut_78 : decode cX12_spellOut 78 = .ok (.aload_n 0, 1) := by decide +kernel
theorem dX12_spellOut_79 : decode cX12_spellOut 79 = .ok (.getfield 540, 3) := by decide +kernel
theorem dX12_spellOut_82 : decode cX12_spellOut 82 = .ok (.if_icmp .ge 35, 3) := by decide +kernel
theorem dX12_spellOut_85 : decode cX12_spellOut 85 = .ok (.iload_n 3, 1) := by decide +kernel
theorem dX12_spellOut_86 : decode cX12_spellOut 86 = .ok (.aload_n 0, 1) := by decide +kernel
theorem dX12_spellOut_87 : decode cX12_spellOut 87 = .ok (.getfield 543, 3) := by decide +kernel
theorem dX12_spellOut_90 : decode cX12_spellOut 90 = .ok (.if_icmp .ge 27, 3) := by decide +kernel
theorem dX12_spellOut_93 : decode cX12_spellOut 93 = .ok (.aload_n 0, 1) := by decide +kernel
theorem dX12_spellOut_94 : decode cX12_spellOut 94 = .ok (.iload_n 2, 1) := by decide +kernel
theorem dX12_spellOut_95 : decode cX12_spellOut 95 = .ok (.iload_n 3, 1) := by decide +kernel
theorem dX12_spellOut_96 : decode cX12_spellOut 96 = .ok (.invokevirtual 546, 3) := by decide +kernel
theorem dX12_spellOut_99 : decode cX12_spellOut 99 = .ok (.aload_n 0, 1) := by decide +kernel
theorem dX12_spellOut_100 : decode cX12_spellOut 100 = .ok (.getfield 238, 3) := by decide +kernel
theorem dX12_spellOut_103 : decode cX12_spellOut 103 = .ok (.bipush 9, 2) := by decide +kernel
theorem dX12_spellOut_105 : decode cX12_spellOut 105 = .ok (.iload_n 2, 1) := by decide +kernel
theorem dX12_spellOut_106 : decode cX12_spellOut 106 = .ok (.iconst 1, 1) := by decide +kernel
theorem dX12_spellOut_107 : decode cX12_spellOut 107 = .ok (.iadd, 1) := by decide +kernel
theorem dX12_spellOut_108 : decode cX12_spellOut 108 = .ok (.imul, 1) := by decide +kernel
theorem dX12_spellOut_109 : decode cX12_spellOut 109 = .ok (.iload_n 3, 1) := by decide +kernel
theorem dX12_spellOut_110 : decode cX12_spellOut 110 = .ok (.iadd, 1) := by decide +kernel
theorem dX12_spellOut_111 : decode cX12_spellOut 111 = .ok (.iconst 1, 1) := by decide +kernel
theorem dX12_spellOut_112 : decode cX12_spellOut 112 = .ok (.iadd, 1) := by decide +kernel
theorem dX12_spellOut_113 : decode cX12_spellOut 113 = .ok (.iaload, 1) := by decide +kernel
theorem dX12_spellOut_114 : decode cX12_spellOut 114 = .ok (.iadd, 1) := by decide +kernel
theorem dX12_spellOut_115 : decode cX12_spellOut 115 = .ok (.istore 4, 2) := by decide +kernel
theorem dX12_spellOut_117 : decode cX12_spellOut 117 = .ok (.iload_n 2, 1) := by decide +kernel
theorem dX12_spellOut_118 : decode cX12_spellOut 118 = .ok (.aload_n 0, 1) := by decide +kernel
theorem dX12_spellOut_119 : decode cX12_spellOut 119 = .ok (.getfield 540, 3) := by decide +kernel
theorem dX12_spellOut_122 : decode cX12_spellOut 122 = .ok (.if_icmp .ge 25, 3) := by decide +kernel
theorem dX12_spellOut_125 : decode cX12_spellOut 125 = .ok (.iload 4, 2) := by decide +kernel
theorem dX12_spellOut_127 : decode cX12_spellOut 127 = .ok (.iconst 1, 1) := by decide +kernel
theorem dX12_spellOut_128 : decode cX12_spellOut 128 = .ok (.aload_n 0, 1) := by decide +kernel
theorem dX12_spellOut_129 : decode cX12_spellOut 129 = .ok (.getfield 238, 3) := by decide +kernel
theorem dX12_spellOut_132 : decode cX12_spellOut 132 = .ok (.bipush 9, 2) := by decide +kernel
theorem dX12_spellOut_134 : decode cX12_spellOut 134 = .ok (.iload_n 2, 1) := by decide +kernel
theorem dX12_spellOut_135 : decode cX12_spellOut 135 = .ok (.iconst 1, 1) := by decide +kernel
theorem dX12_spellOut_136 : decode cX12_spellOut 136 = .ok (.iadd, 1) := by decide +kernel
theorem dX12_spellOut_137 : decode cX12_spellOut 137 = .ok (.imul, 1) := by decide +kernel
theorem dX12_spellOut_138 : decode cX12_spellOut 138 = .ok (.iload_n 3, 1) := by decide +kernel
theorem dX12_spellOut_139 : decode cX12_spellOut 139 = .ok (.iadd, 1) := by decide +kernel
theorem dX12_spellOut_140 : decode cX12_spellOut 140 = .ok (.iaload, 1) := by decide +kernel
theorem dX12_spellOut_141 : decode cX12_spellOut 141 = .ok (.iadd, 1) := by decide +kernel
theorem dX12_spellOut_142 : decode cX12_spellOut 142 = .ok (.invokestatic 390, 3) := by decide +kernel
theorem dX12_spellOut_145 : decode cX12_spellOut 145 = .ok (.istore 4, 2) := by decide +kernel
theorem dX12_spellOut_147 : decode cX12_spellOut 147 = .ok (.iload_n 3, 1) := by decide +kernel
theorem dX12_spellOut_148 : decode cX12_spellOut 148 = .ok (.aload_n 0, 1) := by decide +kernel
theorem dX12_spellOut_149 : decode cX12_spellOut 149 = .ok (.getfield 543, 3) := by decide +kernel
theorem dX12_spellOut_152 : decode cX12_spellOut 152 = .ok (.if_icmp .ge 25, 3) := by decide +kernel
theorem dX12_spellOut_155 : decode cX12_spellOut 155 = .ok (.iload 4, 2) := by decide +kernel
theorem dX12_spellOut_157 : decode cX12_spellOut 157 = .ok (.iconst 1, 1) := by decide +kernel
theorem dX12_spellOut_158 : decode cX12_spellOut 158 = .ok (.aload_n 0, 1) := by decide +kernel
theorem dX12_spellOut_159 : decode cX12_spellOut 159 = .ok (.getfield 238, 3) := by decide +kernel
theorem dX12_spellOut_162 : decode cX12_spellOut 162 = .ok (.bipush 9, 2) := by decide +kernel
theorem dX12_spellOut_164 : decode cX12_spellOut 164 = .ok (.iload_n 2, 1) := by decide +kernel
theorem dX12_spellOut_165 : decode cX12_spellOut 165 = .ok (.imul, 1) := by decide +kernel
theorem dX12_spellOut_166 : decode cX12_spellOut 166 = .ok (.iload_n 3, 1) := by decide +kernel
theorem dX12_spellOut_167 : decode cX12_spellOut 167 = .ok (.iadd, 1) := by decide +kernel
theorem dX12_spellOut_168 : decode cX12_spellOut 168 = .ok (.iconst 1, 1) := by decide +kernel
theorem dX12_spellOut_169 : decode cX12_spellOut 169 = .ok (.iadd, 1) := by decide +kernel
theorem dX12_spellOut_170 : decode cX12_spellOut 170 = .ok (.iaload, 1) := by decide +kernel
theorem dX12_spellOut_171 : decode cX12_spellOut 171 = .ok (.iadd, 1) := by decide +kernel
theorem dX12_spellOut_172 : decode cX12_spellOut 172 = .ok (.invokestatic 390, 3) := by decide +kernel
theorem dX12_spellOut_175 : decode cX12_spellOut 175 = .ok (.istore 4, 2) := by decide +kernel
theorem dX12_spellOut_177 : decode cX12_spellOut 177 = .ok (.aload_n 0, 1) := by decide +kernel
theorem dX12_spellOut_178 : decode cX12_spellOut 178 = .ok (.getfield 238, 3) := by decide +kernel
theorem dX12_spellOut_181 : decode cX12_spellOut 181 = .ok (.bipush 9, 2) := by decide +kernel
theorem dX12_spellOut_183 : decode cX12_spellOut 183 = .ok (.iload_n 2, 1) := by decide +kernel
theorem dX12_spellOut_184 : decode cX12_spellOut 184 = .ok (.imul, 1) := by decide +kernel
theorem dX12_spellOut_185 : decode cX12_spellOut 185 = .ok (.iload_n 3, 1) := by decide +kernel
theorem dX12_spellOut_186 : decode cX12_spellOut 186 = .ok (.iadd, 1) := by decide +kernel
theorem dX12_spellOut_187 : decode cX12_spellOut 187 = .ok (.iload 4, 2) := by decide +kernel
theorem dX12_spellOut_189 : decode cX12_spellOut 189 = .ok (.iastore, 1) := by decide +kernel
theorem dX12_spellOut_190 : decode cX12_spellOut 190 = .ok (.iinc 3 (-1), 3) := by decide +kernel
theorem dX12_spellOut_193 : decode cX12_spellOut 193 = .ok (.goto (-145), 3) := by decide +kernel
theorem dX12_spellOut_196 : decode cX12_spellOut 196 = .ok (.iinc 2 (-1), 3) := by decide +kernel
theorem dX12_spellOut_199 : decode cX12_spellOut 199 = .ok (.goto (-160), 3) := by decide +kernel
theorem dX12_spellOut_202 : decode cX12_spellOut 202 = .ok (.aload_n 0, 1) := by decide +kernel
theorem dX12_spellOut_203 : decode cX12_spellOut 203 = .ok (.iconst 0, 1) := by decide +kernel
theorem dX12_spellOut_204 : decode cX12_spellOut 204 = .ok (.putfield 549, 3) := by decide +kernel
theorem dX12_spellOut_207 : decode cX12_spellOut 207 = .ok (.iconst 0, 1) := by decide +kernel
theorem dX12_spellOut_208 : decode cX12_spellOut 208 = .ok (.istore_n 2, 1) := by decide +kernel
theorem dX12_spellOut_209 : decode cX12_spellOut 209 = .ok (.iconst 0, 1) := by decide +kernel
theorem dX12_spellOut_210 : decode cX12_spellOut 210 = .ok (.istore_n 3, 1) := by decide +kernel
theorem dX12_spellOut_211 : decode cX12_spellOut 211 = .ok (.iload_n 2, 1) := by decide +kernel
theorem dX12_spellOut_212 : decode cX12_spellOut 212 = .ok (.aload_n 0, 1) := by decide +kernel
theorem dX12_spellOut_213 : decode cX12_spellOut 213 = .ok (.getfield 540, 3) := by decide +kernel
theorem dX12_spellOut_216 : decode cX12_spellOut 216 = .ok (.if_icmp .lt 11, 3) := by decide +kernel
theorem dX12_spellOut_219 : decode cX12_spellOut 219 = .ok (.iload_n 3, 1) := by decide +kernel
theorem dX12_spellOut_220 : decode cX12_spellOut 220 = .ok (.aload_n 0, 1) := by decide +kernel
theorem dX12_spellOut_221 : decode cX12_spellOut 221 = .ok (.getfield 543, 3) := by decide +kernel
theorem dX12_spellOut_224 : decode cX12_spellOut 224 = .ok (.if_icmp .ge 148, 3) := by decide +kernel
theorem dX12_spellOut_227 : decode cX12_spellOut 227 = .ok (.aload_n 0, 1) := by decide +kernel
theorem dX12_spellOut_228 : decode cX12_spellOut 228 = .ok (.getfield 238, 3) := by decide +kernel
theorem dX12_spellOut_231 : decode cX12_spellOut 231 = .ok (.bipush 9, 2) := by decide +kernel
theorem dX12_spellOut_233 : decode cX12_spellOut 233 = .ok (.iload_n 2, 1) := by decide +kernel
theorem dX12_spellOut_234 : decode cX12_spellOut 234 = .ok (.imul, 1) := by decide +kernel
theorem dX12_spellOut_235 : decode cX12_spellOut 235 = .ok (.iload_n 3, 1) := by decide +kernel
theorem dX12_spellOut_236 : decode cX12_spellOut 236 = .ok (.iadd, 1) := by decide +kernel
theorem dX12_spellOut_237 : decode cX12_spellOut 237 = .ok (.iaload, 1) := by decide +kernel
theorem dX12_spellOut_238 : decode cX12_spellOut 238 = .ok (.istore 4, 2) := by decide +kernel
theorem dX12_spellOut_240 : decode cX12_spellOut 240 = .ok (.iload_n 2, 1) := by decide +kernel
theorem dX12_spellOut_241 : decode cX12_spellOut 241 = .ok (.aload_n 0, 1) := by decide +kernel
theorem dX12_spellOut_242 : decode cX12_spellOut 242 = .ok (.getfield 540, 3) := by decide +kernel
theorem dX12_spellOut_245 : decode cX12_spellOut 245 = .ok (.if_icmp .ge 67, 3) := by decide +kernel
theorem dX12_spellOut_248 : decode cX12_spellOut 248 = .ok (.iload_n 3, 1) := by decide +kernel
theorem dX12_spellOut_249 : decode cX12_spellOut 249 = .ok (.aload_n 0, 1) := by decide +kernel
theorem dX12_spellOut_250 : decode cX12_spellOut 250 = .ok (.getfield 543, 3) := by decide +kernel
theorem dX12_spellOut_253 : decode cX12_spellOut 253 = .ok (.if_icmp .ge 59, 3) := by decide +kernel
theorem dX12_spellOut_256 : decode cX12_spellOut 256 = .ok (.aload_n 0, 1) := by decide +kernel
theorem dX12_spellOut_257 : decode cX12_spellOut 257 = .ok (.iload_n 2, 1) := by decide +kernel
theorem dX12_spellOut_258 : decode cX12_spellOut 258 = .ok (.iload_n 3, 1) := by decide +kernel
theorem dX12_spellOut_259 : decode cX12_spellOut 259 = .ok (.invokevirtual 546, 3) := by decide +kernel
theorem dX12_spellOut_262 : decode cX12_spellOut 262 = .ok (.aload_n 0, 1) := by decide +kernel
theorem dX12_spellOut_263 : decode cX12_spellOut 263 = .ok (.getfield 238, 3) := by decide +kernel
theorem dX12_spellOut_266 : decode cX12_spellOut 266 = .ok (.bipush 9, 2) := by decide +kernel
theorem dX12_spellOut_268 : decode cX12_spellOut 268 = .ok (.iload_n 2, 1) := by decide +kernel
theorem dX12_spellOut_269 : decode cX12_spellOut 269 = .ok (.iconst 1, 1) := by decide +kernel
theorem dX12_spellOut_270 : decode cX12_spellOut 270 = .ok (.iadd, 1) := by decide +kernel
theorem dX12_spellOut_271 : decode cX12_spellOut 271 = .ok (.imul, 1) := by decide +kernel
theorem dX12_spellOut_272 : decode cX12_spellOut 272 = .ok (.iload_n 3, 1) := by decide +kernel
theorem dX12_spellOut_273 : decode cX12_spellOut 273 = .ok (.iadd, 1) := by decide +kernel
theorem dX12_spellOut_274 : decode cX12_spellOut 274 = .ok (.iconst 1, 1) := by decide +kernel
theorem dX12_spellOut_275 : decode cX12_spellOut 275 = .ok (.iadd, 1) := by decide +kernel
theorem dX12_spellOut_276 : decode cX12_spellOut 276 = .ok (.iaload, 1) := by decide +kernel
theorem dX12_spellOut_277 : decode cX12_spellOut 277 = .ok (.iadd, 1) := by decide +kernel
theorem dX12_spellOut_278 : decode cX12_spellOut 278 = .ok (.iload 4, 2) := by decide +kernel
theorem dX12_spellOut_280 : decode cX12_spellOut 280 = .ok (.if_icmp .ne 32, 3) := by decide +kernel
theorem dX12_spellOut_283 : decode cX12_spellOut 283 = .ok (.aload_n 0, 1) := by decide +kernel
theorem dX12_spellOut_284 : decode cX12_spellOut 284 = .ok (.iload_n 2, 1) := by decide +kernel
theorem dX12_spellOut_285 : decode cX12_spellOut 285 = .ok (.iload_n 3, 1) := by decide +kernel
theorem dX12_spellOut_286 : decode cX12_spellOut 286 = .ok (.invokevirtual 546, 3) := by decide +kernel
theorem dX12_spellOut_289 : decode cX12_spellOut 289 = .ok (.iconst 1, 1) := by decide +kernel
theorem dX12_spellOut_290 : decode cX12_spellOut 290 = .ok (.if_icmp .ne 13, 3) := by decide +kernel
theorem dX12_spellOut_293 : decode cX12_spellOut 293 = .ok (.aload_n 0, 1) := by decide +kernel
theorem dX12_spellOut_294 : decode cX12_spellOut 294 = .ok (.aload_n 0, 1) := by decide +kernel
theorem dX12_spellOut_295 : decode cX12_spellOut 295 = .ok (.getfield 232, 3) := by decide +kernel
theorem dX12_spellOut_298 : decode cX12_spellOut 298 = .ok (.iload_n 2, 1) := by decide +kernel
theorem dX12_spellOut_299 : decode cX12_spellOut 299 = .ok (.iaload, 1) := by decide +kernel
theorem dX12_spellOut_300 : decode cX12_spellOut 300 = .ok (.invokevirtual 552, 3) := by decide +kernel
theorem dX12_spellOut_303 : decode cX12_spellOut 303 = .ok (.iinc 2 1, 3) := by decide +kernel
theorem dX12_spellOut_306 : decode cX12_spellOut 306 = .ok (.iinc 3 1, 3) := by decide +kernel
theorem dX12_spellOut_309 : decode cX12_spellOut 309 = .ok (.goto 60, 3) := by decide +kernel
theorem dX12_spellOut_312 : decode cX12_spellOut 312 = .ok (.iload_n 2, 1) := by decide +kernel
theorem dX12_spellOut_313 : decode cX12_spellOut 313 = .ok (.aload_n 0, 1) := by decide +kernel
theorem dX12_spellOut_314 : decode cX12_spellOut 314 = .ok (.getfield 540, 3) := by decide +kernel
theorem dX12_spellOut_317 : decode cX12_spellOut 317 = .ok (.if_icmp .ge 39, 3) := by decide +kernel
theorem dX12_spellOut_320 : decode cX12_spellOut 320 = .ok (.iconst 1, 1) := by decide +kernel
theorem dX12_spellOut_321 : decode cX12_spellOut 321 = .ok (.aload_n 0, 1) := by decide +kernel
theorem dX12_spellOut_322 : decode cX12_spellOut 322 = .ok (.getfield 238, 3) := by decide +kernel
theorem dX12_spellOut_325 : decode cX12_spellOut 325 = .ok (.bipush 9, 2) := by decide +kernel
theorem dX12_spellOut_327 : decode cX12_spellOut 327 = .ok (.iload_n 2, 1) := by decide +kernel
theorem dX12_spellOut_328 : decode cX12_spellOut 328 = .ok (.iconst 1, 1) := by decide +kernel
theorem dX12_spellOut_329 : decode cX12_spellOut 329 = .ok (.iadd, 1) := by decide +kernel
theorem dX12_spellOut_330 : decode cX12_spellOut 330 = .ok (.imul, 1) := by decide +kernel
theorem dX12_spellOut_331 : decode cX12_spellOut 331 = .ok (.iload_n 3, 1) := by decide +kernel
theorem dX12_spellOut_332 : decode cX12_spellOut 332 = .ok (.iadd, 1) := by decide +kernel
theorem dX12_spellOut_333 : decode cX12_spellOut 333 = .ok (.iaload, 1) := by decide +kernel
theorem dX12_spellOut_334 : decode cX12_spellOut 334 = .ok (.iadd, 1) := by decide +kernel
theorem dX12_spellOut_335 : decode cX12_spellOut 335 = .ok (.iload 4, 2) := by decide +kernel
theorem dX12_spellOut_337 : decode cX12_spellOut 337 = .ok (.if_icmp .ne 19, 3) := by decide +kernel
theorem dX12_spellOut_340 : decode cX12_spellOut 340 = .ok (.aload_n 0, 1) := by decide +kernel
theorem dX12_spellOut_341 : decode cX12_spellOut 341 = .ok (.aload_n 0, 1) := by decide +kernel
theorem dX12_spellOut_342 : decode cX12_spellOut 342 = .ok (.getfield 232, 3) := by decide +kernel
theorem dX12_spellOut_345 : decode cX12_spellOut 345 = .ok (.iload_n 2, 1) := by decide +kernel
theorem dX12_spellOut_346 : decode cX12_spellOut 346 = .ok (.iaload, 1) := by decide +kernel
theorem dX12_spellOut_347 : decode cX12_spellOut 347 = .ok (.invokevirtual 552, 3) := by decide +kernel
theorem dX12_spellOut_350 : decode cX12_spellOut 350 = .ok (.iinc 2 1, 3) := by decide +kernel
theorem dX12_spellOut_353 : decode cX12_spellOut 353 = .ok (.goto 16, 3) := by decide +kernel
theorem dX12_spellOut_356 : decode cX12_spellOut 356 = .ok (.aload_n 0, 1) := by decide +kernel
theorem dX12_spellOut_357 : decode cX12_spellOut 357 = .ok (.aload_n 0, 1) := by decide +kernel
theorem dX12_spellOut_358 : decode cX12_spellOut 358 = .ok (.getfield 235, 3) := by decide +kernel
theorem dX12_spellOut_361 : decode cX12_spellOut 361 = .ok (.iload_n 3, 1) := by decide +kernel
theorem dX12_spellOut_362 : decode cX12_spellOut 362 = .ok (.iaload, 1) := by decide +kernel
theorem dX12_spellOut_363 : decode cX12_spellOut 363 = .ok (.invokevirtual 552, 3) := by decide +kernel
theorem dX12_spellOut_366 : decode cX12_spellOut 366 = .ok (.iinc 3 1, 3) := by decide +kernel
theorem dX12_spellOut_369 : decode cX12_spellOut 369 = .ok (.goto (-158), 3) := by decide +kernel
theorem dX12_spellOut_372 : decode cX12_spellOut 372 = .ok (.return_, 1) := by decide +kernel
noncomputable def X12_spellOut_j177 (a2 : Int32) (a3 : Int32) (a4 : Int32) (w : Wd) : Option ((Int32 × Wd) ⊕ Wd) :=
gd (vp_in (((9 : Int32) * a2) + a3) 81) <|
(some (puI w 165 (ix (((9 : Int32) * a2) + a3)) a4)).bind fun w7 =>
some (.inl ((a3 + (-1 : Int32)), w7))
set_option maxRecDepth 20000 in
set_option maxHeartbeats 1000000 in
theorem t_X12_spellOut_j177 {κ : Kx} (a2 : Int32) (a3 : Int32) (a4 : Int32) (w : Wd) {G : (Int32 × Wd) → Prop} {P : Wd → Prop} (KG : ∀ s, G s → J κ RX12 cX12_spellOut 5 none (rmk 1 25) 48 [(0, .ref (ad (gm κ) 97)), (2, .int a2), (3, .int s.1)] [] s.2) (K0 : ∀ e, P e → J κ RX12 cX12_spellOut 5 none (rmk 1 25) 196 [(0, .ref (ad (gm κ) 97)), (2, .int a2)] [] e) (h : ok (X12_spellOut_j177  a2 a3 a4 w) (sel G P)) : J κ RX12 cX12_spellOut 5 none (rmk 1 25) 177 [(0, .ref (ad (gm κ) 97)), (2, .int a2), (3, .int a3), (4, .int a4)] [] w := by
  unfold X12_spellOut_j177 at h
  refine j_aload_n 0 dX12_spellOut_177 rfl rfl ?_
  refine j_getA 165 fl_RX12_238 sh_97 fk_97_91 (by decide) dX12_spellOut_178 ?_
  refine j_bipush (9 : Int32) dX12_spellOut_181 kb_9 ?_
  refine j_iload_n 1 dX12_spellOut_183 rfl rfl ?_
  refine j_imul dX12_spellOut_184 ?_
  refine j_iload_n 2 dX12_spellOut_185 rfl rfl ?_
  refine j_iadd dX12_spellOut_186 ?_
  refine j_iload 3 dX12_spellOut_187 rfl ?_
  refine j_iast sh_165 dX12_spellOut_189 h (fun h => ?_)
  refine j_lW h (fun w7 h => ?_)
  refine j_iinc (a3 + (-1 : Int32)) 2 [(3, .int (a3 + (-1 : Int32))), (0, .ref (ad (gm κ) 97)), (2, .int a2), (4, .int a4)] dX12_spellOut_190 rfl (by rw [kn_m1]) (by decide) rfl ?_
  refine j_goto 48 dX12_spellOut_193 (by decide) ?_
  refine j_loc [(0, .ref (ad (gm κ) 97)), (2, .int a2), (3, .int (a3 + (-1 : Int32)))] [1, 2, 0] rfl ?_
  have h := sel_l h
  have h := KG _ h
  exact h
noncomputable def X12_spellOut_j147 (a2 : Int32) (a3 : Int32) (a4 : Int32) (w : Wd) : Option ((Int32 × Wd) ⊕ Wd) :=
(if (w.1 97 97) ≤ a3 then
X12_spellOut_j177 a2 a3 a4 w
else
gd (vp_in ((((9 : Int32) * a2) + a3) + (1 : Int32)) 81) <|
(some (w.1 165 (ix ((((9 : Int32) * a2) + a3) + (1 : Int32))))).bind fun z8 =>
(some (mnI a4 ((1 : Int32) + z8))).bind fun z9 =>
X12_spellOut_j177 a2 a3 z9 w)
set_option maxRecDepth 20000 in
set_option maxHeartbeats 1000000 in
theorem t_X12_spellOut_j147 {κ : Kx} (a2 : Int32) (a3 : Int32) (a4 : Int32) (w : Wd) {G : (Int32 × Wd) → Prop} {P : Wd → Prop} (KG : ∀ s, G s → J κ RX12 cX12_spellOut 5 none (rmk 1 25) 48 [(0, .ref (ad (gm κ) 97)), (2, .int a2), (3, .int s.1)] [] s.2) (K0 : ∀ e, P e → J κ RX12 cX12_spellOut 5 none (rmk 1 25) 196 [(0, .ref (ad (gm κ) 97)), (2, .int a2)] [] e) (h : ok (X12_spellOut_j147  a2 a3 a4 w) (sel G P)) : J κ RX12 cX12_spellOut 5 none (rmk 1 25) 147 [(0, .ref (ad (gm κ) 97)), (2, .int a2), (3, .int a3), (4, .int a4)] [] w := by
  unfold X12_spellOut_j147 at h
  refine j_iload_n 2 dX12_spellOut_147 rfl rfl ?_
  refine j_aload_n 0 dX12_spellOut_148 rfl rfl ?_
  refine j_getI fl_RX12_543 sh_97 fk_97_97 dX12_spellOut_149 ?_
  refine j_ic_ge 177 dX12_spellOut_152 (by decide) h (fun h => ?_) (fun h => ?_)
  · refine j_loc [(0, .ref (ad (gm κ) 97)), (2, .int a2), (3, .int a3), (4, .int a4)] [0, 1, 2, 3] rfl ?_
    exact t_X12_spellOut_j177 a2 a3 a4 w KG K0 h
  · refine j_iload 3 dX12_spellOut_155 rfl ?_
    refine j_iconst (1 : Int32) dX12_spellOut_157 ki_1 ?_
    refine j_aload_n 0 dX12_spellOut_158 rfl rfl ?_
    refine j_getA 165 fl_RX12_238 sh_97 fk_97_91 (by decide) dX12_spellOut_159 ?_
    refine j_bipush (9 : Int32) dX12_spellOut_162 kb_9 ?_
    refine j_iload_n 1 dX12_spellOut_164 rfl rfl ?_
    refine j_imul dX12_spellOut_165 ?_
    refine j_iload_n 2 dX12_spellOut_166 rfl rfl ?_
    refine j_iadd dX12_spellOut_167 ?_
    refine j_iconst (1 : Int32) dX12_spellOut_168 ki_1 ?_
    refine j_iadd dX12_spellOut_169 ?_
    refine j_iald sh_165 dX12_spellOut_170 h (fun h => ?_)
    refine j_lI h (fun z8 h => ?_)
    refine j_iadd dX12_spellOut_171 ?_
    refine j_mnI mt_RX12_390 (by decide) (Nat.le_of_ble_eq_true rfl) dX12_spellOut_172 ?_
    refine j_lI h (fun z9 h => ?_)
    refine j_istore [(4, .int z9), (0, .ref (ad (gm κ) 97)), (2, .int a2), (3, .int a3)] dX12_spellOut_175 (by decide) rfl ?_
    refine j_loc [(0, .ref (ad (gm κ) 97)), (2, .int a2), (3, .int a3), (4, .int z9)] [1, 2, 3, 0] rfl ?_
    exact t_X12_spellOut_j177 a2 a3 z9 w KG K0 h
noncomputable def X12_spellOut_j117 (a2 : Int32) (a3 : Int32) (a4 : Int32) (w : Wd) : Option ((Int32 × Wd) ⊕ Wd) :=
(if (w.1 97 96) ≤ a2 then
X12_spellOut_j147 a2 a3 a4 w
else
gd (vp_in (((9 : Int32) * (a2 + (1 : Int32))) + a3) 81) <|
(some (w.1 165 (ix (((9 : Int32) * (a2 + (1 : Int32))) + a3)))).bind fun z10 =>
(some (mnI a4 ((1 : Int32) + z10))).bind fun z11 =>
X12_spellOut_j147 a2 a3 z11 w)
set_option maxRecDepth 20000 in
set_option maxHeartbeats 1000000 in
theorem t_X12_spellOut_j117 {κ : Kx} (a2 : Int32) (a3 : Int32) (a4 : Int32) (w : Wd) {G : (Int32 × Wd) → Prop} {P : Wd → Prop} (KG : ∀ s, G s → J κ RX12 cX12_spellOut 5 none (rmk 1 25) 48 [(0, .ref (ad (gm κ) 97)), (2, .int a2), (3, .int s.1)] [] s.2) (K0 : ∀ e, P e → J κ RX12 cX12_spellOut 5 none (rmk 1 25) 196 [(0, .ref (ad (gm κ) 97)), (2, .int a2)] [] e) (h : ok (X12_spellOut_j117  a2 a3 a4 w) (sel G P)) : J κ RX12 cX12_spellOut 5 none (rmk 1 25) 117 [(0, .ref (ad (gm κ) 97)), (2, .int a2), (3, .int a3), (4, .int a4)] [] w := by
  unfold X12_spellOut_j117 at h
  refine j_iload_n 1 dX12_spellOut_117 rfl rfl ?_
  refine j_aload_n 0 dX12_spellOut_118 rfl rfl ?_
  refine j_getI fl_RX12_540 sh_97 fk_97_96 dX12_spellOut_119 ?_
  refine j_ic_ge 147 dX12_spellOut_122 (by decide) h (fun h => ?_) (fun h => ?_)
  · refine j_loc [(0, .ref (ad (gm κ) 97)), (2, .int a2), (3, .int a3), (4, .int a4)] [0, 1, 2, 3] rfl ?_
    exact t_X12_spellOut_j147 a2 a3 a4 w KG K0 h
  · refine j_iload 3 dX12_spellOut_125 rfl ?_
    refine j_iconst (1 : Int32) dX12_spellOut_127 ki_1 ?_
    refine j_aload_n 0 dX12_spellOut_128 rfl rfl ?_
    refine j_getA 165 fl_RX12_238 sh_97 fk_97_91 (by decide) dX12_spellOut_129 ?_
    refine j_bipush (9 : Int32) dX12_spellOut_132 kb_9 ?_
    refine j_iload_n 1 dX12_spellOut_134 rfl rfl ?_
    refine j_iconst (1 : Int32) dX12_spellOut_135 ki_1 ?_
    refine j_iadd dX12_spellOut_136 ?_
    refine j_imul dX12_spellOut_137 ?_
    refine j_iload_n 2 dX12_spellOut_138 rfl rfl ?_
    refine j_iadd dX12_spellOut_139 ?_
    refine j_iald sh_165 dX12_spellOut_140 h (fun h => ?_)
    refine j_lI h (fun z10 h => ?_)
    refine j_iadd dX12_spellOut_141 ?_
    refine j_mnI mt_RX12_390 (by decide) (Nat.le_of_ble_eq_true rfl) dX12_spellOut_142 ?_
    refine j_lI h (fun z11 h => ?_)
    refine j_istore [(4, .int z11), (0, .ref (ad (gm κ) 97)), (2, .int a2), (3, .int a3)] dX12_spellOut_145 (by decide) rfl ?_
    refine j_loc [(0, .ref (ad (gm κ) 97)), (2, .int a2), (3, .int a3), (4, .int z11)] [1, 2, 3, 0] rfl ?_
    exact t_X12_spellOut_j147 a2 a3 z11 w KG K0 h
noncomputable def X12_spellOut_j75 (a2 : Int32) (a3 : Int32) (s0 : Int32) (w : Wd) : Option ((Int32 × Wd) ⊕ Wd) :=
(if (w.1 97 96) ≤ a2 then
X12_spellOut_j117 a2 a3 s0 w
else
(if (w.1 97 97) ≤ a3 then
X12_spellOut_j117 a2 a3 s0 w
else
(X12_pairs a2 a3 w).bind fun q12 =>
gd (vp_in ((((9 : Int32) * (a2 + (1 : Int32))) + a3) + (1 : Int32)) 81) <|
(some (w.1 165 (ix ((((9 : Int32) * (a2 + (1 : Int32))) + a3) + (1 : Int32))))).bind fun z14 =>
X12_spellOut_j117 a2 a3 (q12 + z14) w))
set_option maxRecDepth 20000 in
set_option maxHeartbeats 1000000 in
theorem t_X12_spellOut_j75 {κ : Kx} (a2 : Int32) (a3 : Int32) (s0 : Int32) (w : Wd) {G : (Int32 × Wd) → Prop} {P : Wd → Prop} (KG : ∀ s, G s → J κ RX12 cX12_spellOut 5 none (rmk 1 25) 48 [(0, .ref (ad (gm κ) 97)), (2, .int a2), (3, .int s.1)] [] s.2) (K0 : ∀ e, P e → J κ RX12 cX12_spellOut 5 none (rmk 1 25) 196 [(0, .ref (ad (gm κ) 97)), (2, .int a2)] [] e) (h : ok (X12_spellOut_j75  a2 a3 s0 w) (sel G P)) : J κ RX12 cX12_spellOut 5 none (rmk 1 25) 75 [(0, .ref (ad (gm κ) 97)), (2, .int a2), (3, .int a3)] [.int s0] w := by
  unfold X12_spellOut_j75 at h
  refine j_istore [(4, .int s0), (0, .ref (ad (gm κ) 97)), (2, .int a2), (3, .int a3)] dX12_spellOut_75 (by decide) rfl ?_
  refine j_iload_n 2 dX12_spellOut_77 rfl rfl ?_
  refine j_aload_n 1 dX12_spellOut_78 rfl rfl ?_
  refine j_getI fl_RX12_540 sh_97 fk_97_96 dX12_spellOut_79 ?_
  refine j_ic_ge 117 dX12_spellOut_82 (by decide) h (fun h => ?_) (fun h => ?_)
  · refine j_loc [(0, .ref (ad (gm κ) 97)), (2, .int a2), (3, .int a3), (4, .int s0)] [1, 2, 3, 0] rfl ?_
    exact t_X12_spellOut_j117 a2 a3 s0 w KG K0 h
  · refine j_iload_n 3 dX12_spellOut_85 rfl rfl ?_
    refine j_aload_n 1 dX12_spellOut_86 rfl rfl ?_
    refine j_getI fl_RX12_543 sh_97 fk_97_97 dX12_spellOut_87 ?_
    refine j_ic_ge 117 dX12_spellOut_90 (by decide) h (fun h => ?_) (fun h => ?_)
    · refine j_loc [(0, .ref (ad (gm κ) 97)), (2, .int a2), (3, .int a3), (4, .int s0)] [1, 2, 3, 0] rfl ?_
      exact t_X12_spellOut_j117 a2 a3 s0 w KG K0 h
    · refine j_aload_n 1 dX12_spellOut_93 rfl rfl ?_
      refine j_iload_n 2 dX12_spellOut_94 rfl rfl ?_
      refine j_iload_n 3 dX12_spellOut_95 rfl rfl ?_
      obtain ⟨q12, e13, h⟩ := ok_b h
      refine j_callV (As := [.int a2, .int a3]) (st := []) [.int q12] (c_X12_pairs (kl κ) (gm κ) (kA κ) a2 a3 w q12 e13) ck_RX12_546 im_X12_pairs se_X12_pairs sh_97 cx_12 ⟨rfl, rfl⟩ ⟨by decide, by decide⟩ rfl rfl (Nat.le_of_ble_eq_true rfl) dX12_spellOut_96 _ rfl ?_
      refine j_aload_n 1 dX12_spellOut_99 rfl rfl ?_
      refine j_getA 165 fl_RX12_238 sh_97 fk_97_91 (by decide) dX12_spellOut_100 ?_
      refine j_bipush (9 : Int32) dX12_spellOut_103 kb_9 ?_
      refine j_iload_n 2 dX12_spellOut_105 rfl rfl ?_
      refine j_iconst (1 : Int32) dX12_spellOut_106 ki_1 ?_
      refine j_iadd dX12_spellOut_107 ?_
      refine j_imul dX12_spellOut_108 ?_
      refine j_iload_n 3 dX12_spellOut_109 rfl rfl ?_
      refine j_iadd dX12_spellOut_110 ?_
      refine j_iconst (1 : Int32) dX12_spellOut_111 ki_1 ?_
      refine j_iadd dX12_spellOut_112 ?_
      refine j_iald sh_165 dX12_spellOut_113 h (fun h => ?_)
      refine j_lI h (fun z14 h => ?_)
      refine j_iadd dX12_spellOut_114 ?_
      refine j_istore [(4, .int (q12 + z14)), (0, .ref (ad (gm κ) 97)), (2, .int a2), (3, .int a3)] dX12_spellOut_115 (by decide) rfl ?_
      refine j_loc [(0, .ref (ad (gm κ) 97)), (2, .int a2), (3, .int a3), (4, .int (q12 + z14))] [1, 2, 3, 0] rfl ?_
      exact t_X12_spellOut_j117 a2 a3 (q12 + z14) w KG K0 h
noncomputable def X12_spellOut_j72 (a2 : Int32) (a3 : Int32) (w : Wd) : Option ((Int32 × Wd) ⊕ Wd) :=
X12_spellOut_j75 a2 a3 (1000 : Int32) w
set_option maxRecDepth 20000 in
set_option maxHeartbeats 1000000 in
theorem t_X12_spellOut_j72 {κ : Kx} (a2 : Int32) (a3 : Int32) (w : Wd) {G : (Int32 × Wd) → Prop} {P : Wd → Prop} (KG : ∀ s, G s → J κ RX12 cX12_spellOut 5 none (rmk 1 25) 48 [(0, .ref (ad (gm κ) 97)), (2, .int a2), (3, .int s.1)] [] s.2) (K0 : ∀ e, P e → J κ RX12 cX12_spellOut 5 none (rmk 1 25) 196 [(0, .ref (ad (gm κ) 97)), (2, .int a2)] [] e) (h : ok (X12_spellOut_j72  a2 a3 w) (sel G P)) : J κ RX12 cX12_spellOut 5 none (rmk 1 25) 72 [(0, .ref (ad (gm κ) 97)), (2, .int a2), (3, .int a3)] [] w := by
  unfold X12_spellOut_j72 at h
  refine j_sipush (1000 : Int32) dX12_spellOut_72 ks_1000 ?_
  refine j_loc [(0, .ref (ad (gm κ) 97)), (2, .int a2), (3, .int a3)] [0, 1, 2] rfl ?_
  exact t_X12_spellOut_j75 a2 a3 (1000 : Int32) w KG K0 h
noncomputable def X12_spellOut_b48 (a2 : Int32) (s : (Int32 × Wd)) : Option ((Int32 × Wd) ⊕ Wd) :=
(if s.1 < 0 then
some (.inr s.2)
else
(if a2 = (s.2.1 97 96) then
(if s.1 = (s.2.1 97 97) then
X12_spellOut_j75 a2 s.1 (0 : Int32) s.2
else
X12_spellOut_j72 a2 s.1 s.2)
else
X12_spellOut_j72 a2 s.1 s.2))
set_option maxRecDepth 20000 in
set_option maxHeartbeats 1000000 in
theorem t_X12_spellOut_b48 {κ : Kx} (a2 : Int32) {P : Wd → Prop} (K0 : ∀ e, P e → J κ RX12 cX12_spellOut 5 none (rmk 1 25) 196 [(0, .ref (ad (gm κ) 97)), (2, .int a2)] [] e) (s : (Int32 × Wd)) (h : ok (lp (X12_spellOut_b48  a2) s) P) : J κ RX12 cX12_spellOut 5 none (rmk 1 25) 48 [(0, .ref (ad (gm κ) 97)), (2, .int a2), (3, .int s.1)] [] s.2 := by
  refine lp_ind (fun s => J κ RX12 cX12_spellOut 5 none (rmk 1 25) 48 [(0, .ref (ad (gm κ) 97)), (2, .int a2), (3, .int s.1)] [] s.2) (fun s h => ?_) s h
  unfold X12_spellOut_b48 at h
  refine j_iload_n 2 dX12_spellOut_48 rfl rfl ?_
  refine j_if_lt 196 dX12_spellOut_49 (by decide) h (fun h => ?_) (fun h => ?_)
  · refine j_loc [(0, .ref (ad (gm κ) 97)), (2, .int a2)] [0, 1] rfl ?_
    have h := sel_r h
    have h := K0 _ h
    exact h
  · refine j_iload_n 1 dX12_spellOut_52 rfl rfl ?_
    refine j_aload_n 0 dX12_spellOut_53 rfl rfl ?_
    refine j_getI fl_RX12_540 sh_97 fk_97_96 dX12_spellOut_54 ?_
    refine j_ic_ne 72 dX12_spellOut_57 (by decide) h (fun h => ?_) (fun h => ?_)
    · refine j_loc [(0, .ref (ad (gm κ) 97)), (2, .int a2), (3, .int s.1)] [0, 1, 2] rfl ?_
      exact t_X12_spellOut_j72 a2 s.1 s.2 (fun _ h => h) K0 h
    · refine j_iload_n 2 dX12_spellOut_60 rfl rfl ?_
      refine j_aload_n 0 dX12_spellOut_61 rfl rfl ?_
      refine j_getI fl_RX12_543 sh_97 fk_97_97 dX12_spellOut_62 ?_
      refine j_ic_ne 72 dX12_spellOut_65 (by decide) h (fun h => ?_) (fun h => ?_)
      · refine j_loc [(0, .ref (ad (gm κ) 97)), (2, .int a2), (3, .int s.1)] [0, 1, 2] rfl ?_
        exact t_X12_spellOut_j72 a2 s.1 s.2 (fun _ h => h) K0 h
      · refine j_iconst (0 : Int32) dX12_spellOut_68 ki_0 ?_
        refine j_goto 75 dX12_spellOut_69 (by decide) ?_
        refine j_loc [(0, .ref (ad (gm κ) 97)), (2, .int a2), (3, .int s.1)] [0, 1, 2] rfl ?_
        exact t_X12_spellOut_j75 a2 s.1 (0 : Int32) s.2 (fun _ h => h) K0 h
noncomputable def X12_spellOut_b39 (s : (Int32 × Wd)) : Option ((Int32 × Wd) ⊕ Wd) :=
(if s.1 < 0 then
some (.inr s.2)
else
(lp (X12_spellOut_b48 s.1) ((s.2.1 97 97), s.2)).bind fun e15 =>
some (.inl ((s.1 + (-1 : Int32)), e15)))
set_option maxRecDepth 20000 in
set_option maxHeartbeats 1000000 in
theorem t_X12_spellOut_b39 {κ : Kx} {P : Wd → Prop} (K0 : ∀ e, P e → J κ RX12 cX12_spellOut 5 none (rmk 1 25) 202 [(0, .ref (ad (gm κ) 97))] [] e) (s : (Int32 × Wd)) (h : ok (lp (X12_spellOut_b39  ) s) P) : J κ RX12 cX12_spellOut 5 none (rmk 1 25) 39 [(0, .ref (ad (gm κ) 97)), (2, .int s.1)] [] s.2 := by
  refine lp_ind (fun s => J κ RX12 cX12_spellOut 5 none (rmk 1 25) 39 [(0, .ref (ad (gm κ) 97)), (2, .int s.1)] [] s.2) (fun s h => ?_) s h
  unfold X12_spellOut_b39 at h
  refine j_iload_n 1 dX12_spellOut_39 rfl rfl ?_
  refine j_if_lt 202 dX12_spellOut_40 (by decide) h (fun h => ?_) (fun h => ?_)
  · refine j_loc [(0, .ref (ad (gm κ) 97))] [0] rfl ?_
    have h := sel_r h
    have h := K0 _ h
    exact h
  · refine j_aload_n 0 dX12_spellOut_43 rfl rfl ?_
    refine j_getI fl_RX12_543 sh_97 fk_97_97 dX12_spellOut_44 ?_
    refine j_istore_n [(3, .int (s.2.1 97 97)), (0, .ref (ad (gm κ) 97)), (2, .int s.1)] dX12_spellOut_47 rfl (by decide) rfl ?_
    refine j_loc [(0, .ref (ad (gm κ) 97)), (2, .int s.1), (3, .int (s.2.1 97 97))] [1, 2, 0] rfl ?_
    refine t_X12_spellOut_b48 s.1 (fun e15 h => ?_) ((s.2.1 97 97), s.2) (ok_bb h)
    · refine j_iinc (s.1 + (-1 : Int32)) 1 [(2, .int (s.1 + (-1 : Int32))), (0, .ref (ad (gm κ) 97))] dX12_spellOut_196 rfl (by rw [kn_m1]) (by decide) rfl ?_
      refine j_goto 39 dX12_spellOut_199 (by decide) ?_
      refine j_loc [(0, .ref (ad (gm κ) 97)), (2, .int (s.1 + (-1 : Int32)))] [1, 0] rfl ?_
      have h := sel_l h
      exact h
noncomputable def X12_spellOut_j369 (a2 : Int32) (a3 : Int32) (w : Wd) : Option ((Int32 × Int32 × Wd) ⊕ Wd) :=
some (.inl (a2, a3, w))
set_option maxRecDepth 20000 in
set_option maxHeartbeats 1000000 in
theorem t_X12_spellOut_j369 {κ : Kx} (a2 : Int32) (a3 : Int32) (w : Wd) {G : (Int32 × Int32 × Wd) → Prop} {P : Wd → Prop} (KG : ∀ s, G s → J κ RX12 cX12_spellOut 5 none (rmk 1 25) 211 [(0, .ref (ad (gm κ) 97)), (2, .int s.1), (3, .int s.2.1)] [] s.2.2) (K0 : ∀ e, P e → J κ RX12 cX12_spellOut 5 none (rmk 1 25) 372 [] [] e) (h : ok (X12_spellOut_j369  a2 a3 w) (sel G P)) : J κ RX12 cX12_spellOut 5 none (rmk 1 25) 369 [(0, .ref (ad (gm κ) 97)), (2, .int a2), (3, .int a3)] [] w := by
  unfold X12_spellOut_j369 at h
  refine j_goto 211 dX12_spellOut_369 (by decide) ?_
  refine j_loc [(0, .ref (ad (gm κ) 97)), (2, .int a2), (3, .int a3)] [0, 1, 2] rfl ?_
  have h := sel_l h
  have h := KG _ h
  exact h
noncomputable def X12_spellOut_j356 (a2 : Int32) (a3 : Int32) (w : Wd) : Option ((Int32 × Int32 × Wd) ⊕ Wd) :=
gd (vp_in a3 8) <|
(X12_slips0 (w.1 164 (ix a3)) w).bind fun q19 =>
X12_spellOut_j369 a2 (a3 + (1 : Int32)) q19
set_option maxRecDepth 20000 in
set_option maxHeartbeats 1000000 in
theorem t_X12_spellOut_j356 {κ : Kx} (a2 : Int32) (a3 : Int32) (w : Wd) {G : (Int32 × Int32 × Wd) → Prop} {P : Wd → Prop} (KG : ∀ s, G s → J κ RX12 cX12_spellOut 5 none (rmk 1 25) 211 [(0, .ref (ad (gm κ) 97)), (2, .int s.1), (3, .int s.2.1)] [] s.2.2) (K0 : ∀ e, P e → J κ RX12 cX12_spellOut 5 none (rmk 1 25) 372 [] [] e) (h : ok (X12_spellOut_j356  a2 a3 w) (sel G P)) : J κ RX12 cX12_spellOut 5 none (rmk 1 25) 356 [(0, .ref (ad (gm κ) 97)), (2, .int a2), (3, .int a3)] [] w := by
  unfold X12_spellOut_j356 at h
  refine j_aload_n 0 dX12_spellOut_356 rfl rfl ?_
  refine j_aload_n 0 dX12_spellOut_357 rfl rfl ?_
  refine j_getA 164 fl_RX12_235 sh_97 fk_97_90 (by decide) dX12_spellOut_358 ?_
  refine j_iload_n 2 dX12_spellOut_361 rfl rfl ?_
  refine j_iald sh_164 dX12_spellOut_362 h (fun h => ?_)
  obtain ⟨q19, e20, h⟩ := ok_b h
  refine j_callV (As := [.int (w.1 164 (ix a3))]) (st := []) [] (c_X12_slips0 (kl κ) (gm κ) (kA κ) (w.1 164 (ix a3)) w q19 e20) ck_RX12_552 im_X12_slips0 se_X12_slips0 sh_97 cx_12 ⟨rfl, rfl⟩ ⟨by decide, by decide⟩ rfl rfl (Nat.le_of_ble_eq_true rfl) dX12_spellOut_363 _ rfl ?_
  refine j_iinc (a3 + (1 : Int32)) 2 [(3, .int (a3 + (1 : Int32))), (0, .ref (ad (gm κ) 97)), (2, .int a2)] dX12_spellOut_366 rfl (by rw [kn_1]) (by decide) rfl ?_
  refine j_loc [(0, .ref (ad (gm κ) 97)), (2, .int a2), (3, .int (a3 + (1 : Int32)))] [1, 2, 0] rfl ?_
  exact t_X12_spellOut_j369 a2 (a3 + (1 : Int32)) q19 KG K0 h
noncomputable def X12_spellOut_j312 (a2 : Int32) (a3 : Int32) (a4 : Int32) (w : Wd) : Option ((Int32 × Int32 × Wd) ⊕ Wd) :=
(if (w.1 97 96) ≤ a2 then
X12_spellOut_j356 a2 a3 w
else
gd (vp_in (((9 : Int32) * (a2 + (1 : Int32))) + a3) 81) <|
(some (w.1 165 (ix (((9 : Int32) * (a2 + (1 : Int32))) + a3)))).bind fun z21 =>
(if ((1 : Int32) + z21) = a4 then
gd (vp_in a2 8) <|
(X12_slips0 (w.1 163 (ix a2)) w).bind fun q22 =>
X12_spellOut_j369 (a2 + (1 : Int32)) a3 q22
else
X12_spellOut_j356 a2 a3 w))
set_option maxRecDepth 20000 in
set_option maxHeartbeats 1000000 in
theorem t_X12_spellOut_j312 {κ : Kx} (a2 : Int32) (a3 : Int32) (a4 : Int32) (w : Wd) {G : (Int32 × Int32 × Wd) → Prop} {P : Wd → Prop} (KG : ∀ s, G s → J κ RX12 cX12_spellOut 5 none (rmk 1 25) 211 [(0, .ref (ad (gm κ) 97)), (2, .int s.1), (3, .int s.2.1)] [] s.2.2) (K0 : ∀ e, P e → J κ RX12 cX12_spellOut 5 none (rmk 1 25) 372 [] [] e) (h : ok (X12_spellOut_j312  a2 a3 a4 w) (sel G P)) : J κ RX12 cX12_spellOut 5 none (rmk 1 25) 312 [(0, .ref (ad (gm κ) 97)), (2, .int a2), (3, .int a3), (4, .int a4)] [] w := by
  unfold X12_spellOut_j312 at h
  refine j_iload_n 1 dX12_spellOut_312 rfl rfl ?_
  refine j_aload_n 0 dX12_spellOut_313 rfl rfl ?_
  refine j_getI fl_RX12_540 sh_97 fk_97_96 dX12_spellOut_314 ?_
  refine j_ic_ge 356 dX12_spellOut_317 (by decide) h (fun h => ?_) (fun h => ?_)
  · refine j_loc [(0, .ref (ad (gm κ) 97)), (2, .int a2), (3, .int a3)] [0, 1, 2] rfl ?_
    exact t_X12_spellOut_j356 a2 a3 w KG K0 h
  · refine j_iconst (1 : Int32) dX12_spellOut_320 ki_1 ?_
    refine j_aload_n 0 dX12_spellOut_321 rfl rfl ?_
    refine j_getA 165 fl_RX12_238 sh_97 fk_97_91 (by decide) dX12_spellOut_322 ?_
    refine j_bipush (9 : Int32) dX12_spellOut_325 kb_9 ?_
    refine j_iload_n 1 dX12_spellOut_327 rfl rfl ?_
    refine j_iconst (1 : Int32) dX12_spellOut_328 ki_1 ?_
    refine j_iadd dX12_spellOut_329 ?_
    refine j_imul dX12_spellOut_330 ?_
    refine j_iload_n 2 dX12_spellOut_331 rfl rfl ?_
    refine j_iadd dX12_spellOut_332 ?_
    refine j_iald sh_165 dX12_spellOut_333 h (fun h => ?_)
    refine j_lI h (fun z21 h => ?_)
    refine j_iadd dX12_spellOut_334 ?_
    refine j_iload 3 dX12_spellOut_335 rfl ?_
    refine j_ic_ne 356 dX12_spellOut_337 (by decide) h (fun h => ?_) (fun h => ?_)
    · refine j_loc [(0, .ref (ad (gm κ) 97)), (2, .int a2), (3, .int a3)] [0, 1, 2] rfl ?_
      exact t_X12_spellOut_j356 a2 a3 w KG K0 h
    · refine j_aload_n 0 dX12_spellOut_340 rfl rfl ?_
      refine j_aload_n 0 dX12_spellOut_341 rfl rfl ?_
      refine j_getA 163 fl_RX12_232 sh_97 fk_97_89 (by decide) dX12_spellOut_342 ?_
      refine j_iload_n 1 dX12_spellOut_345 rfl rfl ?_
      refine j_iald sh_163 dX12_spellOut_346 h (fun h => ?_)
      obtain ⟨q22, e23, h⟩ := ok_b h
      refine j_callV (As := [.int (w.1 163 (ix a2))]) (st := []) [] (c_X12_slips0 (kl κ) (gm κ) (kA κ) (w.1 163 (ix a2)) w q22 e23) ck_RX12_552 im_X12_slips0 se_X12_slips0 sh_97 cx_12 ⟨rfl, rfl⟩ ⟨by decide, by decide⟩ rfl rfl (Nat.le_of_ble_eq_true rfl) dX12_spellOut_347 _ rfl ?_
      refine j_iinc (a2 + (1 : Int32)) 1 [(2, .int (a2 + (1 : Int32))), (0, .ref (ad (gm κ) 97)), (3, .int a3), (4, .int a4)] dX12_spellOut_350 rfl (by rw [kn_1]) (by decide) rfl ?_
      refine j_goto 369 dX12_spellOut_353 (by decide) ?_
      refine j_loc [(0, .ref (ad (gm κ) 97)), (2, .int (a2 + (1 : Int32))), (3, .int a3)] [1, 0, 2] rfl ?_
      exact t_X12_spellOut_j369 (a2 + (1 : Int32)) a3 q22 KG K0 h
noncomputable def X12_spellOut_j303 (a2 : Int32) (a3 : Int32) (w : Wd) : Option ((Int32 × Int32 × Wd) ⊕ Wd) :=
X12_spellOut_j369 (a2 + (1 : Int32)) (a3 + (1 : Int32)) w
set_option maxRecDepth 20000 in
set_option maxHeartbeats 1000000 in
theorem t_X12_spellOut_j303 {κ : Kx} (a2 : Int32) (a3 : Int32) (w : Wd) {G : (Int32 × Int32 × Wd) → Prop} {P : Wd → Prop} (KG : ∀ s, G s → J κ RX12 cX12_spellOut 5 none (rmk 1 25) 211 [(0, .ref (ad (gm κ) 97)), (2, .int s.1), (3, .int s.2.1)] [] s.2.2) (K0 : ∀ e, P e → J κ RX12 cX12_spellOut 5 none (rmk 1 25) 372 [] [] e) (h : ok (X12_spellOut_j303  a2 a3 w) (sel G P)) : J κ RX12 cX12_spellOut 5 none (rmk 1 25) 303 [(0, .ref (ad (gm κ) 97)), (2, .int a2), (3, .int a3)] [] w := by
  unfold X12_spellOut_j303 at h
  refine j_iinc (a2 + (1 : Int32)) 1 [(2, .int (a2 + (1 : Int32))), (0, .ref (ad (gm κ) 97)), (3, .int a3)] dX12_spellOut_303 rfl (by rw [kn_1]) (by decide) rfl ?_
  refine j_iinc (a3 + (1 : Int32)) 2 [(3, .int (a3 + (1 : Int32))), (2, .int (a2 + (1 : Int32))), (0, .ref (ad (gm κ) 97))] dX12_spellOut_306 rfl (by rw [kn_1]) (by decide) rfl ?_
  refine j_goto 369 dX12_spellOut_309 (by decide) ?_
  refine j_loc [(0, .ref (ad (gm κ) 97)), (2, .int (a2 + (1 : Int32))), (3, .int (a3 + (1 : Int32)))] [2, 1, 0] rfl ?_
  exact t_X12_spellOut_j369 (a2 + (1 : Int32)) (a3 + (1 : Int32)) w KG K0 h
noncomputable def X12_spellOut_j227 (a2 : Int32) (a3 : Int32) (w : Wd) : Option ((Int32 × Int32 × Wd) ⊕ Wd) :=
gd (vp_in (((9 : Int32) * a2) + a3) 81) <|
(some (w.1 165 (ix (((9 : Int32) * a2) + a3)))).bind fun z18 =>
(if (w.1 97 96) ≤ a2 then
X12_spellOut_j312 a2 a3 z18 w
else
(if (w.1 97 97) ≤ a3 then
X12_spellOut_j312 a2 a3 z18 w
else
(X12_pairs a2 a3 w).bind fun q24 =>
gd (vp_in ((((9 : Int32) * (a2 + (1 : Int32))) + a3) + (1 : Int32)) 81) <|
(some (w.1 165 (ix ((((9 : Int32) * (a2 + (1 : Int32))) + a3) + (1 : Int32))))).bind fun z26 =>
(if (q24 + z26) = z18 then
(X12_pairs a2 a3 w).bind fun q27 =>
(if q27 = (1 : Int32) then
gd (vp_in a2 8) <|
(X12_slips0 (w.1 163 (ix a2)) w).bind fun q29 =>
X12_spellOut_j303 a2 a3 q29
else
X12_spellOut_j303 a2 a3 w)
else
X12_spellOut_j312 a2 a3 z18 w)))
set_option maxRecDepth 20000 in
set_option maxHeartbeats 1000000 in
theorem t_X12_spellOut_j227 {κ : Kx} (a2 : Int32) (a3 : Int32) (w : Wd) {G : (Int32 × Int32 × Wd) → Prop} {P : Wd → Prop} (KG : ∀ s, G s → J κ RX12 cX12_spellOut 5 none (rmk 1 25) 211 [(0, .ref (ad (gm κ) 97)), (2, .int s.1), (3, .int s.2.1)] [] s.2.2) (K0 : ∀ e, P e → J κ RX12 cX12_spellOut 5 none (rmk 1 25) 372 [] [] e) (h : ok (X12_spellOut_j227  a2 a3 w) (sel G P)) : J κ RX12 cX12_spellOut 5 none (rmk 1 25) 227 [(0, .ref (ad (gm κ) 97)), (2, .int a2), (3, .int a3)] [] w := by
  unfold X12_spellOut_j227 at h
  refine j_aload_n 0 dX12_spellOut_227 rfl rfl ?_
  refine j_getA 165 fl_RX12_238 sh_97 fk_97_91 (by decide) dX12_spellOut_228 ?_
  refine j_bipush (9 : Int32) dX12_spellOut_231 kb_9 ?_
  refine j_iload_n 1 dX12_spellOut_233 rfl rfl ?_
  refine j_imul dX12_spellOut_234 ?_
  refine j_iload_n 2 dX12_spellOut_235 rfl rfl ?_
  refine j_iadd dX12_spellOut_236 ?_
  refine j_iald sh_165 dX12_spellOut_237 h (fun h => ?_)
  refine j_lI h (fun z18 h => ?_)
  refine j_istore [(4, .int z18), (0, .ref (ad (gm κ) 97)), (2, .int a2), (3, .int a3)] dX12_spellOut_238 (by decide) rfl ?_
  refine j_iload_n 2 dX12_spellOut_240 rfl rfl ?_
  refine j_aload_n 1 dX12_spellOut_241 rfl rfl ?_
  refine j_getI fl_RX12_540 sh_97 fk_97_96 dX12_spellOut_242 ?_
  refine j_ic_ge 312 dX12_spellOut_245 (by decide) h (fun h => ?_) (fun h => ?_)
  · refine j_loc [(0, .ref (ad (gm κ) 97)), (2, .int a2), (3, .int a3), (4, .int z18)] [1, 2, 3, 0] rfl ?_
    exact t_X12_spellOut_j312 a2 a3 z18 w KG K0 h
  · refine j_iload_n 3 dX12_spellOut_248 rfl rfl ?_
    refine j_aload_n 1 dX12_spellOut_249 rfl rfl ?_
    refine j_getI fl_RX12_543 sh_97 fk_97_97 dX12_spellOut_250 ?_
    refine j_ic_ge 312 dX12_spellOut_253 (by decide) h (fun h => ?_) (fun h => ?_)
    · refine j_loc [(0, .ref (ad (gm κ) 97)), (2, .int a2), (3, .int a3), (4, .int z18)] [1, 2, 3, 0] rfl ?_
      exact t_X12_spellOut_j312 a2 a3 z18 w KG K0 h
    · refine j_aload_n 1 dX12_spellOut_256 rfl rfl ?_
      refine j_iload_n 2 dX12_spellOut_257 rfl rfl ?_
      refine j_iload_n 3 dX12_spellOut_258 rfl rfl ?_
      obtain ⟨q24, e25, h⟩ := ok_b h
      refine j_callV (As := [.int a2, .int a3]) (st := []) [.int q24] (c_X12_pairs (kl κ) (gm κ) (kA κ) a2 a3 w q24 e25) ck_RX12_546 im_X12_pairs se_X12_pairs sh_97 cx_12 ⟨rfl, rfl⟩ ⟨by decide, by decide⟩ rfl rfl (Nat.le_of_ble_eq_true rfl) dX12_spellOut_259 _ rfl ?_
      refine j_aload_n 1 dX12_spellOut_262 rfl rfl ?_
      refine j_getA 165 fl_RX12_238 sh_97 fk_97_91 (by decide) dX12_spellOut_263 ?_
      refine j_bipush (9 : Int32) dX12_spellOut_266 kb_9 ?_
      refine j_iload_n 2 dX12_spellOut_268 rfl rfl ?_
      refine j_iconst (1 : Int32) dX12_spellOut_269 ki_1 ?_
      refine j_iadd dX12_spellOut_270 ?_
      refine j_imul dX12_spellOut_271 ?_
      refine j_iload_n 3 dX12_spellOut_272 rfl rfl ?_
      refine j_iadd dX12_spellOut_273 ?_
      refine j_iconst (1 : Int32) dX12_spellOut_274 ki_1 ?_
      refine j_iadd dX12_spellOut_275 ?_
      refine j_iald sh_165 dX12_spellOut_276 h (fun h => ?_)
      refine j_lI h (fun z26 h => ?_)
      refine j_iadd dX12_spellOut_277 ?_
      refine j_iload 0 dX12_spellOut_278 rfl ?_
      refine j_ic_ne 312 dX12_spellOut_280 (by decide) h (fun h => ?_) (fun h => ?_)
      · refine j_loc [(0, .ref (ad (gm κ) 97)), (2, .int a2), (3, .int a3), (4, .int z18)] [1, 2, 3, 0] rfl ?_
        exact t_X12_spellOut_j312 a2 a3 z18 w KG K0 h
      · refine j_aload_n 1 dX12_spellOut_283 rfl rfl ?_
        refine j_iload_n 2 dX12_spellOut_284 rfl rfl ?_
        refine j_iload_n 3 dX12_spellOut_285 rfl rfl ?_
        obtain ⟨q27, e28, h⟩ := ok_b h
        refine j_callV (As := [.int a2, .int a3]) (st := []) [.int q27] (c_X12_pairs (kl κ) (gm κ) (kA κ) a2 a3 w q27 e28) ck_RX12_546 im_X12_pairs se_X12_pairs sh_97 cx_12 ⟨rfl, rfl⟩ ⟨by decide, by decide⟩ rfl rfl (Nat.le_of_ble_eq_true rfl) dX12_spellOut_286 _ rfl ?_
        refine j_iconst (1 : Int32) dX12_spellOut_289 ki_1 ?_
        refine j_ic_ne 303 dX12_spellOut_290 (by decide) h (fun h => ?_) (fun h => ?_)
        · refine j_loc [(0, .ref (ad (gm κ) 97)), (2, .int a2), (3, .int a3)] [1, 2, 3] rfl ?_
          exact t_X12_spellOut_j303 a2 a3 w KG K0 h
        · refine j_aload_n 1 dX12_spellOut_293 rfl rfl ?_
          refine j_aload_n 1 dX12_spellOut_294 rfl rfl ?_
          refine j_getA 163 fl_RX12_232 sh_97 fk_97_89 (by decide) dX12_spellOut_295 ?_
          refine j_iload_n 2 dX12_spellOut_298 rfl rfl ?_
          refine j_iald sh_163 dX12_spellOut_299 h (fun h => ?_)
          obtain ⟨q29, e30, h⟩ := ok_b h
          refine j_callV (As := [.int (w.1 163 (ix a2))]) (st := []) [] (c_X12_slips0 (kl κ) (gm κ) (kA κ) (w.1 163 (ix a2)) w q29 e30) ck_RX12_552 im_X12_slips0 se_X12_slips0 sh_97 cx_12 ⟨rfl, rfl⟩ ⟨by decide, by decide⟩ rfl rfl (Nat.le_of_ble_eq_true rfl) dX12_spellOut_300 _ rfl ?_
          refine j_loc [(0, .ref (ad (gm κ) 97)), (2, .int a2), (3, .int a3)] [1, 2, 3] rfl ?_
          exact t_X12_spellOut_j303 a2 a3 q29 KG K0 h
noncomputable def X12_spellOut_b211 (s : (Int32 × Int32 × Wd)) : Option ((Int32 × Int32 × Wd) ⊕ Wd) :=
(if s.1 < (s.2.2.1 97 96) then
X12_spellOut_j227 s.1 s.2.1 s.2.2
else
(if (s.2.2.1 97 97) ≤ s.2.1 then
some (.inr s.2.2)
else
X12_spellOut_j227 s.1 s.2.1 s.2.2))
set_option maxRecDepth 20000 in
set_option maxHeartbeats 1000000 in
theorem t_X12_spellOut_b211 {κ : Kx} {P : Wd → Prop} (K0 : ∀ e, P e → J κ RX12 cX12_spellOut 5 none (rmk 1 25) 372 [] [] e) (s : (Int32 × Int32 × Wd)) (h : ok (lp (X12_spellOut_b211  ) s) P) : J κ RX12 cX12_spellOut 5 none (rmk 1 25) 211 [(0, .ref (ad (gm κ) 97)), (2, .int s.1), (3, .int s.2.1)] [] s.2.2 := by
  refine lp_ind (fun s => J κ RX12 cX12_spellOut 5 none (rmk 1 25) 211 [(0, .ref (ad (gm κ) 97)), (2, .int s.1), (3, .int s.2.1)] [] s.2.2) (fun s h => ?_) s h
  unfold X12_spellOut_b211 at h
  refine j_iload_n 1 dX12_spellOut_211 rfl rfl ?_
  refine j_aload_n 0 dX12_spellOut_212 rfl rfl ?_
  refine j_getI fl_RX12_540 sh_97 fk_97_96 dX12_spellOut_213 ?_
  refine j_ic_lt 227 dX12_spellOut_216 (by decide) h (fun h => ?_) (fun h => ?_)
  · refine j_loc [(0, .ref (ad (gm κ) 97)), (2, .int s.1), (3, .int s.2.1)] [0, 1, 2] rfl ?_
    exact t_X12_spellOut_j227 s.1 s.2.1 s.2.2 (fun _ h => h) K0 h
  · refine j_iload_n 2 dX12_spellOut_219 rfl rfl ?_
    refine j_aload_n 0 dX12_spellOut_220 rfl rfl ?_
    refine j_getI fl_RX12_543 sh_97 fk_97_97 dX12_spellOut_221 ?_
    refine j_ic_ge 372 dX12_spellOut_224 (by decide) h (fun h => ?_) (fun h => ?_)
    · refine j_loc [] [] rfl ?_
      have h := sel_r h
      have h := K0 _ h
      exact h
    · refine j_loc [(0, .ref (ad (gm κ) 97)), (2, .int s.1), (3, .int s.2.1)] [0, 1, 2] rfl ?_
      exact t_X12_spellOut_j227 s.1 s.2.1 s.2.2 (fun _ h => h) K0 h
noncomputable def X12_spellOut (a1 : Int32) (w : Wd) : Option (Wd) :=
gd (vp_in a1 60) <|
(X12_spell 163 8 (w.2 168 (ix a1)) w).bind fun q1 =>
(some (puI q1.2 97 96 q1.1)).bind fun w3 =>
gd (vp_in a1 60) <|
(X12_spell 164 8 (w3.2 169 (ix a1)) w3).bind fun q4 =>
(some (puI q4.2 97 97 q4.1)).bind fun w6 =>
(lp (X12_spellOut_b39 ) ((w6.1 97 96), w6)).bind fun e16 =>
(some (puI e16 97 98 (0 : Int32))).bind fun w17 =>
(lp (X12_spellOut_b211 ) ((0 : Int32), (0 : Int32), w17)).bind fun e31 =>
some e31
set_option maxRecDepth 20000 in
set_option maxHeartbeats 1000000 in
theorem t_X12_spellOut {κ : Kx} (a1 : Int32) (w : Wd) (h : ok (X12_spellOut  a1 w) (PVw κ)) : J κ RX12 cX12_spellOut 5 none (rmk 1 25) 0 [(0, .ref (ad (gm κ) 97)), (1, .int a1)] [] w := by
  unfold X12_spellOut at h
  refine j_aload_n 0 dX12_spellOut_0 rfl rfl ?_
  refine j_aload_n 0 dX12_spellOut_1 rfl rfl ?_
  refine j_getA 168 fl_RX12_247 sh_97 fk_97_94 (by decide) dX12_spellOut_2 ?_
  refine j_iload_n 1 dX12_spellOut_5 rfl rfl ?_
  refine j_lald sh_168 dX12_spellOut_6 h (fun h => ?_)
  refine j_aload_n 0 dX12_spellOut_7 rfl rfl ?_
  refine j_getA 163 fl_RX12_232 sh_97 fk_97_89 (by decide) dX12_spellOut_8 ?_
  obtain ⟨q1, e2, h⟩ := ok_b h
  refine j_callS (As := [.long (w.2 168 (ix a1)), .ref (ad (gm κ) 163)]) (st := [.ref (ad (gm κ) 97)]) [.int q1.1, .ref (ad (gm κ) 97)] (c_X12_spell (kl κ) (gm κ) (kA κ) 163 8 sh_163 (w.2 168 (ix a1)) w q1 e2) ck_RX12_536 st_X12_spell ⟨rfl, rfl⟩ ⟨by decide, by decide⟩ rfl rfl (Nat.le_of_ble_eq_true rfl) dX12_spellOut_11 _ rfl ?_
  refine j_putI fp_RX12_540 sh_97 fk_97_96 dX12_spellOut_14 ?_
  refine j_lW h (fun w3 h => ?_)
  refine j_aload_n 0 dX12_spellOut_17 rfl rfl ?_
  refine j_aload_n 0 dX12_spellOut_18 rfl rfl ?_
  refine j_getA 169 fl_RX12_250 sh_97 fk_97_95 (by decide) dX12_spellOut_19 ?_
  refine j_iload_n 1 dX12_spellOut_22 rfl rfl ?_
  refine j_lald sh_169 dX12_spellOut_23 h (fun h => ?_)
  refine j_aload_n 0 dX12_spellOut_24 rfl rfl ?_
  refine j_getA 164 fl_RX12_235 sh_97 fk_97_90 (by decide) dX12_spellOut_25 ?_
  obtain ⟨q4, e5, h⟩ := ok_b h
  refine j_callS (As := [.long (w3.2 169 (ix a1)), .ref (ad (gm κ) 164)]) (st := [.ref (ad (gm κ) 97)]) [.int q4.1, .ref (ad (gm κ) 97)] (c_X12_spell (kl κ) (gm κ) (kA κ) 164 8 sh_164 (w3.2 169 (ix a1)) w3 q4 e5) ck_RX12_536 st_X12_spell ⟨rfl, rfl⟩ ⟨by decide, by decide⟩ rfl rfl (Nat.le_of_ble_eq_true rfl) dX12_spellOut_28 _ rfl ?_
  refine j_putI fp_RX12_543 sh_97 fk_97_97 dX12_spellOut_31 ?_
  refine j_lW h (fun w6 h => ?_)
  refine j_aload_n 0 dX12_spellOut_34 rfl rfl ?_
  refine j_getI fl_RX12_540 sh_97 fk_97_96 dX12_spellOut_35 ?_
  refine j_istore_n [(2, .int (w6.1 97 96)), (0, .ref (ad (gm κ) 97)), (1, .int a1)] dX12_spellOut_38 rfl (by decide) rfl ?_
  refine j_loc [(0, .ref (ad (gm κ) 97)), (2, .int (w6.1 97 96))] [1, 0] rfl ?_
  refine t_X12_spellOut_b39  (fun e16 h => ?_) ((w6.1 97 96), w6) (ok_bb h)
  · refine j_aload_n 0 dX12_spellOut_202 rfl rfl ?_
    refine j_iconst (0 : Int32) dX12_spellOut_203 ki_0 ?_
    refine j_putI fp_RX12_549 sh_97 fk_97_98 dX12_spellOut_204 ?_
    refine j_lW h (fun w17 h => ?_)
    refine j_iconst (0 : Int32) dX12_spellOut_207 ki_0 ?_
    refine j_istore_n [(2, .int (0 : Int32)), (0, .ref (ad (gm κ) 97))] dX12_spellOut_208 rfl (by decide) rfl ?_
    refine j_iconst (0 : Int32) dX12_spellOut_209 ki_0 ?_
    refine j_istore_n [(3, .int (0 : Int32)), (2, .int (0 : Int32)), (0, .ref (ad (gm κ) 97))] dX12_spellOut_210 rfl (by decide) rfl ?_
    refine j_loc [(0, .ref (ad (gm κ) 97)), (2, .int (0 : Int32)), (3, .int (0 : Int32))] [2, 1, 0] rfl ?_
    refine t_X12_spellOut_b211  (fun e31 h => ?_) ((0 : Int32), (0 : Int32), w17) (ok_bb h)
    · have h := ok_s h
      exact j_vret dX12_spellOut_372 rfl h
theorem c_X12_spellOut (l : Launch) (γ : Gm) (A : Nat → Prop) (a1 : Int32) (w : Wd) (q : Wd) (e : X12_spellOut  a1 w = some q) : MetG l γ A yX12_spellOut cX12_spellOut 5 none (rmk 1 25) [.ref (ad (γ) 97), .int a1] w none q := by
  refine met_of pn_RX12 (Nat.le_of_ble_eq_true rfl) ?_
  intro κ hl hγ hA hρ
  subst hl; subst hγ; subst hA
  exact t_X12_spellOut   a1 w ⟨q, e, pVw hρ rfl rfl⟩
