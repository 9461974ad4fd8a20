theorem dX12_tray_0 : decode cX12_tray 0 = .ok (.iload_n 1, 1) := by decide +kernel
theorem dX12_tray_1 : decode cX12_tray 1 = .ok (.invokestatic 280, 3) := by decide +kernel
theorem dX12_tray_4 : decode cX12_tray 4 = .ok (.ifCond .eq 22, 3) := by decide +kernel
theorem dX12_tray_7 : decode cX12_tray 7 = .ok (.iload_n 2, 1) := by decide +kernel
theorem dX12_tray_8 : decode cX12_tray 8 = .ok (.ifCond .lt 18, 3) := by decide +kernel
theorem dX12_tray_11 : decode cX12_tray 11 = .ok (.iload_n 2, 1) := by decide +kernel
theorem dX12_tray_12 : decode cX12_tray 12 = .ok (.iconst 3, 1) := by decide +kernel
theorem dX12_tray_13 : decode cX12_tray 13 = .ok (.if_icmp .gt 13, 3) := by decide +kernel
theorem dX12_tray_16 : decode cX12_tray 16 = .ok (.iload_n 3, 1) := by decide +kernel
theorem dX12_tray_17 : decode cX12_tray 17 = .ok (.ifCond .lt 9, 3) := by decide +kernel
theorem dX12_tray_20 : decode cX12_tray 20 = .ok (.iload_n 3, 1) := by decide +kernel
theorem dX12_tray_21 : decode cX12_tray 21 = .ok (.bipush 60, 2) := by decide +kernel
theorem dX12_tray_23 : decode cX12_tray 23 = .ok (.if_icmp .le 9, 3) := by decide +kernel
theorem dX12_tray_26 : decode cX12_tray 26 = .ok (.aload_n 0, 1) := by decide +kernel
theorem dX12_tray_27 : decode cX12_tray 27 = .ok (.iconst 1, 1) := by decide +kernel
theorem dX12_tray_28 : decode cX12_tray 28 = .ok (.invokevirtual 284, 3) := by decide +kernel
theorem dX12_tray_31 : decode cX12_tray 31 = .ok (.ireturn, 1) := by decide +kernel
theorem dX12_tray_32 : decode cX12_tray 32 = .ok (.aload_n 0, 1) := by decide +kernel
theorem dX12_tray_33 : decode cX12_tray 33 = .ok (.getfield 7, 3) := by decide +kernel
theorem dX12_tray_36 : decode cX12_tray 36 = .ok (.iload_n 1, 1) := by decide +kernel
theorem dX12_tray_37 : decode cX12_tray 37 = .ok (.iload_n 2, 1) := by decide +kernel
theorem dX12_tray_38 : decode cX12_tray 38 = .ok (.iastore, 1) := by decide +kernel
theorem dX12_tray_39 : decode cX12_tray 39 = .ok (.aload_n 0, 1) := by decide +kernel
theorem dX12_tray_40 : decode cX12_tray 40 = .ok (.getfield 13, 3) := by decide +kernel
theorem dX12_tray_43 : decode cX12_tray 43 = .ok (.iload_n 1, 1) := by decide +kernel
theorem dX12_tray_44 : decode cX12_tray 44 = .ok (.iload_n 3, 1) := by decide +kernel
theorem dX12_tray_45 : decode cX12_tray 45 = .ok (.iastore, 1) := by decide +kernel
theorem dX12_tray_46 : decode cX12_tray 46 = .ok (.iconst 0, 1) := by decide +kernel
theorem dX12_tray_47 : decode cX12_tray 47 = .ok (.istore 4, 2) := by decide +kernel
theorem dX12_tray_49 : decode cX12_tray 49 = .ok (.iload 4, 2) := by decide +kernel
theorem dX12_tray_51 : decode cX12_tray 51 = .ok (.iload_n 3, 1) := by decide +kernel
theorem dX12_tray_52 : decode cX12_tray 52 = .ok (.if_icmp .ge 22, 3) := by decide +kernel
theorem dX12_tray_55 : decode cX12_tray 55 = .ok (.aload_n 0, 1) := by decide +kernel
theorem dX12_tray_56 : decode cX12_tray 56 = .ok (.getfield 16, 3) := by decide +kernel
theorem dX12_tray_59 : decode cX12_tray 59 = .ok (.bipush 60, 2) := by decide +kernel
theorem dX12_tray_61 : decode cX12_tray 61 = .ok (.iload_n 1, 1) := by decide +kernel
theorem dX12_tray_62 : decode cX12_tray 62 = .ok (.imul, 1) := by decide +kernel
theorem dX12_tray_63 : decode cX12_tray 63 = .ok (.iload 4, 2) := by decide +kernel
theorem dX12_tray_65 : decode cX12_tray 65 = .ok (.iadd, 1) := by decide +kernel
theorem dX12_tray_66 : decode cX12_tray 66 = .ok (.lconst 0, 1) := by decide +kernel
theorem dX12_tray_67 : decode cX12_tray 67 = .ok (.lastore, 1) := by decide +kernel
theorem dX12_tray_68 : decode cX12_tray 68 = .ok (.iinc 4 1, 3) := by decide +kernel
theorem dX12_tray_71 : decode cX12_tray 71 = .ok (.goto (-22), 3) := by decide +kernel
theorem dX12_tray_74 : decode cX12_tray 74 = .ok (.aload_n 0, 1) := by decide +kernel
theorem dX12_tray_75 : decode cX12_tray 75 = .ok (.iconst 0, 1) := by decide +kernel
theorem dX12_tray_76 : decode cX12_tray 76 = .ok (.invokevirtual 284, 3) := by decide +kernel
theorem dX12_tray_79 : decode cX12_tray 79 = .ok (.ireturn, 1) := by decide +kernel
noncomputable def X12_tray_j26 (w : Wd) : Option (Int32 × Wd) :=
(X12_is (1 : Int32) w).bind fun q1 =>
gd (narrow .boolean (.int q1.1) = .int q1.1) <|
some (q1.1, q1.2)
set_option maxRecDepth 20000 in
set_option maxHeartbeats 1000000 in
theorem t_X12_tray_j26 {κ : Kx} (w : Wd) (h : ok (X12_tray_j26  w) (PIw κ)) : J κ RX12 cX12_tray 5 (some .boolean) (rmk 1 21) 26 [(0, .ref (ad (gm κ) 97))] [] w := by
  unfold X12_tray_j26 at h
  refine j_aload_n 0 dX12_tray_26 rfl rfl ?_
  refine j_iconst (1 : Int32) dX12_tray_27 ki_1 ?_
  obtain ⟨q1, e2, h⟩ := ok_b h
  refine j_callV (As := [.int (1 : Int32)]) (st := []) [.int q1.1] (c_X12_is (kl κ) (gm κ) (kA κ) (1 : Int32) w q1 e2) ck_RX12_284 im_X12_is se_X12_is sh_97 cx_12 ⟨rfl, rfl⟩ ⟨by decide, by decide⟩ rfl rfl (Nat.le_of_ble_eq_true rfl) dX12_tray_28 _ rfl ?_
  obtain ⟨hz, h⟩ := ok_g h
  have h := ok_s h
  exact j_iret dX12_tray_31 rfl hz h
noncomputable def X12_tray_b49 (a1 : Int32) (a3 : Int32) (s : (Int32 × Wd)) : Option ((Int32 × Wd) ⊕ Wd) :=
(if a3 ≤ s.1 then
some (.inr s.2)
else
gd (vp_in (((60 : Int32) * a1) + s.1) 240) <|
(some (puJ s.2 100 (ix (((60 : Int32) * a1) + s.1)) (0 : Int64))).bind fun w5 =>
some (.inl ((s.1 + (1 : Int32)), w5)))
set_option maxRecDepth 20000 in
set_option maxHeartbeats 1000000 in
theorem t_X12_tray_b49 {κ : Kx} (a1 : Int32) (a3 : Int32) {P : Wd → Prop} (K0 : ∀ e, P e → J κ RX12 cX12_tray 5 (some .boolean) (rmk 1 21) 74 [(0, .ref (ad (gm κ) 97))] [] e) (s : (Int32 × Wd)) (h : ok (lp (X12_tray_b49  a1 a3) s) P) : J κ RX12 cX12_tray 5 (some .boolean) (rmk 1 21) 49 [(0, .ref (ad (gm κ) 97)), (1, .int a1), (3, .int a3), (4, .int s.1)] [] s.2 := by
  refine lp_ind (fun s => J κ RX12 cX12_tray 5 (some .boolean) (rmk 1 21) 49 [(0, .ref (ad (gm κ) 97)), (1, .int a1), (3, .int a3), (4, .int s.1)] [] s.2) (fun s h => ?_) s h
  unfold X12_tray_b49 at h
  refine j_iload 3 dX12_tray_49 rfl ?_
  refine j_iload_n 2 dX12_tray_51 rfl rfl ?_
  refine j_ic_ge 74 dX12_tray_52 (by decide) h (fun h => ?_) (fun h => ?_)
  · refine j_loc [(0, .ref (ad (gm κ) 97))] [0] rfl ?_
    have h := sel_r h
    have h := K0 _ h
    exact h
  · refine j_aload_n 0 dX12_tray_55 rfl rfl ?_
    refine j_getA 100 fl_RX12_16 sh_97 fk_97_3 (by decide) dX12_tray_56 ?_
    refine j_bipush (60 : Int32) dX12_tray_59 kb_60 ?_
    refine j_iload_n 1 dX12_tray_61 rfl rfl ?_
    refine j_imul dX12_tray_62 ?_
    refine j_iload 3 dX12_tray_63 rfl ?_
    refine j_iadd dX12_tray_65 ?_
    refine j_lconst (0 : Int64) dX12_tray_66 (by decide) ?_
    refine j_last sh_100 dX12_tray_67 h (fun h => ?_)
    refine j_lW h (fun w5 h => ?_)
    refine j_iinc (s.1 + (1 : Int32)) 3 [(4, .int (s.1 + (1 : Int32))), (0, .ref (ad (gm κ) 97)), (1, .int a1), (3, .int a3)] dX12_tray_68 rfl (by rw [kn_1]) (by decide) rfl ?_
    refine j_goto 49 dX12_tray_71 (by decide) ?_
    refine j_loc [(0, .ref (ad (gm κ) 97)), (1, .int a1), (3, .int a3), (4, .int (s.1 + (1 : Int32)))] [1, 2, 3, 0] rfl ?_
    have h := sel_l h
    exact h
noncomputable def X12_tray (a1 : Int32) (a2 : Int32) (a3 : Int32) (w : Wd) : Option (Int32 × Wd) :=
(if (X12_isTray a1 w) = 0 then
X12_tray_j26 w
else
(if a2 < 0 then
X12_tray_j26 w
else
(if (3 : Int32) < a2 then
X12_tray_j26 w
else
(if a3 < 0 then
X12_tray_j26 w
else
(if a3 ≤ (60 : Int32) then
gd (vp_in a1 4) <|
(some (puI w 98 (ix a1) a2)).bind fun w3 =>
gd (vp_in a1 4) <|
(some (puI w3 99 (ix a1) a3)).bind fun w4 =>
(lp (X12_tray_b49 a1 a3) ((0 : Int32), w4)).bind fun e6 =>
(X12_is (0 : Int32) e6).bind fun q7 =>
gd (narrow .boolean (.int q7.1) = .int q7.1) <|
some (q7.1, q7.2)
else
X12_tray_j26 w)))))
set_option maxRecDepth 20000 in
set_option maxHeartbeats 1000000 in
theorem t_X12_tray {κ : Kx} (a1 : Int32) (a2 : Int32) (a3 : Int32) (w : Wd) (h : ok (X12_tray  a1 a2 a3 w) (PIw κ)) : J κ RX12 cX12_tray 5 (some .boolean) (rmk 1 21) 0 [(0, .ref (ad (gm κ) 97)), (1, .int a1), (2, .int a2), (3, .int a3)] [] w := by
  unfold X12_tray at h
  refine j_iload_n 1 dX12_tray_0 rfl rfl ?_
  refine j_callS (As := [.int a1]) (st := []) [.int (X12_isTray a1 w)] (c_X12_isTray (kl κ) (gm κ) (kA κ) a1 w) ck_RX12_280 st_X12_isTray ⟨rfl, rfl⟩ ⟨by decide, by decide⟩ rfl rfl (Nat.le_of_ble_eq_true rfl) dX12_tray_1 _ rfl ?_
  refine j_if_eq 26 dX12_tray_4 (by decide) h (fun h => ?_) (fun h => ?_)
  · refine j_loc [(0, .ref (ad (gm κ) 97))] [0] rfl ?_
    exact t_X12_tray_j26 w h
  · refine j_iload_n 2 dX12_tray_7 rfl rfl ?_
    refine j_if_lt 26 dX12_tray_8 (by decide) h (fun h => ?_) (fun h => ?_)
    · refine j_loc [(0, .ref (ad (gm κ) 97))] [0] rfl ?_
      exact t_X12_tray_j26 w h
    · refine j_iload_n 2 dX12_tray_11 rfl rfl ?_
      refine j_iconst (3 : Int32) dX12_tray_12 ki_3 ?_
      refine j_ic_gt 26 dX12_tray_13 (by decide) h (fun h => ?_) (fun h => ?_)
      · refine j_loc [(0, .ref (ad (gm κ) 97))] [0] rfl ?_
        exact t_X12_tray_j26 w h
      · refine j_iload_n 3 dX12_tray_16 rfl rfl ?_
        refine j_if_lt 26 dX12_tray_17 (by decide) h (fun h => ?_) (fun h => ?_)
        · refine j_loc [(0, .ref (ad (gm κ) 97))] [0] rfl ?_
          exact t_X12_tray_j26 w h
        · refine j_iload_n 3 dX12_tray_20 rfl rfl ?_
          refine j_bipush (60 : Int32) dX12_tray_21 kb_60 ?_
          refine j_ic_le 32 dX12_tray_23 (by decide) h (fun h => ?_) (fun h => ?_)
          · refine j_aload_n 0 dX12_tray_32 rfl rfl ?_
            refine j_getA 98 fl_RX12_7 sh_97 fk_97_1 (by decide) dX12_tray_33 ?_
            refine j_iload_n 1 dX12_tray_36 rfl rfl ?_
            refine j_iload_n 2 dX12_tray_37 rfl rfl ?_
            refine j_iast sh_98 dX12_tray_38 h (fun h => ?_)
            refine j_lW h (fun w3 h => ?_)
            refine j_aload_n 0 dX12_tray_39 rfl rfl ?_
            refine j_getA 99 fl_RX12_13 sh_97 fk_97_2 (by decide) dX12_tray_40 ?_
            refine j_iload_n 1 dX12_tray_43 rfl rfl ?_
            refine j_iload_n 3 dX12_tray_44 rfl rfl ?_
            refine j_iast sh_99 dX12_tray_45 h (fun h => ?_)
            refine j_lW h (fun w4 h => ?_)
            refine j_iconst (0 : Int32) dX12_tray_46 ki_0 ?_
            refine j_istore [(4, .int (0 : Int32)), (0, .ref (ad (gm κ) 97)), (1, .int a1), (2, .int a2), (3, .int a3)] dX12_tray_47 (by decide) rfl ?_
            refine j_loc [(0, .ref (ad (gm κ) 97)), (1, .int a1), (3, .int a3), (4, .int (0 : Int32))] [1, 2, 4, 0] rfl ?_
            refine t_X12_tray_b49 a1 a3 (fun e6 h => ?_) ((0 : Int32), w4) (ok_bb h)
            · refine j_aload_n 0 dX12_tray_74 rfl rfl ?_
              refine j_iconst (0 : Int32) dX12_tray_75 ki_0 ?_
              obtain ⟨q7, e8, h⟩ := ok_b h
              refine j_callV (As := [.int (0 : Int32)]) (st := []) [.int q7.1] (c_X12_is (kl κ) (gm κ) (kA κ) (0 : Int32) e6 q7 e8) ck_RX12_284 im_X12_is se_X12_is sh_97 cx_12 ⟨rfl, rfl⟩ ⟨by decide, by decide⟩ rfl rfl (Nat.le_of_ble_eq_true rfl) dX12_tray_76 _ rfl ?_
              obtain ⟨hz, h⟩ := ok_g h
              have h := ok_s h
              exact j_iret dX12_tray_79 rfl hz h
          · refine j_loc [(0, .ref (ad (gm κ) 97))] [0] rfl ?_
            exact t_X12_tray_j26 w h
theorem c_X12_tray (l : Launch) (γ : Gm) (A : Nat → Prop) (a1 : Int32) (a2 : Int32) (a3 : Int32) (w : Wd) (q : Int32 × Wd) (e : X12_tray  a1 a2 a3 w = some q) : MetG l γ A yX12_tray cX12_tray 5 (some .boolean) (rmk 1 21) [.ref (ad (γ) 97), .int a1, .int a2, .int a3] w (some (.int q.1)) q.2 := by
  refine met_of pn_RX12 (Nat.le_of_ble_eq_true rfl) ?_
  intro κ hl hγ hA hρ
  subst hl; subst hγ; subst hA
  exact t_X12_tray   a1 a2 a3 w ⟨q, e, pIw hρ rfl rfl⟩
theorem dX12_wrongPlace_0 : decode cX12_wrongPlace 0 = .ok (.iload_n 1, 1) := by decide +kernel
theorem dX12_wrongPlace_1 : decode cX12_wrongPlace 1 = .ok (.invokestatic 280, 3) := by decide +kernel
theorem dX12_wrongPlace_4 : decode cX12_wrongPlace 4 = .ok (.ifCond .ne 7, 3) := by decide +kernel
theorem dX12_wrongPlace_7 : decode cX12_wrongPlace 7 = .ok (.iconst 1, 1) := by decide +kernel
theorem dX12_wrongPlace_8 : decode cX12_wrongPlace 8 = .ok (.goto 36, 3) := by decide +kernel
theorem dX12_wrongPlace_11 : decode cX12_wrongPlace 11 = .ok (.aload_n 0, 1) := by decide +kernel
theorem dX12_wrongPlace_12 : decode cX12_wrongPlace 12 = .ok (.getfield 13, 3) := by decide +kernel
theorem dX12_wrongPlace_15 : decode cX12_wrongPlace 15 = .ok (.iload_n 1, 1) := by decide +kernel
theorem dX12_wrongPlace_16 : decode cX12_wrongPlace 16 = .ok (.iaload, 1) := by decide +kernel
theorem dX12_wrongPlace_17 : decode cX12_wrongPlace 17 = .ok (.iconst (-1), 1) := by decide +kernel
theorem dX12_wrongPlace_18 : decode cX12_wrongPlace 18 = .ok (.if_icmp .ne 7, 3) := by decide +kernel
theorem dX12_wrongPlace_21 : decode cX12_wrongPlace 21 = .ok (.iconst 2, 1) := by decide +kernel
theorem dX12_wrongPlace_22 : decode cX12_wrongPlace 22 = .ok (.goto 22, 3) := by decide +kernel
theorem dX12_wrongPlace_25 : decode cX12_wrongPlace 25 = .ok (.iload_n 2, 1) := by decide +kernel
theorem dX12_wrongPlace_26 : decode cX12_wrongPlace 26 = .ok (.ifCond .lt 13, 3) := by decide +kernel
theorem dX12_wrongPlace_29 : decode cX12_wrongPlace 29 = .ok (.iload_n 2, 1) := by decide +kernel
theorem dX12_wrongPlace_30 : decode cX12_wrongPlace 30 = .ok (.aload_n 0, 1) := by decide +kernel
theorem dX12_wrongPlace_31 : decode cX12_wrongPlace 31 = .ok (.getfield 13, 3) := by decide +kernel
theorem dX12_wrongPlace_34 : decode cX12_wrongPlace 34 = .ok (.iload_n 1, 1) := by decide +kernel
theorem dX12_wrongPlace_35 : decode cX12_wrongPlace 35 = .ok (.iaload, 1) := by decide +kernel
theorem dX12_wrongPlace_36 : decode cX12_wrongPlace 36 = .ok (.if_icmp .lt 7, 3) := by decide +kernel
theorem dX12_wrongPlace_39 : decode cX12_wrongPlace 39 = .ok (.iconst 3, 1) := by decide +kernel
theorem dX12_wrongPlace_40 : decode cX12_wrongPlace 40 = .ok (.goto 4, 3) := by decide +kernel
theorem dX12_wrongPlace_43 : decode cX12_wrongPlace 43 = .ok (.iconst 0, 1) := by decide +kernel
theorem dX12_wrongPlace_44 : decode cX12_wrongPlace 44 = .ok (.ireturn, 1) := by decide +kernel
noncomputable def X12_wrongPlace (a1 : Int32) (a2 : Int32) (w : Wd) : Option (Int32) :=
(if (X12_isTray a1 w) = 0 then
some (1 : Int32)
else
gd (vp_in a1 4) <|
(if (w.1 99 (ix a1)) = (-1 : Int32) then
some (2 : Int32)
else
(if a2 < 0 then
some (3 : Int32)
else
gd (vp_in a1 4) <|
(if a2 < (w.1 99 (ix a1)) then
some (0 : Int32)
else
some (3 : Int32)))))
set_option maxRecDepth 20000 in
set_option maxHeartbeats 1000000 in
theorem t_X12_wrongPlace {κ : Kx} (a1 : Int32) (a2 : Int32) (w : Wd) (h : ok (X12_wrongPlace  a1 a2 w) (PI κ w)) : J κ RX12 cX12_wrongPlace 3 (some .int) (rmk 1 20) 0 [(0, .ref (ad (gm κ) 97)), (1, .int a1), (2, .int a2)] [] w := by
  unfold X12_wrongPlace at h
  refine j_iload_n 1 dX12_wrongPlace_0 rfl rfl ?_
  refine j_callS (As := [.int a1]) (st := []) [.int (X12_isTray a1 w)] (c_X12_isTray (kl κ) (gm κ) (kA κ) a1 w) ck_RX12_280 st_X12_isTray ⟨rfl, rfl⟩ ⟨by decide, by decide⟩ rfl rfl (Nat.le_of_ble_eq_true rfl) dX12_wrongPlace_1 _ rfl ?_
  refine j_if_ne 11 dX12_wrongPlace_4 (by decide) h (fun h => ?_) (fun h => ?_)
  · refine j_aload_n 0 dX12_wrongPlace_11 rfl rfl ?_
    refine j_getA 99 fl_RX12_13 sh_97 fk_97_2 (by decide) dX12_wrongPlace_12 ?_
    refine j_iload_n 1 dX12_wrongPlace_15 rfl rfl ?_
    refine j_iald sh_99 dX12_wrongPlace_16 h (fun h => ?_)
    refine j_iconst (-1 : Int32) dX12_wrongPlace_17 ki_m1 ?_
    refine j_ic_ne 25 dX12_wrongPlace_18 (by decide) h (fun h => ?_) (fun h => ?_)
    · refine j_iload_n 2 dX12_wrongPlace_25 rfl rfl ?_
      refine j_if_lt 39 dX12_wrongPlace_26 (by decide) h (fun h => ?_) (fun h => ?_)
      · refine j_iconst (3 : Int32) dX12_wrongPlace_39 ki_3 ?_
        refine j_goto 44 dX12_wrongPlace_40 (by decide) ?_
        have h := ok_s h
        exact j_iret dX12_wrongPlace_44 rfl rfl h
      · refine j_iload_n 2 dX12_wrongPlace_29 rfl rfl ?_
        refine j_aload_n 0 dX12_wrongPlace_30 rfl rfl ?_
        refine j_getA 99 fl_RX12_13 sh_97 fk_97_2 (by decide) dX12_wrongPlace_31 ?_
        refine j_iload_n 1 dX12_wrongPlace_34 rfl rfl ?_
        refine j_iald sh_99 dX12_wrongPlace_35 h (fun h => ?_)
        refine j_ic_lt 43 dX12_wrongPlace_36 (by decide) h (fun h => ?_) (fun h => ?_)
        · refine j_iconst (0 : Int32) dX12_wrongPlace_43 ki_0 ?_
          have h := ok_s h
          exact j_iret dX12_wrongPlace_44 rfl rfl h
        · refine j_iconst (3 : Int32) dX12_wrongPlace_39 ki_3 ?_
          refine j_goto 44 dX12_wrongPlace_40 (by decide) ?_
          have h := ok_s h
          exact j_iret dX12_wrongPlace_44 rfl rfl h
    · refine j_iconst (2 : Int32) dX12_wrongPlace_21 ki_2 ?_
      refine j_goto 44 dX12_wrongPlace_22 (by decide) ?_
      have h := ok_s h
      exact j_iret dX12_wrongPlace_44 rfl rfl h
  · refine j_iconst (1 : Int32) dX12_wrongPlace_7 ki_1 ?_
    refine j_goto 44 dX12_wrongPlace_8 (by decide) ?_
    have h := ok_s h
    exact j_iret dX12_wrongPlace_44 rfl rfl h
theorem c_X12_wrongPlace (l : Launch) (γ : Gm) (A : Nat → Prop) (a1 : Int32) (a2 : Int32) (w : Wd) (q : Int32) (e : X12_wrongPlace  a1 a2 w = some q) : MetG l γ A yX12_wrongPlace cX12_wrongPlace 3 (some .int) (rmk 1 20) [.ref (ad (γ) 97), .int a1, .int a2] w (some (.int q)) w := by
  refine met_of pn_RX12 (Nat.le_of_ble_eq_true rfl) ?_
  intro κ hl hγ hA hρ
  subst hl; subst hγ; subst hA
  exact t_X12_wrongPlace   a1 a2 w ⟨q, e, pI hρ rfl rfl⟩
theorem dX12_write_0 : decode cX12_write 0 = .ok (.aload_n 0, 1) := by decide +kernel
theorem dX12_write_1 : decode cX12_write 1 = .ok (.iload_n 1, 1) := by decide +kernel
theorem dX12_write_2 : decode cX12_write 2 = .ok (.iload_n 2, 1) := by decide +kernel
theorem dX12_write_3 : decode cX12_write 3 = .ok (.invokevirtual 287, 3) := by decide +kernel
theorem dX12_write_6 : decode cX12_write 6 = .ok (.istore 5, 2) := by decide +kernel
theorem dX12_write_8 : decode cX12_write 8 = .ok (.iload 5, 2) := by decide +kernel
theorem dX12_write_10 : decode cX12_write 10 = .ok (.ifCond .ne 24, 3) := by decide +kernel
theorem dX12_write_13 : decode cX12_write 13 = .ok (.aload_n 0, 1) := by decide +kernel
theorem dX12_write_14 : decode cX12_write 14 = .ok (.getfield 16, 3) := by decide +kernel
theorem dX12_write_17 : decode cX12_write 17 = .ok (.bipush 60, 2) := by decide +kernel
theorem dX12_write_19 : decode cX12_write 19 = .ok (.iload_n 1, 1) := by decide +kernel
theorem dX12_write_20 : decode cX12_write 20 = .ok (.imul, 1) := by decide +kernel
theorem dX12_write_21 : decode cX12_write 21 = .ok (.iload_n 2, 1) := by decide +kernel
theorem dX12_write_22 : decode cX12_write 22 = .ok (.iadd, 1) := by decide +kernel
theorem dX12_write_23 : decode cX12_write 23 = .ok (.lload_n 3, 1) := by decide +kernel
theorem dX12_write_24 : decode cX12_write 24 = .ok (.aload_n 0, 1) := by decide +kernel
theorem dX12_write_25 : decode cX12_write 25 = .ok (.getfield 7, 3) := by decide +kernel
theorem dX12_write_28 : decode cX12_write 28 = .ok (.iload_n 1, 1) := by decide +kernel
theorem dX12_write_29 : decode cX12_write 29 = .ok (.iaload, 1) := by decide +kernel
theorem dX12_write_30 : decode cX12_write 30 = .ok (.invokestatic 291, 3) := by decide +kernel
theorem dX12_write_33 : decode cX12_write 33 = .ok (.lastore, 1) := by decide +kernel
theorem dX12_write_34 : decode cX12_write 34 = .ok (.aload_n 0, 1) := by decide +kernel
theorem dX12_write_35 : decode cX12_write 35 = .ok (.iload 5, 2) := by decide +kernel
theorem dX12_write_37 : decode cX12_write 37 = .ok (.invokevirtual 284, 3) := by decide +kernel
theorem dX12_write_40 : decode cX12_write 40 = .ok (.ireturn, 1) := by decide +kernel
noncomputable def X12_write_j34 (a5 : Int32) (w : Wd) : Option (Int32 × Wd) :=
(X12_is a5 w).bind fun q3 =>
gd (narrow .boolean (.int q3.1) = .int q3.1) <|
some (q3.1, q3.2)
set_option maxRecDepth 20000 in
set_option maxHeartbeats 1000000 in
theorem t_X12_write_j34 {κ : Kx} (a5 : Int32) (w : Wd) (h : ok (X12_write_j34  a5 w) (PIw κ)) : J κ RX12 cX12_write 6 (some .boolean) (rmk 2 42) 34 [(0, .ref (ad (gm κ) 97)), (5, .int a5)] [] w := by
  unfold X12_write_j34 at h
  refine j_aload_n 0 dX12_write_34 rfl rfl ?_
  refine j_iload 1 dX12_write_35 rfl ?_
  obtain ⟨q3, e4, h⟩ := ok_b h
  refine j_callV (As := [.int a5]) (st := []) [.int q3.1] (c_X12_is (kl κ) (gm κ) (kA κ) a5 w q3 e4) ck_RX12_284 im_X12_is se_X12_is sh_97 cx_12 ⟨rfl, rfl⟩ ⟨by decide, by decide⟩ rfl rfl (Nat.le_of_ble_eq_true rfl) dX12_write_37 _ rfl ?_
  obtain ⟨hz, h⟩ := ok_g h
  have h := ok_s h
  exact j_iret dX12_write_40 rfl hz h
noncomputable def X12_write (a1 : Int32) (a2 : Int32) (a3 : Int64) (w : Wd) : Option (Int32 × Wd) :=
(X12_wrongPlace a1 a2 w).bind fun q1 =>
(if q1 = 0 then
gd (vp_in a1 4) <|
gd (vp_in (((60 : Int32) * a1) + a2) 240) <|
(some (puJ w 100 (ix (((60 : Int32) * a1) + a2)) (X12_cut a3 (w.1 98 (ix a1)) w))).bind fun w5 =>
X12_write_j34 q1 w5
else
X12_write_j34 q1 w)
set_option maxRecDepth 20000 in
set_option maxHeartbeats 1000000 in
theorem t_X12_write {κ : Kx} (a1 : Int32) (a2 : Int32) (a3 : Int64) (w : Wd) (h : ok (X12_write  a1 a2 a3 w) (PIw κ)) : J κ RX12 cX12_write 6 (some .boolean) (rmk 2 42) 0 [(0, .ref (ad (gm κ) 97)), (1, .int a1), (2, .int a2), (3, .long a3)] [] w := by
  unfold X12_write at h
  refine j_aload_n 0 dX12_write_0 rfl rfl ?_
  refine j_iload_n 1 dX12_write_1 rfl rfl ?_
  refine j_iload_n 2 dX12_write_2 rfl rfl ?_
  obtain ⟨q1, e2, h⟩ := ok_b h
  refine j_callV (As := [.int a1, .int a2]) (st := []) [.int q1] (c_X12_wrongPlace (kl κ) (gm κ) (kA κ) a1 a2 w q1 e2) ck_RX12_287 im_X12_wrongPlace se_X12_wrongPlace sh_97 cx_12 ⟨rfl, rfl⟩ ⟨by decide, by decide⟩ rfl rfl (Nat.le_of_ble_eq_true rfl) dX12_write_3 _ rfl ?_
  refine j_istore [(5, .int q1), (0, .ref (ad (gm κ) 97)), (1, .int a1), (2, .int a2), (3, .long a3)] dX12_write_6 (by decide) rfl ?_
  refine j_iload 0 dX12_write_8 rfl ?_
  refine j_if_ne 34 dX12_write_10 (by decide) h (fun h => ?_) (fun h => ?_)
  · refine j_loc [(0, .ref (ad (gm κ) 97)), (5, .int q1)] [1, 0] rfl ?_
    exact t_X12_write_j34 q1 w h
  · refine j_aload_n 1 dX12_write_13 rfl rfl ?_
    refine j_getA 100 fl_RX12_16 sh_97 fk_97_3 (by decide) dX12_write_14 ?_
    refine j_bipush (60 : Int32) dX12_write_17 kb_60 ?_
    refine j_iload_n 2 dX12_write_19 rfl rfl ?_
    refine j_imul dX12_write_20 ?_
    refine j_iload_n 3 dX12_write_21 rfl rfl ?_
    refine j_iadd dX12_write_22 ?_
    refine j_lload_n 4 dX12_write_23 rfl rfl ?_
    refine j_aload_n 1 dX12_write_24 rfl rfl ?_
    refine j_getA 98 fl_RX12_7 sh_97 fk_97_1 (by decide) dX12_write_25 ?_
    refine j_iload_n 2 dX12_write_28 rfl rfl ?_
    refine j_iald sh_98 dX12_write_29 h (fun h => ?_)
    refine j_callS (As := [.long a3, .int (w.1 98 (ix a1))]) (st := [.int (((60 : Int32) * a1) + a2), .ref (ad (gm κ) 100)]) [.long (X12_cut a3 (w.1 98 (ix a1)) w), .int (((60 : Int32) * a1) + a2), .ref (ad (gm κ) 100)] (c_X12_cut (kl κ) (gm κ) (kA κ) a3 (w.1 98 (ix a1)) w) ck_RX12_291 st_X12_cut ⟨rfl, rfl⟩ ⟨by decide, by decide⟩ rfl rfl (Nat.le_of_ble_eq_true rfl) dX12_write_30 _ rfl ?_
    refine j_last sh_100 dX12_write_33 h (fun h => ?_)
    refine j_lW h (fun w5 h => ?_)
    refine j_loc [(0, .ref (ad (gm κ) 97)), (5, .int q1)] [1, 0] rfl ?_
    exact t_X12_write_j34 q1 w5 h
theorem c_X12_write (l : Launch) (γ : Gm) (A : Nat → Prop) (a1 : Int32) (a2 : Int32) (a3 : Int64) (w : Wd) (q : Int32 × Wd) (e : X12_write  a1 a2 a3 w = some q) : MetG l γ A yX12_write cX12_write 6 (some .boolean) (rmk 2 42) [.ref (ad (γ) 97), .int a1, .int a2, .long a3] w (some (.int q.1)) q.2 := by
  refine met_of pn_RX12 (Nat.le_of_ble_eq_true rfl) ?_
  intro κ hl hγ hA hρ
  subst hl; subst hγ; subst hA
  exact t_X12_write   a1 a2 a3 w ⟨q, e, pIw hρ rfl rfl⟩
theorem dX12_read_0 : decode cX12_read 0 = .ok (.aload_n 0, 1) := by decide +kernel
theorem dX12_read_1 : decode cX12_read 1 = .ok (.aload_n 0, 1) := by decide +kernel
theorem dX12_read_2 : decode cX12_read 2 = .ok (.iload_n 1, 1) := by decide +kernel
theorem dX12_read_3 : decode cX12_read 3 = .ok (.iload_n 2, 1) := by decide +kernel
theorem dX12_read_4 : decode cX12_read 4 = .ok (.invokevirtual 287, 3) := by decide +kernel
theorem dX12_read_7 : decode cX12_read 7 = .ok (.putfield 277, 3) := by decide +kernel
theorem dX12_read_10 : decode cX12_read 10 = .ok (.aload_n 0, 1) := by decide +kernel
theorem dX12_read_11 : decode cX12_read 11 = .ok (.getfield 277, 3) := by decide +kernel
theorem dX12_read_14 : decode cX12_read 14 = .ok (.ifCond .le 9, 3) := by decide +kernel
theorem dX12_read_17 : decode cX12_read 17 = .ok (.ldc2_w 295, 3) := by decide +kernel
theorem dX12_read_20 : decode cX12_read 20 = .ok (.goto 14, 3) := by decide +kernel
theorem dX12_read_23 : decode cX12_read 23 = .ok (.aload_n 0, 1) := by decide +kernel
theorem dX12_read_24 : decode cX12_read 24 = .ok (.getfield 16, 3) := by decide +kernel
theorem dX12_read_27 : decode cX12_read 27 = .ok (.bipush 60, 2) := by decide +kernel
theorem dX12_read_29 : decode cX12_read 29 = .ok (.iload_n 1, 1) := by decide +kernel
theorem dX12_read_30 : decode cX12_read 30 = .ok (.imul, 1) := by decide +kernel
theorem dX12_read_31 : decode cX12_read 31 = .ok (.iload_n 2, 1) := by decide +kernel
theorem dX12_read_32 : decode cX12_read 32 = .ok (.iadd, 1) := by decide +kernel
theorem dX12_read_33 : decode cX12_read 33 = .ok (.laload, 1) := by decide +kernel
theorem dX12_read_34 : decode cX12_read 34 = .ok (.lreturn, 1) := by decide +kernel
noncomputable def X12_read (a1 : Int32) (a2 : Int32) (w : Wd) : Option (Int64 × Wd) :=
(X12_wrongPlace a1 a2 w).bind fun q1 =>
(some (puI w 97 0 q1)).bind fun w3 =>
(if (w3.1 97 0) ≤ 0 then
gd (vp_in (((60 : Int32) * a1) + a2) 240) <|
some ((w3.2 100 (ix (((60 : Int32) * a1) + a2))), w3)
else
some ((-1 : Int64), w3))
set_option maxRecDepth 20000 in
set_option maxHeartbeats 1000000 in
theorem t_X12_read {κ : Kx} (a1 : Int32) (a2 : Int32) (w : Wd) (h : ok (X12_read  a1 a2 w) (PJw κ)) : J κ RX12 cX12_read 3 (some .long) (rmk 2 42) 0 [(0, .ref (ad (gm κ) 97)), (1, .int a1), (2, .int a2)] [] w := by
  unfold X12_read at h
  refine j_aload_n 0 dX12_read_0 rfl rfl ?_
  refine j_aload_n 0 dX12_read_1 rfl rfl ?_
  refine j_iload_n 1 dX12_read_2 rfl rfl ?_
  refine j_iload_n 2 dX12_read_3 rfl rfl ?_
  obtain ⟨q1, e2, h⟩ := ok_b h
  refine j_callV (As := [.int a1, .int a2]) (st := [.ref (ad (gm κ) 97)]) [.int q1, .ref (ad (gm κ) 97)] (c_X12_wrongPlace (kl κ) (gm κ) (kA κ) a1 a2 w q1 e2) ck_RX12_287 im_X12_wrongPlace se_X12_wrongPlace sh_97 cx_12 ⟨rfl, rfl⟩ ⟨by decide, by decide⟩ rfl rfl (Nat.le_of_ble_eq_true rfl) dX12_read_4 _ rfl ?_
  refine j_putI fp_RX12_277 sh_97 fk_97_0 dX12_read_7 ?_
  refine j_lW h (fun w3 h => ?_)
  refine j_aload_n 0 dX12_read_10 rfl rfl ?_
  refine j_getI fl_RX12_277 sh_97 fk_97_0 dX12_read_11 ?_
  refine j_if_le 23 dX12_read_14 (by decide) h (fun h => ?_) (fun h => ?_)
  · refine j_aload_n 0 dX12_read_23 rfl rfl ?_
    refine j_getA 100 fl_RX12_16 sh_97 fk_97_3 (by decide) dX12_read_24 ?_
    refine j_bipush (60 : Int32) dX12_read_27 kb_60 ?_
    refine j_iload_n 1 dX12_read_29 rfl rfl ?_
    refine j_imul dX12_read_30 ?_
    refine j_iload_n 2 dX12_read_31 rfl rfl ?_
    refine j_iadd dX12_read_32 ?_
    refine j_lald sh_100 dX12_read_33 h (fun h => ?_)
    have h := ok_s h
    exact j_lret dX12_read_34 rfl h
  · refine j_ldc2 cl_RX12_295 dX12_read_17 ?_
    refine j_goto 34 dX12_read_20 (by decide) ?_
    have h := ok_s h
    exact j_lret dX12_read_34 rfl h
theorem c_X12_read (l : Launch) (γ : Gm) (A : Nat → Prop) (a1 : Int32) (a2 : Int32) (w : Wd) (q : Int64 × Wd) (e : X12_read  a1 a2 w = some q) : MetG l γ A yX12_read cX12_read 3 (some .long) (rmk 2 42) [.ref (ad (γ) 97), .int a1, .int a2] w (some (.long q.1)) q.2 := by
  refine met_of pn_RX12 (Nat.le_of_ble_eq_true rfl) ?_
  intro κ hl hγ hA hρ
  subst hl; subst hγ; subst hA
  exact t_X12_read   a1 a2 w ⟨q, e, pJw hρ rfl rfl⟩
theorem dX12_pour_0 : decode cX12_pour 0 = .ok (.iload_n 1, 1) := by decide +kernel
theorem dX12_pour_1 : decode cX12_pour 1 = .ok (.invokestatic 280, 3) := by decide +kernel
theorem dX12_pour_4 : decode cX12_pour 4 = .ok (.ifCond .eq 24, 3) := by decide +kernel
theorem dX12_pour_7 : decode cX12_pour 7 = .ok (.iload_n 3, 1) := by decide +kernel
theorem dX12_pour_8 : decode cX12_pour 8 = .ok (.invokestatic 280, 3) := by decide +kernel
theorem dX12_pour_11 : decode cX12_pour 11 = .ok (.ifCond .eq 17, 3) := by decide +kernel
theorem dX12_pour_14 : decode cX12_pour 14 = .ok (.iload_n 2, 1) := by decide +kernel
theorem dX12_pour_15 : decode cX12_pour 15 = .ok (.ifCond .lt 13, 3) := by decide +kernel
theorem dX12_pour_18 : decode cX12_pour 18 = .ok (.iload 4, 2) := by decide +kernel
theorem dX12_pour_20 : decode cX12_pour 20 = .ok (.ifCond .lt 8, 3) := by decide +kernel
theorem dX12_pour_23 : decode cX12_pour 23 = .ok (.iload 5, 2) := by decide +kernel
theorem dX12_pour_25 : decode cX12_pour 25 = .ok (.ifCond .ge 9, 3) := by decide +kernel
theorem dX12_pour_28 : decode cX12_pour 28 = .ok (.aload_n 0, 1) := by decide +kernel
theorem dX12_pour_29 : decode cX12_pour 29 = .ok (.iconst 1, 1) := by decide +kernel
theorem dX12_pour_30 : decode cX12_pour 30 = .ok (.invokevirtual 284, 3) := by decide +kernel
theorem dX12_pour_33 : decode cX12_pour 33 = .ok (.ireturn, 1) := by decide +kernel
theorem dX12_pour_34 : decode cX12_pour 34 = .ok (.aload_n 0, 1) := by decide +kernel
theorem dX12_pour_35 : decode cX12_pour 35 = .ok (.getfield 13, 3) := by decide +kernel
theorem dX12_pour_38 : decode cX12_pour 38 = .ok (.iload_n 1, 1) := by decide +kernel
theorem dX12_pour_39 : decode cX12_pour 39 = .ok (.iaload, 1) := by decide +kernel
theorem dX12_pour_40 : decode cX12_pour 40 = .ok (.iconst (-1), 1) := by decide +kernel
theorem dX12_pour_41 : decode cX12_pour 41 = .ok (.if_icmp .eq 13, 3) := by decide +kernel
theorem dX12_pour_44 : decode cX12_pour 44 = .ok (.aload_n 0, 1) := by decide +kernel
theorem dX12_pour_45 : decode cX12_pour 45 = .ok (.getfield 13, 3) := by decide +kernel
theorem dX12_pour_48 : decode cX12_pour 48 = .ok (.iload_n 3, 1) := by decide +kernel
theorem dX12_pour_49 : decode cX12_pour 49 = .ok (.iaload, 1) := by decide +kernel
theorem dX12_pour_50 : decode cX12_pour 50 = .ok (.iconst (-1), 1) := by decide +kernel
theorem dX12_pour_51 : decode cX12_pour 51 = .ok (.if_icmp .ne 9, 3) := by decide +kernel
theorem dX12_pour_54 : decode cX12_pour 54 = .ok (.aload_n 0, 1) := by decide +kernel
theorem dX12_pour_55 : decode cX12_pour 55 = .ok (.iconst 2, 1) := by decide +kernel
theorem dX12_pour_56 : decode cX12_pour 56 = .ok (.invokevirtual 284, 3) := by decide +kernel
theorem dX12_pour_59 : decode cX12_pour 59 = .ok (.ireturn, 1) := by decide +kernel
theorem dX12_pour_60 : decode cX12_pour 60 = .ok (.aload_n 0, 1) := by decide +kernel
theorem dX12_pour_61 : decode cX12_pour 61 = .ok (.getfield 7, 3) := by decide +kernel
theorem dX12_pour_64 : decode cX12_pour 64 = .ok (.iload_n 1, 1) := by decide +kernel
theorem dX12_pour_65 : decode cX12_pour 65 = .ok (.iaload, 1) := by decide +kernel
theorem dX12_pour_66 : decode cX12_pour 66 = .ok (.aload_n 0, 1) := by decide +kernel
theorem dX12_pour_67 : decode cX12_pour 67 = .ok (.getfield 7, 3) := by decide +kernel
theorem dX12_pour_70 : decode cX12_pour 70 = .ok (.iload_n 3, 1) := by decide +kernel
theorem dX12_pour_71 : decode cX12_pour 71 = .ok (.iaload, 1) := by decide +kernel
theorem dX12_pour_72 : decode cX12_pour 72 = .ok (.if_icmp .eq 10, 3) := by decide +kernel
theorem dX12_pour_75 : decode cX12_pour 75 = .ok (.aload_n 0, 1) := by decide +kernel
theorem dX12_pour_76 : decode cX12_pour 76 = .ok (.bipush 8, 2) := by decide +kernel
theorem dX12_pour_78 : decode cX12_pour 78 = .ok (.invokevirtual 284, 3) := by decide +kernel
theorem dX12_pour_81 : decode cX12_pour 81 = .ok (.ireturn, 1) := by decide +kernel
theorem dX12_pour_82 : decode cX12_pour 82 = .ok (.iload 5, 2) := by decide +kernel
theorem dX12_pour_84 : decode cX12_pour 84 = .ok (.aload_n 0, 1) := by decide +kernel
theorem dX12_pour_85 : decode cX12_pour 85 = .ok (.getfield 13, 3) := by decide +kernel
theorem dX12_pour_88 : decode cX12_pour 88 = .ok (.iload_n 1, 1) := by decide +kernel
theorem dX12_pour_89 : decode cX12_pour 89 = .ok (.iaload, 1) := by decide +kernel
theorem dX12_pour_90 : decode cX12_pour 90 = .ok (.iload_n 2, 1) := by decide +kernel
theorem dX12_pour_91 : decode cX12_pour 91 = .ok (.isub, 1) := by decide +kernel
theorem dX12_pour_92 : decode cX12_pour 92 = .ok (.if_icmp .gt 17, 3) := by decide +kernel
theorem dX12_pour_95 : decode cX12_pour 95 = .ok (.iload 5, 2) := by decide +kernel
theorem dX12_pour_97 : decode cX12_pour 97 = .ok (.aload_n 0, 1) := by decide +kernel
theorem dX12_pour_98 : decode cX12_pour 98 = .ok (.getfield 13, 3) := by decide +kernel
theorem dX12_pour_101 : decode cX12_pour 101 = .ok (.iload_n 3, 1) := by decide +kernel
theorem dX12_pour_102 : decode cX12_pour 102 = .ok (.iaload, 1) := by decide +kernel
theorem dX12_pour_103 : decode cX12_pour 103 = .ok (.iload 4, 2) := by decide +kernel
theorem dX12_pour_105 : decode cX12_pour 105 = .ok (.isub, 1) := by decide +kernel
theorem dX12_pour_106 : decode cX12_pour 106 = .ok (.if_icmp .le 9, 3) := by decide +kernel
theorem dX12_pour_109 : decode cX12_pour 109 = .ok (.aload_n 0, 1) := by decide +kernel
theorem dX12_pour_110 : decode cX12_pour 110 = .ok (.iconst 3, 1) := by decide +kernel
theorem dX12_pour_111 : decode cX12_pour 111 = .ok (.invokevirtual 284, 3) := by decide +kernel
theorem dX12_pour_114 : decode cX12_pour 114 = .ok (.ireturn, 1) := by decide +kernel
theorem dX12_pour_115 : decode cX12_pour 115 = .ok (.iconst 0, 1) := by decide +kernel
theorem dX12_pour_116 : decode cX12_pour 116 = .ok (.istore 6, 2) := by decide +kernel
theorem dX12_pour_118 : decode cX12_pour 118 = .ok (.iload 6, 2) := by decide +kernel
theorem dX12_pour_120 : decode cX12_pour 120 = .ok (.iload 5, 2) := by decide +kernel
theorem dX12_pour_122 : decode cX12_pour 122 = .ok (.if_icmp .ge 58, 3) := by decide +kernel
theorem dX12_pour_125 : decode cX12_pour 125 = .ok (.iload_n 2, 1) := by decide +kernel
theorem dX12_pour_126 : decode cX12_pour 126 = .ok (.iload 4, 2) := by decide +kernel
theorem dX12_pour_128 : decode cX12_pour 128 = .ok (.if_icmp .ge 13, 3) := by decide +kernel
theorem dX12_pour_131 : decode cX12_pour 131 = .ok (.iload 5, 2) := by decide +kernel
theorem dX12_pour_133 : decode cX12_pour 133 = .ok (.iconst 1, 1) := by decide +kernel
theorem dX12_pour_134 : decode cX12_pour 134 = .ok (.isub, 1) := by decide +kernel
theorem dX12_pour_135 : decode cX12_pour 135 = .ok (.iload 6, 2) := by decide +kernel
theorem dX12_pour_137 : decode cX12_pour 137 = .ok (.isub, 1) := by decide +kernel
theorem dX12_pour_138 : decode cX12_pour 138 = .ok (.goto 5, 3) := by decide +kernel
theorem dX12_pour_141 : decode cX12_pour 141 = .ok (.iload 6, 2) := by decide +kernel
theorem dX12_pour_143 : decode cX12_pour 143 = .ok (.istore 7, 2) := by decide +kernel
theorem dX12_pour_145 : decode cX12_pour 145 = .ok (.aload_n 0, 1) := by decide +kernel
theorem dX12_pour_146 : decode cX12_pour 146 = .ok (.getfield 16, 3) := by decide +kernel
theorem dX12_pour_149 : decode cX12_pour 149 = .ok (.bipush 60, 2) := by decide +kernel
theorem dX12_pour_151 : decode cX12_pour 151 = .ok (.iload_n 3, 1) := by decide +kernel
theorem dX12_pour_152 : decode cX12_pour 152 = .ok (.imul, 1) := by decide +kernel
theorem dX12_pour_153 : decode cX12_pour 153 = .ok (.iload 4, 2) := by decide +kernel
theorem dX12_pour_155 : decode cX12_pour 155 = .ok (.iadd, 1) := by decide +kernel
theorem dX12_pour_156 : decode cX12_pour 156 = .ok (.iload 7, 2) := by decide +kernel
theorem dX12_pour_158 : decode cX12_pour 158 = .ok (.iadd, 1) := by decide +kernel
theorem dX12_pour_159 : decode cX12_pour 159 = .ok (.aload_n 0, 1) := by decide +kernel
theorem dX12_pour_160 : decode cX12_pour 160 = .ok (.getfield 16, 3) := by decide +kernel
theorem dX12_pour_163 : decode cX12_pour 163 = .ok (.bipush 60, 2) := by decide +kernel
theorem dX12_pour_165 : decode cX12_pour 165 = .ok (.iload_n 1, 1) := by decide +kernel
theorem dX12_pour_166 : decode cX12_pour 166 = .ok (.imul, 1) := by decide +kernel
theorem dX12_pour_167 : decode cX12_pour 167 = .ok (.iload_n 2, 1) := by decide +kernel
theorem dX12_pour_168 : decode cX12_pour 168 = .ok (.iadd, 1) := by decide +kernel
theorem dX12_pour_169 : decode cX12_pour 169 = .ok (.iload 7, 2) := by decide +kernel
theorem dX12_pour_171 : decode cX12_pour 171 = .ok (.iadd, 1) := by decide +kernel
theorem dX12_pour_172 : decode cX12_pour 172 = .ok (.laload, 1) := by decide +kernel
theorem dX12_pour_173 : decode cX12_pour 173 = .ok (.lastore, 1) := by decide +kernel
theorem dX12_pour_174 : decode cX12_pour 174 = .ok (.iinc 6 1, 3) := by decide +kernel
theorem dX12_pour_177 : decode cX12_pour 177 = .ok (.goto (-59), 3) := by decide +kernel
theorem dX12_pour_180 : decode cX12_pour 180 = .ok (.aload_n 0, 1) := by decide +kernel
theorem dX12_pour_181 : decode cX12_pour 181 = .ok (.iconst 0, 1) := by decide +kernel
theorem dX12_pour_182 : decode cX12_pour 182 = .ok (.invokevirtual 284, 3) := by decide +kernel
theorem dX12_pour_185 : decode cX12_pour 185 = .ok (.ireturn, 1) := by decide +kernel
noncomputable def X12_pour_j28 (w : Wd) : Option (Int32 × Wd) :=
(X12_is (1 : Int32) w).bind fun q1 =>
gd (narrow .boolean (.int q1.1) = .int q1.1) <|
some (q1.1, q1.2)
set_option maxRecDepth 20000 in
set_option maxHeartbeats 1000000 in
theorem t_X12_pour_j28 {κ : Kx} (w : Wd) (h : ok (X12_pour_j28  w) (PIw κ)) : J κ RX12 cX12_pour 8 (some .boolean) (rmk 1 21) 28 [(0, .ref (ad (gm κ) 97))] [] w := by
  unfold X12_pour_j28 at h
  refine j_aload_n 0 dX12_pour_28 rfl rfl ?_
  refine j_iconst (1 : Int32) dX12_pour_29 ki_1 ?_
  obtain ⟨q1, e2, h⟩ := ok_b h
  refine j_callV (As := [.int (1 : Int32)]) (st := []) [.int q1.1] (c_X12_is (kl κ) (gm κ) (kA κ) (1 : Int32) w q1 e2) ck_RX12_284 im_X12_is se_X12_is sh_97 cx_12 ⟨rfl, rfl⟩ ⟨by decide, by decide⟩ rfl rfl (Nat.le_of_ble_eq_true rfl) dX12_pour_30 _ rfl ?_
  obtain ⟨hz, h⟩ := ok_g h
  have h := ok_s h
  exact j_iret dX12_pour_33 rfl hz h
noncomputable def X12_pour_j54 (w : Wd) : Option (Int32 × Wd) :=
(X12_is (2 : Int32) w).bind fun q3 =>
gd (narrow .boolean (.int q3.1) = .int q3.1) <|
some (q3.1, q3.2)
set_option maxRecDepth 20000 in
set_option maxHeartbeats 1000000 in
theorem t_X12_pour_j54 {κ : Kx} (w : Wd) (h : ok (X12_pour_j54  w) (PIw κ)) : J κ RX12 cX12_pour 8 (some .boolean) (rmk 1 21) 54 [(0, .ref (ad (gm κ) 97))] [] w := by
  unfold X12_pour_j54 at h
  refine j_aload_n 0 dX12_pour_54 rfl rfl ?_
  refine j_iconst (2 : Int32) dX12_pour_55 ki_2 ?_
  obtain ⟨q3, e4, h⟩ := ok_b h
  refine j_callV (As := [.int (2 : Int32)]) (st := []) [.int q3.1] (c_X12_is (kl κ) (gm κ) (kA κ) (2 : Int32) w q3 e4) ck_RX12_284 im_X12_is se_X12_is sh_97 cx_12 ⟨rfl, rfl⟩ ⟨by decide, by decide⟩ rfl rfl (Nat.le_of_ble_eq_true rfl) dX12_pour_56 _ rfl ?_
  obtain ⟨hz, h⟩ := ok_g h
  have h := ok_s h
  exact j_iret dX12_pour_59 rfl hz h
noncomputable def X12_pour_j109 (w : Wd) : Option (Int32 × Wd) :=
(X12_is (3 : Int32) w).bind fun q5 =>
gd (narrow .boolean (.int q5.1) = .int q5.1) <|
some (q5.1, q5.2)
set_option maxRecDepth 20000 in
set_option maxHeartbeats 1000000 in
theorem t_X12_pour_j109 {κ : Kx} (w : Wd) (h : ok (X12_pour_j109  w) (PIw κ)) : J κ RX12 cX12_pour 8 (some .boolean) (rmk 1 21) 109 [(0, .ref (ad (gm κ) 97))] [] w := by
  unfold X12_pour_j109 at h
  refine j_aload_n 0 dX12_pour_109 rfl rfl ?_
  refine j_iconst (3 : Int32) dX12_pour_110 ki_3 ?_
  obtain ⟨q5, e6, h⟩ := ok_b h
  refine j_callV (As := [.int (3 : Int32)]) (st := []) [.int q5.1] (c_X12_is (kl κ) (gm κ) (kA κ) (3 : Int32) w q5 e6) ck_RX12_284 im_X12_is se_X12_is sh_97 cx_12 ⟨rfl, rfl⟩ ⟨by decide, by decide⟩ rfl rfl (Nat.le_of_ble_eq_true rfl) dX12_pour_111 _ rfl ?_
  obtain ⟨hz, h⟩ := ok_g h
  have h := ok_s h
  exact j_iret dX12_pour_114 rfl hz h
noncomputable def X12_pour_j143 (a1 : Int32) (a2 : Int32) (a3 : Int32) (a4 : Int32) (a5 : Int32) (a6 : Int32) (s0 : Int32) (w : Wd) : Option ((Int32 × Wd) ⊕ Wd) :=
gd (vp_in ((((60 : Int32) * a1) + a2) + s0) 240) <|
(some (w.2 100 (ix ((((60 : Int32) * a1) + a2) + s0)))).bind fun z7 =>
gd (vp_in ((((60 : Int32) * a3) + a4) + s0) 240) <|
(some (puJ w 100 (ix ((((60 : Int32) * a3) + a4) + s0)) z7)).bind fun w8 =>
some (.inl ((a6 + (1 : Int32)), w8))
set_option maxRecDepth 20000 in
set_option maxHeartbeats 1000000 in
theorem t_X12_pour_j143 {κ : Kx} (a1 : Int32) (a2 : Int32) (a3 : Int32) (a4 : Int32) (a5 : Int32) (a6 : Int32) (s0 : Int32) (w : Wd) {G : (Int32 × Wd) → Prop} {P : Wd → Prop} (KG : ∀ s, G s → J κ RX12 cX12_pour 8 (some .boolean) (rmk 1 21) 118 [(0, .ref (ad (gm κ) 97)), (1, .int a1), (2, .int a2), (3, .int a3), (4, .int a4), (5, .int a5), (6, .int s.1)] [] s.2) (K0 : ∀ e, P e → J κ RX12 cX12_pour 8 (some .boolean) (rmk 1 21) 180 [(0, .ref (ad (gm κ) 97))] [] e) (h : ok (X12_pour_j143  a1 a2 a3 a4 a5 a6 s0 w) (sel G P)) : J κ RX12 cX12_pour 8 (some .boolean) (rmk 1 21) 143 [(0, .ref (ad (gm κ) 97)), (1, .int a1), (2, .int a2), (3, .int a3), (4, .int a4), (5, .int a5), (6, .int a6)] [.int s0] w := by
  unfold X12_pour_j143 at h
  refine j_istore [(7, .int s0), (0, .ref (ad (gm κ) 97)), (1, .int a1), (2, .int a2), (3, .int a3), (4, .int a4), (5, .int a5), (6, .int a6)] dX12_pour_143 (by decide) rfl ?_
  refine j_aload_n 1 dX12_pour_145 rfl rfl ?_
  refine j_getA 100 fl_RX12_16 sh_97 fk_97_3 (by decide) dX12_pour_146 ?_
  refine j_bipush (60 : Int32) dX12_pour_149 kb_60 ?_
  refine j_iload_n 4 dX12_pour_151 rfl rfl ?_
  refine j_imul dX12_pour_152 ?_
  refine j_iload 5 dX12_pour_153 rfl ?_
  refine j_iadd dX12_pour_155 ?_
  refine j_iload 0 dX12_pour_156 rfl ?_
  refine j_iadd dX12_pour_158 ?_
  refine j_aload_n 1 dX12_pour_159 rfl rfl ?_
  refine j_getA 100 fl_RX12_16 sh_97 fk_97_3 (by decide) dX12_pour_160 ?_
  refine j_bipush (60 : Int32) dX12_pour_163 kb_60 ?_
  refine j_iload_n 2 dX12_pour_165 rfl rfl ?_
  refine j_imul dX12_pour_166 ?_
  refine j_iload_n 3 dX12_pour_167 rfl rfl ?_
  refine j_iadd dX12_pour_168 ?_
  refine j_iload 0 dX12_pour_169 rfl ?_
  refine j_iadd dX12_pour_171 ?_
  refine j_lald sh_100 dX12_pour_172 h (fun h => ?_)
  refine j_lJ h (fun z7 h => ?_)
  refine j_last sh_100 dX12_pour_173 h (fun h => ?_)
  refine j_lW h (fun w8 h => ?_)
  refine j_iinc (a6 + (1 : Int32)) 7 [(6, .int (a6 + (1 : Int32))), (7, .int s0), (0, .ref (ad (gm κ) 97)), (1, .int a1), (2, .int a2), (3, .int a3), (4, .int a4), (5, .int a5)] dX12_pour_174 rfl (by rw [kn_1]) (by decide) rfl ?_
  refine j_goto 118 dX12_pour_177 (by decide) ?_
  refine j_loc [(0, .ref (ad (gm κ) 97)), (1, .int a1), (2, .int a2), (3, .int a3), (4, .int a4), (5, .int a5), (6, .int (a6 + (1 : Int32)))] [2, 3, 4, 5, 6, 7, 0] rfl ?_
  have h := sel_l h
  have h := KG _ h
  exact h
noncomputable def X12_pour_b118 (a1 : Int32) (a2 : Int32) (a3 : Int32) (a4 : Int32) (a5 : Int32) (s : (Int32 × Wd)) : Option ((Int32 × Wd) ⊕ Wd) :=
(if a5 ≤ s.1 then
some (.inr s.2)
else
(if a4 ≤ a2 then
X12_pour_j143 a1 a2 a3 a4 a5 s.1 s.1 s.2
else
X12_pour_j143 a1 a2 a3 a4 a5 s.1 ((a5 - (1 : Int32)) - s.1) s.2))
set_option maxRecDepth 20000 in
set_option maxHeartbeats 1000000 in
theorem t_X12_pour_b118 {κ : Kx} (a1 : Int32) (a2 : Int32) (a3 : Int32) (a4 : Int32) (a5 : Int32) {P : Wd → Prop} (K0 : ∀ e, P e → J κ RX12 cX12_pour 8 (some .boolean) (rmk 1 21) 180 [(0, .ref (ad (gm κ) 97))] [] e) (s : (Int32 × Wd)) (h : ok (lp (X12_pour_b118  a1 a2 a3 a4 a5) s) P) : J κ RX12 cX12_pour 8 (some .boolean) (rmk 1 21) 118 [(0, .ref (ad (gm κ) 97)), (1, .int a1), (2, .int a2), (3, .int a3), (4, .int a4), (5, .int a5), (6, .int s.1)] [] s.2 := by
  refine lp_ind (fun s => J κ RX12 cX12_pour 8 (some .boolean) (rmk 1 21) 118 [(0, .ref (ad (gm κ) 97)), (1, .int a1), (2, .int a2), (3, .int a3), (4, .int a4), (5, .int a5), (6, .int s.1)] [] s.2) (fun s h => ?_) s h
  unfold X12_pour_b118 at h
  refine j_iload 6 dX12_pour_118 rfl ?_
  refine j_iload 5 dX12_pour_120 rfl ?_
  refine j_ic_ge 180 dX12_pour_122 (by decide) h (fun h => ?_) (fun h => ?_)
  · refine j_loc [(0, .ref (ad (gm κ) 97))] [0] rfl ?_
    have h := sel_r h
    have h := K0 _ h
    exact h
  · refine j_iload_n 2 dX12_pour_125 rfl rfl ?_
    refine j_iload 4 dX12_pour_126 rfl ?_
    refine j_ic_ge 141 dX12_pour_128 (by decide) h (fun h => ?_) (fun h => ?_)
    · refine j_iload 6 dX12_pour_141 rfl ?_
      refine j_loc [(0, .ref (ad (gm κ) 97)), (1, .int a1), (2, .int a2), (3, .int a3), (4, .int a4), (5, .int a5), (6, .int s.1)] [0, 1, 2, 3, 4, 5, 6] rfl ?_
      exact t_X12_pour_j143 a1 a2 a3 a4 a5 s.1 s.1 s.2 (fun _ h => h) K0 h
    · refine j_iload 5 dX12_pour_131 rfl ?_
      refine j_iconst (1 : Int32) dX12_pour_133 ki_1 ?_
      refine j_isub dX12_pour_134 ?_
      refine j_iload 6 dX12_pour_135 rfl ?_
      refine j_isub dX12_pour_137 ?_
      refine j_goto 143 dX12_pour_138 (by decide) ?_
      refine j_loc [(0, .ref (ad (gm κ) 97)), (1, .int a1), (2, .int a2), (3, .int a3), (4, .int a4), (5, .int a5), (6, .int s.1)] [0, 1, 2, 3, 4, 5, 6] rfl ?_
      exact t_X12_pour_j143 a1 a2 a3 a4 a5 s.1 ((a5 - (1 : Int32)) - s.1) s.2 (fun _ h => h) K0 h
noncomputable def X12_pour (a1 : Int32) (a2 : Int32) (a3 : Int32) (a4 : Int32) (a5 : Int32) (w : Wd) : Option (Int32 × Wd) :=
(if (X12_isTray a1 w) = 0 then
X12_pour_j28 w
else
(if (X12_isTray a3 w) = 0 then
X12_pour_j28 w
else
(if a2 < 0 then
X12_pour_j28 w
else
(if a4 < 0 then
X12_pour_j28 w
else
(if 0 ≤ a5 then
gd (vp_in a1 4) <|
(if (w.1 99 (ix a1)) = (-1 : Int32) then
X12_pour_j54 w
else
gd (vp_in a3 4) <|
(if (w.1 99 (ix a3)) = (-1 : Int32) then
X12_pour_j54 w
else
gd (vp_in a1 4) <|
gd (vp_in a3 4) <|
(if (w.1 98 (ix a1)) = (w.1 98 (ix a3)) then
gd (vp_in a1 4) <|
(if ((w.1 99 (ix a1)) - a2) < a5 then
X12_pour_j109 w
else
gd (vp_in a3 4) <|
(if a5 ≤ ((w.1 99 (ix a3)) - a4) then
(lp (X12_pour_b118 a1 a2 a3 a4 a5) ((0 : Int32), w)).bind fun e9 =>
(X12_is (0 : Int32) e9).bind fun q10 =>
gd (narrow .boolean (.int q10.1) = .int q10.1) <|
some (q10.1, q10.2)
else
X12_pour_j109 w))
else
(X12_is (8 : Int32) w).bind fun q12 =>
gd (narrow .boolean (.int q12.1) = .int q12.1) <|
some (q12.1, q12.2))))
else
X12_pour_j28 w)))))
set_option maxRecDepth 20000 in
set_option maxHeartbeats 1000000 in
theorem t_X12_pour {κ : Kx} (a1 : Int32) (a2 : Int32) (a3 : Int32) (a4 : Int32) (a5 : Int32) (w : Wd) (h : ok (X12_pour  a1 a2 a3 a4 a5 w) (PIw κ)) : J κ RX12 cX12_pour 8 (some .boolean) (rmk 1 21) 0 [(0, .ref (ad (gm κ) 97)), (1, .int a1), (2, .int a2), (3, .int a3), (4, .int a4), (5, .int a5)] [] w := by
  unfold X12_pour at h
  refine j_iload_n 1 dX12_pour_0 rfl rfl ?_
  refine j_callS (As := [.int a1]) (st := []) [.int (X12_isTray a1 w)] (c_X12_isTray (kl κ) (gm κ) (kA κ) a1 w) ck_RX12_280 st_X12_isTray ⟨rfl, rfl⟩ ⟨by decide, by decide⟩ rfl rfl (Nat.le_of_ble_eq_true rfl) dX12_pour_1 _ rfl ?_
  refine j_if_eq 28 dX12_pour_4 (by decide) h (fun h => ?_) (fun h => ?_)
  · refine j_loc [(0, .ref (ad (gm κ) 97))] [0] rfl ?_
    exact t_X12_pour_j28 w h
  · refine j_iload_n 3 dX12_pour_7 rfl rfl ?_
    refine j_callS (As := [.int a3]) (st := []) [.int (X12_isTray a3 w)] (c_X12_isTray (kl κ) (gm κ) (kA κ) a3 w) ck_RX12_280 st_X12_isTray ⟨rfl, rfl⟩ ⟨by decide, by decide⟩ rfl rfl (Nat.le_of_ble_eq_true rfl) dX12_pour_8 _ rfl ?_
    refine j_if_eq 28 dX12_pour_11 (by decide) h (fun h => ?_) (fun h => ?_)
    · refine j_loc [(0, .ref (ad (gm κ) 97))] [0] rfl ?_
      exact t_X12_pour_j28 w h
    · refine j_iload_n 2 dX12_pour_14 rfl rfl ?_
      refine j_if_lt 28 dX12_pour_15 (by decide) h (fun h => ?_) (fun h => ?_)
      · refine j_loc [(0, .ref (ad (gm κ) 97))] [0] rfl ?_
        exact t_X12_pour_j28 w h
      · refine j_iload 4 dX12_pour_18 rfl ?_
        refine j_if_lt 28 dX12_pour_20 (by decide) h (fun h => ?_) (fun h => ?_)
        · refine j_loc [(0, .ref (ad (gm κ) 97))] [0] rfl ?_
          exact t_X12_pour_j28 w h
        · refine j_iload 5 dX12_pour_23 rfl ?_
          refine j_if_ge 34 dX12_pour_25 (by decide) h (fun h => ?_) (fun h => ?_)
          · refine j_aload_n 0 dX12_pour_34 rfl rfl ?_
            refine j_getA 99 fl_RX12_13 sh_97 fk_97_2 (by decide) dX12_pour_35 ?_
            refine j_iload_n 1 dX12_pour_38 rfl rfl ?_
            refine j_iald sh_99 dX12_pour_39 h (fun h => ?_)
            refine j_iconst (-1 : Int32) dX12_pour_40 ki_m1 ?_
            refine j_ic_eq 54 dX12_pour_41 (by decide) h (fun h => ?_) (fun h => ?_)
            · refine j_loc [(0, .ref (ad (gm κ) 97))] [0] rfl ?_
              exact t_X12_pour_j54 w h
            · refine j_aload_n 0 dX12_pour_44 rfl rfl ?_
              refine j_getA 99 fl_RX12_13 sh_97 fk_97_2 (by decide) dX12_pour_45 ?_
              refine j_iload_n 3 dX12_pour_48 rfl rfl ?_
              refine j_iald sh_99 dX12_pour_49 h (fun h => ?_)
              refine j_iconst (-1 : Int32) dX12_pour_50 ki_m1 ?_
              refine j_ic_ne 60 dX12_pour_51 (by decide) h (fun h => ?_) (fun h => ?_)
              · refine j_aload_n 0 dX12_pour_60 rfl rfl ?_
                refine j_getA 98 fl_RX12_7 sh_97 fk_97_1 (by decide) dX12_pour_61 ?_
                refine j_iload_n 1 dX12_pour_64 rfl rfl ?_
                refine j_iald sh_98 dX12_pour_65 h (fun h => ?_)
                refine j_aload_n 0 dX12_pour_66 rfl rfl ?_
                refine j_getA 98 fl_RX12_7 sh_97 fk_97_1 (by decide) dX12_pour_67 ?_
                refine j_iload_n 3 dX12_pour_70 rfl rfl ?_
                refine j_iald sh_98 dX12_pour_71 h (fun h => ?_)
                refine j_ic_eq 82 dX12_pour_72 (by decide) h (fun h => ?_) (fun h => ?_)
                · refine j_iload 5 dX12_pour_82 rfl ?_
                  refine j_aload_n 0 dX12_pour_84 rfl rfl ?_
                  refine j_getA 99 fl_RX12_13 sh_97 fk_97_2 (by decide) dX12_pour_85 ?_
                  refine j_iload_n 1 dX12_pour_88 rfl rfl ?_
                  refine j_iald sh_99 dX12_pour_89 h (fun h => ?_)
                  refine j_iload_n 2 dX12_pour_90 rfl rfl ?_
                  refine j_isub dX12_pour_91 ?_
                  refine j_ic_gt 109 dX12_pour_92 (by decide) h (fun h => ?_) (fun h => ?_)
                  · refine j_loc [(0, .ref (ad (gm κ) 97))] [0] rfl ?_
                    exact t_X12_pour_j109 w h
                  · refine j_iload 5 dX12_pour_95 rfl ?_
                    refine j_aload_n 0 dX12_pour_97 rfl rfl ?_
                    refine j_getA 99 fl_RX12_13 sh_97 fk_97_2 (by decide) dX12_pour_98 ?_
                    refine j_iload_n 3 dX12_pour_101 rfl rfl ?_
                    refine j_iald sh_99 dX12_pour_102 h (fun h => ?_)
                    refine j_iload 4 dX12_pour_103 rfl ?_
                    refine j_isub dX12_pour_105 ?_
                    refine j_ic_le 115 dX12_pour_106 (by decide) h (fun h => ?_) (fun h => ?_)
                    · refine j_iconst (0 : Int32) dX12_pour_115 ki_0 ?_
                      refine j_istore [(6, .int (0 : Int32)), (0, .ref (ad (gm κ) 97)), (1, .int a1), (2, .int a2), (3, .int a3), (4, .int a4), (5, .int a5)] dX12_pour_116 (by decide) rfl ?_
                      refine j_loc [(0, .ref (ad (gm κ) 97)), (1, .int a1), (2, .int a2), (3, .int a3), (4, .int a4), (5, .int a5), (6, .int (0 : Int32))] [1, 2, 3, 4, 5, 6, 0] rfl ?_
                      refine t_X12_pour_b118 a1 a2 a3 a4 a5 (fun e9 h => ?_) ((0 : Int32), w) (ok_bb h)
                      · refine j_aload_n 0 dX12_pour_180 rfl rfl ?_
                        refine j_iconst (0 : Int32) dX12_pour_181 ki_0 ?_
                        obtain ⟨q10, e11, h⟩ := ok_b h
                        refine j_callV (As := [.int (0 : Int32)]) (st := []) [.int q10.1] (c_X12_is (kl κ) (gm κ) (kA κ) (0 : Int32) e9 q10 e11) ck_RX12_284 im_X12_is se_X12_is sh_97 cx_12 ⟨rfl, rfl⟩ ⟨by decide, by decide⟩ rfl rfl (Nat.le_of_ble_eq_true rfl) dX12_pour_182 _ rfl ?_
                        obtain ⟨hz, h⟩ := ok_g h
                        have h := ok_s h
                        exact j_iret dX12_pour_185 rfl hz h
                    · refine j_loc [(0, .ref (ad (gm κ) 97))] [0] rfl ?_
                      exact t_X12_pour_j109 w h
                · refine j_aload_n 0 dX12_pour_75 rfl rfl ?_
                  refine j_bipush (8 : Int32) dX12_pour_76 kb_8 ?_
                  obtain ⟨q12, e13, h⟩ := ok_b h
                  refine j_callV (As := [.int (8 : Int32)]) (st := []) [.int q12.1] (c_X12_is (kl κ) (gm κ) (kA κ) (8 : Int32) w q12 e13) ck_RX12_284 im_X12_is se_X12_is sh_97 cx_12 ⟨rfl, rfl⟩ ⟨by decide, by decide⟩ rfl rfl (Nat.le_of_ble_eq_true rfl) dX12_pour_78 _ rfl ?_
                  obtain ⟨hz, h⟩ := ok_g h
                  have h := ok_s h
                  exact j_iret dX12_pour_81 rfl hz h
              · refine j_loc [(0, .ref (ad (gm κ) 97))] [0] rfl ?_
                exact t_X12_pour_j54 w h
          · refine j_loc [(0, .ref (ad (gm κ) 97))] [0] rfl ?_
            exact t_X12_pour_j28 w h
theorem c_X12_pour (l : Launch) (γ : Gm) (A : Nat → Prop) (a1 : Int32) (a2 : Int32) (a3 : Int32) (a4 : Int32) (a5 : Int32) (w : Wd) (q : Int32 × Wd) (e : X12_pour  a1 a2 a3 a4 a5 w = some q) : MetG l γ A yX12_pour cX12_pour 8 (some .boolean) (rmk 1 21) [.ref (ad (γ) 97), .int a1, .int a2, .int a3, .int a4, .int a5] w (some (.int q.1)) q.2 := by
  refine met_of pn_RX12 (Nat.le_of_ble_eq_true rfl) ?_
  intro κ hl hγ hA hρ
  subst hl; subst hγ; subst hA
  exact t_X12_pour   a1 a2 a3 a4 a5 w ⟨q, e, pIw hρ rfl rfl⟩
theorem dX12_isWeek_0 : decode cX12_isWeek 0 = .ok (.iload_n 0, 1) := by decide +kernel
theorem dX12_isWeek_1 : decode cX12_isWeek 1 = .ok (.ifCond .lt 13, 3) := by decide +kernel
theorem dX12_isWeek_4 : decode cX12_isWeek 4 = .ok (.iload_n 0, 1) := by decide +kernel
theorem dX12_isWeek_5 : decode cX12_isWeek 5 = .ok (.bipush 60, 2) := by decide +kernel
theorem dX12_isWeek_7 : decode cX12_isWeek 7 = .ok (.if_icmp .ge 7, 3) := by decide +kernel
theorem dX12_isWeek_10 : decode cX12_isWeek 10 = .ok (.iconst 1, 1) := by decide +kernel
theorem dX12_isWeek_11 : decode cX12_isWeek 11 = .ok (.goto 4, 3) := by decide +kernel
theorem dX12_isWeek_14 : decode cX12_isWeek 14 = .ok (.iconst 0, 1) := by decide +kernel
theorem dX12_isWeek_15 : decode cX12_isWeek 15 = .ok (.ireturn, 1) := by decide +kernel
noncomputable def X12_isWeekO (a0 : Int32) (w : Wd) : Option (Int32) :=
(if a0 < 0 then
some (0 : Int32)
else
(if (60 : Int32) ≤ a0 then
some (0 : Int32)
else
some (1 : Int32)))
set_option maxRecDepth 20000 in
set_option maxHeartbeats 1000000 in
theorem t_X12_isWeek {κ : Kx} (a0 : Int32) (w : Wd) (h : ok (X12_isWeekO  a0 w) (PI κ w)) : J κ RX12 cX12_isWeek 1 (some .boolean) (rmk 0 0) 0 [(0, .int a0)] [] w := by
  unfold X12_isWeekO at h
  refine j_iload_n 0 dX12_isWeek_0 rfl rfl ?_
  refine j_if_lt 14 dX12_isWeek_1 (by decide) h (fun h => ?_) (fun h => ?_)
  · refine j_iconst (0 : Int32) dX12_isWeek_14 ki_0 ?_
    have h := ok_s h
    exact j_iret dX12_isWeek_15 rfl (by decide) h
  · refine j_iload_n 0 dX12_isWeek_4 rfl rfl ?_
    refine j_bipush (60 : Int32) dX12_isWeek_5 kb_60 ?_
    refine j_ic_ge 14 dX12_isWeek_7 (by decide) h (fun h => ?_) (fun h => ?_)
    · refine j_iconst (0 : Int32) dX12_isWeek_14 ki_0 ?_
      have h := ok_s h
      exact j_iret dX12_isWeek_15 rfl (by decide) h
    · refine j_iconst (1 : Int32) dX12_isWeek_10 ki_1 ?_
      refine j_goto 15 dX12_isWeek_11 (by decide) ?_
      have h := ok_s h
      exact j_iret dX12_isWeek_15 rfl (by decide) h
noncomputable def X12_isWeek (a0 : Int32) (w : Wd) : Int32 := (X12_isWeekO  a0 w).getD 0
theorem X12_isWeek_eq (a0 : Int32) (w : Wd) : X12_isWeekO  a0 w = some (X12_isWeek  a0 w) := by
  unfold X12_isWeek X12_isWeekO
  repeat (first | rfl | split)
theorem nz_X12_isWeek (a0 : Int32) (w : Wd) : narrow .boolean (.int (X12_isWeek  a0 w)) = .int (X12_isWeek  a0 w) := by
  unfold X12_isWeek X12_isWeekO
  repeat (first | rfl | split)
theorem c_X12_isWeek (l : Launch) (γ : Gm) (A : Nat → Prop) (a0 : Int32) (w : Wd) : MetG l γ A yX12_isWeek cX12_isWeek 1 (some .boolean) (rmk 0 0) [.int a0] w (some (.int (X12_isWeek  a0 w))) w := by
  refine met_of pn_RX12 (Nat.le_of_ble_eq_true rfl) ?_
  intro κ hl hγ hA hρ
  subst hl; subst hγ; subst hA
  exact t_X12_isWeek   a0 w ⟨_, X12_isWeek_eq  a0 w, pI hρ rfl rfl⟩
theorem dX12_isPlace_0 : decode cX12_isPlace 0 = .ok (.iload_n 1, 1) := by decide +kernel
theorem dX12_isPlace_1 : decode cX12_isPlace 1 = .ok (.ifCond .lt 15, 3) := by decide +kernel
theorem dX12_isPlace_4 : decode cX12_isPlace 4 = .ok (.iload_n 1, 1) := by decide +kernel
theorem dX12_isPlace_5 : decode cX12_isPlace 5 = .ok (.aload_n 0, 1) := by decide +kernel
theorem dX12_isPlace_6 : decode cX12_isPlace 6 = .ok (.getfield 297, 3) := by decide +kernel
theorem dX12_isPlace_9 : decode cX12_isPlace 9 = .ok (.if_icmp .ge 7, 3) := by decide +kernel
theorem dX12_isPlace_12 : decode cX12_isPlace 12 = .ok (.iconst 1, 1) := by decide +kernel
theorem dX12_isPlace_13 : decode cX12_isPlace 13 = .ok (.goto 4, 3) := by decide +kernel
theorem dX12_isPlace_16 : decode cX12_isPlace 16 = .ok (.iconst 0, 1) := by decide +kernel
theorem dX12_isPlace_17 : decode cX12_isPlace 17 = .ok (.ireturn, 1) := by decide +kernel
noncomputable def X12_isPlaceO (a1 : Int32) (w : Wd) : Option (Int32) :=
(if a1 < 0 then
some (0 : Int32)
else
(if (w.1 97 4) ≤ a1 then
some (0 : Int32)
else
some (1 : Int32)))
set_option maxRecDepth 20000 in
set_option maxHeartbeats 1000000 in
theorem t_X12_isPlace {κ : Kx} (a1 : Int32) (w : Wd) (h : ok (X12_isPlaceO  a1 w) (PI κ w)) : J κ RX12 cX12_isPlace 2 (some .boolean) (rmk 0 0) 0 [(0, .ref (ad (gm κ) 97)), (1, .int a1)] [] w := by
  unfold X12_isPlaceO at h
  refine j_iload_n 1 dX12_isPlace_0 rfl rfl ?_
  refine j_if_lt 16 dX12_isPlace_1 (by decide) h (fun h => ?_) (fun h => ?_)
  · refine j_iconst (0 : Int32) dX12_isPlace_16 ki_0 ?_
    have h := ok_s h
    exact j_iret dX12_isPlace_17 rfl (by decide) h
  · refine j_iload_n 1 dX12_isPlace_4 rfl rfl ?_
    refine j_aload_n 0 dX12_isPlace_5 rfl rfl ?_
    refine j_getI fl_RX12_297 sh_97 fk_97_4 dX12_isPlace_6 ?_
    refine j_ic_ge 16 dX12_isPlace_9 (by decide) h (fun h => ?_) (fun h => ?_)
    · refine j_iconst (0 : Int32) dX12_isPlace_16 ki_0 ?_
      have h := ok_s h
      exact j_iret dX12_isPlace_17 rfl (by decide) h
    · refine j_iconst (1 : Int32) dX12_isPlace_12 ki_1 ?_
      refine j_goto 17 dX12_isPlace_13 (by decide) ?_
      have h := ok_s h
      exact j_iret dX12_isPlace_17 rfl (by decide) h
noncomputable def X12_isPlace (a1 : Int32) (w : Wd) : Int32 := (X12_isPlaceO  a1 w).getD 0
theorem X12_isPlace_eq (a1 : Int32) (w : Wd) : X12_isPlaceO  a1 w = some (X12_isPlace  a1 w) := by
  unfold X12_isPlace X12_isPlaceO
  repeat (first | rfl | split)
theorem nz_X12_isPlace (a1 : Int32) (w : Wd) : narrow .boolean (.int (X12_isPlace  a1 w)) = .int (X12_isPlace  a1 w) := by
  unfold X12_isPlace X12_isPlaceO
  repeat (first | rfl | split)
theorem c_X12_isPlace (l : Launch) (γ : Gm) (A : Nat → Prop) (a1 : Int32) (w : Wd) : MetG l γ A yX12_isPlace cX12_isPlace 2 (some .boolean) (rmk 0 0) [.ref (ad (γ) 97), .int a1] w (some (.int (X12_isPlace  a1 w))) w := by
  refine met_of pn_RX12 (Nat.le_of_ble_eq_true rfl) ?_
  intro κ hl hγ hA hρ
  subst hl; subst hγ; subst hA
  exact t_X12_isPlace   a1 w ⟨_, X12_isPlace_eq  a1 w, pI hρ rfl rfl⟩
theorem dX12_isLearner_0 : decode cX12_isLearner 0 = .ok (.iload_n 1, 1) := by decide +kernel
theorem dX12_isLearner_1 : decode cX12_isLearner 1 = .ok (.ifCond .lt 15, 3) := by decide +kernel
theorem dX12_isLearner_4 : decode cX12_isLearner 4 = .ok (.iload_n 1, 1) := by decide +kernel
theorem dX12_isLearner_5 : decode cX12_isLearner 5 = .ok (.aload_n 0, 1) := by decide +kernel
theorem dX12_isLearner_6 : decode cX12_isLearner 6 = .ok (.getfield 300, 3) := by decide +kernel
theorem dX12_isLearner_9 : decode cX12_isLearner 9 = .ok (.if_icmp .ge 7, 3) := by decide +kernel
theorem dX12_isLearner_12 : decode cX12_isLearner 12 = .ok (.iconst 1, 1) := by decide +kernel
theorem dX12_isLearner_13 : decode cX12_isLearner 13 = .ok (.goto 4, 3) := by decide +kernel
theorem dX12_isLearner_16 : decode cX12_isLearner 16 = .ok (.iconst 0, 1) := by decide +kernel
theorem dX12_isLearner_17 : decode cX12_isLearner 17 = .ok (.ireturn, 1) := by decide +kernel
noncomputable def X12_isLearnerO (a1 : Int32) (w : Wd) : Option (Int32) :=
(if a1 < 0 then
some (0 : Int32)
else
(if (w.1 97 6) ≤ a1 then
some (0 : Int32)
else
some (1 : Int32)))
set_option maxRecDepth 20000 in
set_option maxHeartbeats 1000000 in
theorem t_X12_isLearner {κ : Kx} (a1 : Int32) (w : Wd) (h : ok (X12_isLearnerO  a1 w) (PI κ w)) : J κ RX12 cX12_isLearner 2 (some .boolean) (rmk 0 0) 0 [(0, .ref (ad (gm κ) 97)), (1, .int a1)] [] w := by
  unfold X12_isLearnerO at h
  refine j_iload_n 1 dX12_isLearner_0 rfl rfl ?_
  refine j_if_lt 16 dX12_isLearner_1 (by decide) h (fun h => ?_) (fun h => ?_)
  · refine j_iconst (0 : Int32) dX12_isLearner_16 ki_0 ?_
    have h := ok_s h
    exact j_iret dX12_isLearner_17 rfl (by decide) h
  · refine j_iload_n 1 dX12_isLearner_4 rfl rfl ?_
    refine j_aload_n 0 dX12_isLearner_5 rfl rfl ?_
    refine j_getI fl_RX12_300 sh_97 fk_97_6 dX12_isLearner_6 ?_
    refine j_ic_ge 16 dX12_isLearner_9 (by decide) h (fun h => ?_) (fun h => ?_)
    · refine j_iconst (0 : Int32) dX12_isLearner_16 ki_0 ?_
      have h := ok_s h
      exact j_iret dX12_isLearner_17 rfl (by decide) h
    · refine j_iconst (1 : Int32) dX12_isLearner_12 ki_1 ?_
      refine j_goto 17 dX12_isLearner_13 (by decide) ?_
      have h := ok_s h
      exact j_iret dX12_isLearner_17 rfl (by decide) h
noncomputable def X12_isLearner (a1 : Int32) (w : Wd) : Int32 := (X12_isLearnerO  a1 w).getD 0
theorem X12_isLearner_eq (a1 : Int32) (w : Wd) : X12_isLearnerO  a1 w = some (X12_isLearner  a1 w) := by
  unfold X12_isLearner X12_isLearnerO
  repeat (first | rfl | split)
theorem nz_X12_isLearner (a1 : Int32) (w : Wd) : narrow .boolean (.int (X12_isLearner  a1 w)) = .int (X12_isLearner  a1 w) := by
  unfold X12_isLearner X12_isLearnerO
  repeat (first | rfl | split)
theorem c_X12_isLearner (l : Launch) (γ : Gm) (A : Nat → Prop) (a1 : Int32) (w : Wd) : MetG l γ A yX12_isLearner cX12_isLearner 2 (some .boolean) (rmk 0 0) [.ref (ad (γ) 97), .int a1] w (some (.int (X12_isLearner  a1 w))) w := by
  refine met_of pn_RX12 (Nat.le_of_ble_eq_true rfl) ?_
  intro κ hl hγ hA hρ
  subst hl; subst hγ; subst hA
  exact t_X12_isLearner   a1 w ⟨_, X12_isLearner_eq  a1 w, pI hρ rfl rfl⟩
theorem dX12_isTeacher_0 : decode cX12_isTeacher 0 = .ok (.iload_n 1, 1) := by decide +kernel
theorem dX12_isTeacher_1 : decode cX12_isTeacher 1 = .ok (.ifCond .lt 15, 3) := by decide +kernel
theorem dX12_isTeacher_4 : decode cX12_isTeacher 4 = .ok (.iload_n 1, 1) := by decide +kernel
theorem dX12_isTeacher_5 : decode cX12_isTeacher 5 = .ok (.aload_n 0, 1) := by decide +kernel
theorem dX12_isTeacher_6 : decode cX12_isTeacher 6 = .ok (.getfield 303, 3) := by decide +kernel
theorem dX12_isTeacher_9 : decode cX12_isTeacher 9 = .ok (.if_icmp .ge 7, 3) := by decide +kernel
theorem dX12_isTeacher_12 : decode cX12_isTeacher 12 = .ok (.iconst 1, 1) := by decide +kernel
theorem dX12_isTeacher_13 : decode cX12_isTeacher 13 = .ok (.goto 4, 3) := by decide +kernel
theorem dX12_isTeacher_16 : decode cX12_isTeacher 16 = .ok (.iconst 0, 1) := by decide +kernel
theorem dX12_isTeacher_17 : decode cX12_isTeacher 17 = .ok (.ireturn, 1) := by decide +kernel
noncomputable def X12_isTeacherO (a1 : Int32) (w : Wd) : Option (Int32) :=
(if a1 < 0 then
some (0 : Int32)
else
(if (w.1 97 7) ≤ a1 then
some (0 : Int32)
else
some (1 : Int32)))
set_option maxRecDepth 20000 in
set_option maxHeartbeats 1000000 in
theorem t_X12_isTeacher {κ : Kx} (a1 : Int32) (w : Wd) (h : ok (X12_isTeacherO  a1 w) (PI κ w)) : J κ RX12 cX12_isTeacher 2 (some .boolean) (rmk 0 0) 0 [(0, .ref (ad (gm κ) 97)), (1, .int a1)] [] w := by
  unfold X12_isTeacherO at h
  refine j_iload_n 1 dX12_isTeacher_0 rfl rfl ?_
  refine j_if_lt 16 dX12_isTeacher_1 (by decide) h (fun h => ?_) (fun h => ?_)
  · refine j_iconst (0 : Int32) dX12_isTeacher_16 ki_0 ?_
    have h := ok_s h
    exact j_iret dX12_isTeacher_17 rfl (by decide) h
  · refine j_iload_n 1 dX12_isTeacher_4 rfl rfl ?_
    refine j_aload_n 0 dX12_isTeacher_5 rfl rfl ?_
    refine j_getI fl_RX12_303 sh_97 fk_97_7 dX12_isTeacher_6 ?_
    refine j_ic_ge 16 dX12_isTeacher_9 (by decide) h (fun h => ?_) (fun h => ?_)
    · refine j_iconst (0 : Int32) dX12_isTeacher_16 ki_0 ?_
      have h := ok_s h
      exact j_iret dX12_isTeacher_17 rfl (by decide) h
    · refine j_iconst (1 : Int32) dX12_isTeacher_12 ki_1 ?_
      refine j_goto 17 dX12_isTeacher_13 (by decide) ?_
      have h := ok_s h
      exact j_iret dX12_isTeacher_17 rfl (by decide) h
noncomputable def X12_isTeacher (a1 : Int32) (w : Wd) : Int32 := (X12_isTeacherO  a1 w).getD 0
theorem X12_isTeacher_eq (a1 : Int32) (w : Wd) : X12_isTeacherO  a1 w = some (X12_isTeacher  a1 w) := by
  unfold X12_isTeacher X12_isTeacherO
  repeat (first | rfl | split)
theorem nz_X12_isTeacher (a1 : Int32) (w : Wd) : narrow .boolean (.int (X12_isTeacher  a1 w)) = .int (X12_isTeacher  a1 w) := by
  unfold X12_isTeacher X12_isTeacherO
  repeat (first | rfl | split)
theorem c_X12_isTeacher (l : Launch) (γ : Gm) (A : Nat → Prop) (a1 : Int32) (w : Wd) : MetG l γ A yX12_isTeacher cX12_isTeacher 2 (some .boolean) (rmk 0 0) [.ref (ad (γ) 97), .int a1] w (some (.int (X12_isTeacher  a1 w))) w := by
  refine met_of pn_RX12 (Nat.le_of_ble_eq_true rfl) ?_
  intro κ hl hγ hA hρ
  subst hl; subst hγ; subst hA
  exact t_X12_isTeacher   a1 w ⟨_, X12_isTeacher_eq  a1 w, pI hρ rfl rfl⟩
theorem dX12_isLamp_0 : decode cX12_isLamp 0 = .ok (.iload_n 1, 1) := by decide +kernel
theorem dX12_isLamp_1 : decode cX12_isLamp 1 = .ok (.ifCond .lt 15, 3) := by decide +kernel
theorem dX12_isLamp_4 : decode cX12_isLamp 4 = .ok (.iload_n 1, 1) := by decide +kernel
theorem dX12_isLamp_5 : decode cX12_isLamp 5 = .ok (.aload_n 0, 1) := by decide +kernel
theorem dX12_isLamp_6 : decode cX12_isLamp 6 = .ok (.getfield 306, 3) := by decide +kernel
theorem dX12_isLamp_9 : decode cX12_isLamp 9 = .ok (.if_icmp .ge 7, 3) := by decide +kernel
theorem dX12_isLamp_12 : decode cX12_isLamp 12 = .ok (.iconst 1, 1) := by decide +kernel
theorem dX12_isLamp_13 : decode cX12_isLamp 13 = .ok (.goto 4, 3) := by decide +kernel
theorem dX12_isLamp_16 : decode cX12_isLamp 16 = .ok (.iconst 0, 1) := by decide +kernel
theorem dX12_isLamp_17 : decode cX12_isLamp 17 = .ok (.ireturn, 1) := by decide +kernel
noncomputable def X12_isLampO (a1 : Int32) (w : Wd) : Option (Int32) :=
(if a1 < 0 then
some (0 : Int32)
else
(if (w.1 97 8) ≤ a1 then
some (0 : Int32)
else
some (1 : Int32)))
set_option maxRecDepth 20000 in
set_option maxHeartbeats 1000000 in
theorem t_X12_isLamp {κ : Kx} (a1 : Int32) (w : Wd) (h : ok (X12_isLampO  a1 w) (PI κ w)) : J κ RX12 cX12_isLamp 2 (some .boolean) (rmk 0 0) 0 [(0, .ref (ad (gm κ) 97)), (1, .int a1)] [] w := by
  unfold X12_isLampO at h
  refine j_iload_n 1 dX12_isLamp_0 rfl rfl ?_
  refine j_if_lt 16 dX12_isLamp_1 (by decide) h (fun h => ?_) (fun h => ?_)
  · refine j_iconst (0 : Int32) dX12_isLamp_16 ki_0 ?_
    have h := ok_s h
    exact j_iret dX12_isLamp_17 rfl (by decide) h
  · refine j_iload_n 1 dX12_isLamp_4 rfl rfl ?_
    refine j_aload_n 0 dX12_isLamp_5 rfl rfl ?_
    refine j_getI fl_RX12_306 sh_97 fk_97_8 dX12_isLamp_6 ?_
    refine j_ic_ge 16 dX12_isLamp_9 (by decide) h (fun h => ?_) (fun h => ?_)
    · refine j_iconst (0 : Int32) dX12_isLamp_16 ki_0 ?_
      have h := ok_s h
      exact j_iret dX12_isLamp_17 rfl (by decide) h
    · refine j_iconst (1 : Int32) dX12_isLamp_12 ki_1 ?_
      refine j_goto 17 dX12_isLamp_13 (by decide) ?_
      have h := ok_s h
      exact j_iret dX12_isLamp_17 rfl (by decide) h
noncomputable def X12_isLamp (a1 : Int32) (w : Wd) : Int32 := (X12_isLampO  a1 w).getD 0
theorem X12_isLamp_eq (a1 : Int32) (w : Wd) : X12_isLampO  a1 w = some (X12_isLamp  a1 w) := by
  unfold X12_isLamp X12_isLampO
  repeat (first | rfl | split)
theorem nz_X12_isLamp (a1 : Int32) (w : Wd) : narrow .boolean (.int (X12_isLamp  a1 w)) = .int (X12_isLamp  a1 w) := by
  unfold X12_isLamp X12_isLampO
  repeat (first | rfl | split)
theorem c_X12_isLamp (l : Launch) (γ : Gm) (A : Nat → Prop) (a1 : Int32) (w : Wd) : MetG l γ A yX12_isLamp cX12_isLamp 2 (some .boolean) (rmk 0 0) [.ref (ad (γ) 97), .int a1] w (some (.int (X12_isLamp  a1 w))) w := by
  refine met_of pn_RX12 (Nat.le_of_ble_eq_true rfl) ?_
  intro κ hl hγ hA hρ
  subst hl; subst hγ; subst hA
  exact t_X12_isLamp   a1 w ⟨_, X12_isLamp_eq  a1 w, pI hρ rfl rfl⟩
theorem dX12_isShire_0 : decode cX12_isShire 0 = .ok (.iload_n 0, 1) := by decide +kernel
theorem dX12_isShire_1 : decode cX12_isShire 1 = .ok (.ifCond .lt 12, 3) := by decide +kernel
theorem dX12_isShire_4 : decode cX12_isShire 4 = .ok (.iload_n 0, 1) := by decide +kernel
theorem dX12_isShire_5 : decode cX12_isShire 5 = .ok (.iconst 4, 1) := by decide +kernel
theorem dX12_isShire_6 : decode cX12_isShire 6 = .ok (.if_icmp .ge 7, 3) := by decide +kernel
theorem dX12_isShire_9 : decode cX12_isShire 9 = .ok (.iconst 1, 1) := by decide +kernel
theorem dX12_isShire_10 : decode cX12_isShire 10 = .ok (.goto 4, 3) := by decide +kernel
theorem dX12_isShire_13 : decode cX12_isShire 13 = .ok (.iconst 0, 1) := by decide +kernel
theorem dX12_isShire_14 : decode cX12_isShire 14 = .ok (.ireturn, 1) := by decide +kernel
noncomputable def X12_isShireO (a0 : Int32) (w : Wd) : Option (Int32) :=
(if a0 < 0 then
some (0 : Int32)
else
(if (4 : Int32) ≤ a0 then
some (0 : Int32)
else
some (1 : Int32)))
set_option maxRecDepth 20000 in
set_option maxHeartbeats 1000000 in
theorem t_X12_isShire {κ : Kx} (a0 : Int32) (w : Wd) (h : ok (X12_isShireO  a0 w) (PI κ w)) : J κ RX12 cX12_isShire 1 (some .boolean) (rmk 0 0) 0 [(0, .int a0)] [] w := by
  unfold X12_isShireO at h
  refine j_iload_n 0 dX12_isShire_0 rfl rfl ?_
  refine j_if_lt 13 dX12_isShire_1 (by decide) h (fun h => ?_) (fun h => ?_)
  · refine j_iconst (0 : Int32) dX12_isShire_13 ki_0 ?_
    have h := ok_s h
    exact j_iret dX12_isShire_14 rfl (by decide) h
  · refine j_iload_n 0 dX12_isShire_4 rfl rfl ?_
    refine j_iconst (4 : Int32) dX12_isShire_5 ki_4 ?_
    refine j_ic_ge 13 dX12_isShire_6 (by decide) h (fun h => ?_) (fun h => ?_)
    · refine j_iconst (0 : Int32) dX12_isShire_13 ki_0 ?_
      have h := ok_s h
      exact j_iret dX12_isShire_14 rfl (by decide) h
    · refine j_iconst (1 : Int32) dX12_isShire_9 ki_1 ?_
      refine j_goto 14 dX12_isShire_10 (by decide) ?_
      have h := ok_s h
      exact j_iret dX12_isShire_14 rfl (by decide) h
noncomputable def X12_isShire (a0 : Int32) (w : Wd) : Int32 := (X12_isShireO  a0 w).getD 0
theorem X12_isShire_eq (a0 : Int32) (w : Wd) : X12_isShireO  a0 w = some (X12_isShire  a0 w) := by
  unfold X12_isShire X12_isShireO
  repeat (first | rfl | split)
theorem nz_X12_isShire (a0 : Int32) (w : Wd) : narrow .boolean (.int (X12_isShire  a0 w)) = .int (X12_isShire  a0 w) := by
  unfold X12_isShire X12_isShireO
  repeat (first | rfl | split)
theorem c_X12_isShire (l : Launch) (γ : Gm) (A : Nat → Prop) (a0 : Int32) (w : Wd) : MetG l γ A yX12_isShire cX12_isShire 1 (some .boolean) (rmk 0 0) [.int a0] w (some (.int (X12_isShire  a0 w))) w := by
  refine met_of pn_RX12 (Nat.le_of_ble_eq_true rfl) ?_
  intro κ hl hγ hA hρ
  subst hl; subst hγ; subst hA
  exact t_X12_isShire   a0 w ⟨_, X12_isShire_eq  a0 w, pI hρ rfl rfl⟩
theorem dX12_place_0 : decode cX12_place 0 = .ok (.iload_n 1, 1) := by decide +kernel
theorem dX12_place_1 : decode cX12_place 1 = .ok (.invokestatic 309, 3) := by decide +kernel
theorem dX12_place_4 : decode cX12_place 4 = .ok (.ifCond .ne 9, 3) := by decide +kernel
theorem dX12_place_7 : decode cX12_place 7 = .ok (.aload_n 0, 1) := by decide +kernel
theorem dX12_place_8 : decode cX12_place 8 = .ok (.iconst 1, 1) := by decide +kernel
theorem dX12_place_9 : decode cX12_place 9 = .ok (.invokevirtual 312, 3) := by decide +kernel
theorem dX12_place_12 : decode cX12_place 12 = .ok (.ireturn, 1) := by decide +kernel
theorem dX12_place_13 : decode cX12_place 13 = .ok (.aload_n 0, 1) := by decide +kernel
theorem dX12_place_14 : decode cX12_place 14 = .ok (.getfield 297, 3) := by decide +kernel
theorem dX12_place_17 : decode cX12_place 17 = .ok (.bipush 16, 2) := by decide +kernel
theorem dX12_place_19 : decode cX12_place 19 = .ok (.if_icmp .ne 9, 3) := by decide +kernel
theorem dX12_place_22 : decode cX12_place 22 = .ok (.aload_n 0, 1) := by decide +kernel
theorem dX12_place_23 : decode cX12_place 23 = .ok (.iconst 4, 1) := by decide +kernel
theorem dX12_place_24 : decode cX12_place 24 = .ok (.invokevirtual 312, 3) := by decide +kernel
theorem dX12_place_27 : decode cX12_place 27 = .ok (.ireturn, 1) := by decide +kernel
theorem dX12_place_28 : decode cX12_place 28 = .ok (.aload_n 0, 1) := by decide +kernel
theorem dX12_place_29 : decode cX12_place 29 = .ok (.getfield 24, 3) := by decide +kernel
theorem dX12_place_32 : decode cX12_place 32 = .ok (.aload_n 0, 1) := by decide +kernel
theorem dX12_place_33 : decode cX12_place 33 = .ok (.getfield 297, 3) := by decide +kernel
theorem dX12_place_36 : decode cX12_place 36 = .ok (.iload_n 1, 1) := by decide +kernel
theorem dX12_place_37 : decode cX12_place 37 = .ok (.iastore, 1) := by decide +kernel
theorem dX12_place_38 : decode cX12_place 38 = .ok (.aload_n 0, 1) := by decide +kernel
theorem dX12_place_39 : decode cX12_place 39 = .ok (.dup, 1) := by decide +kernel
theorem dX12_place_40 : decode cX12_place 40 = .ok (.getfield 297, 3) := by decide +kernel
theorem dX12_place_43 : decode cX12_place 43 = .ok (.iconst 1, 1) := by decide +kernel
theorem dX12_place_44 : decode cX12_place 44 = .ok (.iadd, 1) := by decide +kernel
theorem dX12_place_45 : decode cX12_place 45 = .ok (.putfield 297, 3) := by decide +kernel
theorem dX12_place_48 : decode cX12_place 48 = .ok (.aload_n 0, 1) := by decide +kernel
theorem dX12_place_49 : decode cX12_place 49 = .ok (.aload_n 0, 1) := by decide +kernel
theorem dX12_place_50 : decode cX12_place 50 = .ok (.getfield 297, 3) := by decide +kernel
theorem dX12_place_53 : decode cX12_place 53 = .ok (.iconst 1, 1) := by decide +kernel
theorem dX12_place_54 : decode cX12_place 54 = .ok (.isub, 1) := by decide +kernel
theorem dX12_place_55 : decode cX12_place 55 = .ok (.invokevirtual 316, 3) := by decide +kernel
theorem dX12_place_58 : decode cX12_place 58 = .ok (.ireturn, 1) := by decide +kernel
noncomputable def X12_place (a1 : Int32) (w : Wd) : Option (Int32 × Wd) :=
(if (X12_isShire a1 w) = 0 then
(X12_refuse (1 : Int32) w).bind fun q7 =>
some (q7.1, q7.2)
else
(if (w.1 97 4) = (16 : Int32) then
(X12_refuse (4 : Int32) w).bind fun q5 =>
some (q5.1, q5.2)
else
gd (vp_in (w.1 97 4) 16) <|
(some (puI w 101 (ix (w.1 97 4)) a1)).bind fun w1 =>
(some (puI w1 97 4 ((w1.1 97 4) + (1 : Int32)))).bind fun w2 =>
(X12_gives ((w2.1 97 4) - (1 : Int32)) w2).bind fun q3 =>
some (q3.1, q3.2)))
set_option maxRecDepth 20000 in
set_option maxHeartbeats 1000000 in
theorem t_X12_place {κ : Kx} (a1 : Int32) (w : Wd) (h : ok (X12_place  a1 w) (PIw κ)) : J κ RX12 cX12_place 2 (some .int) (rmk 1 21) 0 [(0, .ref (ad (gm κ) 97)), (1, .int a1)] [] w := by
  unfold X12_place at h
  refine j_iload_n 1 dX12_place_0 rfl rfl ?_
  refine j_callS (As := [.int a1]) (st := []) [.int (X12_isShire a1 w)] (c_X12_isShire (kl κ) (gm κ) (kA κ) a1 w) ck_RX12_309 st_X12_isShire ⟨rfl, rfl⟩ ⟨by decide, by decide⟩ rfl rfl (Nat.le_of_ble_eq_true rfl) dX12_place_1 _ rfl ?_
  refine j_if_ne 13 dX12_place_4 (by decide) h (fun h => ?_) (fun h => ?_)
  · refine j_aload_n 0 dX12_place_13 rfl rfl ?_
    refine j_getI fl_RX12_297 sh_97 fk_97_4 dX12_place_14 ?_
    refine j_bipush (16 : Int32) dX12_place_17 kb_16 ?_
    refine j_ic_ne 28 dX12_place_19 (by decide) h (fun h => ?_) (fun h => ?_)
    · refine j_aload_n 0 dX12_place_28 rfl rfl ?_
      refine j_getA 101 fl_RX12_24 sh_97 fk_97_12 (by decide) dX12_place_29 ?_
      refine j_aload_n 0 dX12_place_32 rfl rfl ?_
      refine j_getI fl_RX12_297 sh_97 fk_97_4 dX12_place_33 ?_
      refine j_iload_n 1 dX12_place_36 rfl rfl ?_
      refine j_iast sh_101 dX12_place_37 h (fun h => ?_)
      refine j_lW h (fun w1 h => ?_)
      refine j_aload_n 0 dX12_place_38 rfl rfl ?_
      refine j_dup dX12_place_39 rfl ?_
      refine j_getI fl_RX12_297 sh_97 fk_97_4 dX12_place_40 ?_
      refine j_iconst (1 : Int32) dX12_place_43 ki_1 ?_
      refine j_iadd dX12_place_44 ?_
      refine j_putI fp_RX12_297 sh_97 fk_97_4 dX12_place_45 ?_
      refine j_lW h (fun w2 h => ?_)
      refine j_aload_n 0 dX12_place_48 rfl rfl ?_
      refine j_aload_n 0 dX12_place_49 rfl rfl ?_
      refine j_getI fl_RX12_297 sh_97 fk_97_4 dX12_place_50 ?_
      refine j_iconst (1 : Int32) dX12_place_53 ki_1 ?_
      refine j_isub dX12_place_54 ?_
      obtain ⟨q3, e4, h⟩ := ok_b h
      refine j_callV (As := [.int ((w2.1 97 4) - (1 : Int32))]) (st := []) [.int q3.1] (c_X12_gives (kl κ) (gm κ) (kA κ) ((w2.1 97 4) - (1 : Int32)) w2 q3 e4) ck_RX12_316 im_X12_gives se_X12_gives sh_97 cx_12 ⟨rfl, rfl⟩ ⟨by decide, by decide⟩ rfl rfl (Nat.le_of_ble_eq_true rfl) dX12_place_55 _ rfl ?_
      have h := ok_s h
      exact j_iret dX12_place_58 rfl rfl h
    · refine j_aload_n 0 dX12_place_22 rfl rfl ?_
      refine j_iconst (4 : Int32) dX12_place_23 ki_4 ?_
      obtain ⟨q5, e6, h⟩ := ok_b h
      refine j_callV (As := [.int (4 : Int32)]) (st := []) [.int q5.1] (c_X12_refuse (kl κ) (gm κ) (kA κ) (4 : Int32) w q5 e6) ck_RX12_312 im_X12_refuse se_X12_refuse sh_97 cx_12 ⟨rfl, rfl⟩ ⟨by decide, by decide⟩ rfl rfl (Nat.le_of_ble_eq_true rfl) dX12_place_24 _ rfl ?_
      have h := ok_s h
      exact j_iret dX12_place_27 rfl rfl h
  · refine j_aload_n 0 dX12_place_7 rfl rfl ?_
    refine j_iconst (1 : Int32) dX12_place_8 ki_1 ?_
    obtain ⟨q7, e8, h⟩ := ok_b h
    refine j_callV (As := [.int (1 : Int32)]) (st := []) [.int q7.1] (c_X12_refuse (kl κ) (gm κ) (kA κ) (1 : Int32) w q7 e8) ck_RX12_312 im_X12_refuse se_X12_refuse sh_97 cx_12 ⟨rfl, rfl⟩ ⟨by decide, by decide⟩ rfl rfl (Nat.le_of_ble_eq_true rfl) dX12_place_9 _ rfl ?_
    have h := ok_s h
    exact j_iret dX12_place_12 rfl rfl h
theorem c_X12_place (l : Launch) (γ : Gm) (A : Nat → Prop) (a1 : Int32) (w : Wd) (q : Int32 × Wd) (e : X12_place  a1 w = some q) : MetG l γ A yX12_place cX12_place 2 (some .int) (rmk 1 21) [.ref (ad (γ) 97), .int a1] w (some (.int q.1)) q.2 := by
  refine met_of pn_RX12 (Nat.le_of_ble_eq_true rfl) ?_
  intro κ hl hγ hA hρ
  subst hl; subst hγ; subst hA
  exact t_X12_place   a1 w ⟨q, e, pIw hρ rfl rfl⟩
