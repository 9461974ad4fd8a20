theorem dX12_inWords_0 : decode cX12_inWords 0 = .ok (.aload_n 0, 1) := by decide +kernel
theorem dX12_inWords_1 : decode cX12_inWords 1 = .ok (.getfield 380, 3) := by decide +kernel
theorem dX12_inWords_4 : decode cX12_inWords 4 = .ok (.iconst 2, 1) := by decide +kernel
theorem dX12_inWords_5 : decode cX12_inWords 5 = .ok (.if_icmp .eq 5, 3) := by decide +kernel
theorem dX12_inWords_8 : decode cX12_inWords 8 = .ok (.iconst (-1), 1) := by decide +kernel
theorem dX12_inWords_9 : decode cX12_inWords 9 = .ok (.ireturn, 1) := by decide +kernel
theorem dX12_inWords_10 : decode cX12_inWords 10 = .ok (.iconst 0, 1) := by decide +kernel
theorem dX12_inWords_11 : decode cX12_inWords 11 = .ok (.istore_n 2, 1) := by decide +kernel
theorem dX12_inWords_12 : decode cX12_inWords 12 = .ok (.iconst 1, 1) := by decide +kernel
theorem dX12_inWords_13 : decode cX12_inWords 13 = .ok (.istore_n 3, 1) := by decide +kernel
theorem dX12_inWords_14 : decode cX12_inWords 14 = .ok (.iload_n 3, 1) := by decide +kernel
theorem dX12_inWords_15 : decode cX12_inWords 15 = .ok (.aload_n 1, 1) := by decide +kernel
theorem dX12_inWords_16 : decode cX12_inWords 16 = .ok (.invokevirtual 395, 3) := by decide +kernel
theorem dX12_inWords_19 : decode cX12_inWords 19 = .ok (.if_icmp .ge 114, 3) := by decide +kernel
theorem dX12_inWords_22 : decode cX12_inWords 22 = .ok (.iload_n 3, 1) := by decide +kernel
theorem dX12_inWords_23 : decode cX12_inWords 23 = .ok (.istore 4, 2) := by decide +kernel
theorem dX12_inWords_25 : decode cX12_inWords 25 = .ok (.aload_n 1, 1) := by decide +kernel
theorem dX12_inWords_26 : decode cX12_inWords 26 = .ok (.iload 4, 2) := by decide +kernel
theorem dX12_inWords_28 : decode cX12_inWords 28 = .ok (.invokevirtual 401, 3) := by decide +kernel
theorem dX12_inWords_31 : decode cX12_inWords 31 = .ok (.bipush 32, 2) := by decide +kernel
theorem dX12_inWords_33 : decode cX12_inWords 33 = .ok (.if_icmp .eq 9, 3) := by decide +kernel
theorem dX12_inWords_36 : decode cX12_inWords 36 = .ok (.iinc 4 1, 3) := by decide +kernel
theorem dX12_inWords_39 : decode cX12_inWords 39 = .ok (.goto (-14), 3) := by decide +kernel
theorem dX12_inWords_42 : decode cX12_inWords 42 = .ok (.iload 4, 2) := by decide +kernel
theorem dX12_inWords_44 : decode cX12_inWords 44 = .ok (.iload_n 3, 1) := by decide +kernel
theorem dX12_inWords_45 : decode cX12_inWords 45 = .ok (.isub, 1) := by decide +kernel
theorem dX12_inWords_46 : decode cX12_inWords 46 = .ok (.aload_n 0, 1) := by decide +kernel
theorem dX12_inWords_47 : decode cX12_inWords 47 = .ok (.getfield 368, 3) := by decide +kernel
theorem dX12_inWords_50 : decode cX12_inWords 50 = .ok (.aload_n 0, 1) := by decide +kernel
theorem dX12_inWords_51 : decode cX12_inWords 51 = .ok (.getfield 374, 3) := by decide +kernel
theorem dX12_inWords_54 : decode cX12_inWords 54 = .ok (.isub, 1) := by decide +kernel
theorem dX12_inWords_55 : decode cX12_inWords 55 = .ok (.if_icmp .ne 7, 3) := by decide +kernel
theorem dX12_inWords_58 : decode cX12_inWords 58 = .ok (.iconst 1, 1) := by decide +kernel
theorem dX12_inWords_59 : decode cX12_inWords 59 = .ok (.goto 4, 3) := by decide +kernel
theorem dX12_inWords_62 : decode cX12_inWords 62 = .ok (.iconst 0, 1) := by decide +kernel
theorem dX12_inWords_63 : decode cX12_inWords 63 = .ok (.istore 5, 2) := by decide +kernel
theorem dX12_inWords_65 : decode cX12_inWords 65 = .ok (.iload_n 3, 1) := by decide +kernel
theorem dX12_inWords_66 : decode cX12_inWords 66 = .ok (.istore 6, 2) := by decide +kernel
theorem dX12_inWords_68 : decode cX12_inWords 68 = .ok (.iload 6, 2) := by decide +kernel
theorem dX12_inWords_70 : decode cX12_inWords 70 = .ok (.iload 4, 2) := by decide +kernel
theorem dX12_inWords_72 : decode cX12_inWords 72 = .ok (.if_icmp .ge 43, 3) := by decide +kernel
theorem dX12_inWords_75 : decode cX12_inWords 75 = .ok (.iload 5, 2) := by decide +kernel
theorem dX12_inWords_77 : decode cX12_inWords 77 = .ok (.ifCond .eq 38, 3) := by decide +kernel
theorem dX12_inWords_80 : decode cX12_inWords 80 = .ok (.aload_n 1, 1) := by decide +kernel
theorem dX12_inWords_81 : decode cX12_inWords 81 = .ok (.iload 6, 2) := by decide +kernel
theorem dX12_inWords_83 : decode cX12_inWords 83 = .ok (.invokevirtual 401, 3) := by decide +kernel
theorem dX12_inWords_86 : decode cX12_inWords 86 = .ok (.aload_n 0, 1) := by decide +kernel
theorem dX12_inWords_87 : decode cX12_inWords 87 = .ok (.aload_n 0, 1) := by decide +kernel
theorem dX12_inWords_88 : decode cX12_inWords 88 = .ok (.getfield 374, 3) := by decide +kernel
theorem dX12_inWords_91 : decode cX12_inWords 91 = .ok (.iload 6, 2) := by decide +kernel
theorem dX12_inWords_93 : decode cX12_inWords 93 = .ok (.iadd, 1) := by decide +kernel
theorem dX12_inWords_94 : decode cX12_inWords 94 = .ok (.iload_n 3, 1) := by decide +kernel
theorem dX12_inWords_95 : decode cX12_inWords 95 = .ok (.isub, 1) := by decide +kernel
theorem dX12_inWords_96 : decode cX12_inWords 96 = .ok (.invokevirtual 371, 3) := by decide +kernel
theorem dX12_inWords_99 : decode cX12_inWords 99 = .ok (.if_icmp .ne 7, 3) := by decide +kernel
theorem dX12_inWords_102 : decode cX12_inWords 102 = .ok (.iconst 1, 1) := by decide +kernel
theorem dX12_inWords_103 : decode cX12_inWords 103 = .ok (.goto 4, 3) := by decide +kernel
theorem dX12_inWords_106 : decode cX12_inWords 106 = .ok (.iconst 0, 1) := by decide +kernel
theorem dX12_inWords_107 : decode cX12_inWords 107 = .ok (.istore 5, 2) := by decide +kernel
theorem dX12_inWords_109 : decode cX12_inWords 109 = .ok (.iinc 6 1, 3) := by decide +kernel
theorem dX12_inWords_112 : decode cX12_inWords 112 = .ok (.goto (-44), 3) := by decide +kernel
theorem dX12_inWords_115 : decode cX12_inWords 115 = .ok (.iload 5, 2) := by decide +kernel
theorem dX12_inWords_117 : decode cX12_inWords 117 = .ok (.ifCond .eq 5, 3) := by decide +kernel
theorem dX12_inWords_120 : decode cX12_inWords 120 = .ok (.iload_n 2, 1) := by decide +kernel
theorem dX12_inWords_121 : decode cX12_inWords 121 = .ok (.ireturn, 1) := by decide +kernel
theorem dX12_inWords_122 : decode cX12_inWords 122 = .ok (.iinc 2 1, 3) := by decide +kernel
theorem dX12_inWords_125 : decode cX12_inWords 125 = .ok (.iload 4, 2) := by decide +kernel
theorem dX12_inWords_127 : decode cX12_inWords 127 = .ok (.iconst 1, 1) := by decide +kernel
theorem dX12_inWords_128 : decode cX12_inWords 128 = .ok (.iadd, 1) := by decide +kernel
theorem dX12_inWords_129 : decode cX12_inWords 129 = .ok (.istore_n 3, 1) := by decide +kernel
theorem dX12_inWords_130 : decode cX12_inWords 130 = .ok (.goto (-116), 3) := by decide +kernel
theorem dX12_inWords_133 : decode cX12_inWords 133 = .ok (.iconst (-1), 1) := by decide +kernel
theorem dX12_inWords_134 : decode cX12_inWords 134 = .ok (.ireturn, 1) := by decide +kernel
noncomputable def X12_inWords_b25 (ti : Nat) (a2 : Int32) (a3 : Int32) (w : Wd) (s : Int32) : Option (Int32 ⊕ Int32) :=
(J0_charAt_5068e ti s w).bind fun q1 =>
(if q1 = (32 : Int32) then
some (.inr s)
else
some (.inl (s + (1 : Int32))))
set_option maxRecDepth 20000 in
set_option maxHeartbeats 1000000 in
theorem t_X12_inWords_b25 {κ : Kx} (ti : Nat) (hti : ti < 4) (a2 : Int32) (a3 : Int32) (w : Wd) {P : Int32 → Prop} (K0 : ∀ e, P e → J κ RX12 cX12_inWords 7 (some .int) (rmk 4 85) 42 [(0, .ref (ad (gm κ) 97)), (1, .ref (sK (gm κ) ti)), (2, .int a2), (3, .int a3), (4, .int e)] [] w) (s : Int32) (h : ok (lp (X12_inWords_b25 ti a2 a3 w) s) P) : J κ RX12 cX12_inWords 7 (some .int) (rmk 4 85) 25 [(0, .ref (ad (gm κ) 97)), (1, .ref (sK (gm κ) ti)), (2, .int a2), (3, .int a3), (4, .int s)] [] w := by
  refine lp_ind (fun s => J κ RX12 cX12_inWords 7 (some .int) (rmk 4 85) 25 [(0, .ref (ad (gm κ) 97)), (1, .ref (sK (gm κ) ti)), (2, .int a2), (3, .int a3), (4, .int s)] [] w) (fun s h => ?_) s h
  unfold X12_inWords_b25 at h
  refine j_aload_n 1 dX12_inWords_25 rfl rfl ?_
  refine j_iload 4 dX12_inWords_26 rfl ?_
  obtain ⟨q1, e2, h⟩ := ok_b h
  refine j_callT (As := [.int s]) (st := []) [.int q1] (c_J0_charAt_5068e (kl κ) (gm κ) (kA κ) ti hti s w q1 e2) ck_RX12_401 im_J0_charAt_5068e se_J0_charAt_5068e hti rfl ⟨rfl, rfl⟩ ⟨by decide, by decide⟩ rfl rfl (Nat.le_of_ble_eq_true rfl) dX12_inWords_28 _ rfl ?_
  refine j_bipush (32 : Int32) dX12_inWords_31 kb_32 ?_
  refine j_ic_eq 42 dX12_inWords_33 (by decide) h (fun h => ?_) (fun h => ?_)
  · refine j_loc [(0, .ref (ad (gm κ) 97)), (1, .ref (sK (gm κ) ti)), (2, .int a2), (3, .int a3), (4, .int s)] [0, 1, 2, 3, 4] rfl ?_
    have h := sel_r h
    have h := K0 _ h
    exact h
  · refine j_iinc (s + (1 : Int32)) 4 [(4, .int (s + (1 : Int32))), (0, .ref (ad (gm κ) 97)), (1, .ref (sK (gm κ) ti)), (2, .int a2), (3, .int a3)] dX12_inWords_36 rfl (by rw [kn_1]) (by decide) rfl ?_
    refine j_goto 25 dX12_inWords_39 (by decide) ?_
    refine j_loc [(0, .ref (ad (gm κ) 97)), (1, .ref (sK (gm κ) ti)), (2, .int a2), (3, .int a3), (4, .int (s + (1 : Int32)))] [1, 2, 3, 4, 0] rfl ?_
    have h := sel_l h
    exact h
noncomputable def X12_inWords_j107 (ti : Nat) (a2 : Int32) (a3 : Int32) (a4 : Int32) (a6 : Int32) (s0 : Int32) (w : Wd) : Option ((Int32 × Int32) ⊕ Int32) :=
some (.inl (s0, (a6 + (1 : Int32))))
set_option maxRecDepth 20000 in
set_option maxHeartbeats 1000000 in
theorem t_X12_inWords_j107 {κ : Kx} (ti : Nat) (hti : ti < 4) (a2 : Int32) (a3 : Int32) (a4 : Int32) (a6 : Int32) (s0 : Int32) (w : Wd) {G : (Int32 × Int32) → Prop} {P : Int32 → Prop} (KG : ∀ s, G s → J κ RX12 cX12_inWords 7 (some .int) (rmk 4 85) 68 [(0, .ref (ad (gm κ) 97)), (1, .ref (sK (gm κ) ti)), (2, .int a2), (3, .int a3), (4, .int a4), (5, .int s.1), (6, .int s.2)] [] w) (K0 : ∀ e, P e → J κ RX12 cX12_inWords 7 (some .int) (rmk 4 85) 115 [(0, .ref (ad (gm κ) 97)), (1, .ref (sK (gm κ) ti)), (2, .int a2), (4, .int a4), (5, .int e)] [] w) (h : ok (X12_inWords_j107 ti a2 a3 a4 a6 s0 w) (sel G P)) : J κ RX12 cX12_inWords 7 (some .int) (rmk 4 85) 107 [(0, .ref (ad (gm κ) 97)), (1, .ref (sK (gm κ) ti)), (2, .int a2), (3, .int a3), (4, .int a4), (6, .int a6)] [.int s0] w := by
  unfold X12_inWords_j107 at h
  refine j_istore [(5, .int s0), (0, .ref (ad (gm κ) 97)), (1, .ref (sK (gm κ) ti)), (2, .int a2), (3, .int a3), (4, .int a4), (6, .int a6)] dX12_inWords_107 (by decide) rfl ?_
  refine j_iinc (a6 + (1 : Int32)) 6 [(6, .int (a6 + (1 : Int32))), (5, .int s0), (0, .ref (ad (gm κ) 97)), (1, .ref (sK (gm κ) ti)), (2, .int a2), (3, .int a3), (4, .int a4)] dX12_inWords_109 rfl (by rw [kn_1]) (by decide) rfl ?_
  refine j_goto 68 dX12_inWords_112 (by decide) ?_
  refine j_loc [(0, .ref (ad (gm κ) 97)), (1, .ref (sK (gm κ) ti)), (2, .int a2), (3, .int a3), (4, .int a4), (5, .int s0), (6, .int (a6 + (1 : Int32)))] [2, 3, 4, 5, 6, 1, 0] rfl ?_
  have h := sel_l h
  have h := KG _ h
  exact h
noncomputable def X12_inWords_b68 (ti : Nat) (a2 : Int32) (a3 : Int32) (a4 : Int32) (w : Wd) (s : (Int32 × Int32)) : Option ((Int32 × Int32) ⊕ Int32) :=
(if a4 ≤ s.2 then
some (.inr s.1)
else
(if s.1 = 0 then
some (.inr s.1)
else
(J0_charAt_5068e ti s.2 w).bind fun q4 =>
(X12_at (((w.1 97 36) + s.2) - a3) w).bind fun q6 =>
(if q4 = q6 then
X12_inWords_j107 ti a2 a3 a4 s.2 (1 : Int32) w
else
X12_inWords_j107 ti a2 a3 a4 s.2 (0 : Int32) w)))
set_option maxRecDepth 20000 in
set_option maxHeartbeats 1000000 in
theorem t_X12_inWords_b68 {κ : Kx} (ti : Nat) (hti : ti < 4) (a2 : Int32) (a3 : Int32) (a4 : Int32) (w : Wd) {P : Int32 → Prop} (K0 : ∀ e, P e → J κ RX12 cX12_inWords 7 (some .int) (rmk 4 85) 115 [(0, .ref (ad (gm κ) 97)), (1, .ref (sK (gm κ) ti)), (2, .int a2), (4, .int a4), (5, .int e)] [] w) (s : (Int32 × Int32)) (h : ok (lp (X12_inWords_b68 ti a2 a3 a4 w) s) P) : J κ RX12 cX12_inWords 7 (some .int) (rmk 4 85) 68 [(0, .ref (ad (gm κ) 97)), (1, .ref (sK (gm κ) ti)), (2, .int a2), (3, .int a3), (4, .int a4), (5, .int s.1), (6, .int s.2)] [] w := by
  refine lp_ind (fun s => J κ RX12 cX12_inWords 7 (some .int) (rmk 4 85) 68 [(0, .ref (ad (gm κ) 97)), (1, .ref (sK (gm κ) ti)), (2, .int a2), (3, .int a3), (4, .int a4), (5, .int s.1), (6, .int s.2)] [] w) (fun s h => ?_) s h
  unfold X12_inWords_b68 at h
  refine j_iload 6 dX12_inWords_68 rfl ?_
  refine j_iload 4 dX12_inWords_70 rfl ?_
  refine j_ic_ge 115 dX12_inWords_72 (by decide) h (fun h => ?_) (fun h => ?_)
  · refine j_loc [(0, .ref (ad (gm κ) 97)), (1, .ref (sK (gm κ) ti)), (2, .int a2), (4, .int a4), (5, .int s.1)] [0, 1, 2, 4, 5] rfl ?_
    have h := sel_r h
    have h := K0 _ h
    exact h
  · refine j_iload 5 dX12_inWords_75 rfl ?_
    refine j_if_eq 115 dX12_inWords_77 (by decide) h (fun h => ?_) (fun h => ?_)
    · refine j_loc [(0, .ref (ad (gm κ) 97)), (1, .ref (sK (gm κ) ti)), (2, .int a2), (4, .int a4), (5, .int s.1)] [0, 1, 2, 4, 5] rfl ?_
      have h := sel_r h
      have h := K0 _ h
      exact h
    · refine j_aload_n 1 dX12_inWords_80 rfl rfl ?_
      refine j_iload 6 dX12_inWords_81 rfl ?_
      obtain ⟨q4, e5, h⟩ := ok_b h
      refine j_callT (As := [.int s.2]) (st := []) [.int q4] (c_J0_charAt_5068e (kl κ) (gm κ) (kA κ) ti hti s.2 w q4 e5) ck_RX12_401 im_J0_charAt_5068e se_J0_charAt_5068e hti rfl ⟨rfl, rfl⟩ ⟨by decide, by decide⟩ rfl rfl (Nat.le_of_ble_eq_true rfl) dX12_inWords_83 _ rfl ?_
      refine j_aload_n 0 dX12_inWords_86 rfl rfl ?_
      refine j_aload_n 0 dX12_inWords_87 rfl rfl ?_
      refine j_getI fl_RX12_374 sh_97 fk_97_36 dX12_inWords_88 ?_
      refine j_iload 6 dX12_inWords_91 rfl ?_
      refine j_iadd dX12_inWords_93 ?_
      refine j_iload_n 3 dX12_inWords_94 rfl rfl ?_
      refine j_isub dX12_inWords_95 ?_
      obtain ⟨q6, e7, h⟩ := ok_b h
      refine j_callV (As := [.int (((w.1 97 36) + s.2) - a3)]) (st := [.int q4]) [.int q6, .int q4] (c_X12_at (kl κ) (gm κ) (kA κ) (((w.1 97 36) + s.2) - a3) w q6 e7) ck_RX12_371 im_X12_at se_X12_at sh_97 cx_12 ⟨rfl, rfl⟩ ⟨by decide, by decide⟩ rfl rfl (Nat.le_of_ble_eq_true rfl) dX12_inWords_96 _ rfl ?_
      refine j_ic_ne 106 dX12_inWords_99 (by decide) h (fun h => ?_) (fun h => ?_)
      · refine j_iconst (0 : Int32) dX12_inWords_106 ki_0 ?_
        refine j_loc [(0, .ref (ad (gm κ) 97)), (1, .ref (sK (gm κ) ti)), (2, .int a2), (3, .int a3), (4, .int a4), (6, .int s.2)] [0, 1, 2, 3, 4, 6] rfl ?_
        exact t_X12_inWords_j107 ti hti a2 a3 a4 s.2 (0 : Int32) w (fun _ h => h) K0 h
      · refine j_iconst (1 : Int32) dX12_inWords_102 ki_1 ?_
        refine j_goto 107 dX12_inWords_103 (by decide) ?_
        refine j_loc [(0, .ref (ad (gm κ) 97)), (1, .ref (sK (gm κ) ti)), (2, .int a2), (3, .int a3), (4, .int a4), (6, .int s.2)] [0, 1, 2, 3, 4, 6] rfl ?_
        exact t_X12_inWords_j107 ti hti a2 a3 a4 s.2 (1 : Int32) w (fun _ h => h) K0 h
noncomputable def X12_inWords_j63 (ti : Nat) (a2 : Int32) (a3 : Int32) (a4 : Int32) (s0 : Int32) (w : Wd) : Option ((Int32 × Int32) ⊕ (Int32 ⊕ Unit)) :=
(lp (X12_inWords_b68 ti a2 a3 a4 w) (s0, a3)).bind fun e8 =>
(if e8 = 0 then
some (.inl ((a2 + (1 : Int32)), (a4 + (1 : Int32))))
else
some (.inr (.inl a2)))
set_option maxRecDepth 20000 in
set_option maxHeartbeats 1000000 in
theorem t_X12_inWords_j63 {κ : Kx} (ti : Nat) (hti : ti < 4) (a2 : Int32) (a3 : Int32) (a4 : Int32) (s0 : Int32) (w : Wd) {G : (Int32 × Int32) → Prop} {P : (Int32 ⊕ Unit) → Prop} (KG : ∀ s, G s → J κ RX12 cX12_inWords 7 (some .int) (rmk 4 85) 14 [(0, .ref (ad (gm κ) 97)), (1, .ref (sK (gm κ) ti)), (2, .int s.1), (3, .int s.2)] [] w) (K0 : ∀ e, P (.inl e) → J κ RX12 cX12_inWords 7 (some .int) (rmk 4 85) 120 [(2, .int e)] [] w) (K1 : ∀ e, P (.inr e) → J κ RX12 cX12_inWords 7 (some .int) (rmk 4 85) 133 [] [] w) (h : ok (X12_inWords_j63 ti a2 a3 a4 s0 w) (sel G P)) : J κ RX12 cX12_inWords 7 (some .int) (rmk 4 85) 63 [(0, .ref (ad (gm κ) 97)), (1, .ref (sK (gm κ) ti)), (2, .int a2), (3, .int a3), (4, .int a4)] [.int s0] w := by
  unfold X12_inWords_j63 at h
  refine j_istore [(5, .int s0), (0, .ref (ad (gm κ) 97)), (1, .ref (sK (gm κ) ti)), (2, .int a2), (3, .int a3), (4, .int a4)] dX12_inWords_63 (by decide) rfl ?_
  refine j_iload_n 4 dX12_inWords_65 rfl rfl ?_
  refine j_istore [(6, .int a3), (5, .int s0), (0, .ref (ad (gm κ) 97)), (1, .ref (sK (gm κ) ti)), (2, .int a2), (3, .int a3), (4, .int a4)] dX12_inWords_66 (by decide) rfl ?_
  refine j_loc [(0, .ref (ad (gm κ) 97)), (1, .ref (sK (gm κ) ti)), (2, .int a2), (3, .int a3), (4, .int a4), (5, .int s0), (6, .int a3)] [2, 3, 4, 5, 6, 1, 0] rfl ?_
  refine t_X12_inWords_b68 ti hti a2 a3 a4 w (fun e8 h => ?_) (s0, a3) (ok_bb h)
  · refine j_iload 4 dX12_inWords_115 rfl ?_
    refine j_if_eq 122 dX12_inWords_117 (by decide) h (fun h => ?_) (fun h => ?_)
    · refine j_iinc (a2 + (1 : Int32)) 2 [(2, .int (a2 + (1 : Int32))), (0, .ref (ad (gm κ) 97)), (1, .ref (sK (gm κ) ti)), (4, .int a4), (5, .int e8)] dX12_inWords_122 rfl (by rw [kn_1]) (by decide) rfl ?_
      refine j_iload 3 dX12_inWords_125 rfl ?_
      refine j_iconst (1 : Int32) dX12_inWords_127 ki_1 ?_
      refine j_iadd dX12_inWords_128 ?_
      refine j_istore_n [(3, .int (a4 + (1 : Int32))), (2, .int (a2 + (1 : Int32))), (0, .ref (ad (gm κ) 97)), (1, .ref (sK (gm κ) ti)), (4, .int a4), (5, .int e8)] dX12_inWords_129 rfl (by decide) rfl ?_
      refine j_goto 14 dX12_inWords_130 (by decide) ?_
      refine j_loc [(0, .ref (ad (gm κ) 97)), (1, .ref (sK (gm κ) ti)), (2, .int (a2 + (1 : Int32))), (3, .int (a4 + (1 : Int32)))] [2, 3, 1, 0] rfl ?_
      have h := sel_l h
      have h := KG _ h
      exact h
    · refine j_loc [(2, .int a2)] [2] rfl ?_
      have h := sel_r h
      have h := K0 _ h
      exact h
noncomputable def X12_inWords_b14 (ti : Nat) (w : Wd) (s : (Int32 × Int32)) : Option ((Int32 × Int32) ⊕ (Int32 ⊕ Unit)) :=
(if (J0_length_8abf5 ti w) ≤ s.2 then
some (.inr (.inr ()))
else
(lp (X12_inWords_b25 ti s.1 s.2 w) s.2).bind fun e3 =>
(if (e3 - s.2) = ((w.1 97 37) - (w.1 97 36)) then
X12_inWords_j63 ti s.1 s.2 e3 (1 : Int32) w
else
X12_inWords_j63 ti s.1 s.2 e3 (0 : Int32) w))
set_option maxRecDepth 20000 in
set_option maxHeartbeats 1000000 in
theorem t_X12_inWords_b14 {κ : Kx} (ti : Nat) (hti : ti < 4) (w : Wd) {P : (Int32 ⊕ Unit) → Prop} (K0 : ∀ e, P (.inl e) → J κ RX12 cX12_inWords 7 (some .int) (rmk 4 85) 120 [(2, .int e)] [] w) (K1 : ∀ e, P (.inr e) → J κ RX12 cX12_inWords 7 (some .int) (rmk 4 85) 133 [] [] w) (s : (Int32 × Int32)) (h : ok (lp (X12_inWords_b14 ti w) s) P) : J κ RX12 cX12_inWords 7 (some .int) (rmk 4 85) 14 [(0, .ref (ad (gm κ) 97)), (1, .ref (sK (gm κ) ti)), (2, .int s.1), (3, .int s.2)] [] w := by
  refine lp_ind (fun s => J κ RX12 cX12_inWords 7 (some .int) (rmk 4 85) 14 [(0, .ref (ad (gm κ) 97)), (1, .ref (sK (gm κ) ti)), (2, .int s.1), (3, .int s.2)] [] w) (fun s h => ?_) s h
  unfold X12_inWords_b14 at h
  refine j_iload_n 3 dX12_inWords_14 rfl rfl ?_
  refine j_aload_n 1 dX12_inWords_15 rfl rfl ?_
  refine j_callT (As := []) (st := [.int s.2]) [.int (J0_length_8abf5 ti w), .int s.2] (c_J0_length_8abf5 (kl κ) (gm κ) (kA κ) ti hti w) ck_RX12_395 im_J0_length_8abf5 se_J0_length_8abf5 hti rfl ⟨rfl, rfl⟩ ⟨by decide, by decide⟩ rfl rfl (Nat.le_of_ble_eq_true rfl) dX12_inWords_16 _ rfl ?_
  refine j_ic_ge 133 dX12_inWords_19 (by decide) h (fun h => ?_) (fun h => ?_)
  · refine j_loc [] [] rfl ?_
    have h := sel_r h
    have h := K1 _ h
    exact h
  · refine j_iload_n 3 dX12_inWords_22 rfl rfl ?_
    refine j_istore [(4, .int s.2), (0, .ref (ad (gm κ) 97)), (1, .ref (sK (gm κ) ti)), (2, .int s.1), (3, .int s.2)] dX12_inWords_23 (by decide) rfl ?_
    refine j_loc [(0, .ref (ad (gm κ) 97)), (1, .ref (sK (gm κ) ti)), (2, .int s.1), (3, .int s.2), (4, .int s.2)] [1, 2, 3, 4, 0] rfl ?_
    refine t_X12_inWords_b25 ti hti s.1 s.2 w (fun e3 h => ?_) s.2 (ok_bb h)
    · refine j_iload 4 dX12_inWords_42 rfl ?_
      refine j_iload_n 3 dX12_inWords_44 rfl rfl ?_
      refine j_isub dX12_inWords_45 ?_
      refine j_aload_n 0 dX12_inWords_46 rfl rfl ?_
      refine j_getI fl_RX12_368 sh_97 fk_97_37 dX12_inWords_47 ?_
      refine j_aload_n 0 dX12_inWords_50 rfl rfl ?_
      refine j_getI fl_RX12_374 sh_97 fk_97_36 dX12_inWords_51 ?_
      refine j_isub dX12_inWords_54 ?_
      refine j_ic_ne 62 dX12_inWords_55 (by decide) h (fun h => ?_) (fun h => ?_)
      · refine j_iconst (0 : Int32) dX12_inWords_62 ki_0 ?_
        refine j_loc [(0, .ref (ad (gm κ) 97)), (1, .ref (sK (gm κ) ti)), (2, .int s.1), (3, .int s.2), (4, .int e3)] [0, 1, 2, 3, 4] rfl ?_
        exact t_X12_inWords_j63 ti hti s.1 s.2 e3 (0 : Int32) w (fun _ h => h) K0 K1 h
      · refine j_iconst (1 : Int32) dX12_inWords_58 ki_1 ?_
        refine j_goto 63 dX12_inWords_59 (by decide) ?_
        refine j_loc [(0, .ref (ad (gm κ) 97)), (1, .ref (sK (gm κ) ti)), (2, .int s.1), (3, .int s.2), (4, .int e3)] [0, 1, 2, 3, 4] rfl ?_
        exact t_X12_inWords_j63 ti hti s.1 s.2 e3 (1 : Int32) w (fun _ h => h) K0 K1 h
noncomputable def X12_inWords (ti : Nat) (w : Wd) : Option (Int32) :=
(if (w.1 97 35) = (2 : Int32) then
(lp (X12_inWords_b14 ti w) ((0 : Int32), (1 : Int32))).bind fun e9 => match e9 with
| (.inl e10) => (some e10)
| (.inr e11) => (some (-1 : Int32))
else
some (-1 : Int32))
set_option maxRecDepth 20000 in
set_option maxHeartbeats 1000000 in
theorem t_X12_inWords {κ : Kx} (ti : Nat) (hti : ti < 4) (w : Wd) (h : ok (X12_inWords ti  w) (PI κ w)) : J κ RX12 cX12_inWords 7 (some .int) (rmk 4 85) 0 [(0, .ref (ad (gm κ) 97)), (1, .ref (sK (gm κ) ti))] [] w := by
  unfold X12_inWords at h
  refine j_aload_n 0 dX12_inWords_0 rfl rfl ?_
  refine j_getI fl_RX12_380 sh_97 fk_97_35 dX12_inWords_1 ?_
  refine j_iconst (2 : Int32) dX12_inWords_4 ki_2 ?_
  refine j_ic_eq 10 dX12_inWords_5 (by decide) h (fun h => ?_) (fun h => ?_)
  · refine j_iconst (0 : Int32) dX12_inWords_10 ki_0 ?_
    refine j_istore_n [(2, .int (0 : Int32)), (0, .ref (ad (gm κ) 97)), (1, .ref (sK (gm κ) ti))] dX12_inWords_11 rfl (by decide) rfl ?_
    refine j_iconst (1 : Int32) dX12_inWords_12 ki_1 ?_
    refine j_istore_n [(3, .int (1 : Int32)), (2, .int (0 : Int32)), (0, .ref (ad (gm κ) 97)), (1, .ref (sK (gm κ) ti))] dX12_inWords_13 rfl (by decide) rfl ?_
    refine j_loc [(0, .ref (ad (gm κ) 97)), (1, .ref (sK (gm κ) ti)), (2, .int (0 : Int32)), (3, .int (1 : Int32))] [2, 3, 1, 0] rfl ?_
    refine t_X12_inWords_b14 ti hti w (fun e10 h => ?_) (fun e11 h => ?_) ((0 : Int32), (1 : Int32)) (ok_bb h)
    · refine j_iload_n 0 dX12_inWords_120 rfl rfl ?_
      have h := ok_s h
      exact j_iret dX12_inWords_121 rfl rfl h
    · refine j_iconst (-1 : Int32) dX12_inWords_133 ki_m1 ?_
      have h := ok_s h
      exact j_iret dX12_inWords_134 rfl rfl h
  · refine j_iconst (-1 : Int32) dX12_inWords_8 ki_m1 ?_
    have h := ok_s h
    exact j_iret dX12_inWords_9 rfl rfl h
theorem c_X12_inWords (l : Launch) (γ : Gm) (A : Nat → Prop) (ti : Nat) (hti : ti < 4) (w : Wd) (q : Int32) (e : X12_inWords ti  w = some q) : MetG l γ A yX12_inWords cX12_inWords 7 (some .int) (rmk 4 85) [.ref (ad (γ) 97), .ref (sK (γ) ti)] w (some (.int q)) w := by
  refine met_of pn_RX12 (Nat.le_of_ble_eq_true rfl) ?_
  intro κ hl hγ hA hρ
  subst hl; subst hγ; subst hA
  exact t_X12_inWords ti hti  w ⟨q, e, pI hρ rfl rfl⟩
theorem dX12_isKey_0 : decode cX12_isKey 0 = .ok (.aload_n 0, 1) := by decide +kernel
theorem dX12_isKey_1 : decode cX12_isKey 1 = .ok (.ldc_w 405, 3) := by decide +kernel
theorem dX12_isKey_4 : decode cX12_isKey 4 = .ok (.invokevirtual 407, 3) := by decide +kernel
theorem dX12_isKey_7 : decode cX12_isKey 7 = .ok (.iload_n 1, 1) := by decide +kernel
theorem dX12_isKey_8 : decode cX12_isKey 8 = .ok (.if_icmp .ne 7, 3) := by decide +kernel
theorem dX12_isKey_11 : decode cX12_isKey 11 = .ok (.iconst 1, 1) := by decide +kernel
theorem dX12_isKey_12 : decode cX12_isKey 12 = .ok (.goto 4, 3) := by decide +kernel
theorem dX12_isKey_15 : decode cX12_isKey 15 = .ok (.iconst 0, 1) := by decide +kernel
theorem dX12_isKey_16 : decode cX12_isKey 16 = .ok (.ireturn, 1) := by decide +kernel
noncomputable def X12_isKey (a1 : Int32) (w : Wd) : Option (Int32) :=
(X12_inWords 2 w).bind fun q1 =>
(if q1 = a1 then
some (1 : Int32)
else
some (0 : Int32))
set_option maxRecDepth 20000 in
set_option maxHeartbeats 1000000 in
theorem t_X12_isKey {κ : Kx} (a1 : Int32) (w : Wd) (h : ok (X12_isKey  a1 w) (PI κ w)) : J κ RX12 cX12_isKey 2 (some .boolean) (rmk 5 111) 0 [(0, .ref (ad (gm κ) 97)), (1, .int a1)] [] w := by
  unfold X12_isKey at h
  refine j_aload_n 0 dX12_isKey_0 rfl rfl ?_
  refine j_ldcSw (i := 2) rfl rfl rfl dX12_isKey_1 ?_
  obtain ⟨q1, e2, h⟩ := ok_b h
  refine j_callV (As := [.ref (sK (gm κ) 2)]) (st := []) [.int q1] (c_X12_inWords (kl κ) (gm κ) (kA κ) 2 (by decide) w q1 e2) ck_RX12_407 im_X12_inWords se_X12_inWords sh_97 cx_12 ⟨rfl, rfl⟩ ⟨by decide, by decide⟩ rfl rfl (Nat.le_of_ble_eq_true rfl) dX12_isKey_4 _ rfl ?_
  refine j_iload_n 1 dX12_isKey_7 rfl rfl ?_
  refine j_ic_ne 15 dX12_isKey_8 (by decide) h (fun h => ?_) (fun h => ?_)
  · refine j_iconst (0 : Int32) dX12_isKey_15 ki_0 ?_
    have h := ok_s h
    exact j_iret dX12_isKey_16 rfl (by decide) h
  · refine j_iconst (1 : Int32) dX12_isKey_11 ki_1 ?_
    refine j_goto 16 dX12_isKey_12 (by decide) ?_
    have h := ok_s h
    exact j_iret dX12_isKey_16 rfl (by decide) h
theorem c_X12_isKey (l : Launch) (γ : Gm) (A : Nat → Prop) (a1 : Int32) (w : Wd) (q : Int32) (e : X12_isKey  a1 w = some q) : MetG l γ A yX12_isKey cX12_isKey 2 (some .boolean) (rmk 5 111) [.ref (ad (γ) 97), .int a1] w (some (.int q)) w := by
  refine met_of pn_RX12 (Nat.le_of_ble_eq_true rfl) ?_
  intro κ hl hγ hA hρ
  subst hl; subst hγ; subst hA
  exact t_X12_isKey   a1 w ⟨q, e, pI hρ rfl rfl⟩
theorem dX12_fails_0 : decode cX12_fails 0 = .ok (.aload_n 0, 1) := by decide +kernel
theorem dX12_fails_1 : decode cX12_fails 1 = .ok (.getfield 411, 3) := by decide +kernel
theorem dX12_fails_4 : decode cX12_fails 4 = .ok (.ifCond .ne 28, 3) := by decide +kernel
theorem dX12_fails_7 : decode cX12_fails 7 = .ok (.aload_n 0, 1) := by decide +kernel
theorem dX12_fails_8 : decode cX12_fails 8 = .ok (.aload_n 0, 1) := by decide +kernel
theorem dX12_fails_9 : decode cX12_fails 9 = .ok (.getfield 380, 3) := by decide +kernel
theorem dX12_fails_12 : decode cX12_fails 12 = .ok (.iconst 1, 1) := by decide +kernel
theorem dX12_fails_13 : decode cX12_fails 13 = .ok (.if_icmp .ne 7, 3) := by decide +kernel
theorem dX12_fails_16 : decode cX12_fails 16 = .ok (.iconst 1, 1) := by decide +kernel
theorem dX12_fails_17 : decode cX12_fails 17 = .ok (.goto 4, 3) := by decide +kernel
theorem dX12_fails_20 : decode cX12_fails 20 = .ok (.iload_n 1, 1) := by decide +kernel
theorem dX12_fails_21 : decode cX12_fails 21 = .ok (.putfield 411, 3) := by decide +kernel
theorem dX12_fails_24 : decode cX12_fails 24 = .ok (.aload_n 0, 1) := by decide +kernel
theorem dX12_fails_25 : decode cX12_fails 25 = .ok (.aload_n 0, 1) := by decide +kernel
theorem dX12_fails_26 : decode cX12_fails 26 = .ok (.getfield 374, 3) := by decide +kernel
theorem dX12_fails_29 : decode cX12_fails 29 = .ok (.putfield 91, 3) := by decide +kernel
theorem dX12_fails_32 : decode cX12_fails 32 = .ok (.iconst 0, 1) := by decide +kernel
theorem dX12_fails_33 : decode cX12_fails 33 = .ok (.ireturn, 1) := by decide +kernel
noncomputable def X12_fails_j21 (s0 : Int32) (w : Wd) : Option (Int32 × Wd) :=
(some (puI w 97 41 s0)).bind fun w1 =>
(some (puI w1 97 40 (w1.1 97 36))).bind fun w2 =>
some ((0 : Int32), w2)
set_option maxRecDepth 20000 in
set_option maxHeartbeats 1000000 in
theorem t_X12_fails_j21 {κ : Kx} (s0 : Int32) (w : Wd) (h : ok (X12_fails_j21  s0 w) (PIw κ)) : J κ RX12 cX12_fails 2 (some .boolean) (rmk 0 0) 21 [(0, .ref (ad (gm κ) 97))] [.int s0, .ref (ad (gm κ) 97)] w := by
  unfold X12_fails_j21 at h
  refine j_putI fp_RX12_411 sh_97 fk_97_41 dX12_fails_21 ?_
  refine j_lW h (fun w1 h => ?_)
  refine j_aload_n 0 dX12_fails_24 rfl rfl ?_
  refine j_aload_n 0 dX12_fails_25 rfl rfl ?_
  refine j_getI fl_RX12_374 sh_97 fk_97_36 dX12_fails_26 ?_
  refine j_putI fp_RX12_91 sh_97 fk_97_40 dX12_fails_29 ?_
  refine j_lW h (fun w2 h => ?_)
  refine j_iconst (0 : Int32) dX12_fails_32 ki_0 ?_
  have h := ok_s h
  exact j_iret dX12_fails_33 rfl (by decide) h
noncomputable def X12_fails (a1 : Int32) (w : Wd) : Option (Int32 × Wd) :=
(if (w.1 97 41) = 0 then
(if (w.1 97 35) = (1 : Int32) then
X12_fails_j21 (1 : Int32) w
else
X12_fails_j21 a1 w)
else
some ((0 : Int32), w))
set_option maxRecDepth 20000 in
set_option maxHeartbeats 1000000 in
theorem t_X12_fails {κ : Kx} (a1 : Int32) (w : Wd) (h : ok (X12_fails  a1 w) (PIw κ)) : J κ RX12 cX12_fails 2 (some .boolean) (rmk 0 0) 0 [(0, .ref (ad (gm κ) 97)), (1, .int a1)] [] w := by
  unfold X12_fails at h
  refine j_aload_n 0 dX12_fails_0 rfl rfl ?_
  refine j_getI fl_RX12_411 sh_97 fk_97_41 dX12_fails_1 ?_
  refine j_if_ne 32 dX12_fails_4 (by decide) h (fun h => ?_) (fun h => ?_)
  · refine j_iconst (0 : Int32) dX12_fails_32 ki_0 ?_
    have h := ok_s h
    exact j_iret dX12_fails_33 rfl (by decide) h
  · refine j_aload_n 0 dX12_fails_7 rfl rfl ?_
    refine j_aload_n 0 dX12_fails_8 rfl rfl ?_
    refine j_getI fl_RX12_380 sh_97 fk_97_35 dX12_fails_9 ?_
    refine j_iconst (1 : Int32) dX12_fails_12 ki_1 ?_
    refine j_ic_ne 20 dX12_fails_13 (by decide) h (fun h => ?_) (fun h => ?_)
    · refine j_iload_n 1 dX12_fails_20 rfl rfl ?_
      refine j_loc [(0, .ref (ad (gm κ) 97))] [0] rfl ?_
      exact t_X12_fails_j21 a1 w h
    · refine j_iconst (1 : Int32) dX12_fails_16 ki_1 ?_
      refine j_goto 21 dX12_fails_17 (by decide) ?_
      refine j_loc [(0, .ref (ad (gm κ) 97))] [0] rfl ?_
      exact t_X12_fails_j21 (1 : Int32) w h
theorem c_X12_fails (l : Launch) (γ : Gm) (A : Nat → Prop) (a1 : Int32) (w : Wd) (q : Int32 × Wd) (e : X12_fails  a1 w = some q) : MetG l γ A yX12_fails cX12_fails 2 (some .boolean) (rmk 0 0) [.ref (ad (γ) 97), .int a1] w (some (.int q.1)) q.2 := by
  refine met_of pn_RX12 (Nat.le_of_ble_eq_true rfl) ?_
  intro κ hl hγ hA hρ
  subst hl; subst hγ; subst hA
  exact t_X12_fails   a1 w ⟨q, e, pIw hρ rfl rfl⟩
theorem dX12_want_0 : decode cX12_want 0 = .ok (.aload_n 0, 1) := by decide +kernel
theorem dX12_want_1 : decode cX12_want 1 = .ok (.iload_n 1, 1) := by decide +kernel
theorem dX12_want_2 : decode cX12_want 2 = .ok (.invokevirtual 414, 3) := by decide +kernel
theorem dX12_want_5 : decode cX12_want 5 = .ok (.ifCond .ne 9, 3) := by decide +kernel
theorem dX12_want_8 : decode cX12_want 8 = .ok (.aload_n 0, 1) := by decide +kernel
theorem dX12_want_9 : decode cX12_want 9 = .ok (.iconst 2, 1) := by decide +kernel
theorem dX12_want_10 : decode cX12_want 10 = .ok (.invokevirtual 417, 3) := by decide +kernel
theorem dX12_want_13 : decode cX12_want 13 = .ok (.ireturn, 1) := by decide +kernel
theorem dX12_want_14 : decode cX12_want 14 = .ok (.aload_n 0, 1) := by decide +kernel
theorem dX12_want_15 : decode cX12_want 15 = .ok (.invokevirtual 420, 3) := by decide +kernel
theorem dX12_want_18 : decode cX12_want 18 = .ok (.iconst 1, 1) := by decide +kernel
theorem dX12_want_19 : decode cX12_want 19 = .ok (.ireturn, 1) := by decide +kernel
noncomputable def X12_want (a1 : Int32) (w : Wd) : Option (Int32 × Wd) :=
(if (X12_isSign a1 w) = 0 then
(X12_fails (2 : Int32) w).bind fun q3 =>
gd (narrow .boolean (.int q3.1) = .int q3.1) <|
some (q3.1, q3.2)
else
(X12_next w).bind fun q1 =>
some ((1 : Int32), q1))
set_option maxRecDepth 20000 in
set_option maxHeartbeats 1000000 in
theorem t_X12_want {κ : Kx} (a1 : Int32) (w : Wd) (h : ok (X12_want  a1 w) (PIw κ)) : J κ RX12 cX12_want 2 (some .boolean) (rmk 2 45) 0 [(0, .ref (ad (gm κ) 97)), (1, .int a1)] [] w := by
  unfold X12_want at h
  refine j_aload_n 0 dX12_want_0 rfl rfl ?_
  refine j_iload_n 1 dX12_want_1 rfl rfl ?_
  refine j_callV (As := [.int a1]) (st := []) [.int (X12_isSign a1 w)] (c_X12_isSign (kl κ) (gm κ) (kA κ) a1 w) ck_RX12_414 im_X12_isSign se_X12_isSign sh_97 cx_12 ⟨rfl, rfl⟩ ⟨by decide, by decide⟩ rfl rfl (Nat.le_of_ble_eq_true rfl) dX12_want_2 _ rfl ?_
  refine j_if_ne 14 dX12_want_5 (by decide) h (fun h => ?_) (fun h => ?_)
  · refine j_aload_n 0 dX12_want_14 rfl rfl ?_
    obtain ⟨q1, e2, h⟩ := ok_b h
    refine j_callV (As := []) (st := []) [] (c_X12_next (kl κ) (gm κ) (kA κ) w q1 e2) ck_RX12_420 im_X12_next se_X12_next sh_97 cx_12 ⟨rfl, rfl⟩ ⟨by decide, by decide⟩ rfl rfl (Nat.le_of_ble_eq_true rfl) dX12_want_15 _ rfl ?_
    refine j_iconst (1 : Int32) dX12_want_18 ki_1 ?_
    have h := ok_s h
    exact j_iret dX12_want_19 rfl (by decide) h
  · refine j_aload_n 0 dX12_want_8 rfl rfl ?_
    refine j_iconst (2 : Int32) dX12_want_9 ki_2 ?_
    obtain ⟨q3, e4, h⟩ := ok_b h
    refine j_callV (As := [.int (2 : Int32)]) (st := []) [.int q3.1] (c_X12_fails (kl κ) (gm κ) (kA κ) (2 : Int32) w q3 e4) ck_RX12_417 im_X12_fails se_X12_fails sh_97 cx_12 ⟨rfl, rfl⟩ ⟨by decide, by decide⟩ rfl rfl (Nat.le_of_ble_eq_true rfl) dX12_want_10 _ rfl ?_
    obtain ⟨hz, h⟩ := ok_g h
    have h := ok_s h
    exact j_iret dX12_want_13 rfl hz h
theorem c_X12_want (l : Launch) (γ : Gm) (A : Nat → Prop) (a1 : Int32) (w : Wd) (q : Int32 × Wd) (e : X12_want  a1 w = some q) : MetG l γ A yX12_want cX12_want 2 (some .boolean) (rmk 2 45) [.ref (ad (γ) 97), .int a1] w (some (.int q.1)) q.2 := by
  refine met_of pn_RX12 (Nat.le_of_ble_eq_true rfl) ?_
  intro κ hl hγ hA hρ
  subst hl; subst hγ; subst hA
  exact t_X12_want   a1 w ⟨q, e, pIw hρ rfl rfl⟩
theorem dX12_puts_0 : decode cX12_puts 0 = .ok (.aload_n 0, 1) := by decide +kernel
theorem dX12_puts_1 : decode cX12_puts 1 = .ok (.getfield 149, 3) := by decide +kernel
theorem dX12_puts_4 : decode cX12_puts 4 = .ok (.aload_n 0, 1) := by decide +kernel
theorem dX12_puts_5 : decode cX12_puts 5 = .ok (.getfield 423, 3) := by decide +kernel
theorem dX12_puts_8 : decode cX12_puts 8 = .ok (.iload_n 1, 1) := by decide +kernel
theorem dX12_puts_9 : decode cX12_puts 9 = .ok (.iastore, 1) := by decide +kernel
theorem dX12_puts_10 : decode cX12_puts 10 = .ok (.aload_n 0, 1) := by decide +kernel
theorem dX12_puts_11 : decode cX12_puts 11 = .ok (.getfield 152, 3) := by decide +kernel
theorem dX12_puts_14 : decode cX12_puts 14 = .ok (.aload_n 0, 1) := by decide +kernel
theorem dX12_puts_15 : decode cX12_puts 15 = .ok (.getfield 423, 3) := by decide +kernel
theorem dX12_puts_18 : decode cX12_puts 18 = .ok (.iload_n 2, 1) := by decide +kernel
theorem dX12_puts_19 : decode cX12_puts 19 = .ok (.iastore, 1) := by decide +kernel
theorem dX12_puts_20 : decode cX12_puts 20 = .ok (.aload_n 0, 1) := by decide +kernel
theorem dX12_puts_21 : decode cX12_puts 21 = .ok (.dup, 1) := by decide +kernel
theorem dX12_puts_22 : decode cX12_puts 22 = .ok (.getfield 423, 3) := by decide +kernel
theorem dX12_puts_25 : decode cX12_puts 25 = .ok (.iconst 1, 1) := by decide +kernel
theorem dX12_puts_26 : decode cX12_puts 26 = .ok (.iadd, 1) := by decide +kernel
theorem dX12_puts_27 : decode cX12_puts 27 = .ok (.putfield 423, 3) := by decide +kernel
theorem dX12_puts_30 : decode cX12_puts 30 = .ok (.return_, 1) := by decide +kernel
noncomputable def X12_puts (a1 : Int32) (a2 : Int32) (w : Wd) : Option (Wd) :=
gd (vp_in (w.1 97 43) 4000) <|
(some (puI w 140 (ix (w.1 97 43)) a1)).bind fun w1 =>
gd (vp_in (w1.1 97 43) 4000) <|
(some (puI w1 141 (ix (w1.1 97 43)) a2)).bind fun w2 =>
(some (puI w2 97 43 ((w2.1 97 43) + (1 : Int32)))).bind fun w3 =>
some w3
set_option maxRecDepth 20000 in
set_option maxHeartbeats 1000000 in
theorem t_X12_puts {κ : Kx} (a1 : Int32) (a2 : Int32) (w : Wd) (h : ok (X12_puts  a1 a2 w) (PVw κ)) : J κ RX12 cX12_puts 3 none (rmk 0 0) 0 [(0, .ref (ad (gm κ) 97)), (1, .int a1), (2, .int a2)] [] w := by
  unfold X12_puts at h
  refine j_aload_n 0 dX12_puts_0 rfl rfl ?_
  refine j_getA 140 fl_RX12_149 sh_97 fk_97_63 (by decide) dX12_puts_1 ?_
  refine j_aload_n 0 dX12_puts_4 rfl rfl ?_
  refine j_getI fl_RX12_423 sh_97 fk_97_43 dX12_puts_5 ?_
  refine j_iload_n 1 dX12_puts_8 rfl rfl ?_
  refine j_iast sh_140 dX12_puts_9 h (fun h => ?_)
  refine j_lW h (fun w1 h => ?_)
  refine j_aload_n 0 dX12_puts_10 rfl rfl ?_
  refine j_getA 141 fl_RX12_152 sh_97 fk_97_64 (by decide) dX12_puts_11 ?_
  refine j_aload_n 0 dX12_puts_14 rfl rfl ?_
  refine j_getI fl_RX12_423 sh_97 fk_97_43 dX12_puts_15 ?_
  refine j_iload_n 2 dX12_puts_18 rfl rfl ?_
  refine j_iast sh_141 dX12_puts_19 h (fun h => ?_)
  refine j_lW h (fun w2 h => ?_)
  refine j_aload_n 0 dX12_puts_20 rfl rfl ?_
  refine j_dup dX12_puts_21 rfl ?_
  refine j_getI fl_RX12_423 sh_97 fk_97_43 dX12_puts_22 ?_
  refine j_iconst (1 : Int32) dX12_puts_25 ki_1 ?_
  refine j_iadd dX12_puts_26 ?_
  refine j_putI fp_RX12_423 sh_97 fk_97_43 dX12_puts_27 ?_
  refine j_lW h (fun w3 h => ?_)
  have h := ok_s h
  exact j_vret dX12_puts_30 rfl h
theorem c_X12_puts (l : Launch) (γ : Gm) (A : Nat → Prop) (a1 : Int32) (a2 : Int32) (w : Wd) (q : Wd) (e : X12_puts  a1 a2 w = some q) : MetG l γ A yX12_puts cX12_puts 3 none (rmk 0 0) [.ref (ad (γ) 97), .int a1, .int a2] w none q := by
  refine met_of pn_RX12 (Nat.le_of_ble_eq_true rfl) ?_
  intro κ hl hγ hA hρ
  subst hl; subst hγ; subst hA
  exact t_X12_puts   a1 a2 w ⟨q, e, pVw hρ rfl rfl⟩
theorem dX12_sum_0 : decode cX12_sum 0 = .ok (.iconst 0, 1) := by decide +kernel
theorem dX12_sum_1 : decode cX12_sum 1 = .ok (.istore_n 1, 1) := by decide +kernel
theorem dX12_sum_2 : decode cX12_sum 2 = .ok (.aload_n 0, 1) := by decide +kernel
theorem dX12_sum_3 : decode cX12_sum 3 = .ok (.getfield 155, 3) := by decide +kernel
theorem dX12_sum_6 : decode cX12_sum 6 = .ok (.iconst 0, 1) := by decide +kernel
theorem dX12_sum_7 : decode cX12_sum 7 = .ok (.iconst 0, 1) := by decide +kernel
theorem dX12_sum_8 : decode cX12_sum 8 = .ok (.iastore, 1) := by decide +kernel
theorem dX12_sum_9 : decode cX12_sum 9 = .ok (.aload_n 0, 1) := by decide +kernel
theorem dX12_sum_10 : decode cX12_sum 10 = .ok (.getfield 158, 3) := by decide +kernel
theorem dX12_sum_13 : decode cX12_sum 13 = .ok (.iconst 0, 1) := by decide +kernel
theorem dX12_sum_14 : decode cX12_sum 14 = .ok (.iconst 0, 1) := by decide +kernel
theorem dX12_sum_15 : decode cX12_sum 15 = .ok (.iastore, 1) := by decide +kernel
theorem dX12_sum_16 : decode cX12_sum 16 = .ok (.iconst 1, 1) := by decide +kernel
theorem dX12_sum_17 : decode cX12_sum 17 = .ok (.istore_n 2, 1) := by decide +kernel
theorem dX12_sum_18 : decode cX12_sum 18 = .ok (.aload_n 0, 1) := by decide +kernel
theorem dX12_sum_19 : decode cX12_sum 19 = .ok (.getfield 411, 3) := by decide +kernel
theorem dX12_sum_22 : decode cX12_sum 22 = .ok (.ifCond .ne 266, 3) := by decide +kernel
theorem dX12_sum_25 : decode cX12_sum 25 = .ok (.iload_n 2, 1) := by decide +kernel
theorem dX12_sum_26 : decode cX12_sum 26 = .ok (.ifCond .eq 111, 3) := by decide +kernel
theorem dX12_sum_29 : decode cX12_sum 29 = .ok (.aload_n 0, 1) := by decide +kernel
theorem dX12_sum_30 : decode cX12_sum 30 = .ok (.ldc_w 426, 3) := by decide +kernel
theorem dX12_sum_33 : decode cX12_sum 33 = .ok (.invokevirtual 407, 3) := by decide +kernel
theorem dX12_sum_36 : decode cX12_sum 36 = .ok (.istore_n 3, 1) := by decide +kernel
theorem dX12_sum_37 : decode cX12_sum 37 = .ok (.aload_n 0, 1) := by decide +kernel
theorem dX12_sum_38 : decode cX12_sum 38 = .ok (.getfield 380, 3) := by decide +kernel
theorem dX12_sum_41 : decode cX12_sum 41 = .ok (.iconst 3, 1) := by decide +kernel
theorem dX12_sum_42 : decode cX12_sum 42 = .ok (.if_icmp .eq 8, 3) := by decide +kernel
theorem dX12_sum_45 : decode cX12_sum 45 = .ok (.iload_n 3, 1) := by decide +kernel
theorem dX12_sum_46 : decode cX12_sum 46 = .ok (.iconst (-1), 1) := by decide +kernel
theorem dX12_sum_47 : decode cX12_sum 47 = .ok (.if_icmp .eq 39, 3) := by decide +kernel
theorem dX12_sum_50 : decode cX12_sum 50 = .ok (.aload_n 0, 1) := by decide +kernel
theorem dX12_sum_51 : decode cX12_sum 51 = .ok (.iload_n 3, 1) := by decide +kernel
theorem dX12_sum_52 : decode cX12_sum 52 = .ok (.iconst (-1), 1) := by decide +kernel
theorem dX12_sum_53 : decode cX12_sum 53 = .ok (.if_icmp .ne 7, 3) := by decide +kernel
theorem dX12_sum_56 : decode cX12_sum 56 = .ok (.iconst 0, 1) := by decide +kernel
theorem dX12_sum_57 : decode cX12_sum 57 = .ok (.goto 4, 3) := by decide +kernel
theorem dX12_sum_60 : decode cX12_sum 60 = .ok (.iconst 1, 1) := by decide +kernel
theorem dX12_sum_61 : decode cX12_sum 61 = .ok (.iload_n 3, 1) := by decide +kernel
theorem dX12_sum_62 : decode cX12_sum 62 = .ok (.iconst (-1), 1) := by decide +kernel
theorem dX12_sum_63 : decode cX12_sum 63 = .ok (.if_icmp .ne 10, 3) := by decide +kernel
theorem dX12_sum_66 : decode cX12_sum 66 = .ok (.aload_n 0, 1) := by decide +kernel
theorem dX12_sum_67 : decode cX12_sum 67 = .ok (.getfield 377, 3) := by decide +kernel
theorem dX12_sum_70 : decode cX12_sum 70 = .ok (.goto 4, 3) := by decide +kernel
theorem dX12_sum_73 : decode cX12_sum 73 = .ok (.iload_n 3, 1) := by decide +kernel
theorem dX12_sum_74 : decode cX12_sum 74 = .ok (.invokevirtual 428, 3) := by decide +kernel
theorem dX12_sum_77 : decode cX12_sum 77 = .ok (.aload_n 0, 1) := by decide +kernel
theorem dX12_sum_78 : decode cX12_sum 78 = .ok (.invokevirtual 420, 3) := by decide +kernel
theorem dX12_sum_81 : decode cX12_sum 81 = .ok (.iconst 0, 1) := by decide +kernel
theorem dX12_sum_82 : decode cX12_sum 82 = .ok (.istore_n 2, 1) := by decide +kernel
theorem dX12_sum_83 : decode cX12_sum 83 = .ok (.goto (-65), 3) := by decide +kernel
theorem dX12_sum_86 : decode cX12_sum 86 = .ok (.aload_n 0, 1) := by decide +kernel
theorem dX12_sum_87 : decode cX12_sum 87 = .ok (.bipush 40, 2) := by decide +kernel
theorem dX12_sum_89 : decode cX12_sum 89 = .ok (.invokevirtual 414, 3) := by decide +kernel
theorem dX12_sum_92 : decode cX12_sum 92 = .ok (.ifCond .ne 9, 3) := by decide +kernel
theorem dX12_sum_95 : decode cX12_sum 95 = .ok (.aload_n 0, 1) := by decide +kernel
theorem dX12_sum_96 : decode cX12_sum 96 = .ok (.iconst 2, 1) := by decide +kernel
theorem dX12_sum_97 : decode cX12_sum 97 = .ok (.invokevirtual 417, 3) := by decide +kernel
theorem dX12_sum_100 : decode cX12_sum 100 = .ok (.ireturn, 1) := by decide +kernel
theorem dX12_sum_101 : decode cX12_sum 101 = .ok (.iload_n 1, 1) := by decide +kernel
theorem dX12_sum_102 : decode cX12_sum 102 = .ok (.bipush 6, 2) := by decide +kernel
theorem dX12_sum_104 : decode cX12_sum 104 = .ok (.if_icmp .ne 9, 3) := by decide +kernel
theorem dX12_sum_107 : decode cX12_sum 107 = .ok (.aload_n 0, 1) := by decide +kernel
theorem dX12_sum_108 : decode cX12_sum 108 = .ok (.iconst 5, 1) := by decide +kernel
theorem dX12_sum_109 : decode cX12_sum 109 = .ok (.invokevirtual 417, 3) := by decide +kernel
theorem dX12_sum_112 : decode cX12_sum 112 = .ok (.ireturn, 1) := by decide +kernel
theorem dX12_sum_113 : decode cX12_sum 113 = .ok (.aload_n 0, 1) := by decide +kernel
theorem dX12_sum_114 : decode cX12_sum 114 = .ok (.invokevirtual 420, 3) := by decide +kernel
theorem dX12_sum_117 : decode cX12_sum 117 = .ok (.iinc 1 1, 3) := by decide +kernel
theorem dX12_sum_120 : decode cX12_sum 120 = .ok (.aload_n 0, 1) := by decide +kernel
theorem dX12_sum_121 : decode cX12_sum 121 = .ok (.getfield 155, 3) := by decide +kernel
theorem dX12_sum_124 : decode cX12_sum 124 = .ok (.iload_n 1, 1) := by decide +kernel
theorem dX12_sum_125 : decode cX12_sum 125 = .ok (.iconst 0, 1) := by decide +kernel
theorem dX12_sum_126 : decode cX12_sum 126 = .ok (.iastore, 1) := by decide +kernel
theorem dX12_sum_127 : decode cX12_sum 127 = .ok (.aload_n 0, 1) := by decide +kernel
theorem dX12_sum_128 : decode cX12_sum 128 = .ok (.getfield 158, 3) := by decide +kernel
theorem dX12_sum_131 : decode cX12_sum 131 = .ok (.iload_n 1, 1) := by decide +kernel
theorem dX12_sum_132 : decode cX12_sum 132 = .ok (.iconst 0, 1) := by decide +kernel
theorem dX12_sum_133 : decode cX12_sum 133 = .ok (.iastore, 1) := by decide +kernel
theorem dX12_sum_134 : decode cX12_sum 134 = .ok (.goto (-116), 3) := by decide +kernel
theorem dX12_sum_137 : decode cX12_sum 137 = .ok (.aload_n 0, 1) := by decide +kernel
theorem dX12_sum_138 : decode cX12_sum 138 = .ok (.getfield 158, 3) := by decide +kernel
theorem dX12_sum_141 : decode cX12_sum 141 = .ok (.iload_n 1, 1) := by decide +kernel
theorem dX12_sum_142 : decode cX12_sum 142 = .ok (.iaload, 1) := by decide +kernel
theorem dX12_sum_143 : decode cX12_sum 143 = .ok (.ifCond .eq 14, 3) := by decide +kernel
theorem dX12_sum_146 : decode cX12_sum 146 = .ok (.aload_n 0, 1) := by decide +kernel
theorem dX12_sum_147 : decode cX12_sum 147 = .ok (.aload_n 0, 1) := by decide +kernel
theorem dX12_sum_148 : decode cX12_sum 148 = .ok (.getfield 158, 3) := by decide +kernel
theorem dX12_sum_151 : decode cX12_sum 151 = .ok (.iload_n 1, 1) := by decide +kernel
theorem dX12_sum_152 : decode cX12_sum 152 = .ok (.iaload, 1) := by decide +kernel
theorem dX12_sum_153 : decode cX12_sum 153 = .ok (.iconst 0, 1) := by decide +kernel
theorem dX12_sum_154 : decode cX12_sum 154 = .ok (.invokevirtual 428, 3) := by decide +kernel
theorem dX12_sum_157 : decode cX12_sum 157 = .ok (.aload_n 0, 1) := by decide +kernel
theorem dX12_sum_158 : decode cX12_sum 158 = .ok (.getfield 158, 3) := by decide +kernel
theorem dX12_sum_161 : decode cX12_sum 161 = .ok (.iload_n 1, 1) := by decide +kernel
theorem dX12_sum_162 : decode cX12_sum 162 = .ok (.iconst 0, 1) := by decide +kernel
theorem dX12_sum_163 : decode cX12_sum 163 = .ok (.iastore, 1) := by decide +kernel
theorem dX12_sum_164 : decode cX12_sum 164 = .ok (.aload_n 0, 1) := by decide +kernel
theorem dX12_sum_165 : decode cX12_sum 165 = .ok (.bipush 42, 2) := by decide +kernel
theorem dX12_sum_167 : decode cX12_sum 167 = .ok (.invokevirtual 414, 3) := by decide +kernel
theorem dX12_sum_170 : decode cX12_sum 170 = .ok (.ifCond .ne 12, 3) := by decide +kernel
theorem dX12_sum_173 : decode cX12_sum 173 = .ok (.aload_n 0, 1) := by decide +kernel
theorem dX12_sum_174 : decode cX12_sum 174 = .ok (.bipush 47, 2) := by decide +kernel
theorem dX12_sum_176 : decode cX12_sum 176 = .ok (.invokevirtual 414, 3) := by decide +kernel
theorem dX12_sum_179 : decode cX12_sum 179 = .ok (.ifCond .eq 22, 3) := by decide +kernel
theorem dX12_sum_182 : decode cX12_sum 182 = .ok (.aload_n 0, 1) := by decide +kernel
theorem dX12_sum_183 : decode cX12_sum 183 = .ok (.getfield 158, 3) := by decide +kernel
theorem dX12_sum_186 : decode cX12_sum 186 = .ok (.iload_n 1, 1) := by decide +kernel
theorem dX12_sum_187 : decode cX12_sum 187 = .ok (.aload_n 0, 1) := by decide +kernel
theorem dX12_sum_188 : decode cX12_sum 188 = .ok (.getfield 377, 3) := by decide +kernel
theorem dX12_sum_191 : decode cX12_sum 191 = .ok (.iastore, 1) := by decide +kernel
theorem dX12_sum_192 : decode cX12_sum 192 = .ok (.aload_n 0, 1) := by decide +kernel
theorem dX12_sum_193 : decode cX12_sum 193 = .ok (.invokevirtual 420, 3) := by decide +kernel
theorem dX12_sum_196 : decode cX12_sum 196 = .ok (.iconst 1, 1) := by decide +kernel
theorem dX12_sum_197 : decode cX12_sum 197 = .ok (.istore_n 2, 1) := by decide +kernel
theorem dX12_sum_198 : decode cX12_sum 198 = .ok (.goto (-180), 3) := by decide +kernel
theorem dX12_sum_201 : decode cX12_sum 201 = .ok (.aload_n 0, 1) := by decide +kernel
theorem dX12_sum_202 : decode cX12_sum 202 = .ok (.getfield 155, 3) := by decide +kernel
theorem dX12_sum_205 : decode cX12_sum 205 = .ok (.iload_n 1, 1) := by decide +kernel
theorem dX12_sum_206 : decode cX12_sum 206 = .ok (.iaload, 1) := by decide +kernel
theorem dX12_sum_207 : decode cX12_sum 207 = .ok (.ifCond .eq 14, 3) := by decide +kernel
theorem dX12_sum_210 : decode cX12_sum 210 = .ok (.aload_n 0, 1) := by decide +kernel
theorem dX12_sum_211 : decode cX12_sum 211 = .ok (.aload_n 0, 1) := by decide +kernel
theorem dX12_sum_212 : decode cX12_sum 212 = .ok (.getfield 155, 3) := by decide +kernel
theorem dX12_sum_215 : decode cX12_sum 215 = .ok (.iload_n 1, 1) := by decide +kernel
theorem dX12_sum_216 : decode cX12_sum 216 = .ok (.iaload, 1) := by decide +kernel
theorem dX12_sum_217 : decode cX12_sum 217 = .ok (.iconst 0, 1) := by decide +kernel
theorem dX12_sum_218 : decode cX12_sum 218 = .ok (.invokevirtual 428, 3) := by decide +kernel
theorem dX12_sum_221 : decode cX12_sum 221 = .ok (.aload_n 0, 1) := by decide +kernel
theorem dX12_sum_222 : decode cX12_sum 222 = .ok (.getfield 155, 3) := by decide +kernel
theorem dX12_sum_225 : decode cX12_sum 225 = .ok (.iload_n 1, 1) := by decide +kernel
theorem dX12_sum_226 : decode cX12_sum 226 = .ok (.iconst 0, 1) := by decide +kernel
theorem dX12_sum_227 : decode cX12_sum 227 = .ok (.iastore, 1) := by decide +kernel
theorem dX12_sum_228 : decode cX12_sum 228 = .ok (.aload_n 0, 1) := by decide +kernel
theorem dX12_sum_229 : decode cX12_sum 229 = .ok (.bipush 43, 2) := by decide +kernel
theorem dX12_sum_231 : decode cX12_sum 231 = .ok (.invokevirtual 414, 3) := by decide +kernel
theorem dX12_sum_234 : decode cX12_sum 234 = .ok (.ifCond .ne 12, 3) := by decide +kernel
theorem dX12_sum_237 : decode cX12_sum 237 = .ok (.aload_n 0, 1) := by decide +kernel
theorem dX12_sum_238 : decode cX12_sum 238 = .ok (.bipush 45, 2) := by decide +kernel
theorem dX12_sum_240 : decode cX12_sum 240 = .ok (.invokevirtual 414, 3) := by decide +kernel
theorem dX12_sum_243 : decode cX12_sum 243 = .ok (.ifCond .eq 22, 3) := by decide +kernel
theorem dX12_sum_246 : decode cX12_sum 246 = .ok (.aload_n 0, 1) := by decide +kernel
theorem dX12_sum_247 : decode cX12_sum 247 = .ok (.getfield 155, 3) := by decide +kernel
theorem dX12_sum_250 : decode cX12_sum 250 = .ok (.iload_n 1, 1) := by decide +kernel
theorem dX12_sum_251 : decode cX12_sum 251 = .ok (.aload_n 0, 1) := by decide +kernel
theorem dX12_sum_252 : decode cX12_sum 252 = .ok (.getfield 377, 3) := by decide +kernel
theorem dX12_sum_255 : decode cX12_sum 255 = .ok (.iastore, 1) := by decide +kernel
theorem dX12_sum_256 : decode cX12_sum 256 = .ok (.aload_n 0, 1) := by decide +kernel
theorem dX12_sum_257 : decode cX12_sum 257 = .ok (.invokevirtual 420, 3) := by decide +kernel
theorem dX12_sum_260 : decode cX12_sum 260 = .ok (.iconst 1, 1) := by decide +kernel
theorem dX12_sum_261 : decode cX12_sum 261 = .ok (.istore_n 2, 1) := by decide +kernel
theorem dX12_sum_262 : decode cX12_sum 262 = .ok (.goto (-244), 3) := by decide +kernel
theorem dX12_sum_265 : decode cX12_sum 265 = .ok (.iload_n 1, 1) := by decide +kernel
theorem dX12_sum_266 : decode cX12_sum 266 = .ok (.ifCond .ne 5, 3) := by decide +kernel
theorem dX12_sum_269 : decode cX12_sum 269 = .ok (.iconst 1, 1) := by decide +kernel
theorem dX12_sum_270 : decode cX12_sum 270 = .ok (.ireturn, 1) := by decide +kernel
theorem dX12_sum_271 : decode cX12_sum 271 = .ok (.aload_n 0, 1) := by decide +kernel
theorem dX12_sum_272 : decode cX12_sum 272 = .ok (.bipush 41, 2) := by decide +kernel
theorem dX12_sum_274 : decode cX12_sum 274 = .ok (.invokevirtual 431, 3) := by decide +kernel
theorem dX12_sum_277 : decode cX12_sum 277 = .ok (.ifCond .ne 5, 3) := by decide +kernel
theorem dX12_sum_280 : decode cX12_sum 280 = .ok (.iconst 0, 1) := by decide +kernel
theorem dX12_sum_281 : decode cX12_sum 281 = .ok (.ireturn, 1) := by decide +kernel
theorem dX12_sum_282 : decode cX12_sum 282 = .ok (.iinc 1 (-1), 3) := by decide +kernel
theorem dX12_sum_285 : decode cX12_sum 285 = .ok (.goto (-267), 3) := by decide +kernel
theorem dX12_sum_288 : decode cX12_sum 288 = .ok (.iconst 0, 1) := by decide +kernel
theorem dX12_sum_289 : decode cX12_sum 289 = .ok (.ireturn, 1) := by decide +kernel
noncomputable def X12_sum_j182 (a1 : Int32) (w : Wd) : Option ((Int32 × Int32 × Wd) ⊕ (Wd ⊕ Wd ⊕ Wd ⊕ Wd ⊕ Wd)) :=
gd (vp_in a1 8) <|
(some (puI w 143 (ix a1) (w.1 97 38))).bind fun w4 =>
(X12_next w4).bind fun q5 =>
some (.inl (a1, (1 : Int32), q5))
set_option maxRecDepth 20000 in
set_option maxHeartbeats 1000000 in
theorem t_X12_sum_j182 {κ : Kx} (a1 : Int32) (w : Wd) {G : (Int32 × Int32 × Wd) → Prop} {P : (Wd ⊕ Wd ⊕ Wd ⊕ Wd ⊕ Wd) → Prop} (KG : ∀ s, G s → J κ RX12 cX12_sum 4 (some .boolean) (rmk 5 111) 18 [(0, .ref (ad (gm κ) 97)), (1, .int s.1), (2, .int s.2.1)] [] s.2.2) (K0 : ∀ e, P (.inl e) → J κ RX12 cX12_sum 4 (some .boolean) (rmk 5 111) 95 [(0, .ref (ad (gm κ) 97))] [] e) (K1 : ∀ e, P (.inr (.inl e)) → J κ RX12 cX12_sum 4 (some .boolean) (rmk 5 111) 107 [(0, .ref (ad (gm κ) 97))] [] e) (K2 : ∀ e, P (.inr (.inr (.inl e))) → J κ RX12 cX12_sum 4 (some .boolean) (rmk 5 111) 269 [] [] e) (K3 : ∀ e, P (.inr (.inr (.inr (.inl e)))) → J κ RX12 cX12_sum 4 (some .boolean) (rmk 5 111) 280 [] [] e) (K4 : ∀ e, P (.inr (.inr (.inr (.inr e)))) → J κ RX12 cX12_sum 4 (some .boolean) (rmk 5 111) 288 [] [] e) (h : ok (X12_sum_j182  a1 w) (sel G P)) : J κ RX12 cX12_sum 4 (some .boolean) (rmk 5 111) 182 [(0, .ref (ad (gm κ) 97)), (1, .int a1)] [] w := by
  unfold X12_sum_j182 at h
  refine j_aload_n 0 dX12_sum_182 rfl rfl ?_
  refine j_getA 143 fl_RX12_158 sh_97 fk_97_66 (by decide) dX12_sum_183 ?_
  refine j_iload_n 1 dX12_sum_186 rfl rfl ?_
  refine j_aload_n 0 dX12_sum_187 rfl rfl ?_
  refine j_getI fl_RX12_377 sh_97 fk_97_38 dX12_sum_188 ?_
  refine j_iast sh_143 dX12_sum_191 h (fun h => ?_)
  refine j_lW h (fun w4 h => ?_)
  refine j_aload_n 0 dX12_sum_192 rfl rfl ?_
  obtain ⟨q5, e6, h⟩ := ok_b h
  refine j_callV (As := []) (st := []) [] (c_X12_next (kl κ) (gm κ) (kA κ) w4 q5 e6) ck_RX12_420 im_X12_next se_X12_next sh_97 cx_12 ⟨rfl, rfl⟩ ⟨by decide, by decide⟩ rfl rfl (Nat.le_of_ble_eq_true rfl) dX12_sum_193 _ rfl ?_
  refine j_iconst (1 : Int32) dX12_sum_196 ki_1 ?_
  refine j_istore_n [(2, .int (1 : Int32)), (0, .ref (ad (gm κ) 97)), (1, .int a1)] dX12_sum_197 rfl (by decide) rfl ?_
  refine j_goto 18 dX12_sum_198 (by decide) ?_
  refine j_loc [(0, .ref (ad (gm κ) 97)), (1, .int a1), (2, .int (1 : Int32))] [1, 2, 0] rfl ?_
  have h := sel_l h
  have h := KG _ h
  exact h
noncomputable def X12_sum_j246 (a1 : Int32) (w : Wd) : Option ((Int32 × Int32 × Wd) ⊕ (Wd ⊕ Wd ⊕ Wd ⊕ Wd ⊕ Wd)) :=
gd (vp_in a1 8) <|
(some (puI w 142 (ix a1) (w.1 97 38))).bind fun w8 =>
(X12_next w8).bind fun q9 =>
some (.inl (a1, (1 : Int32), q9))
set_option maxRecDepth 20000 in
set_option maxHeartbeats 1000000 in
theorem t_X12_sum_j246 {κ : Kx} (a1 : Int32) (w : Wd) {G : (Int32 × Int32 × Wd) → Prop} {P : (Wd ⊕ Wd ⊕ Wd ⊕ Wd ⊕ Wd) → Prop} (KG : ∀ s, G s → J κ RX12 cX12_sum 4 (some .boolean) (rmk 5 111) 18 [(0, .ref (ad (gm κ) 97)), (1, .int s.1), (2, .int s.2.1)] [] s.2.2) (K0 : ∀ e, P (.inl e) → J κ RX12 cX12_sum 4 (some .boolean) (rmk 5 111) 95 [(0, .ref (ad (gm κ) 97))] [] e) (K1 : ∀ e, P (.inr (.inl e)) → J κ RX12 cX12_sum 4 (some .boolean) (rmk 5 111) 107 [(0, .ref (ad (gm κ) 97))] [] e) (K2 : ∀ e, P (.inr (.inr (.inl e))) → J κ RX12 cX12_sum 4 (some .boolean) (rmk 5 111) 269 [] [] e) (K3 : ∀ e, P (.inr (.inr (.inr (.inl e)))) → J κ RX12 cX12_sum 4 (some .boolean) (rmk 5 111) 280 [] [] e) (K4 : ∀ e, P (.inr (.inr (.inr (.inr e)))) → J κ RX12 cX12_sum 4 (some .boolean) (rmk 5 111) 288 [] [] e) (h : ok (X12_sum_j246  a1 w) (sel G P)) : J κ RX12 cX12_sum 4 (some .boolean) (rmk 5 111) 246 [(0, .ref (ad (gm κ) 97)), (1, .int a1)] [] w := by
  unfold X12_sum_j246 at h
  refine j_aload_n 0 dX12_sum_246 rfl rfl ?_
  refine j_getA 142 fl_RX12_155 sh_97 fk_97_65 (by decide) dX12_sum_247 ?_
  refine j_iload_n 1 dX12_sum_250 rfl rfl ?_
  refine j_aload_n 0 dX12_sum_251 rfl rfl ?_
  refine j_getI fl_RX12_377 sh_97 fk_97_38 dX12_sum_252 ?_
  refine j_iast sh_142 dX12_sum_255 h (fun h => ?_)
  refine j_lW h (fun w8 h => ?_)
  refine j_aload_n 0 dX12_sum_256 rfl rfl ?_
  obtain ⟨q9, e10, h⟩ := ok_b h
  refine j_callV (As := []) (st := []) [] (c_X12_next (kl κ) (gm κ) (kA κ) w8 q9 e10) ck_RX12_420 im_X12_next se_X12_next sh_97 cx_12 ⟨rfl, rfl⟩ ⟨by decide, by decide⟩ rfl rfl (Nat.le_of_ble_eq_true rfl) dX12_sum_257 _ rfl ?_
  refine j_iconst (1 : Int32) dX12_sum_260 ki_1 ?_
  refine j_istore_n [(2, .int (1 : Int32)), (0, .ref (ad (gm κ) 97)), (1, .int a1)] dX12_sum_261 rfl (by decide) rfl ?_
  refine j_goto 18 dX12_sum_262 (by decide) ?_
  refine j_loc [(0, .ref (ad (gm κ) 97)), (1, .int a1), (2, .int (1 : Int32))] [1, 2, 0] rfl ?_
  have h := sel_l h
  have h := KG _ h
  exact h
noncomputable def X12_sum_j221 (a1 : Int32) (a2 : Int32) (w : Wd) : Option ((Int32 × Int32 × Wd) ⊕ (Wd ⊕ Wd ⊕ Wd ⊕ Wd ⊕ Wd)) :=
gd (vp_in a1 8) <|
(some (puI w 142 (ix a1) (0 : Int32))).bind fun w7 =>
(if (X12_isSign (43 : Int32) w7) = 0 then
(if (X12_isSign (45 : Int32) w7) = 0 then
(if a1 = 0 then
some (.inr (.inr (.inr (.inl w7))))
else
(X12_want (41 : Int32) w7).bind fun q11 =>
(if q11.1 = 0 then
some (.inr (.inr (.inr (.inr (.inl q11.2)))))
else
some (.inl ((a1 + (-1 : Int32)), a2, q11.2))))
else
X12_sum_j246 a1 w7)
else
X12_sum_j246 a1 w7)
set_option maxRecDepth 20000 in
set_option maxHeartbeats 1000000 in
theorem t_X12_sum_j221 {κ : Kx} (a1 : Int32) (a2 : Int32) (w : Wd) {G : (Int32 × Int32 × Wd) → Prop} {P : (Wd ⊕ Wd ⊕ Wd ⊕ Wd ⊕ Wd) → Prop} (KG : ∀ s, G s → J κ RX12 cX12_sum 4 (some .boolean) (rmk 5 111) 18 [(0, .ref (ad (gm κ) 97)), (1, .int s.1), (2, .int s.2.1)] [] s.2.2) (K0 : ∀ e, P (.inl e) → J κ RX12 cX12_sum 4 (some .boolean) (rmk 5 111) 95 [(0, .ref (ad (gm κ) 97))] [] e) (K1 : ∀ e, P (.inr (.inl e)) → J κ RX12 cX12_sum 4 (some .boolean) (rmk 5 111) 107 [(0, .ref (ad (gm κ) 97))] [] e) (K2 : ∀ e, P (.inr (.inr (.inl e))) → J κ RX12 cX12_sum 4 (some .boolean) (rmk 5 111) 269 [] [] e) (K3 : ∀ e, P (.inr (.inr (.inr (.inl e)))) → J κ RX12 cX12_sum 4 (some .boolean) (rmk 5 111) 280 [] [] e) (K4 : ∀ e, P (.inr (.inr (.inr (.inr e)))) → J κ RX12 cX12_sum 4 (some .boolean) (rmk 5 111) 288 [] [] e) (h : ok (X12_sum_j221  a1 a2 w) (sel G P)) : J κ RX12 cX12_sum 4 (some .boolean) (rmk 5 111) 221 [(0, .ref (ad (gm κ) 97)), (1, .int a1), (2, .int a2)] [] w := by
  unfold X12_sum_j221 at h
  refine j_aload_n 0 dX12_sum_221 rfl rfl ?_
  refine j_getA 142 fl_RX12_155 sh_97 fk_97_65 (by decide) dX12_sum_222 ?_
  refine j_iload_n 1 dX12_sum_225 rfl rfl ?_
  refine j_iconst (0 : Int32) dX12_sum_226 ki_0 ?_
  refine j_iast sh_142 dX12_sum_227 h (fun h => ?_)
  refine j_lW h (fun w7 h => ?_)
  refine j_aload_n 0 dX12_sum_228 rfl rfl ?_
  refine j_bipush (43 : Int32) dX12_sum_229 kb_43 ?_
  refine j_callV (As := [.int (43 : Int32)]) (st := []) [.int (X12_isSign (43 : Int32) w7)] (c_X12_isSign (kl κ) (gm κ) (kA κ) (43 : Int32) w7) ck_RX12_414 im_X12_isSign se_X12_isSign sh_97 cx_12 ⟨rfl, rfl⟩ ⟨by decide, by decide⟩ rfl rfl (Nat.le_of_ble_eq_true rfl) dX12_sum_231 _ rfl ?_
  refine j_if_ne 246 dX12_sum_234 (by decide) h (fun h => ?_) (fun h => ?_)
  · refine j_loc [(0, .ref (ad (gm κ) 97)), (1, .int a1)] [0, 1] rfl ?_
    exact t_X12_sum_j246 a1 w7 KG K0 K1 K2 K3 K4 h
  · refine j_aload_n 0 dX12_sum_237 rfl rfl ?_
    refine j_bipush (45 : Int32) dX12_sum_238 kb_45 ?_
    refine j_callV (As := [.int (45 : Int32)]) (st := []) [.int (X12_isSign (45 : Int32) w7)] (c_X12_isSign (kl κ) (gm κ) (kA κ) (45 : Int32) w7) ck_RX12_414 im_X12_isSign se_X12_isSign sh_97 cx_12 ⟨rfl, rfl⟩ ⟨by decide, by decide⟩ rfl rfl (Nat.le_of_ble_eq_true rfl) dX12_sum_240 _ rfl ?_
    refine j_if_eq 265 dX12_sum_243 (by decide) h (fun h => ?_) (fun h => ?_)
    · refine j_iload_n 1 dX12_sum_265 rfl rfl ?_
      refine j_if_ne 271 dX12_sum_266 (by decide) h (fun h => ?_) (fun h => ?_)
      · refine j_aload_n 0 dX12_sum_271 rfl rfl ?_
        refine j_bipush (41 : Int32) dX12_sum_272 kb_41 ?_
        obtain ⟨q11, e12, h⟩ := ok_b h
        refine j_callV (As := [.int (41 : Int32)]) (st := []) [.int q11.1] (c_X12_want (kl κ) (gm κ) (kA κ) (41 : Int32) w7 q11 e12) ck_RX12_431 im_X12_want se_X12_want sh_97 cx_12 ⟨rfl, rfl⟩ ⟨by decide, by decide⟩ rfl rfl (Nat.le_of_ble_eq_true rfl) dX12_sum_274 _ rfl ?_
        refine j_if_ne 282 dX12_sum_277 (by decide) h (fun h => ?_) (fun h => ?_)
        · refine j_iinc (a1 + (-1 : Int32)) 1 [(1, .int (a1 + (-1 : Int32))), (0, .ref (ad (gm κ) 97)), (2, .int a2)] dX12_sum_282 rfl (by rw [kn_m1]) (by decide) rfl ?_
          refine j_goto 18 dX12_sum_285 (by decide) ?_
          refine j_loc [(0, .ref (ad (gm κ) 97)), (1, .int (a1 + (-1 : Int32))), (2, .int a2)] [1, 0, 2] rfl ?_
          have h := sel_l h
          have h := KG _ h
          exact h
        · refine j_loc [] [] rfl ?_
          have h := sel_r h
          have h := K3 _ h
          exact h
      · refine j_loc [] [] rfl ?_
        have h := sel_r h
        have h := K2 _ h
        exact h
    · refine j_loc [(0, .ref (ad (gm κ) 97)), (1, .int a1)] [0, 1] rfl ?_
      exact t_X12_sum_j246 a1 w7 KG K0 K1 K2 K3 K4 h
noncomputable def X12_sum_j157 (a1 : Int32) (a2 : Int32) (w : Wd) : Option ((Int32 × Int32 × Wd) ⊕ (Wd ⊕ Wd ⊕ Wd ⊕ Wd ⊕ Wd)) :=
gd (vp_in a1 8) <|
(some (puI w 143 (ix a1) (0 : Int32))).bind fun w3 =>
(if (X12_isSign (42 : Int32) w3) = 0 then
(if (X12_isSign (47 : Int32) w3) = 0 then
gd (vp_in a1 8) <|
(if (w3.1 142 (ix a1)) = 0 then
X12_sum_j221 a1 a2 w3
else
gd (vp_in a1 8) <|
(X12_puts (w3.1 142 (ix a1)) (0 : Int32) w3).bind fun q13 =>
X12_sum_j221 a1 a2 q13)
else
X12_sum_j182 a1 w3)
else
X12_sum_j182 a1 w3)
set_option maxRecDepth 20000 in
set_option maxHeartbeats 1000000 in
theorem t_X12_sum_j157 {κ : Kx} (a1 : Int32) (a2 : Int32) (w : Wd) {G : (Int32 × Int32 × Wd) → Prop} {P : (Wd ⊕ Wd ⊕ Wd ⊕ Wd ⊕ Wd) → Prop} (KG : ∀ s, G s → J κ RX12 cX12_sum 4 (some .boolean) (rmk 5 111) 18 [(0, .ref (ad (gm κ) 97)), (1, .int s.1), (2, .int s.2.1)] [] s.2.2) (K0 : ∀ e, P (.inl e) → J κ RX12 cX12_sum 4 (some .boolean) (rmk 5 111) 95 [(0, .ref (ad (gm κ) 97))] [] e) (K1 : ∀ e, P (.inr (.inl e)) → J κ RX12 cX12_sum 4 (some .boolean) (rmk 5 111) 107 [(0, .ref (ad (gm κ) 97))] [] e) (K2 : ∀ e, P (.inr (.inr (.inl e))) → J κ RX12 cX12_sum 4 (some .boolean) (rmk 5 111) 269 [] [] e) (K3 : ∀ e, P (.inr (.inr (.inr (.inl e)))) → J κ RX12 cX12_sum 4 (some .boolean) (rmk 5 111) 280 [] [] e) (K4 : ∀ e, P (.inr (.inr (.inr (.inr e)))) → J κ RX12 cX12_sum 4 (some .boolean) (rmk 5 111) 288 [] [] e) (h : ok (X12_sum_j157  a1 a2 w) (sel G P)) : J κ RX12 cX12_sum 4 (some .boolean) (rmk 5 111) 157 [(0, .ref (ad (gm κ) 97)), (1, .int a1), (2, .int a2)] [] w := by
  unfold X12_sum_j157 at h
  refine j_aload_n 0 dX12_sum_157 rfl rfl ?_
  refine j_getA 143 fl_RX12_158 sh_97 fk_97_66 (by decide) dX12_sum_158 ?_
  refine j_iload_n 1 dX12_sum_161 rfl rfl ?_
  refine j_iconst (0 : Int32) dX12_sum_162 ki_0 ?_
  refine j_iast sh_143 dX12_sum_163 h (fun h => ?_)
  refine j_lW h (fun w3 h => ?_)
  refine j_aload_n 0 dX12_sum_164 rfl rfl ?_
  refine j_bipush (42 : Int32) dX12_sum_165 kb_42 ?_
  refine j_callV (As := [.int (42 : Int32)]) (st := []) [.int (X12_isSign (42 : Int32) w3)] (c_X12_isSign (kl κ) (gm κ) (kA κ) (42 : Int32) w3) ck_RX12_414 im_X12_isSign se_X12_isSign sh_97 cx_12 ⟨rfl, rfl⟩ ⟨by decide, by decide⟩ rfl rfl (Nat.le_of_ble_eq_true rfl) dX12_sum_167 _ rfl ?_
  refine j_if_ne 182 dX12_sum_170 (by decide) h (fun h => ?_) (fun h => ?_)
  · refine j_loc [(0, .ref (ad (gm κ) 97)), (1, .int a1)] [0, 1] rfl ?_
    exact t_X12_sum_j182 a1 w3 KG K0 K1 K2 K3 K4 h
  · refine j_aload_n 0 dX12_sum_173 rfl rfl ?_
    refine j_bipush (47 : Int32) dX12_sum_174 kb_47 ?_
    refine j_callV (As := [.int (47 : Int32)]) (st := []) [.int (X12_isSign (47 : Int32) w3)] (c_X12_isSign (kl κ) (gm κ) (kA κ) (47 : Int32) w3) ck_RX12_414 im_X12_isSign se_X12_isSign sh_97 cx_12 ⟨rfl, rfl⟩ ⟨by decide, by decide⟩ rfl rfl (Nat.le_of_ble_eq_true rfl) dX12_sum_176 _ rfl ?_
    refine j_if_eq 201 dX12_sum_179 (by decide) h (fun h => ?_) (fun h => ?_)
    · refine j_aload_n 0 dX12_sum_201 rfl rfl ?_
      refine j_getA 142 fl_RX12_155 sh_97 fk_97_65 (by decide) dX12_sum_202 ?_
      refine j_iload_n 1 dX12_sum_205 rfl rfl ?_
      refine j_iald sh_142 dX12_sum_206 h (fun h => ?_)
      refine j_if_eq 221 dX12_sum_207 (by decide) h (fun h => ?_) (fun h => ?_)
      · refine j_loc [(0, .ref (ad (gm κ) 97)), (1, .int a1), (2, .int a2)] [0, 1, 2] rfl ?_
        exact t_X12_sum_j221 a1 a2 w3 KG K0 K1 K2 K3 K4 h
      · refine j_aload_n 0 dX12_sum_210 rfl rfl ?_
        refine j_aload_n 0 dX12_sum_211 rfl rfl ?_
        refine j_getA 142 fl_RX12_155 sh_97 fk_97_65 (by decide) dX12_sum_212 ?_
        refine j_iload_n 1 dX12_sum_215 rfl rfl ?_
        refine j_iald sh_142 dX12_sum_216 h (fun h => ?_)
        refine j_iconst (0 : Int32) dX12_sum_217 ki_0 ?_
        obtain ⟨q13, e14, h⟩ := ok_b h
        refine j_callV (As := [.int (w3.1 142 (ix a1)), .int (0 : Int32)]) (st := []) [] (c_X12_puts (kl κ) (gm κ) (kA κ) (w3.1 142 (ix a1)) (0 : Int32) w3 q13 e14) ck_RX12_428 im_X12_puts se_X12_puts sh_97 cx_12 ⟨rfl, rfl⟩ ⟨by decide, by decide⟩ rfl rfl (Nat.le_of_ble_eq_true rfl) dX12_sum_218 _ rfl ?_
        refine j_loc [(0, .ref (ad (gm κ) 97)), (1, .int a1), (2, .int a2)] [0, 1, 2] rfl ?_
        exact t_X12_sum_j221 a1 a2 q13 KG K0 K1 K2 K3 K4 h
    · refine j_loc [(0, .ref (ad (gm κ) 97)), (1, .int a1)] [0, 1] rfl ?_
      exact t_X12_sum_j182 a1 w3 KG K0 K1 K2 K3 K4 h
noncomputable def X12_sum_j74 (a1 : Int32) (s0 : Int32) (s1 : Int32) (w : Wd) : Option ((Int32 × Int32 × Wd) ⊕ (Wd ⊕ Wd ⊕ Wd ⊕ Wd ⊕ Wd)) :=
(X12_puts s1 s0 w).bind fun q19 =>
(X12_next q19).bind fun q21 =>
some (.inl (a1, (0 : Int32), q21))
set_option maxRecDepth 20000 in
set_option maxHeartbeats 1000000 in
theorem t_X12_sum_j74 {κ : Kx} (a1 : Int32) (s0 : Int32) (s1 : Int32) (w : Wd) {G : (Int32 × Int32 × Wd) → Prop} {P : (Wd ⊕ Wd ⊕ Wd ⊕ Wd ⊕ Wd) → Prop} (KG : ∀ s, G s → J κ RX12 cX12_sum 4 (some .boolean) (rmk 5 111) 18 [(0, .ref (ad (gm κ) 97)), (1, .int s.1), (2, .int s.2.1)] [] s.2.2) (K0 : ∀ e, P (.inl e) → J κ RX12 cX12_sum 4 (some .boolean) (rmk 5 111) 95 [(0, .ref (ad (gm κ) 97))] [] e) (K1 : ∀ e, P (.inr (.inl e)) → J κ RX12 cX12_sum 4 (some .boolean) (rmk 5 111) 107 [(0, .ref (ad (gm κ) 97))] [] e) (K2 : ∀ e, P (.inr (.inr (.inl e))) → J κ RX12 cX12_sum 4 (some .boolean) (rmk 5 111) 269 [] [] e) (K3 : ∀ e, P (.inr (.inr (.inr (.inl e)))) → J κ RX12 cX12_sum 4 (some .boolean) (rmk 5 111) 280 [] [] e) (K4 : ∀ e, P (.inr (.inr (.inr (.inr e)))) → J κ RX12 cX12_sum 4 (some .boolean) (rmk 5 111) 288 [] [] e) (h : ok (X12_sum_j74  a1 s0 s1 w) (sel G P)) : J κ RX12 cX12_sum 4 (some .boolean) (rmk 5 111) 74 [(0, .ref (ad (gm κ) 97)), (1, .int a1)] [.int s0, .int s1, .ref (ad (gm κ) 97)] w := by
  unfold X12_sum_j74 at h
  obtain ⟨q19, e20, h⟩ := ok_b h
  refine j_callV (As := [.int s1, .int s0]) (st := []) [] (c_X12_puts (kl κ) (gm κ) (kA κ) s1 s0 w q19 e20) ck_RX12_428 im_X12_puts se_X12_puts sh_97 cx_12 ⟨rfl, rfl⟩ ⟨by decide, by decide⟩ rfl rfl (Nat.le_of_ble_eq_true rfl) dX12_sum_74 _ rfl ?_
  refine j_aload_n 0 dX12_sum_77 rfl rfl ?_
  obtain ⟨q21, e22, h⟩ := ok_b h
  refine j_callV (As := []) (st := []) [] (c_X12_next (kl κ) (gm κ) (kA κ) q19 q21 e22) ck_RX12_420 im_X12_next se_X12_next sh_97 cx_12 ⟨rfl, rfl⟩ ⟨by decide, by decide⟩ rfl rfl (Nat.le_of_ble_eq_true rfl) dX12_sum_78 _ rfl ?_
  refine j_iconst (0 : Int32) dX12_sum_81 ki_0 ?_
  refine j_istore_n [(2, .int (0 : Int32)), (0, .ref (ad (gm κ) 97)), (1, .int a1)] dX12_sum_82 rfl (by decide) rfl ?_
  refine j_goto 18 dX12_sum_83 (by decide) ?_
  refine j_loc [(0, .ref (ad (gm κ) 97)), (1, .int a1), (2, .int (0 : Int32))] [1, 2, 0] rfl ?_
  have h := sel_l h
  have h := KG _ h
  exact h
noncomputable def X12_sum_j61 (a1 : Int32) (a3 : Int32) (s0 : Int32) (w : Wd) : Option ((Int32 × Int32 × Wd) ⊕ (Wd ⊕ Wd ⊕ Wd ⊕ Wd ⊕ Wd)) :=
(if a3 = (-1 : Int32) then
X12_sum_j74 a1 (w.1 97 38) s0 w
else
X12_sum_j74 a1 a3 s0 w)
set_option maxRecDepth 20000 in
set_option maxHeartbeats 1000000 in
theorem t_X12_sum_j61 {κ : Kx} (a1 : Int32) (a3 : Int32) (s0 : Int32) (w : Wd) {G : (Int32 × Int32 × Wd) → Prop} {P : (Wd ⊕ Wd ⊕ Wd ⊕ Wd ⊕ Wd) → Prop} (KG : ∀ s, G s → J κ RX12 cX12_sum 4 (some .boolean) (rmk 5 111) 18 [(0, .ref (ad (gm κ) 97)), (1, .int s.1), (2, .int s.2.1)] [] s.2.2) (K0 : ∀ e, P (.inl e) → J κ RX12 cX12_sum 4 (some .boolean) (rmk 5 111) 95 [(0, .ref (ad (gm κ) 97))] [] e) (K1 : ∀ e, P (.inr (.inl e)) → J κ RX12 cX12_sum 4 (some .boolean) (rmk 5 111) 107 [(0, .ref (ad (gm κ) 97))] [] e) (K2 : ∀ e, P (.inr (.inr (.inl e))) → J κ RX12 cX12_sum 4 (some .boolean) (rmk 5 111) 269 [] [] e) (K3 : ∀ e, P (.inr (.inr (.inr (.inl e)))) → J κ RX12 cX12_sum 4 (some .boolean) (rmk 5 111) 280 [] [] e) (K4 : ∀ e, P (.inr (.inr (.inr (.inr e)))) → J κ RX12 cX12_sum 4 (some .boolean) (rmk 5 111) 288 [] [] e) (h : ok (X12_sum_j61  a1 a3 s0 w) (sel G P)) : J κ RX12 cX12_sum 4 (some .boolean) (rmk 5 111) 61 [(0, .ref (ad (gm κ) 97)), (1, .int a1), (3, .int a3)] [.int s0, .ref (ad (gm κ) 97)] w := by
  unfold X12_sum_j61 at h
  refine j_iload_n 2 dX12_sum_61 rfl rfl ?_
  refine j_iconst (-1 : Int32) dX12_sum_62 ki_m1 ?_
  refine j_ic_ne 73 dX12_sum_63 (by decide) h (fun h => ?_) (fun h => ?_)
  · refine j_iload_n 2 dX12_sum_73 rfl rfl ?_
    refine j_loc [(0, .ref (ad (gm κ) 97)), (1, .int a1)] [0, 1] rfl ?_
    exact t_X12_sum_j74 a1 a3 s0 w KG K0 K1 K2 K3 K4 h
  · refine j_aload_n 0 dX12_sum_66 rfl rfl ?_
    refine j_getI fl_RX12_377 sh_97 fk_97_38 dX12_sum_67 ?_
    refine j_goto 74 dX12_sum_70 (by decide) ?_
    refine j_loc [(0, .ref (ad (gm κ) 97)), (1, .int a1)] [0, 1] rfl ?_
    exact t_X12_sum_j74 a1 (w.1 97 38) s0 w KG K0 K1 K2 K3 K4 h
noncomputable def X12_sum_j50 (a1 : Int32) (a3 : Int32) (w : Wd) : Option ((Int32 × Int32 × Wd) ⊕ (Wd ⊕ Wd ⊕ Wd ⊕ Wd ⊕ Wd)) :=
(if a3 = (-1 : Int32) then
X12_sum_j61 a1 a3 (0 : Int32) w
else
X12_sum_j61 a1 a3 (1 : Int32) w)
set_option maxRecDepth 20000 in
set_option maxHeartbeats 1000000 in
theorem t_X12_sum_j50 {κ : Kx} (a1 : Int32) (a3 : Int32) (w : Wd) {G : (Int32 × Int32 × Wd) → Prop} {P : (Wd ⊕ Wd ⊕ Wd ⊕ Wd ⊕ Wd) → Prop} (KG : ∀ s, G s → J κ RX12 cX12_sum 4 (some .boolean) (rmk 5 111) 18 [(0, .ref (ad (gm κ) 97)), (1, .int s.1), (2, .int s.2.1)] [] s.2.2) (K0 : ∀ e, P (.inl e) → J κ RX12 cX12_sum 4 (some .boolean) (rmk 5 111) 95 [(0, .ref (ad (gm κ) 97))] [] e) (K1 : ∀ e, P (.inr (.inl e)) → J κ RX12 cX12_sum 4 (some .boolean) (rmk 5 111) 107 [(0, .ref (ad (gm κ) 97))] [] e) (K2 : ∀ e, P (.inr (.inr (.inl e))) → J κ RX12 cX12_sum 4 (some .boolean) (rmk 5 111) 269 [] [] e) (K3 : ∀ e, P (.inr (.inr (.inr (.inl e)))) → J κ RX12 cX12_sum 4 (some .boolean) (rmk 5 111) 280 [] [] e) (K4 : ∀ e, P (.inr (.inr (.inr (.inr e)))) → J κ RX12 cX12_sum 4 (some .boolean) (rmk 5 111) 288 [] [] e) (h : ok (X12_sum_j50  a1 a3 w) (sel G P)) : J κ RX12 cX12_sum 4 (some .boolean) (rmk 5 111) 50 [(0, .ref (ad (gm κ) 97)), (1, .int a1), (3, .int a3)] [] w := by
  unfold X12_sum_j50 at h
  refine j_aload_n 0 dX12_sum_50 rfl rfl ?_
  refine j_iload_n 2 dX12_sum_51 rfl rfl ?_
  refine j_iconst (-1 : Int32) dX12_sum_52 ki_m1 ?_
  refine j_ic_ne 60 dX12_sum_53 (by decide) h (fun h => ?_) (fun h => ?_)
  · refine j_iconst (1 : Int32) dX12_sum_60 ki_1 ?_
    refine j_loc [(0, .ref (ad (gm κ) 97)), (1, .int a1), (3, .int a3)] [0, 1, 2] rfl ?_
    exact t_X12_sum_j61 a1 a3 (1 : Int32) w KG K0 K1 K2 K3 K4 h
  · refine j_iconst (0 : Int32) dX12_sum_56 ki_0 ?_
    refine j_goto 61 dX12_sum_57 (by decide) ?_
    refine j_loc [(0, .ref (ad (gm κ) 97)), (1, .int a1), (3, .int a3)] [0, 1, 2] rfl ?_
    exact t_X12_sum_j61 a1 a3 (0 : Int32) w KG K0 K1 K2 K3 K4 h
noncomputable def X12_sum_b18 (s : (Int32 × Int32 × Wd)) : Option ((Int32 × Int32 × Wd) ⊕ (Wd ⊕ Wd ⊕ Wd ⊕ Wd ⊕ Wd)) :=
(if (s.2.2.1 97 41) = 0 then
(if s.2.1 = 0 then
gd (vp_in s.1 8) <|
(if (s.2.2.1 143 (ix s.1)) = 0 then
X12_sum_j157 s.1 s.2.1 s.2.2
else
gd (vp_in s.1 8) <|
(X12_puts (s.2.2.1 143 (ix s.1)) (0 : Int32) s.2.2).bind fun q15 =>
X12_sum_j157 s.1 s.2.1 q15)
else
(X12_inWords 3 s.2.2).bind fun q17 =>
(if (s.2.2.1 97 35) = (3 : Int32) then
X12_sum_j50 s.1 q17 s.2.2
else
(if q17 = (-1 : Int32) then
(if (X12_isSign (40 : Int32) s.2.2) = 0 then
some (.inr (.inl s.2.2))
else
(if s.1 = (6 : Int32) then
some (.inr (.inr (.inl s.2.2)))
else
(X12_next s.2.2).bind fun q23 =>
gd (vp_in (s.1 + (1 : Int32)) 8) <|
(some (puI q23 142 (ix (s.1 + (1 : Int32))) (0 : Int32))).bind fun w25 =>
gd (vp_in (s.1 + (1 : Int32)) 8) <|
(some (puI w25 143 (ix (s.1 + (1 : Int32))) (0 : Int32))).bind fun w26 =>
some (.inl ((s.1 + (1 : Int32)), s.2.1, w26))))
else
X12_sum_j50 s.1 q17 s.2.2)))
else
some (.inr (.inr (.inr (.inr (.inr s.2.2))))))
set_option maxRecDepth 20000 in
set_option maxHeartbeats 1000000 in
theorem t_X12_sum_b18 {κ : Kx} {P : (Wd ⊕ Wd ⊕ Wd ⊕ Wd ⊕ Wd) → Prop} (K0 : ∀ e, P (.inl e) → J κ RX12 cX12_sum 4 (some .boolean) (rmk 5 111) 95 [(0, .ref (ad (gm κ) 97))] [] e) (K1 : ∀ e, P (.inr (.inl e)) → J κ RX12 cX12_sum 4 (some .boolean) (rmk 5 111) 107 [(0, .ref (ad (gm κ) 97))] [] e) (K2 : ∀ e, P (.inr (.inr (.inl e))) → J κ RX12 cX12_sum 4 (some .boolean) (rmk 5 111) 269 [] [] e) (K3 : ∀ e, P (.inr (.inr (.inr (.inl e)))) → J κ RX12 cX12_sum 4 (some .boolean) (rmk 5 111) 280 [] [] e) (K4 : ∀ e, P (.inr (.inr (.inr (.inr e)))) → J κ RX12 cX12_sum 4 (some .boolean) (rmk 5 111) 288 [] [] e) (s : (Int32 × Int32 × Wd)) (h : ok (lp (X12_sum_b18  ) s) P) : J κ RX12 cX12_sum 4 (some .boolean) (rmk 5 111) 18 [(0, .ref (ad (gm κ) 97)), (1, .int s.1), (2, .int s.2.1)] [] s.2.2 := by
  refine lp_ind (fun s => J κ RX12 cX12_sum 4 (some .boolean) (rmk 5 111) 18 [(0, .ref (ad (gm κ) 97)), (1, .int s.1), (2, .int s.2.1)] [] s.2.2) (fun s h => ?_) s h
  unfold X12_sum_b18 at h
  refine j_aload_n 0 dX12_sum_18 rfl rfl ?_
  refine j_getI fl_RX12_411 sh_97 fk_97_41 dX12_sum_19 ?_
  refine j_if_ne 288 dX12_sum_22 (by decide) h (fun h => ?_) (fun h => ?_)
  · refine j_loc [] [] rfl ?_
    have h := sel_r h
    have h := K4 _ h
    exact h
  · refine j_iload_n 2 dX12_sum_25 rfl rfl ?_
    refine j_if_eq 137 dX12_sum_26 (by decide) h (fun h => ?_) (fun h => ?_)
    · refine j_aload_n 0 dX12_sum_137 rfl rfl ?_
      refine j_getA 143 fl_RX12_158 sh_97 fk_97_66 (by decide) dX12_sum_138 ?_
      refine j_iload_n 1 dX12_sum_141 rfl rfl ?_
      refine j_iald sh_143 dX12_sum_142 h (fun h => ?_)
      refine j_if_eq 157 dX12_sum_143 (by decide) h (fun h => ?_) (fun h => ?_)
      · refine j_loc [(0, .ref (ad (gm κ) 97)), (1, .int s.1), (2, .int s.2.1)] [0, 1, 2] rfl ?_
        exact t_X12_sum_j157 s.1 s.2.1 s.2.2 (fun _ h => h) K0 K1 K2 K3 K4 h
      · refine j_aload_n 0 dX12_sum_146 rfl rfl ?_
        refine j_aload_n 0 dX12_sum_147 rfl rfl ?_
        refine j_getA 143 fl_RX12_158 sh_97 fk_97_66 (by decide) dX12_sum_148 ?_
        refine j_iload_n 1 dX12_sum_151 rfl rfl ?_
        refine j_iald sh_143 dX12_sum_152 h (fun h => ?_)
        refine j_iconst (0 : Int32) dX12_sum_153 ki_0 ?_
        obtain ⟨q15, e16, h⟩ := ok_b h
        refine j_callV (As := [.int (s.2.2.1 143 (ix s.1)), .int (0 : Int32)]) (st := []) [] (c_X12_puts (kl κ) (gm κ) (kA κ) (s.2.2.1 143 (ix s.1)) (0 : Int32) s.2.2 q15 e16) ck_RX12_428 im_X12_puts se_X12_puts sh_97 cx_12 ⟨rfl, rfl⟩ ⟨by decide, by decide⟩ rfl rfl (Nat.le_of_ble_eq_true rfl) dX12_sum_154 _ rfl ?_
        refine j_loc [(0, .ref (ad (gm κ) 97)), (1, .int s.1), (2, .int s.2.1)] [0, 1, 2] rfl ?_
        exact t_X12_sum_j157 s.1 s.2.1 q15 (fun _ h => h) K0 K1 K2 K3 K4 h
    · refine j_aload_n 0 dX12_sum_29 rfl rfl ?_
      refine j_ldcSw (i := 3) rfl rfl rfl dX12_sum_30 ?_
      obtain ⟨q17, e18, h⟩ := ok_b h
      refine j_callV (As := [.ref (sK (gm κ) 3)]) (st := []) [.int q17] (c_X12_inWords (kl κ) (gm κ) (kA κ) 3 (by decide) s.2.2 q17 e18) ck_RX12_407 im_X12_inWords se_X12_inWords sh_97 cx_12 ⟨rfl, rfl⟩ ⟨by decide, by decide⟩ rfl rfl (Nat.le_of_ble_eq_true rfl) dX12_sum_33 _ rfl ?_
      refine j_istore_n [(3, .int q17), (0, .ref (ad (gm κ) 97)), (1, .int s.1), (2, .int s.2.1)] dX12_sum_36 rfl (by decide) rfl ?_
      refine j_aload_n 1 dX12_sum_37 rfl rfl ?_
      refine j_getI fl_RX12_380 sh_97 fk_97_35 dX12_sum_38 ?_
      refine j_iconst (3 : Int32) dX12_sum_41 ki_3 ?_
      refine j_ic_eq 50 dX12_sum_42 (by decide) h (fun h => ?_) (fun h => ?_)
      · refine j_loc [(0, .ref (ad (gm κ) 97)), (1, .int s.1), (3, .int q17)] [1, 2, 0] rfl ?_
        exact t_X12_sum_j50 s.1 q17 s.2.2 (fun _ h => h) K0 K1 K2 K3 K4 h
      · refine j_iload_n 0 dX12_sum_45 rfl rfl ?_
        refine j_iconst (-1 : Int32) dX12_sum_46 ki_m1 ?_
        refine j_ic_eq 86 dX12_sum_47 (by decide) h (fun h => ?_) (fun h => ?_)
        · refine j_aload_n 1 dX12_sum_86 rfl rfl ?_
          refine j_bipush (40 : Int32) dX12_sum_87 kb_40 ?_
          refine j_callV (As := [.int (40 : Int32)]) (st := []) [.int (X12_isSign (40 : Int32) s.2.2)] (c_X12_isSign (kl κ) (gm κ) (kA κ) (40 : Int32) s.2.2) ck_RX12_414 im_X12_isSign se_X12_isSign sh_97 cx_12 ⟨rfl, rfl⟩ ⟨by decide, by decide⟩ rfl rfl (Nat.le_of_ble_eq_true rfl) dX12_sum_89 _ rfl ?_
          refine j_if_ne 101 dX12_sum_92 (by decide) h (fun h => ?_) (fun h => ?_)
          · refine j_iload_n 2 dX12_sum_101 rfl rfl ?_
            refine j_bipush (6 : Int32) dX12_sum_102 kb_6 ?_
            refine j_ic_ne 113 dX12_sum_104 (by decide) h (fun h => ?_) (fun h => ?_)
            · refine j_aload_n 1 dX12_sum_113 rfl rfl ?_
              obtain ⟨q23, e24, h⟩ := ok_b h
              refine j_callV (As := []) (st := []) [] (c_X12_next (kl κ) (gm κ) (kA κ) s.2.2 q23 e24) ck_RX12_420 im_X12_next se_X12_next sh_97 cx_12 ⟨rfl, rfl⟩ ⟨by decide, by decide⟩ rfl rfl (Nat.le_of_ble_eq_true rfl) dX12_sum_114 _ rfl ?_
              refine j_iinc (s.1 + (1 : Int32)) 2 [(1, .int (s.1 + (1 : Int32))), (3, .int q17), (0, .ref (ad (gm κ) 97)), (2, .int s.2.1)] dX12_sum_117 rfl (by rw [kn_1]) (by decide) rfl ?_
              refine j_aload_n 2 dX12_sum_120 rfl rfl ?_
              refine j_getA 142 fl_RX12_155 sh_97 fk_97_65 (by decide) dX12_sum_121 ?_
              refine j_iload_n 0 dX12_sum_124 rfl rfl ?_
              refine j_iconst (0 : Int32) dX12_sum_125 ki_0 ?_
              refine j_iast sh_142 dX12_sum_126 h (fun h => ?_)
              refine j_lW h (fun w25 h => ?_)
              refine j_aload_n 2 dX12_sum_127 rfl rfl ?_
              refine j_getA 143 fl_RX12_158 sh_97 fk_97_66 (by decide) dX12_sum_128 ?_
              refine j_iload_n 0 dX12_sum_131 rfl rfl ?_
              refine j_iconst (0 : Int32) dX12_sum_132 ki_0 ?_
              refine j_iast sh_143 dX12_sum_133 h (fun h => ?_)
              refine j_lW h (fun w26 h => ?_)
              refine j_goto 18 dX12_sum_134 (by decide) ?_
              refine j_loc [(0, .ref (ad (gm κ) 97)), (1, .int (s.1 + (1 : Int32))), (2, .int s.2.1)] [2, 0, 3] rfl ?_
              have h := sel_l h
              exact h
            · refine j_loc [(0, .ref (ad (gm κ) 97))] [1] rfl ?_
              have h := sel_r h
              have h := K1 _ h
              exact h
          · refine j_loc [(0, .ref (ad (gm κ) 97))] [1] rfl ?_
            have h := sel_r h
            have h := K0 _ h
            exact h
        · refine j_loc [(0, .ref (ad (gm κ) 97)), (1, .int s.1), (3, .int q17)] [1, 2, 0] rfl ?_
          exact t_X12_sum_j50 s.1 q17 s.2.2 (fun _ h => h) K0 K1 K2 K3 K4 h
noncomputable def X12_sum (w : Wd) : Option (Int32 × Wd) :=
gd (vp_in (0 : Int32) 8) <|
(some (puI w 142 (ix (0 : Int32)) (0 : Int32))).bind fun w1 =>
gd (vp_in (0 : Int32) 8) <|
(some (puI w1 143 (ix (0 : Int32)) (0 : Int32))).bind fun w2 =>
(lp (X12_sum_b18 ) ((0 : Int32), (1 : Int32), w2)).bind fun e27 => match e27 with
| (.inl e28) => ((X12_fails (2 : Int32) e28).bind fun q29 =>
gd (narrow .boolean (.int q29.1) = .int q29.1) <|
some (q29.1, q29.2))
| (.inr (.inl e31)) => ((X12_fails (5 : Int32) e31).bind fun q32 =>
gd (narrow .boolean (.int q32.1) = .int q32.1) <|
some (q32.1, q32.2))
| (.inr (.inr (.inl e34))) => (some ((1 : Int32), e34))
| (.inr (.inr (.inr (.inl e35)))) => (some ((0 : Int32), e35))
| (.inr (.inr (.inr (.inr e36)))) => (some ((0 : Int32), e36))
set_option maxRecDepth 20000 in
set_option maxHeartbeats 1000000 in
theorem t_X12_sum {κ : Kx} (w : Wd) (h : ok (X12_sum   w) (PIw κ)) : J κ RX12 cX12_sum 4 (some .boolean) (rmk 5 111) 0 [(0, .ref (ad (gm κ) 97))] [] w := by
  unfold X12_sum at h
  refine j_iconst (0 : Int32) dX12_sum_0 ki_0 ?_
  refine j_istore_n [(1, .int (0 : Int32)), (0, .ref (ad (gm κ) 97))] dX12_sum_1 rfl (by decide) rfl ?_
  refine j_aload_n 1 dX12_sum_2 rfl rfl ?_
  refine j_getA 142 fl_RX12_155 sh_97 fk_97_65 (by decide) dX12_sum_3 ?_
  refine j_iconst (0 : Int32) dX12_sum_6 ki_0 ?_
  refine j_iconst (0 : Int32) dX12_sum_7 ki_0 ?_
  refine j_iast sh_142 dX12_sum_8 h (fun h => ?_)
  refine j_lW h (fun w1 h => ?_)
  refine j_aload_n 1 dX12_sum_9 rfl rfl ?_
  refine j_getA 143 fl_RX12_158 sh_97 fk_97_66 (by decide) dX12_sum_10 ?_
  refine j_iconst (0 : Int32) dX12_sum_13 ki_0 ?_
  refine j_iconst (0 : Int32) dX12_sum_14 ki_0 ?_
  refine j_iast sh_143 dX12_sum_15 h (fun h => ?_)
  refine j_lW h (fun w2 h => ?_)
  refine j_iconst (1 : Int32) dX12_sum_16 ki_1 ?_
  refine j_istore_n [(2, .int (1 : Int32)), (1, .int (0 : Int32)), (0, .ref (ad (gm κ) 97))] dX12_sum_17 rfl (by decide) rfl ?_
  refine j_loc [(0, .ref (ad (gm κ) 97)), (1, .int (0 : Int32)), (2, .int (1 : Int32))] [2, 1, 0] rfl ?_
  refine t_X12_sum_b18  (fun e28 h => ?_) (fun e31 h => ?_) (fun e34 h => ?_) (fun e35 h => ?_) (fun e36 h => ?_) ((0 : Int32), (1 : Int32), w2) (ok_bb h)
  · refine j_aload_n 0 dX12_sum_95 rfl rfl ?_
    refine j_iconst (2 : Int32) dX12_sum_96 ki_2 ?_
    obtain ⟨q29, e30, h⟩ := ok_b h
    refine j_callV (As := [.int (2 : Int32)]) (st := []) [.int q29.1] (c_X12_fails (kl κ) (gm κ) (kA κ) (2 : Int32) e28 q29 e30) ck_RX12_417 im_X12_fails se_X12_fails sh_97 cx_12 ⟨rfl, rfl⟩ ⟨by decide, by decide⟩ rfl rfl (Nat.le_of_ble_eq_true rfl) dX12_sum_97 _ rfl ?_
    obtain ⟨hz, h⟩ := ok_g h
    have h := ok_s h
    exact j_iret dX12_sum_100 rfl hz h
  · refine j_aload_n 0 dX12_sum_107 rfl rfl ?_
    refine j_iconst (5 : Int32) dX12_sum_108 ki_5 ?_
    obtain ⟨q32, e33, h⟩ := ok_b h
    refine j_callV (As := [.int (5 : Int32)]) (st := []) [.int q32.1] (c_X12_fails (kl κ) (gm κ) (kA κ) (5 : Int32) e31 q32 e33) ck_RX12_417 im_X12_fails se_X12_fails sh_97 cx_12 ⟨rfl, rfl⟩ ⟨by decide, by decide⟩ rfl rfl (Nat.le_of_ble_eq_true rfl) dX12_sum_109 _ rfl ?_
    obtain ⟨hz, h⟩ := ok_g h
    have h := ok_s h
    exact j_iret dX12_sum_112 rfl hz h
  · refine j_iconst (1 : Int32) dX12_sum_269 ki_1 ?_
    have h := ok_s h
    exact j_iret dX12_sum_270 rfl (by decide) h
  · refine j_iconst (0 : Int32) dX12_sum_280 ki_0 ?_
    have h := ok_s h
    exact j_iret dX12_sum_281 rfl (by decide) h
  · refine j_iconst (0 : Int32) dX12_sum_288 ki_0 ?_
    have h := ok_s h
    exact j_iret dX12_sum_289 rfl (by decide) h
theorem c_X12_sum (l : Launch) (γ : Gm) (A : Nat → Prop) (w : Wd) (q : Int32 × Wd) (e : X12_sum   w = some q) : MetG l γ A yX12_sum cX12_sum 4 (some .boolean) (rmk 5 111) [.ref (ad (γ) 97)] w (some (.int q.1)) q.2 := by
  refine met_of pn_RX12 (Nat.le_of_ble_eq_true rfl) ?_
  intro κ hl hγ hA hρ
  subst hl; subst hγ; subst hA
  exact t_X12_sum    w ⟨q, e, pIw hρ rfl rfl⟩
