/-! is a PROOF passed? -/
def shP (w : Wd) (p : Nat) : Nat := nn w 6 (nn w 12 (nn w 81 p))
def psP (w : Wd) (p : Nat) : Prop := nn w 83 p ≤ lst w (RS w (shP w p) (nn w 82 p)) 105 0 (RS w (shP w p) (nn w 82 p)).length
theorem OPC.tr {w w1 w2 : Wd} (h : OPC w w1) (h2 : OPC w1 w2) : OPC w w2 := ⟨h.1.tr h2.1, h2.2⟩
theorem shP_in {w : Wd} (hL : IL w) (hP : IP w) {p : Nat} (hp : p < nn w 80 0) : w.1 81 p = nI (nn w 81 p) ∧ nn w 81 p < 40 ∧ w.1 12 (nn w 81 p) = nI (nn w 12 (nn w 81 p)) ∧ nn w 12 (nn w 81 p) < 16 ∧ w.1 6 (nn w 12 (nn w 81 p)) = nI (shP w p) ∧ shP w p < 4 ∧ w.1 82 p = nI (nn w 82 p) ∧ nn w 82 p < 60 := by
  obtain ⟨⟨e81, b81⟩, ⟨e82, b82⟩, -⟩ := hP.2.2 p hp
  have b8 := hL.1.2.2.1.2
  have b0 := hL.1.1.2
  obtain ⟨⟨e12, b12⟩, -⟩ := hL.2.2.2.2.2.2.1 _ b81
  obtain ⟨e6, b6⟩ := hL.2.2.2.2.1 _ b12
  exact ⟨e81, by omega, e12, by omega, e6, b6, e82, b82⟩
theorem opc_stand {w w1 : Wd} (h : YI w) {s : Nat} (hs : s < 4) (h1 : FG (stc s) w w1) (h2 : IG w1) : OPC w w1 := by
  obtain ⟨a1, a2, a3, a4, a5, a6, a7, a8⟩ := h
  have hc : stc s = 45 + 5 * s := rfl
  have fr : Fr sS_Z sF_Z w w1 := FG.fr hs h1 (fun k k1 k2 => by unfold sS_Z; simp only [List.mem_cons, List.not_mem_nil, or_false]; omega)
  exact ⟨fr, h2, a3.sm (h1.sm (by omega) (by omega) (by decide) (by decide)), a8.c (h1.sm (by omega) (by omega) (by decide) (by decide)) (by rw [(h1 5 (by omega)).1]) (by rw [(h1 73 (by omega)).1]) (h1 74 (by omega)).1 (h1 75 (by omega)).1 (h1 76 (by omega)).1⟩
theorem passed_e {w : Wd} (h : YI w) (hP : IP w) {p : Nat} (hp : p < nn w 80 0) : ∃ v, X11_isPassed (nI p) w = some (fg (psP w p), v) ∧ OPC w v := by
  obtain ⟨a1, a2, a3, a4, a5, a6, a7, a8⟩ := id h
  have b80 := hP.1.2
  obtain ⟨e81, b81, e12, b12, e6, b6, e82, b82⟩ := shP_in a1 hP hp
  obtain ⟨V, U, hV, hU, e168, e169, e83, hn8, e84⟩ := hP.get hp
  have e83' : w.1 83 p = nI (nn w 83 p) := by rw [nn_of e83 (by omega)]; exact e83
  have b83 : nn w 83 p ≤ 8 := by rw [nn_of e83 (by omega)]; exact hn8
  have hc : stc (shP w p) = 45 + 5 * shP w p := rfl
  obtain ⟨w1, c1, c2, c3, c4, c5, c6, c7⟩ := standing_e a4 a5 b6 b82
  have hy : Sm sR_Y sF_Y w w1 := c2.sm (by omega) (by omega) (by decide) (by decide)
  have c9 := c7.2.2.2.1
  rw [lst_y hy] at c9
  have hlt : lst w (RS w (shP w p) (nn w 82 p)) 105 0 (RS w (shP w p) (nn w 82 p)).length < 101 := lst_le (by omega) (fun j hj => ((okRl_tl a4 (p := inF w (shP w p) (nn w 82 p))).at a4 hj).2.2.2.2.2.2.1.2) _ (Nat.le_refl _)
  refine ⟨w1, ?_, opc_stand h b6 c2 c4⟩
  unfold X11_isPassed
  simp (disch := omega) only [gdn, gb0, gb1, ixn, nm1, nI_add, nI_mul, nsub, nI_ltI, nI_leI, nI_eq, eqNO, eqNO2, ltNO, NOlt, leNO, NOle, if_pos, if_neg, Option.bind_some, if_true, if_false, and_self, eq_self, l0, l1, l2, l3, l4, l5, l6, l7, l8, l9, l10, l11, l12, l13, l14, l15, l16, l17, l18, l19, l20, l24, l26, l30, l31, l32, l40, l41, l42, l43, l45, l47, l48, l57, l58, l59, l60, l61, l62, l63, l64, l97, l99, l100, l101, l102, l103, l104, l105, l106, l107, l108, l109, l110, l122, l160, l240, l255, l600, l1000, l3000, l10000, l10007, l10116, l67108863, l67108864, e81, e12, e6, e82, c1, gd_t b6, c9, e83']
  unfold psP
  by_cases z : nn w 83 p ≤ lst w (RS w (shP w p) (nn w 82 p)) 105 0 (RS w (shP w p) (nn w 82 p)).length
  · rw [if_neg (by omega), fg_t z]
  · rw [if_pos (by omega), fg_f z]
theorem mpassed_e {w u : Wd} (h : YI w) (hP : IP w) {p : Nat} (hp : p < nn w 80 0) {S : List Nat} {T : List (Nat × Nat)} (hu : Fr S T w u) (hcB : smc S T sR_B sF_B = true) (hcY : smc S T sR_Y sF_Y = true) (hcL : smc S T sR_L sF_L = true) (hcP : smc S T sR_P sF_P = true) : ∃ v, X12_isPassed (nI p) u = some (fg (psP w p), v) ∧ Fr sS_M sF_M u v := by
  obtain ⟨a1, a2, a3, a4, a5, a6, a7, a8⟩ := id h
  have b80 := hP.1.2
  obtain ⟨e81, b81, e12, b12, e6, b6, e82, b82⟩ := shP_in a1 hP hp
  obtain ⟨V, U, hV, hU, e168, e169, e83, hn8, e84⟩ := hP.get hp
  obtain ⟨-, -, r161, r162, -⟩ := hP.2.2 p hp
  have eP : Sm sR_P sF_P w u := hu.sm hcP
  have eL : Sm sR_L sF_L w u := hu.sm hcL
  have eY : Sm sR_Y sF_Y w u := hu.sm hcY
  obtain ⟨q1, s1, s2, s3, s4⟩ := spellF_e (u := u) (p := p) (by omega) hV hU (by rw [(eP.1 168 (by decide)).2]; exact e168) (by rw [(eP.1 169 (by decide)).2]; exact e169)
  have hB1 : IBo q1 := (a4.sm (hu.sm hcB)).sm (s4.sm (by decide))
  have hy1 : Sm sR_Y sF_Y u q1 := s4.sm (by decide)
  obtain ⟨q4, d1, d2, d3⟩ := stand_e hB1 (s := shP w p) (week := nn w 82 p) b6 b82
  have hy4 : Sm sR_Y sF_Y q1 q4 := Fr.sm (d2 : Fr [144, 145, 146] [(97, 70)] q1 q4) (by decide)
  rw [RS_y hy1, RS_y eY] at d3
  have hRk : okRl q1 (RS w (shP w p) (nn w 82 p)) := by
    have := okRl_tl hB1 (p := inF q1 (shP w p) (nn w 82 p))
    rw [show RS w (shP w p) (nn w 82 p) = RS q1 (shP w p) (nn w 82 p) by rw [RS_y hy1, RS_y eY]]; exact this
  have hlo := lastOf_e hB1 hRk d2 d3 (d := 105) (z := 0) (by omega) (by omega) (by omega)
  rw [show dm 105 = 4 from rfl, lst_y hy1, lst_y eY] at hlo
  have hlt : lst w (RS w (shP w p) (nn w 82 p)) 105 0 (RS w (shP w p) (nn w 82 p)).length < 101 := lst_le (by omega) (fun j hj => ((okRl_tl a4 (p := inF w (shP w p) (nn w 82 p))).at a4 hj).2.2.2.2.2.2.1.2) _ (Nat.le_refl _)
  have g161 : q1.1 161 p = nI (nn w 81 p) := by rw [(s4.row 161 (by decide) (by decide)).1, (eP.1 161 (by decide)).1, r161]; exact e81
  have g162 : q1.1 162 p = nI (nn w 82 p) := by rw [(s4.row 162 (by decide) (by decide)).1, (eP.1 162 (by decide)).1, r162]; exact e82
  have g108 : q1.1 108 (nn w 81 p) = nI (nn w 12 (nn w 81 p)) := by rw [(s4.row 108 (by decide) (by decide)).1, (eL.1 108 (by decide)).1, a1.2.2.2.1.1]; exact e12
  have g101 : q1.1 101 (nn w 12 (nn w 81 p)) = nI (shP w p) := by rw [(s4.row 101 (by decide) (by decide)).1, (eL.1 101 (by decide)).1, a1.2.2.1.1]; exact e6
  have g98 : q4.1 97 98 = nI (slM V U) := by rw [((d2 : Fr [144, 145, 146] [(97, 70)] q1 q4) 97 (by decide) 98 (by decide)).1]; exact s2
  refine ⟨q4, ?_, (s4.wk (S' := sS_M) (T' := sF_M) (by decide) (by decide)).next (d2 : Fr [144, 145, 146] [(97, 70)] q1 q4) (by decide) (by decide)⟩
  have b83 : nn w 83 p = slM V U := nn_of e83 (by omega)
  unfold X12_isPassed
  rw [s1]
  simp (disch := omega) only [gdn, gb0, gb1, ixn, nm1, nI_add, nI_mul, nsub, nI_ltI, nI_leI, nI_eq, eqNO, eqNO2, ltNO, NOlt, leNO, NOle, if_pos, if_neg, Option.bind_some, if_true, if_false, and_self, eq_self, l0, l1, l2, l3, l4, l5, l6, l7, l8, l9, l10, l11, l12, l13, l14, l15, l16, l17, l18, l19, l20, l24, l26, l30, l31, l32, l40, l41, l42, l43, l45, l47, l48, l57, l58, l59, l60, l61, l62, l63, l64, l97, l99, l100, l101, l102, l103, l104, l105, l106, l107, l108, l109, l110, l122, l160, l240, l255, l600, l1000, l3000, l10000, l10007, l10116, l67108863, l67108864, g161, g108, g101, g162, d1, hlo, g98]
  unfold psP
  rw [b83]
  by_cases z : slM V U ≤ lst w (RS w (shP w p) (nn w 82 p)) 105 0 (RS w (shP w p) (nn w 82 p)).length
  · rw [if_neg (by omega), fg_t z]
  · rw [if_pos (by omega), fg_f z]
theorem two_y3 {f g : Wd → Option (Int32 × Wd)} {w w1 : Wd} {r x : Int32} (hw : YI w) (h1 : OPC w w1) (k1 : f w = some (r, puI w1 0 10 x)) (k2 : ∃ u, g (puI w1 0 10 x) = some (r, puI u 97 0 x) ∧ Fr sS_M sF_M (puI w1 0 10 x) u) : two f g w OPY := two_y hw h1 k1 k2
theorem o_slips (a1 a2 : Int32) {w : Wd} (h : YI w) (hP : IP w) : two (X11_slips a1 a2) (X12_slips a1 a2) w OPY := by
  have b80 := hP.1.2
  by_cases hv : (0 ≤ a1.toInt ∧ a1.toInt < (nn w 80 0 : Int)) ∧ (0 ≤ a2.toInt ∧ a2.toInt < ((4 : Nat) : Int))
  · obtain ⟨v1, v2⟩ := hv
    obtain ⟨p, hp, rfl⟩ := of_t v1
    obtain ⟨x, hx, rfl⟩ := of_t v2
    obtain ⟨V, U, hV, hU, e168, e169, e83, hn8, e84⟩ := hP.get hp
    obtain ⟨-, ⟨e82, b82⟩, -⟩ := hP.2.2 p hp
    by_cases hx3 : x = 3
    · subst hx3
      obtain ⟨w1, k1, k2⟩ := passed_e h hP hp
      obtain ⟨v, m1, m2⟩ := mpassed_e h hP hp (fr_ans (x := nI 0) k2) (by decide) (by decide) (by decide) (by decide)
      have e86 : (puI w1 0 10 (nI 0)).1 97 86 = nI (nn w 80 0) := by rw [((fr_ans (x := nI 0) k2).row 97 (by decide) (by decide)).1, hP.2.1]; exact hP.1.1
      refine two_y (r := fg (psP w p)) (x := nI 0) h k2 ?_ ⟨v, ?_, m2⟩
      · unfold X11_slips X11_slips_j54
        rw [show (3 : Int32) = nI 3 from rfl]
        by_cases z : psP w p
        · rw [fg_t z] at k1 ⊢
          simp (disch := omega) only [gdn, gb0, gb1, ixn, nm1, nI_add, nI_mul, nsub, nI_ltI, nI_leI, nI_eq, eqNO, eqNO2, ltNO, NOlt, leNO, NOle, if_pos, if_neg, Option.bind_some, if_true, if_false, and_self, eq_self, l0, l1, l2, l3, l4, l5, l6, l7, l8, l9, l10, l11, l12, l13, l14, l15, l16, l17, l18, l19, l20, l24, l26, l30, l31, l32, l40, l41, l42, l43, l45, l47, l48, l57, l58, l59, l60, l61, l62, l63, l64, l97, l99, l100, l101, l102, l103, l104, l105, l106, l107, l108, l109, l110, l122, l160, l240, l255, l600, l1000, l3000, l10000, l10007, l10116, l67108863, l67108864, I_oth, I_J, J_oth, J_I, I_row, J_row, SI_row, SI_oth, SI_J, SJ_row, SJ_oth, SJ_I, upd_s, upd_n, updL_s, updL_n, ne_eq, not_false_eq_true, lt_t, le_t, tI, NO_t, flag0, flag1, ite_or2, ite_self, true_or, or_true, false_or, or_false, true_and, and_true, false_and, and_false, not_true_eq_false, prf_e hP, win, k1, ansW_e]
        · rw [fg_f z] at k1 ⊢
          simp (disch := omega) only [gdn, gb0, gb1, ixn, nm1, nI_add, nI_mul, nsub, nI_ltI, nI_leI, nI_eq, eqNO, eqNO2, ltNO, NOlt, leNO, NOle, if_pos, if_neg, Option.bind_some, if_true, if_false, and_self, eq_self, l0, l1, l2, l3, l4, l5, l6, l7, l8, l9, l10, l11, l12, l13, l14, l15, l16, l17, l18, l19, l20, l24, l26, l30, l31, l32, l40, l41, l42, l43, l45, l47, l48, l57, l58, l59, l60, l61, l62, l63, l64, l97, l99, l100, l101, l102, l103, l104, l105, l106, l107, l108, l109, l110, l122, l160, l240, l255, l600, l1000, l3000, l10000, l10007, l10116, l67108863, l67108864, I_oth, I_J, J_oth, J_I, I_row, J_row, SI_row, SI_oth, SI_J, SJ_row, SJ_oth, SJ_I, upd_s, upd_n, updL_s, updL_n, ne_eq, not_false_eq_true, lt_t, le_t, tI, NO_t, flag0, flag1, ite_or2, ite_self, true_or, or_true, false_or, or_false, true_and, and_true, false_and, and_false, not_true_eq_false, prf_e hP, win, k1, ansW_e]
      · unfold X12_slips X12_slips_j42
        rw [mprf_e _ e86 (by omega)]
        by_cases z : psP w p
        · rw [fg_t z] at m1 ⊢
          simp (disch := omega) only [gdn, gb0, gb1, ixn, nm1, nI_add, nI_mul, nsub, nI_ltI, nI_leI, nI_eq, eqNO, eqNO2, ltNO, NOlt, leNO, NOle, if_pos, if_neg, Option.bind_some, if_true, if_false, and_self, eq_self, l0, l1, l2, l3, l4, l5, l6, l7, l8, l9, l10, l11, l12, l13, l14, l15, l16, l17, l18, l19, l20, l24, l26, l30, l31, l32, l40, l41, l42, l43, l45, l47, l48, l57, l58, l59, l60, l61, l62, l63, l64, l97, l99, l100, l101, l102, l103, l104, l105, l106, l107, l108, l109, l110, l122, l160, l240, l255, l600, l1000, l3000, l10000, l10007, l10116, l67108863, l67108864, I_oth, I_J, J_oth, J_I, I_row, J_row, SI_row, SI_oth, SI_J, SJ_row, SJ_oth, SJ_I, upd_s, upd_n, updL_s, updL_n, ne_eq, not_false_eq_true, lt_t, le_t, tI, NO_t, flag0, flag1, ite_or2, ite_self, true_or, or_true, false_or, or_false, true_and, and_true, false_and, and_false, not_true_eq_false, m1, mgiv_e]
        · rw [fg_f z] at m1 ⊢
          simp (disch := omega) only [gdn, gb0, gb1, ixn, nm1, nI_add, nI_mul, nsub, nI_ltI, nI_leI, nI_eq, eqNO, eqNO2, ltNO, NOlt, leNO, NOle, if_pos, if_neg, Option.bind_some, if_true, if_false, and_self, eq_self, l0, l1, l2, l3, l4, l5, l6, l7, l8, l9, l10, l11, l12, l13, l14, l15, l16, l17, l18, l19, l20, l24, l26, l30, l31, l32, l40, l41, l42, l43, l45, l47, l48, l57, l58, l59, l60, l61, l62, l63, l64, l97, l99, l100, l101, l102, l103, l104, l105, l106, l107, l108, l109, l110, l122, l160, l240, l255, l600, l1000, l3000, l10000, l10007, l10116, l67108863, l67108864, I_oth, I_J, J_oth, J_I, I_row, J_row, SI_row, SI_oth, SI_J, SJ_row, SJ_oth, SJ_I, upd_s, upd_n, updL_s, updL_n, ne_eq, not_false_eq_true, lt_t, le_t, tI, NO_t, flag0, flag1, ite_or2, ite_self, true_or, or_true, false_or, or_false, true_and, and_true, false_and, and_false, not_true_eq_false, m1, mgiv_e]
    · -- 0, 1, 2
      have hD := dnS_lt (ndF w) (YH w (nn w 82 p) (nn w 81 p))
      generalize hDe : dnS (ndF w) (YH w (nn w 82 p) (nn w 81 p)) = D at *
      generalize hNe : cnt (fun k => decide (owS w D (slL V U k) ≠ NO)) (slM V U) = N
      have hN8 : N ≤ slM V U := by rw [← hNe]; exact cnt_le
      have mod : ∀ w1, OPC w w1 → ∃ v, X12_slips (nI p) (nI x) (puI w1 0 10 (nI 0)) = some (if x = 0 then nI (slM V U) else if x = 1 then nI N else nI (slM V U - N), puI v 97 0 (nI 0)) ∧ Fr sS_M sF_M (puI w1 0 10 (nI 0)) v := by
        intro w1 c2
        obtain ⟨v, d1, d2, d3, d4⟩ := owe_e h hP hp (fr_ans (x := nI 0) c2) hV hU e168 e169
        rw [hDe] at d4
        have e86 : (puI w1 0 10 (nI 0)).1 97 86 = nI (nn w 80 0) := by rw [((fr_ans (x := nI 0) c2).row 97 (by decide) (by decide)).1, hP.2.1]; exact hP.1.1
        have hlp := lp_for (b := X12_slips_b56 (nI x) v) (e := nI N) (fun i => (nI (cnt (fun k => decide (owS w D (slL V U k) ≠ NO)) i), nI i)) (slM V U) (fun i hi => ?_) ?_ 0 (Nat.zero_le _)
        · rw [show (nI (cnt (fun k => decide (owS w D (slL V U k) ≠ NO)) 0), nI 0) = (nI 0, nI 0) from rfl] at hlp
          refine ⟨v, ?_, d2⟩
          unfold X12_slips X12_slips_j117
          rw [mprf_e _ e86 (by omega)]
          have hx3' : x = 0 ∨ x = 1 ∨ x = 2 := by omega
          rcases hx3' with rfl | rfl | rfl
          · simp (disch := omega) only [gdn, gb0, gb1, ixn, nm1, nI_add, nI_mul, nsub, nI_ltI, nI_leI, nI_eq, eqNO, eqNO2, ltNO, NOlt, leNO, NOle, if_pos, if_neg, Option.bind_some, if_true, if_false, and_self, eq_self, l0, l1, l2, l3, l4, l5, l6, l7, l8, l9, l10, l11, l12, l13, l14, l15, l16, l17, l18, l19, l20, l24, l26, l30, l31, l32, l40, l41, l42, l43, l45, l47, l48, l57, l58, l59, l60, l61, l62, l63, l64, l97, l99, l100, l101, l102, l103, l104, l105, l106, l107, l108, l109, l110, l122, l160, l240, l255, l600, l1000, l3000, l10000, l10007, l10116, l67108863, l67108864, I_oth, I_J, J_oth, J_I, I_row, J_row, SI_row, SI_oth, SI_J, SJ_row, SJ_oth, SJ_I, upd_s, upd_n, updL_s, updL_n, ne_eq, not_false_eq_true, lt_t, le_t, tI, NO_t, flag0, flag1, ite_or2, ite_self, true_or, or_true, false_or, or_false, true_and, and_true, false_and, and_false, not_true_eq_false, d1, hlp, d3, mgiv_e]
          · simp (disch := omega) only [gdn, gb0, gb1, ixn, nm1, nI_add, nI_mul, nsub, nI_ltI, nI_leI, nI_eq, eqNO, eqNO2, ltNO, NOlt, leNO, NOle, if_pos, if_neg, Option.bind_some, if_true, if_false, and_self, eq_self, l0, l1, l2, l3, l4, l5, l6, l7, l8, l9, l10, l11, l12, l13, l14, l15, l16, l17, l18, l19, l20, l24, l26, l30, l31, l32, l40, l41, l42, l43, l45, l47, l48, l57, l58, l59, l60, l61, l62, l63, l64, l97, l99, l100, l101, l102, l103, l104, l105, l106, l107, l108, l109, l110, l122, l160, l240, l255, l600, l1000, l3000, l10000, l10007, l10116, l67108863, l67108864, I_oth, I_J, J_oth, J_I, I_row, J_row, SI_row, SI_oth, SI_J, SJ_row, SJ_oth, SJ_I, upd_s, upd_n, updL_s, updL_n, ne_eq, not_false_eq_true, lt_t, le_t, tI, NO_t, flag0, flag1, ite_or2, ite_self, true_or, or_true, false_or, or_false, true_and, and_true, false_and, and_false, not_true_eq_false, d1, hlp, d3, mgiv_e]
          · simp (disch := omega) only [gdn, gb0, gb1, ixn, nm1, nI_add, nI_mul, nsub, nI_ltI, nI_leI, nI_eq, eqNO, eqNO2, ltNO, NOlt, leNO, NOle, if_pos, if_neg, Option.bind_some, if_true, if_false, and_self, eq_self, l0, l1, l2, l3, l4, l5, l6, l7, l8, l9, l10, l11, l12, l13, l14, l15, l16, l17, l18, l19, l20, l24, l26, l30, l31, l32, l40, l41, l42, l43, l45, l47, l48, l57, l58, l59, l60, l61, l62, l63, l64, l97, l99, l100, l101, l102, l103, l104, l105, l106, l107, l108, l109, l110, l122, l160, l240, l255, l600, l1000, l3000, l10000, l10007, l10116, l67108863, l67108864, I_oth, I_J, J_oth, J_I, I_row, J_row, SI_row, SI_oth, SI_J, SJ_row, SJ_oth, SJ_I, upd_s, upd_n, updL_s, updL_n, ne_eq, not_false_eq_true, lt_t, le_t, tI, NO_t, flag0, flag1, ite_or2, ite_self, true_or, or_true, false_or, or_false, true_and, and_true, false_and, and_false, not_true_eq_false, d1, hlp, d3, mgiv_e]
        · have e := d4 i hi
          have hcl : cnt (fun k => decide (owS w D (slL V U k) ≠ NO)) i ≤ i := cnt_le
          unfold X12_slips_b56 X12_slips_j82
          rw [cnt_one, show (-1 : Int32) = NO from rfl]
          by_cases z : owS w D (slL V U i) = NO
          · rw [if_neg (show ¬ decide (owS w D (slL V U i) ≠ NO) = true by simpa using z)]
            rw [z] at e
            simp (disch := omega) only [gdn, gb0, gb1, ixn, nm1, nI_add, nI_mul, nsub, nI_ltI, nI_leI, nI_eq, eqNO, eqNO2, ltNO, NOlt, leNO, NOle, if_pos, if_neg, Option.bind_some, if_true, if_false, and_self, eq_self, l0, l1, l2, l3, l4, l5, l6, l7, l8, l9, l10, l11, l12, l13, l14, l15, l16, l17, l18, l19, l20, l24, l26, l30, l31, l32, l40, l41, l42, l43, l45, l47, l48, l57, l58, l59, l60, l61, l62, l63, l64, l97, l99, l100, l101, l102, l103, l104, l105, l106, l107, l108, l109, l110, l122, l160, l240, l255, l600, l1000, l3000, l10000, l10007, l10116, l67108863, l67108864, d3, e]
          · rw [if_pos (show decide (owS w D (slL V U i) ≠ NO) = true by simpa using z)]
            simp (disch := omega) only [gdn, gb0, gb1, ixn, nm1, nI_add, nI_mul, nsub, nI_ltI, nI_leI, nI_eq, eqNO, eqNO2, ltNO, NOlt, leNO, NOle, if_pos, if_neg, Option.bind_some, if_true, if_false, and_self, eq_self, l0, l1, l2, l3, l4, l5, l6, l7, l8, l9, l10, l11, l12, l13, l14, l15, l16, l17, l18, l19, l20, l24, l26, l30, l31, l32, l40, l41, l42, l43, l45, l47, l48, l57, l58, l59, l60, l61, l62, l63, l64, l97, l99, l100, l101, l102, l103, l104, l105, l106, l107, l108, l109, l110, l122, l160, l240, l255, l600, l1000, l3000, l10000, l10007, l10116, l67108863, l67108864, d3, e, z]
        · rw [← hNe]
          unfold X12_slips_b56
          simp (disch := omega) only [gdn, gb0, gb1, ixn, nm1, nI_add, nI_mul, nsub, nI_ltI, nI_leI, nI_eq, eqNO, eqNO2, ltNO, NOlt, leNO, NOle, if_pos, if_neg, Option.bind_some, if_true, if_false, and_self, eq_self, l0, l1, l2, l3, l4, l5, l6, l7, l8, l9, l10, l11, l12, l13, l14, l15, l16, l17, l18, l19, l20, l24, l26, l30, l31, l32, l40, l41, l42, l43, l45, l47, l48, l57, l58, l59, l60, l61, l62, l63, l64, l97, l99, l100, l101, l102, l103, l104, l105, l106, l107, l108, l109, l110, l122, l160, l240, l255, l600, l1000, l3000, l10000, l10007, l10116, l67108863, l67108864, d3]
      by_cases hx0 : x = 0
      · subst hx0
        have f83 : (w.1 83 p) = nI (slM V U) := e83
        refine two_y (r := nI (slM V U)) (x := nI 0) h (OPC.rf h) ?_ (mod w (OPC.rf h))
        unfold X11_slips X11_slips_j54
        rw [show (3 : Int32) = nI 3 from rfl]
        simp (disch := omega) only [gdn, gb0, gb1, ixn, nm1, nI_add, nI_mul, nsub, nI_ltI, nI_leI, nI_eq, eqNO, eqNO2, ltNO, NOlt, leNO, NOle, if_pos, if_neg, Option.bind_some, if_true, if_false, and_self, eq_self, l0, l1, l2, l3, l4, l5, l6, l7, l8, l9, l10, l11, l12, l13, l14, l15, l16, l17, l18, l19, l20, l24, l26, l30, l31, l32, l40, l41, l42, l43, l45, l47, l48, l57, l58, l59, l60, l61, l62, l63, l64, l97, l99, l100, l101, l102, l103, l104, l105, l106, l107, l108, l109, l110, l122, l160, l240, l255, l600, l1000, l3000, l10000, l10007, l10116, l67108863, l67108864, I_oth, I_J, J_oth, J_I, I_row, J_row, SI_row, SI_oth, SI_J, SJ_row, SJ_oth, SJ_I, upd_s, upd_n, updL_s, updL_n, ne_eq, not_false_eq_true, lt_t, le_t, tI, NO_t, flag0, flag1, ite_or2, ite_self, true_or, or_true, false_or, or_false, true_and, and_true, false_and, and_false, not_true_eq_false, prf_e hP, win, f83, answer_e]
      · obtain ⟨w1, c1, c2, c3⟩ := reach_k h (K := nn w 82 p) (by omega)
        have ha := ahead_e h hP hp c2 c3
        rw [hDe] at ha
        have f83 : (w1.1 83 p) = nI (slM V U) := by rw [(c2.1.row 83 (by decide) (by decide)).1]; exact e83
        have hco : ∀ j, j < 15 → X5_countOwed (nI p) (nI j) (nI D) w1 = some (nI (cnt (fun k => decide (owS w D (slL V U k) = nI j)) (slM V U))) := fun j hj => by
          have hc := countOwed_e (w := w1) (h.to c2).2.2.2.2.2.2.1 (p := p) (n := slM V U) (D := D) (j := j) (L := slL V U) (by omega) hn8 f83 (fun k hk => by rw [(c2.1.row 84 (by decide) (by decide)).1]; exact e84 k hk) hD hj
          rw [owS_y (c2.1.row 72 (by decide) (by decide)).1] at hc
          exact hc
        have hsm := cnt_sum (f := fun k => owS w D (slL V U k)) (fun k => owS_in) (slM V U)
        rw [hNe] at hsm
        have hbd : ∀ i, sm (fun j => cnt (fun k => decide (owS w D (slL V U k) = nI j)) (slM V U)) i ≤ i * 8 := fun i => sm_bd (fun j => Nat.le_trans cnt_le hn8) i
        have hlp := lp_for (b := X11_owedSlips_b11 (nI p) (nI D) w1) (e := nI N) (fun i => (nI (sm (fun j => cnt (fun k => decide (owS w D (slL V U k) = nI j)) (slM V U)) i), nI i)) 15 (fun i hi => ?_) ?_ 0 (Nat.zero_le _)
        · have hos : X11_owedSlips (nI p) w1 = some (nI N) := by
            unfold X11_owedSlips
            rw [ha]
            simp only [Option.bind_some]
            rw [show ((0 : Int32), (0 : Int32)) = (nI (sm (fun j => cnt (fun k => decide (owS w D (slL V U k) = nI j)) (slM V U)) 0), nI 0) from rfl, hlp]; rfl
          have hx12 : x = 1 ∨ x = 2 := by omega
          refine two_y (r := if x = 0 then nI (slM V U) else if x = 1 then nI N else nI (slM V U - N)) (x := nI 0) h c2 ?_ (mod w1 c2)
          unfold X11_slips X11_slips_j36 X11_slips_j54
          rw [show (3 : Int32) = nI 3 from rfl]
          rcases hx12 with rfl | rfl
          · simp (disch := omega) only [gdn, gb0, gb1, ixn, nm1, nI_add, nI_mul, nsub, nI_ltI, nI_leI, nI_eq, eqNO, eqNO2, ltNO, NOlt, leNO, NOle, if_pos, if_neg, Option.bind_some, if_true, if_false, and_self, eq_self, l0, l1, l2, l3, l4, l5, l6, l7, l8, l9, l10, l11, l12, l13, l14, l15, l16, l17, l18, l19, l20, l24, l26, l30, l31, l32, l40, l41, l42, l43, l45, l47, l48, l57, l58, l59, l60, l61, l62, l63, l64, l97, l99, l100, l101, l102, l103, l104, l105, l106, l107, l108, l109, l110, l122, l160, l240, l255, l600, l1000, l3000, l10000, l10007, l10116, l67108863, l67108864, I_oth, I_J, J_oth, J_I, I_row, J_row, SI_row, SI_oth, SI_J, SJ_row, SJ_oth, SJ_I, upd_s, upd_n, updL_s, updL_n, ne_eq, not_false_eq_true, lt_t, le_t, tI, NO_t, flag0, flag1, ite_or2, ite_self, true_or, or_true, false_or, or_false, true_and, and_true, false_and, and_false, not_true_eq_false, prf_e hP, win, e82, tp_e, c1, hos, f83, answer_e]
          · simp (disch := omega) only [gdn, gb0, gb1, ixn, nm1, nI_add, nI_mul, nsub, nI_ltI, nI_leI, nI_eq, eqNO, eqNO2, ltNO, NOlt, leNO, NOle, if_pos, if_neg, Option.bind_some, if_true, if_false, and_self, eq_self, l0, l1, l2, l3, l4, l5, l6, l7, l8, l9, l10, l11, l12, l13, l14, l15, l16, l17, l18, l19, l20, l24, l26, l30, l31, l32, l40, l41, l42, l43, l45, l47, l48, l57, l58, l59, l60, l61, l62, l63, l64, l97, l99, l100, l101, l102, l103, l104, l105, l106, l107, l108, l109, l110, l122, l160, l240, l255, l600, l1000, l3000, l10000, l10007, l10116, l67108863, l67108864, I_oth, I_J, J_oth, J_I, I_row, J_row, SI_row, SI_oth, SI_J, SJ_row, SJ_oth, SJ_I, upd_s, upd_n, updL_s, updL_n, ne_eq, not_false_eq_true, lt_t, le_t, tI, NO_t, flag0, flag1, ite_or2, ite_self, true_or, or_true, false_or, or_false, true_and, and_true, false_and, and_false, not_true_eq_false, prf_e hP, win, e82, tp_e, c1, hos, f83, answer_e]
        · have := hbd i
          have hci : cnt (fun k => decide (owS w D (slL V U k) = nI i)) (slM V U) ≤ slM V U := cnt_le
          have es : sm (fun j => cnt (fun k => decide (owS w D (slL V U k) = nI j)) (slM V U)) (i + 1) = sm (fun j => cnt (fun k => decide (owS w D (slL V U k) = nI j)) (slM V U)) i + cnt (fun k => decide (owS w D (slL V U k) = nI i)) (slM V U) := rfl
          rw [es]
          unfold X11_owedSlips_b11
          simp (disch := omega) only [gdn, gb0, gb1, ixn, nm1, nI_add, nI_mul, nsub, nI_ltI, nI_leI, nI_eq, eqNO, eqNO2, ltNO, NOlt, leNO, NOle, if_pos, if_neg, Option.bind_some, if_true, if_false, and_self, eq_self, l0, l1, l2, l3, l4, l5, l6, l7, l8, l9, l10, l11, l12, l13, l14, l15, l16, l17, l18, l19, l20, l24, l26, l30, l31, l32, l40, l41, l42, l43, l45, l47, l48, l57, l58, l59, l60, l61, l62, l63, l64, l97, l99, l100, l101, l102, l103, l104, l105, l106, l107, l108, l109, l110, l122, l160, l240, l255, l600, l1000, l3000, l10000, l10007, l10116, l67108863, l67108864, hco]
        · rw [hsm]
          unfold X11_owedSlips_b11
          simp (disch := omega) only [gdn, gb0, gb1, ixn, nm1, nI_add, nI_mul, nsub, nI_ltI, nI_leI, nI_eq, eqNO, eqNO2, ltNO, NOlt, leNO, NOle, if_pos, if_neg, Option.bind_some, if_true, if_false, and_self, eq_self, l0, l1, l2, l3, l4, l5, l6, l7, l8, l9, l10, l11, l12, l13, l14, l15, l16, l17, l18, l19, l20, l24, l26, l30, l31, l32, l40, l41, l42, l43, l45, l47, l48, l57, l58, l59, l60, l61, l62, l63, l64, l97, l99, l100, l101, l102, l103, l104, l105, l106, l107, l108, l109, l110, l122, l160, l240, l255, l600, l1000, l3000, l10000, l10007, l10116, l67108863, l67108864]
  · refine two_ref (nI 1) (r := NO) ?_ ?_ (fun w' z => OPY.st h z)
    · unfold X11_slips X11_slips_j20
      rw [show (3 : Int32) = nI 3 from rfl]
      simp (disch := omega) only [gdn, gb0, gb1, ixn, nm1, nI_add, nI_mul, nsub, nI_ltI, nI_leI, nI_eq, eqNO, eqNO2, ltNO, NOlt, leNO, NOle, if_pos, if_neg, Option.bind_some, if_true, if_false, and_self, eq_self, l0, l1, l2, l3, l4, l5, l6, l7, l8, l9, l10, l11, l12, l13, l14, l15, l16, l17, l18, l19, l20, l24, l26, l30, l31, l32, l40, l41, l42, l43, l45, l47, l48, l57, l58, l59, l60, l61, l62, l63, l64, l97, l99, l100, l101, l102, l103, l104, l105, l106, l107, l108, l109, l110, l122, l160, l240, l255, l600, l1000, l3000, l10000, l10007, l10116, l67108863, l67108864, I_oth, I_J, J_oth, J_I, I_row, J_row, SI_row, SI_oth, SI_J, SJ_row, SJ_oth, SJ_I, upd_s, upd_n, updL_s, updL_n, ne_eq, not_false_eq_true, lt_t, le_t, tI, NO_t, flag0, flag1, ite_or2, ite_self, true_or, or_true, false_or, or_false, true_and, and_true, false_and, and_false, not_true_eq_false, prf_e hP, win, deny_e]
    · unfold X12_slips X12_slips_j17
      have e86 : (puI w 0 10 (nI 1)).1 97 86 = nI (nn w 80 0) := by rw [I_oth (by decide), hP.2.1]; exact hP.1.1
      rw [mprf_e _ e86 (by omega)]
      simp (disch := omega) only [gdn, gb0, gb1, ixn, nm1, nI_add, nI_mul, nsub, nI_ltI, nI_leI, nI_eq, eqNO, eqNO2, ltNO, NOlt, leNO, NOle, if_pos, if_neg, Option.bind_some, if_true, if_false, and_self, eq_self, l0, l1, l2, l3, l4, l5, l6, l7, l8, l9, l10, l11, l12, l13, l14, l15, l16, l17, l18, l19, l20, l24, l26, l30, l31, l32, l40, l41, l42, l43, l45, l47, l48, l57, l58, l59, l60, l61, l62, l63, l64, l97, l99, l100, l101, l102, l103, l104, l105, l106, l107, l108, l109, l110, l122, l160, l240, l255, l600, l1000, l3000, l10000, l10007, l10116, l67108863, l67108864, I_oth, I_J, J_oth, J_I, I_row, J_row, SI_row, SI_oth, SI_J, SJ_row, SJ_oth, SJ_I, upd_s, upd_n, updL_s, updL_n, ne_eq, not_false_eq_true, lt_t, le_t, tI, NO_t, flag0, flag1, ite_or2, ite_self, true_or, or_true, false_or, or_false, true_and, and_true, false_and, and_false, not_true_eq_false, mref_e]
