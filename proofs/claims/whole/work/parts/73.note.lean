/-! note, asof -/
/-- a change of NOTES that leaves earlier WEEKS alone -/
theorem o_note (a1 a2 a3 a4 a5 a6 : Int32) {w : Wd} (hL : IL w) (h : IN w) : two (X11_note a1 a2 a3 a4 a5 a6) (X12_note a1 a2 a3 a4 a5 a6) w (fun w' => St w w' ∨ (IS w' ∧ IN w' ∧ w'.1 19 8 = NO ∧ ∃ f, f < 60 ∧ (w'.1 73 4 = mnI (w.1 73 4) (nI f) ∨ (w'.1 73 4 = w.1 73 4 ∧ nn w 19 7 < nn w' 25 (nn w 19 0))) ∧ nn w' 23 (nn w 19 0) = f ∧ nn w' 19 0 = nn w 19 0 + 1 ∧ w'.1 19 7 = w.1 19 7 ∧ ∀ i, i < nn w 19 0 → w'.1 20 i = w.1 20 i ∧ w'.1 21 i = w.1 21 i ∧ w'.1 22 i = w.1 22 i ∧ w'.1 23 i = w.1 23 i ∧ w'.1 24 i = w.1 24 i ∧ w'.1 25 i = w.1 25 i)) := by
  have bT := hL.1.2.2.2.1.2
  have bL := hL.1.2.2.1.2
  have bM := hL.1.2.2.2.2.2
  have mT : w.1 97 7 = nI (nn w 5 12) := by rw [hL.2.1.2.2.2.1]; exact hL.1.2.2.2.1.1
  have mLr : w.1 97 6 = nI (nn w 5 8) := by rw [hL.2.1.2.2.1]; exact hL.1.2.2.1.1
  have mM : w.1 97 8 = nI (nn w 5 15) := by rw [hL.2.1.2.2.2.2]; exact hL.1.2.2.2.2.1
  have c0 := h.1.1.1
  have b0 := h.1.1.2
  have c7 := h.1.2.1
  have b7 := h.1.2.2
  have m0 : w.1 97 9 = nI (nn w 19 0) := by rw [h.2.1.1]; exact c0
  have hz0 : (a1 = nI 0) = (a1.toInt = 0) := by rw [eq_t, tI (by omega)]; rfl
  have hz1 : (a1 = nI 1) = (a1.toInt = 1) := by rw [eq_t, tI (by omega)]; rfl
  have hz3 : (a1 = nI 3) = (a1.toInt = 3) := by rw [eq_t, tI (by omega)]; rfl
  have hn3 : (a3 = NO) = (a3.toInt = -1) := by rw [eq_t, NO_t]
  -- what the class asks
  have kc : X11_canBeNoted a1 a2 a3 w = some (if (0 ≤ a1.toInt ∧ a1.toInt ≤ 3) ∧ (((a1.toInt = 0 ∨ a1.toInt = 3) ∧ 0 ≤ a2.toInt ∧ a2.toInt < (nn w 5 12 : Int)) ∨ ((a1.toInt = 1 ∨ a1.toInt = 2) ∧ 0 ≤ a2.toInt ∧ a2.toInt < (nn w 5 8 : Int))) ∧ (((a1.toInt = 0 ∨ a1.toInt = 1) ∧ 0 ≤ a3.toInt ∧ a3.toInt < (nn w 5 15 : Int)) ∨ ((a1.toInt = 2 ∨ a1.toInt = 3) ∧ a3.toInt = -1)) then nI 1 else nI 0) := by
    unfold X11_canBeNoted X11_canBeNoted_j20 X11_canBeNoted_j39 X11_canBeNoted_j50 X11_canBeNoted_j71
    by_cases q0 : a1.toInt = 0
    · by_cases z1 : 0 ≤ a2.toInt ∧ a2.toInt < (nn w 5 12 : Int)
      · by_cases z2 : 0 ≤ a3.toInt ∧ a3.toInt < (nn w 5 15 : Int)
        · simp (disch := omega) only [gdn, gb0, gb1, ixn, nm1, nI_add, nI_mul, nsub, nI_ltI, nI_leI, nI_eq, eqNO, eqNO2, ltNO, NOlt, leNO, NOle, if_pos, if_neg, Option.bind_some, if_true, if_false, and_self, eq_self, l0, l1, l2, l3, l4, l5, l6, l7, l8, l9, l10, l11, l12, l13, l14, l15, l16, l17, l18, l19, l20, l24, l26, l30, l31, l32, l40, l41, l42, l43, l45, l47, l48, l57, l58, l59, l60, l61, l62, l63, l64, l97, l99, l100, l101, l102, l103, l104, l105, l106, l107, l108, l109, l110, l122, l160, l240, l255, l600, l1000, l3000, l10000, l10007, l10116, l67108863, l67108864, I_oth, I_J, J_oth, J_I, I_row, J_row, SI_row, SI_oth, SI_J, SJ_row, SJ_oth, SJ_I, upd_s, upd_n, updL_s, updL_n, ne_eq, not_false_eq_true, lt_t, le_t, tI, NO_t, flag0, flag1, ite_or2, ite_self, true_or, or_true, false_or, or_false, true_and, and_true, false_and, and_false, not_true_eq_false, win, tch_e hL, lmp_e hL, hz0, hz1, hz3, hn3]
        · simp (disch := omega) only [gdn, gb0, gb1, ixn, nm1, nI_add, nI_mul, nsub, nI_ltI, nI_leI, nI_eq, eqNO, eqNO2, ltNO, NOlt, leNO, NOle, if_pos, if_neg, Option.bind_some, if_true, if_false, and_self, eq_self, l0, l1, l2, l3, l4, l5, l6, l7, l8, l9, l10, l11, l12, l13, l14, l15, l16, l17, l18, l19, l20, l24, l26, l30, l31, l32, l40, l41, l42, l43, l45, l47, l48, l57, l58, l59, l60, l61, l62, l63, l64, l97, l99, l100, l101, l102, l103, l104, l105, l106, l107, l108, l109, l110, l122, l160, l240, l255, l600, l1000, l3000, l10000, l10007, l10116, l67108863, l67108864, I_oth, I_J, J_oth, J_I, I_row, J_row, SI_row, SI_oth, SI_J, SJ_row, SJ_oth, SJ_I, upd_s, upd_n, updL_s, updL_n, ne_eq, not_false_eq_true, lt_t, le_t, tI, NO_t, flag0, flag1, ite_or2, ite_self, true_or, or_true, false_or, or_false, true_and, and_true, false_and, and_false, not_true_eq_false, win, tch_e hL, lmp_e hL, hz0, hz1, hz3, hn3]
      · simp (disch := omega) only [gdn, gb0, gb1, ixn, nm1, nI_add, nI_mul, nsub, nI_ltI, nI_leI, nI_eq, eqNO, eqNO2, ltNO, NOlt, leNO, NOle, if_pos, if_neg, Option.bind_some, if_true, if_false, and_self, eq_self, l0, l1, l2, l3, l4, l5, l6, l7, l8, l9, l10, l11, l12, l13, l14, l15, l16, l17, l18, l19, l20, l24, l26, l30, l31, l32, l40, l41, l42, l43, l45, l47, l48, l57, l58, l59, l60, l61, l62, l63, l64, l97, l99, l100, l101, l102, l103, l104, l105, l106, l107, l108, l109, l110, l122, l160, l240, l255, l600, l1000, l3000, l10000, l10007, l10116, l67108863, l67108864, I_oth, I_J, J_oth, J_I, I_row, J_row, SI_row, SI_oth, SI_J, SJ_row, SJ_oth, SJ_I, upd_s, upd_n, updL_s, updL_n, ne_eq, not_false_eq_true, lt_t, le_t, tI, NO_t, flag0, flag1, ite_or2, ite_self, true_or, or_true, false_or, or_false, true_and, and_true, false_and, and_false, not_true_eq_false, win, tch_e hL, lmp_e hL, hz0, hz1, hz3, hn3]
    · by_cases q1 : a1.toInt = 1
      · by_cases z1 : 0 ≤ a2.toInt ∧ a2.toInt < (nn w 5 8 : Int)
        · by_cases z2 : 0 ≤ a3.toInt ∧ a3.toInt < (nn w 5 15 : Int)
          · simp (disch := omega) only [gdn, gb0, gb1, ixn, nm1, nI_add, nI_mul, nsub, nI_ltI, nI_leI, nI_eq, eqNO, eqNO2, ltNO, NOlt, leNO, NOle, if_pos, if_neg, Option.bind_some, if_true, if_false, and_self, eq_self, l0, l1, l2, l3, l4, l5, l6, l7, l8, l9, l10, l11, l12, l13, l14, l15, l16, l17, l18, l19, l20, l24, l26, l30, l31, l32, l40, l41, l42, l43, l45, l47, l48, l57, l58, l59, l60, l61, l62, l63, l64, l97, l99, l100, l101, l102, l103, l104, l105, l106, l107, l108, l109, l110, l122, l160, l240, l255, l600, l1000, l3000, l10000, l10007, l10116, l67108863, l67108864, I_oth, I_J, J_oth, J_I, I_row, J_row, SI_row, SI_oth, SI_J, SJ_row, SJ_oth, SJ_I, upd_s, upd_n, updL_s, updL_n, ne_eq, not_false_eq_true, lt_t, le_t, tI, NO_t, flag0, flag1, ite_or2, ite_self, true_or, or_true, false_or, or_false, true_and, and_true, false_and, and_false, not_true_eq_false, win, lrn_e hL, lmp_e hL, hz0, hz1, hz3, hn3]
          · simp (disch := omega) only [gdn, gb0, gb1, ixn, nm1, nI_add, nI_mul, nsub, nI_ltI, nI_leI, nI_eq, eqNO, eqNO2, ltNO, NOlt, leNO, NOle, if_pos, if_neg, Option.bind_some, if_true, if_false, and_self, eq_self, l0, l1, l2, l3, l4, l5, l6, l7, l8, l9, l10, l11, l12, l13, l14, l15, l16, l17, l18, l19, l20, l24, l26, l30, l31, l32, l40, l41, l42, l43, l45, l47, l48, l57, l58, l59, l60, l61, l62, l63, l64, l97, l99, l100, l101, l102, l103, l104, l105, l106, l107, l108, l109, l110, l122, l160, l240, l255, l600, l1000, l3000, l10000, l10007, l10116, l67108863, l67108864, I_oth, I_J, J_oth, J_I, I_row, J_row, SI_row, SI_oth, SI_J, SJ_row, SJ_oth, SJ_I, upd_s, upd_n, updL_s, updL_n, ne_eq, not_false_eq_true, lt_t, le_t, tI, NO_t, flag0, flag1, ite_or2, ite_self, true_or, or_true, false_or, or_false, true_and, and_true, false_and, and_false, not_true_eq_false, win, lrn_e hL, lmp_e hL, hz0, hz1, hz3, hn3]
        · simp (disch := omega) only [gdn, gb0, gb1, ixn, nm1, nI_add, nI_mul, nsub, nI_ltI, nI_leI, nI_eq, eqNO, eqNO2, ltNO, NOlt, leNO, NOle, if_pos, if_neg, Option.bind_some, if_true, if_false, and_self, eq_self, l0, l1, l2, l3, l4, l5, l6, l7, l8, l9, l10, l11, l12, l13, l14, l15, l16, l17, l18, l19, l20, l24, l26, l30, l31, l32, l40, l41, l42, l43, l45, l47, l48, l57, l58, l59, l60, l61, l62, l63, l64, l97, l99, l100, l101, l102, l103, l104, l105, l106, l107, l108, l109, l110, l122, l160, l240, l255, l600, l1000, l3000, l10000, l10007, l10116, l67108863, l67108864, I_oth, I_J, J_oth, J_I, I_row, J_row, SI_row, SI_oth, SI_J, SJ_row, SJ_oth, SJ_I, upd_s, upd_n, updL_s, updL_n, ne_eq, not_false_eq_true, lt_t, le_t, tI, NO_t, flag0, flag1, ite_or2, ite_self, true_or, or_true, false_or, or_false, true_and, and_true, false_and, and_false, not_true_eq_false, win, lrn_e hL, lmp_e hL, hz0, hz1, hz3, hn3]
      · by_cases q2 : a1.toInt = 2
        · by_cases z1 : 0 ≤ a2.toInt ∧ a2.toInt < (nn w 5 8 : Int)
          · by_cases z2 : a3.toInt = -1
            · simp (disch := omega) only [gdn, gb0, gb1, ixn, nm1, nI_add, nI_mul, nsub, nI_ltI, nI_leI, nI_eq, eqNO, eqNO2, ltNO, NOlt, leNO, NOle, if_pos, if_neg, Option.bind_some, if_true, if_false, and_self, eq_self, l0, l1, l2, l3, l4, l5, l6, l7, l8, l9, l10, l11, l12, l13, l14, l15, l16, l17, l18, l19, l20, l24, l26, l30, l31, l32, l40, l41, l42, l43, l45, l47, l48, l57, l58, l59, l60, l61, l62, l63, l64, l97, l99, l100, l101, l102, l103, l104, l105, l106, l107, l108, l109, l110, l122, l160, l240, l255, l600, l1000, l3000, l10000, l10007, l10116, l67108863, l67108864, I_oth, I_J, J_oth, J_I, I_row, J_row, SI_row, SI_oth, SI_J, SJ_row, SJ_oth, SJ_I, upd_s, upd_n, updL_s, updL_n, ne_eq, not_false_eq_true, lt_t, le_t, tI, NO_t, flag0, flag1, ite_or2, ite_self, true_or, or_true, false_or, or_false, true_and, and_true, false_and, and_false, not_true_eq_false, win, lrn_e hL, lmp_e hL, hz0, hz1, hz3, hn3]
            · simp (disch := omega) only [gdn, gb0, gb1, ixn, nm1, nI_add, nI_mul, nsub, nI_ltI, nI_leI, nI_eq, eqNO, eqNO2, ltNO, NOlt, leNO, NOle, if_pos, if_neg, Option.bind_some, if_true, if_false, and_self, eq_self, l0, l1, l2, l3, l4, l5, l6, l7, l8, l9, l10, l11, l12, l13, l14, l15, l16, l17, l18, l19, l20, l24, l26, l30, l31, l32, l40, l41, l42, l43, l45, l47, l48, l57, l58, l59, l60, l61, l62, l63, l64, l97, l99, l100, l101, l102, l103, l104, l105, l106, l107, l108, l109, l110, l122, l160, l240, l255, l600, l1000, l3000, l10000, l10007, l10116, l67108863, l67108864, I_oth, I_J, J_oth, J_I, I_row, J_row, SI_row, SI_oth, SI_J, SJ_row, SJ_oth, SJ_I, upd_s, upd_n, updL_s, updL_n, ne_eq, not_false_eq_true, lt_t, le_t, tI, NO_t, flag0, flag1, ite_or2, ite_self, true_or, or_true, false_or, or_false, true_and, and_true, false_and, and_false, not_true_eq_false, win, lrn_e hL, lmp_e hL, hz0, hz1, hz3, hn3]
          · by_cases z2 : a3.toInt = -1
            · simp (disch := omega) only [gdn, gb0, gb1, ixn, nm1, nI_add, nI_mul, nsub, nI_ltI, nI_leI, nI_eq, eqNO, eqNO2, ltNO, NOlt, leNO, NOle, if_pos, if_neg, Option.bind_some, if_true, if_false, and_self, eq_self, l0, l1, l2, l3, l4, l5, l6, l7, l8, l9, l10, l11, l12, l13, l14, l15, l16, l17, l18, l19, l20, l24, l26, l30, l31, l32, l40, l41, l42, l43, l45, l47, l48, l57, l58, l59, l60, l61, l62, l63, l64, l97, l99, l100, l101, l102, l103, l104, l105, l106, l107, l108, l109, l110, l122, l160, l240, l255, l600, l1000, l3000, l10000, l10007, l10116, l67108863, l67108864, I_oth, I_J, J_oth, J_I, I_row, J_row, SI_row, SI_oth, SI_J, SJ_row, SJ_oth, SJ_I, upd_s, upd_n, updL_s, updL_n, ne_eq, not_false_eq_true, lt_t, le_t, tI, NO_t, flag0, flag1, ite_or2, ite_self, true_or, or_true, false_or, or_false, true_and, and_true, false_and, and_false, not_true_eq_false, win, lrn_e hL, lmp_e hL, hz0, hz1, hz3, hn3]
            · simp (disch := omega) only [gdn, gb0, gb1, ixn, nm1, nI_add, nI_mul, nsub, nI_ltI, nI_leI, nI_eq, eqNO, eqNO2, ltNO, NOlt, leNO, NOle, if_pos, if_neg, Option.bind_some, if_true, if_false, and_self, eq_self, l0, l1, l2, l3, l4, l5, l6, l7, l8, l9, l10, l11, l12, l13, l14, l15, l16, l17, l18, l19, l20, l24, l26, l30, l31, l32, l40, l41, l42, l43, l45, l47, l48, l57, l58, l59, l60, l61, l62, l63, l64, l97, l99, l100, l101, l102, l103, l104, l105, l106, l107, l108, l109, l110, l122, l160, l240, l255, l600, l1000, l3000, l10000, l10007, l10116, l67108863, l67108864, I_oth, I_J, J_oth, J_I, I_row, J_row, SI_row, SI_oth, SI_J, SJ_row, SJ_oth, SJ_I, upd_s, upd_n, updL_s, updL_n, ne_eq, not_false_eq_true, lt_t, le_t, tI, NO_t, flag0, flag1, ite_or2, ite_self, true_or, or_true, false_or, or_false, true_and, and_true, false_and, and_false, not_true_eq_false, win, lrn_e hL, lmp_e hL, hz0, hz1, hz3, hn3]
        · by_cases q3 : a1.toInt = 3
          · by_cases z1 : 0 ≤ a2.toInt ∧ a2.toInt < (nn w 5 12 : Int)
            · by_cases z2 : a3.toInt = -1
              · simp (disch := omega) only [gdn, gb0, gb1, ixn, nm1, nI_add, nI_mul, nsub, nI_ltI, nI_leI, nI_eq, eqNO, eqNO2, ltNO, NOlt, leNO, NOle, if_pos, if_neg, Option.bind_some, if_true, if_false, and_self, eq_self, l0, l1, l2, l3, l4, l5, l6, l7, l8, l9, l10, l11, l12, l13, l14, l15, l16, l17, l18, l19, l20, l24, l26, l30, l31, l32, l40, l41, l42, l43, l45, l47, l48, l57, l58, l59, l60, l61, l62, l63, l64, l97, l99, l100, l101, l102, l103, l104, l105, l106, l107, l108, l109, l110, l122, l160, l240, l255, l600, l1000, l3000, l10000, l10007, l10116, l67108863, l67108864, I_oth, I_J, J_oth, J_I, I_row, J_row, SI_row, SI_oth, SI_J, SJ_row, SJ_oth, SJ_I, upd_s, upd_n, updL_s, updL_n, ne_eq, not_false_eq_true, lt_t, le_t, tI, NO_t, flag0, flag1, ite_or2, ite_self, true_or, or_true, false_or, or_false, true_and, and_true, false_and, and_false, not_true_eq_false, win, tch_e hL, lmp_e hL, hz0, hz1, hz3, hn3]
              · simp (disch := omega) only [gdn, gb0, gb1, ixn, nm1, nI_add, nI_mul, nsub, nI_ltI, nI_leI, nI_eq, eqNO, eqNO2, ltNO, NOlt, leNO, NOle, if_pos, if_neg, Option.bind_some, if_true, if_false, and_self, eq_self, l0, l1, l2, l3, l4, l5, l6, l7, l8, l9, l10, l11, l12, l13, l14, l15, l16, l17, l18, l19, l20, l24, l26, l30, l31, l32, l40, l41, l42, l43, l45, l47, l48, l57, l58, l59, l60, l61, l62, l63, l64, l97, l99, l100, l101, l102, l103, l104, l105, l106, l107, l108, l109, l110, l122, l160, l240, l255, l600, l1000, l3000, l10000, l10007, l10116, l67108863, l67108864, I_oth, I_J, J_oth, J_I, I_row, J_row, SI_row, SI_oth, SI_J, SJ_row, SJ_oth, SJ_I, upd_s, upd_n, updL_s, updL_n, ne_eq, not_false_eq_true, lt_t, le_t, tI, NO_t, flag0, flag1, ite_or2, ite_self, true_or, or_true, false_or, or_false, true_and, and_true, false_and, and_false, not_true_eq_false, win, tch_e hL, lmp_e hL, hz0, hz1, hz3, hn3]
            · by_cases z2 : a3.toInt = -1
              · simp (disch := omega) only [gdn, gb0, gb1, ixn, nm1, nI_add, nI_mul, nsub, nI_ltI, nI_leI, nI_eq, eqNO, eqNO2, ltNO, NOlt, leNO, NOle, if_pos, if_neg, Option.bind_some, if_true, if_false, and_self, eq_self, l0, l1, l2, l3, l4, l5, l6, l7, l8, l9, l10, l11, l12, l13, l14, l15, l16, l17, l18, l19, l20, l24, l26, l30, l31, l32, l40, l41, l42, l43, l45, l47, l48, l57, l58, l59, l60, l61, l62, l63, l64, l97, l99, l100, l101, l102, l103, l104, l105, l106, l107, l108, l109, l110, l122, l160, l240, l255, l600, l1000, l3000, l10000, l10007, l10116, l67108863, l67108864, I_oth, I_J, J_oth, J_I, I_row, J_row, SI_row, SI_oth, SI_J, SJ_row, SJ_oth, SJ_I, upd_s, upd_n, updL_s, updL_n, ne_eq, not_false_eq_true, lt_t, le_t, tI, NO_t, flag0, flag1, ite_or2, ite_self, true_or, or_true, false_or, or_false, true_and, and_true, false_and, and_false, not_true_eq_false, win, tch_e hL, lmp_e hL, hz0, hz1, hz3, hn3]
              · simp (disch := omega) only [gdn, gb0, gb1, ixn, nm1, nI_add, nI_mul, nsub, nI_ltI, nI_leI, nI_eq, eqNO, eqNO2, ltNO, NOlt, leNO, NOle, if_pos, if_neg, Option.bind_some, if_true, if_false, and_self, eq_self, l0, l1, l2, l3, l4, l5, l6, l7, l8, l9, l10, l11, l12, l13, l14, l15, l16, l17, l18, l19, l20, l24, l26, l30, l31, l32, l40, l41, l42, l43, l45, l47, l48, l57, l58, l59, l60, l61, l62, l63, l64, l97, l99, l100, l101, l102, l103, l104, l105, l106, l107, l108, l109, l110, l122, l160, l240, l255, l600, l1000, l3000, l10000, l10007, l10116, l67108863, l67108864, I_oth, I_J, J_oth, J_I, I_row, J_row, SI_row, SI_oth, SI_J, SJ_row, SJ_oth, SJ_I, upd_s, upd_n, updL_s, updL_n, ne_eq, not_false_eq_true, lt_t, le_t, tI, NO_t, flag0, flag1, ite_or2, ite_self, true_or, or_true, false_or, or_false, true_and, and_true, false_and, and_false, not_true_eq_false, win, tch_e hL, lmp_e hL, hz0, hz1, hz3, hn3]
          · simp (disch := omega) only [gdn, gb0, gb1, ixn, nm1, nI_add, nI_mul, nsub, nI_ltI, nI_leI, nI_eq, eqNO, eqNO2, ltNO, NOlt, leNO, NOle, if_pos, if_neg, Option.bind_some, if_true, if_false, and_self, eq_self, l0, l1, l2, l3, l4, l5, l6, l7, l8, l9, l10, l11, l12, l13, l14, l15, l16, l17, l18, l19, l20, l24, l26, l30, l31, l32, l40, l41, l42, l43, l45, l47, l48, l57, l58, l59, l60, l61, l62, l63, l64, l97, l99, l100, l101, l102, l103, l104, l105, l106, l107, l108, l109, l110, l122, l160, l240, l255, l600, l1000, l3000, l10000, l10007, l10116, l67108863, l67108864, I_oth, I_J, J_oth, J_I, I_row, J_row, SI_row, SI_oth, SI_J, SJ_row, SJ_oth, SJ_I, upd_s, upd_n, updL_s, updL_n, ne_eq, not_false_eq_true, lt_t, le_t, tI, NO_t, flag0, flag1, ite_or2, ite_self, true_or, or_true, false_or, or_false, true_and, and_true, false_and, and_false, not_true_eq_false, win, hz0, hz1, hz3, hn3]
  have km : ∀ u : Wd, u.1 97 7 = w.1 97 7 → u.1 97 6 = w.1 97 6 → u.1 97 8 = w.1 97 8 → X12_note a1 a2 a3 a4 a5 a6 u = X12_note_j51 a1 a2 a3 a4 a5 a6 (if ((a1.toInt = 0 ∨ a1.toInt = 3) ∧ 0 ≤ a2.toInt ∧ a2.toInt < (nn w 5 12 : Int)) ∨ (¬ (a1.toInt = 0 ∨ a1.toInt = 3) ∧ 0 ≤ a2.toInt ∧ a2.toInt < (nn w 5 8 : Int)) then nI 1 else nI 0) (if ((a1.toInt = 0 ∨ a1.toInt = 1) ∧ 0 ≤ a3.toInt ∧ a3.toInt < (nn w 5 15 : Int)) ∨ (¬ (a1.toInt = 0 ∨ a1.toInt = 1) ∧ a3.toInt = -1) then nI 1 else nI 0) u := by
    intro u u7 u6 u8
    have t1 := mtc (n := nn w 5 12) a2 (u7.trans mT) (by omega)
    have t2 := mlr (n := nn w 5 8) a2 (u6.trans mLr) (by omega)
    have t3 := mlm (n := nn w 5 15) a3 (u8.trans mM) (by omega)
    have f2 : ∀ (x y : Prop) [Decidable x] [Decidable y], (x ↔ y) → (if x then nI 1 else nI 0) = (if y then nI 1 else nI 0) := by
      intro x y _ _ hxy
      by_cases hx : x
      · rw [if_pos hx, if_pos (hxy.mp hx)]
      · rw [if_neg hx, if_neg (fun z => hx (hxy.mpr z))]
    unfold X12_note X12_note_j9 X12_note_j22 X12_note_j33
    rw [t1, t2, t3]
    by_cases q0 : a1.toInt = 0
    · simp (disch := omega) only [gdn, gb0, gb1, ixn, nm1, nI_add, nI_mul, nsub, nI_ltI, nI_leI, nI_eq, eqNO, eqNO2, ltNO, NOlt, leNO, NOle, if_pos, if_neg, Option.bind_some, if_true, if_false, and_self, eq_self, l0, l1, l2, l3, l4, l5, l6, l7, l8, l9, l10, l11, l12, l13, l14, l15, l16, l17, l18, l19, l20, l24, l26, l30, l31, l32, l40, l41, l42, l43, l45, l47, l48, l57, l58, l59, l60, l61, l62, l63, l64, l97, l99, l100, l101, l102, l103, l104, l105, l106, l107, l108, l109, l110, l122, l160, l240, l255, l600, l1000, l3000, l10000, l10007, l10116, l67108863, l67108864, hz0, hz3, hz1, hn3]
      congr 1
      · exact f2 _ _ (by omega)
      · exact f2 _ _ (by omega)
    · by_cases q3 : a1.toInt = 3
      · simp (disch := omega) only [gdn, gb0, gb1, ixn, nm1, nI_add, nI_mul, nsub, nI_ltI, nI_leI, nI_eq, eqNO, eqNO2, ltNO, NOlt, leNO, NOle, if_pos, if_neg, Option.bind_some, if_true, if_false, and_self, eq_self, l0, l1, l2, l3, l4, l5, l6, l7, l8, l9, l10, l11, l12, l13, l14, l15, l16, l17, l18, l19, l20, l24, l26, l30, l31, l32, l40, l41, l42, l43, l45, l47, l48, l57, l58, l59, l60, l61, l62, l63, l64, l97, l99, l100, l101, l102, l103, l104, l105, l106, l107, l108, l109, l110, l122, l160, l240, l255, l600, l1000, l3000, l10000, l10007, l10116, l67108863, l67108864, hz0, hz3, hz1, hn3]
        by_cases z : a3.toInt = -1
        · rw [if_pos z]
          congr 1
          · exact f2 _ _ (by omega)
          · rw [if_pos (by omega)]
        · rw [if_neg z]
          congr 1
          · exact f2 _ _ (by omega)
          · rw [if_neg (by omega)]
      · by_cases q1 : a1.toInt = 1
        · simp (disch := omega) only [gdn, gb0, gb1, ixn, nm1, nI_add, nI_mul, nsub, nI_ltI, nI_leI, nI_eq, eqNO, eqNO2, ltNO, NOlt, leNO, NOle, if_pos, if_neg, Option.bind_some, if_true, if_false, and_self, eq_self, l0, l1, l2, l3, l4, l5, l6, l7, l8, l9, l10, l11, l12, l13, l14, l15, l16, l17, l18, l19, l20, l24, l26, l30, l31, l32, l40, l41, l42, l43, l45, l47, l48, l57, l58, l59, l60, l61, l62, l63, l64, l97, l99, l100, l101, l102, l103, l104, l105, l106, l107, l108, l109, l110, l122, l160, l240, l255, l600, l1000, l3000, l10000, l10007, l10116, l67108863, l67108864, hz0, hz3, hz1, hn3]
          congr 1
          · exact f2 _ _ (by omega)
          · exact f2 _ _ (by omega)
        · simp (disch := omega) only [gdn, gb0, gb1, ixn, nm1, nI_add, nI_mul, nsub, nI_ltI, nI_leI, nI_eq, eqNO, eqNO2, ltNO, NOlt, leNO, NOle, if_pos, if_neg, Option.bind_some, if_true, if_false, and_self, eq_self, l0, l1, l2, l3, l4, l5, l6, l7, l8, l9, l10, l11, l12, l13, l14, l15, l16, l17, l18, l19, l20, l24, l26, l30, l31, l32, l40, l41, l42, l43, l45, l47, l48, l57, l58, l59, l60, l61, l62, l63, l64, l97, l99, l100, l101, l102, l103, l104, l105, l106, l107, l108, l109, l110, l122, l160, l240, l255, l600, l1000, l3000, l10000, l10007, l10116, l67108863, l67108864, hz0, hz3, hz1, hn3]
          by_cases z : a3.toInt = -1
          · rw [if_pos z]
            congr 1
            · exact f2 _ _ (by omega)
            · rw [if_pos (by omega)]
          · rw [if_neg z]
            congr 1
            · exact f2 _ _ (by omega)
            · rw [if_neg (by omega)]
  by_cases hv : ((0 ≤ a1.toInt ∧ a1.toInt ≤ 3) ∧ (((a1.toInt = 0 ∨ a1.toInt = 3) ∧ 0 ≤ a2.toInt ∧ a2.toInt < (nn w 5 12 : Int)) ∨ ((a1.toInt = 1 ∨ a1.toInt = 2) ∧ 0 ≤ a2.toInt ∧ a2.toInt < (nn w 5 8 : Int))) ∧ (((a1.toInt = 0 ∨ a1.toInt = 1) ∧ 0 ≤ a3.toInt ∧ a3.toInt < (nn w 5 15 : Int)) ∨ ((a1.toInt = 2 ∨ a1.toInt = 3) ∧ a3.toInt = -1))) ∧ (0 ≤ a4.toInt ∧ a4.toInt < ((60 : Nat) : Int)) ∧ (0 ≤ a5.toInt ∧ a5.toInt < ((60 : Nat) : Int)) ∧ a4.toInt ≤ a5.toInt ∧ (0 ≤ a6.toInt ∧ a6.toInt < ((60 : Nat) : Int))
  · obtain ⟨⟨hs, hwho, hlamp⟩, h4, h5, h45, h6⟩ := hv
    obtain ⟨f, hf, rfl⟩ := of_t h4
    obtain ⟨t, ht, rfl⟩ := of_t h5
    obtain ⟨kn, hkn, rfl⟩ := of_t h6
    rw [tI (by omega), tI (by omega)] at h45
    obtain ⟨s, hs4, rfl⟩ := of_t (n := 4) (x := a1) ⟨hs.1, by omega⟩
    obtain ⟨who, hwh, rfl⟩ := of_t (n := 40) (x := a2) (by omega)
    simp only [tI (show s < 2 ^ 31 by omega), tI (show who < 2 ^ 31 by omega)] at hwho hlamp
    -- the latest WEEK told
    obtain ⟨lk, hlk, elk⟩ : ∃ lk : Nat, lk < 60 ∧ (if nn w 19 0 = 0 then nI 0 else w.1 25 (nn w 19 0 - 1)) = nI lk := by
      by_cases q : nn w 19 0 = 0
      · exact ⟨0, by omega, by rw [if_pos q]⟩
      · have := (h.2.2.2 (nn w 19 0 - 1) (by omega)).2.2.2.2.1
        exact ⟨nn w 25 (nn w 19 0 - 1), this.2, by rw [if_neg q]; exact this.1⟩
    have klk : X4_latestKnown w = some (nI lk) := by
      rw [← elk]
      unfold X4_latestKnown
      by_cases q : nn w 19 0 = 0
      · simp (disch := omega) only [gdn, gb0, gb1, ixn, nm1, nI_add, nI_mul, nsub, nI_ltI, nI_leI, nI_eq, eqNO, eqNO2, ltNO, NOlt, leNO, NOle, if_pos, if_neg, Option.bind_some, if_true, if_false, and_self, eq_self, l0, l1, l2, l3, l4, l5, l6, l7, l8, l9, l10, l11, l12, l13, l14, l15, l16, l17, l18, l19, l20, l24, l26, l30, l31, l32, l40, l41, l42, l43, l45, l47, l48, l57, l58, l59, l60, l61, l62, l63, l64, l97, l99, l100, l101, l102, l103, l104, l105, l106, l107, l108, l109, l110, l122, l160, l240, l255, l600, l1000, l3000, l10000, l10007, l10116, l67108863, l67108864, c0]
      · simp (disch := omega) only [gdn, gb0, gb1, ixn, nm1, nI_add, nI_mul, nsub, nI_ltI, nI_leI, nI_eq, eqNO, eqNO2, ltNO, NOlt, leNO, NOle, if_pos, if_neg, Option.bind_some, if_true, if_false, and_self, eq_self, l0, l1, l2, l3, l4, l5, l6, l7, l8, l9, l10, l11, l12, l13, l14, l15, l16, l17, l18, l19, l20, l24, l26, l30, l31, l32, l40, l41, l42, l43, l45, l47, l48, l57, l58, l59, l60, l61, l62, l63, l64, l97, l99, l100, l101, l102, l103, l104, l105, l106, l107, l108, l109, l110, l122, l160, l240, l255, l600, l1000, l3000, l10000, l10007, l10116, l67108863, l67108864, c0]
    have mlk : w.1 97 10 = nI lk := h.2.1.2.2.trans elk
    by_cases hc : nn w 19 0 < 160
    · by_cases hk : lk ≤ kn
      · generalize hwa : puI (puI (puI (puI (puI (puI (puI (puI w 20 (nn w 19 0) (nI s)) 21 (nn w 19 0) (nI who)) 22 (nn w 19 0) a3) 23 (nn w 19 0) (nI f)) 24 (nn w 19 0) (nI t)) 25 (nn w 19 0) (nI kn)) 19 0 (nI (nn w 19 0 + 1))) 19 8 NO = wa
        have kadd : X4_add (nI s) (nI who) a3 (nI f) (nI t) (nI kn) w = some wa := by
          rw [← hwa]
          unfold X4_add
          simp (disch := omega) only [gdn, gb0, gb1, ixn, nm1, nI_add, nI_mul, nsub, nI_ltI, nI_leI, nI_eq, eqNO, eqNO2, ltNO, NOlt, leNO, NOle, if_pos, if_neg, Option.bind_some, if_true, if_false, and_self, eq_self, l0, l1, l2, l3, l4, l5, l6, l7, l8, l9, l10, l11, l12, l13, l14, l15, l16, l17, l18, l19, l20, l24, l26, l30, l31, l32, l40, l41, l42, l43, l45, l47, l48, l57, l58, l59, l60, l61, l62, l63, l64, l97, l99, l100, l101, l102, l103, l104, l105, l106, l107, l108, l109, l110, l122, l160, l240, l255, l600, l1000, l3000, l10000, l10007, l10116, l67108863, l67108864, I_oth, I_J, J_oth, J_I, I_row, J_row, SI_row, SI_oth, SI_J, SJ_row, SJ_oth, SJ_I, upd_s, upd_n, updL_s, updL_n, ne_eq, not_false_eq_true, c0]
        obtain ⟨wb, hwb, k1⟩ : ∃ wb, (wb = wa ∧ nn w 19 7 < kn ∨ wb = puI wa 73 4 (mnI (w.1 73 4) (nI f))) ∧ X11_note (nI s) (nI who) a3 (nI f) (nI t) (nI kn) w = some (nI 1, puI wb 0 10 (nI 0)) := by
          have r7 : wa.1 19 7 = nI (nn w 19 7) := by rw [← hwa]; exact c7
          have r73 : wa.1 73 4 = w.1 73 4 := by rw [← hwa]; rfl
          by_cases q : nn w 19 7 < kn
          · refine ⟨wa, Or.inl ⟨rfl, q⟩, ?_⟩
            unfold X11_note X11_note_j108
            rw [kc, klk, kadd]
            simp (disch := omega) only [gdn, gb0, gb1, ixn, nm1, nI_add, nI_mul, nsub, nI_ltI, nI_leI, nI_eq, eqNO, eqNO2, ltNO, NOlt, leNO, NOle, if_pos, if_neg, Option.bind_some, if_true, if_false, and_self, eq_self, l0, l1, l2, l3, l4, l5, l6, l7, l8, l9, l10, l11, l12, l13, l14, l15, l16, l17, l18, l19, l20, l24, l26, l30, l31, l32, l40, l41, l42, l43, l45, l47, l48, l57, l58, l59, l60, l61, l62, l63, l64, l97, l99, l100, l101, l102, l103, l104, l105, l106, l107, l108, l109, l110, l122, l160, l240, l255, l600, l1000, l3000, l10000, l10007, l10116, l67108863, l67108864, I_oth, I_J, J_oth, J_I, I_row, J_row, SI_row, SI_oth, SI_J, SJ_row, SJ_oth, SJ_I, upd_s, upd_n, updL_s, updL_n, ne_eq, not_false_eq_true, lt_t, le_t, tI, NO_t, flag0, flag1, ite_or2, ite_self, true_or, or_true, false_or, or_false, true_and, and_true, false_and, and_false, not_true_eq_false, span_e, week_e, c0, r7, agree_e]
          · refine ⟨_, Or.inr rfl, ?_⟩
            unfold X11_note X11_note_j108
            rw [kc, klk, kadd]
            simp (disch := omega) only [gdn, gb0, gb1, ixn, nm1, nI_add, nI_mul, nsub, nI_ltI, nI_leI, nI_eq, eqNO, eqNO2, ltNO, NOlt, leNO, NOle, if_pos, if_neg, Option.bind_some, if_true, if_false, and_self, eq_self, l0, l1, l2, l3, l4, l5, l6, l7, l8, l9, l10, l11, l12, l13, l14, l15, l16, l17, l18, l19, l20, l24, l26, l30, l31, l32, l40, l41, l42, l43, l45, l47, l48, l57, l58, l59, l60, l61, l62, l63, l64, l97, l99, l100, l101, l102, l103, l104, l105, l106, l107, l108, l109, l110, l122, l160, l240, l255, l600, l1000, l3000, l10000, l10007, l10116, l67108863, l67108864, I_oth, I_J, J_oth, J_I, I_row, J_row, SI_row, SI_oth, SI_J, SJ_row, SJ_oth, SJ_I, upd_s, upd_n, updL_s, updL_n, ne_eq, not_false_eq_true, lt_t, le_t, tI, NO_t, flag0, flag1, ite_or2, ite_self, true_or, or_true, false_or, or_false, true_and, and_true, false_and, and_false, not_true_eq_false, span_e, week_e, c0, r7, agree_e, relive_e, r73]
        have k2 : X12_note (nI s) (nI who) a3 (nI f) (nI t) (nI kn) (puI wb 0 10 (nI 0)) = some (nI 1, puI (puI (puI (puI (puI (puI (puI (puI (puI (puI wb 0 10 (nI 0)) 97 10 (nI kn)) 114 (nn w 19 0) (nI s)) 115 (nn w 19 0) (nI who)) 116 (nn w 19 0) a3) 117 (nn w 19 0) (nI f)) 118 (nn w 19 0) (nI t)) 119 (nn w 19 0) (nI kn)) 97 9 (nI (nn w 19 0 + 1))) 97 0 (nI 0)) := by
          have rb : ∀ j, wb.1 97 j = w.1 97 j := by
            intro j
            rcases hwb with ⟨e, -⟩ | e
            · rw [e, ← hwa]; rfl
            · rw [e, ← hwa]; rfl
          rw [km (puI wb 0 10 (nI 0)) (rb 7) (rb 6) (rb 8)]
          unfold X12_note_j51
          have r9 : wb.1 97 9 = nI (nn w 19 0) := (rb 9).trans m0
          have r10 : wb.1 97 10 = nI lk := (rb 10).trans mlk
          simp (disch := omega) only [gdn, gb0, gb1, ixn, nm1, nI_add, nI_mul, nsub, nI_ltI, nI_leI, nI_eq, eqNO, eqNO2, ltNO, NOlt, leNO, NOle, if_pos, if_neg, Option.bind_some, if_true, if_false, and_self, eq_self, l0, l1, l2, l3, l4, l5, l6, l7, l8, l9, l10, l11, l12, l13, l14, l15, l16, l17, l18, l19, l20, l24, l26, l30, l31, l32, l40, l41, l42, l43, l45, l47, l48, l57, l58, l59, l60, l61, l62, l63, l64, l97, l99, l100, l101, l102, l103, l104, l105, l106, l107, l108, l109, l110, l122, l160, l240, l255, l600, l1000, l3000, l10000, l10007, l10116, l67108863, l67108864, I_oth, I_J, J_oth, J_I, I_row, J_row, SI_row, SI_oth, SI_J, SJ_row, SJ_oth, SJ_I, upd_s, upd_n, updL_s, updL_n, ne_eq, not_false_eq_true, lt_t, le_t, tI, NO_t, flag0, flag1, ite_or2, ite_self, true_or, or_true, false_or, or_false, true_and, and_true, false_and, and_false, not_true_eq_false, mweek_e, r9, r10, mis_e]
        refine ⟨_, _, _, k1, k2, Or.inr ⟨rfl, ?_, ?_, f, hf, ?_, ?_, ?_, ?_, ?_⟩⟩
        · generalize hw2 : puI (puI (puI (puI (puI (puI (puI (puI (puI (puI wb 0 10 (nI 0)) 97 10 (nI kn)) 114 (nn w 19 0) (nI s)) 115 (nn w 19 0) (nI who)) 116 (nn w 19 0) a3) 117 (nn w 19 0) (nI f)) 118 (nn w 19 0) (nI t)) 119 (nn w 19 0) (nI kn)) 97 9 (nI (nn w 19 0 + 1))) 97 0 (nI 0) = w2
          have r20 : w2.1 20 = upd (w.1 20) (nn w 19 0) (nI s) := by
            rcases hwb with ⟨e, -⟩ | e
            · rw [← hw2, e, ← hwa]; rfl
            · rw [← hw2, e, ← hwa]; rfl
          have m20 : w2.1 114 = upd (w.1 114) (nn w 19 0) (nI s) := by
            rcases hwb with ⟨e, -⟩ | e
            · rw [← hw2, e, ← hwa]; rfl
            · rw [← hw2, e, ← hwa]; rfl
          have r21 : w2.1 21 = upd (w.1 21) (nn w 19 0) (nI who) := by
            rcases hwb with ⟨e, -⟩ | e
            · rw [← hw2, e, ← hwa]; rfl
            · rw [← hw2, e, ← hwa]; rfl
          have m21 : w2.1 115 = upd (w.1 115) (nn w 19 0) (nI who) := by
            rcases hwb with ⟨e, -⟩ | e
            · rw [← hw2, e, ← hwa]; rfl
            · rw [← hw2, e, ← hwa]; rfl
          have r22 : w2.1 22 = upd (w.1 22) (nn w 19 0) a3 := by
            rcases hwb with ⟨e, -⟩ | e
            · rw [← hw2, e, ← hwa]; rfl
            · rw [← hw2, e, ← hwa]; rfl
          have m22 : w2.1 116 = upd (w.1 116) (nn w 19 0) a3 := by
            rcases hwb with ⟨e, -⟩ | e
            · rw [← hw2, e, ← hwa]; rfl
            · rw [← hw2, e, ← hwa]; rfl
          have r23 : w2.1 23 = upd (w.1 23) (nn w 19 0) (nI f) := by
            rcases hwb with ⟨e, -⟩ | e
            · rw [← hw2, e, ← hwa]; rfl
            · rw [← hw2, e, ← hwa]; rfl
          have m23 : w2.1 117 = upd (w.1 117) (nn w 19 0) (nI f) := by
            rcases hwb with ⟨e, -⟩ | e
            · rw [← hw2, e, ← hwa]; rfl
            · rw [← hw2, e, ← hwa]; rfl
          have r24 : w2.1 24 = upd (w.1 24) (nn w 19 0) (nI t) := by
            rcases hwb with ⟨e, -⟩ | e
            · rw [← hw2, e, ← hwa]; rfl
            · rw [← hw2, e, ← hwa]; rfl
          have m24 : w2.1 118 = upd (w.1 118) (nn w 19 0) (nI t) := by
            rcases hwb with ⟨e, -⟩ | e
            · rw [← hw2, e, ← hwa]; rfl
            · rw [← hw2, e, ← hwa]; rfl
          have r25 : w2.1 25 = upd (w.1 25) (nn w 19 0) (nI kn) := by
            rcases hwb with ⟨e, -⟩ | e
            · rw [← hw2, e, ← hwa]; rfl
            · rw [← hw2, e, ← hwa]; rfl
          have m25 : w2.1 119 = upd (w.1 119) (nn w 19 0) (nI kn) := by
            rcases hwb with ⟨e, -⟩ | e
            · rw [← hw2, e, ← hwa]; rfl
            · rw [← hw2, e, ← hwa]; rfl
          have g0 : w2.1 19 0 = nI (nn w 19 0 + 1) := by
            rcases hwb with ⟨e, -⟩ | e
            · rw [← hw2, e, ← hwa]; rfl
            · rw [← hw2, e, ← hwa]; rfl
          have g7 : w2.1 19 7 = w.1 19 7 := by
            rcases hwb with ⟨e, -⟩ | e
            · rw [← hw2, e, ← hwa]; rfl
            · rw [← hw2, e, ← hwa]; rfl
          have g9 : w2.1 97 9 = nI (nn w 19 0 + 1) := by
            rcases hwb with ⟨e, -⟩ | e
            · rw [← hw2, e, ← hwa]; rfl
            · rw [← hw2, e, ← hwa]; rfl
          have g11 : w2.1 97 11 = w.1 97 11 := by
            rcases hwb with ⟨e, -⟩ | e
            · rw [← hw2, e, ← hwa]; rfl
            · rw [← hw2, e, ← hwa]; rfl
          have g10 : w2.1 97 10 = nI kn := by
            rcases hwb with ⟨e, -⟩ | e
            · rw [← hw2, e, ← hwa]; rfl
            · rw [← hw2, e, ← hwa]; rfl
          have g8 : w2.1 5 8 = w.1 5 8 := by
            rcases hwb with ⟨e, -⟩ | e
            · rw [← hw2, e, ← hwa]; rfl
            · rw [← hw2, e, ← hwa]; rfl
          have g12 : w2.1 5 12 = w.1 5 12 := by
            rcases hwb with ⟨e, -⟩ | e
            · rw [← hw2, e, ← hwa]; rfl
            · rw [← hw2, e, ← hwa]; rfl
          have g15 : w2.1 5 15 = w.1 5 15 := by
            rcases hwb with ⟨e, -⟩ | e
            · rw [← hw2, e, ← hwa]; rfl
            · rw [← hw2, e, ← hwa]; rfl
          have n0 : nn w2 19 0 = nn w 19 0 + 1 := nn_of g0 (by omega)
          have n8 : nn w2 5 8 = nn w 5 8 := nn_eq g8
          have n12 : nn w2 5 12 = nn w 5 12 := nn_eq g12
          have n15 : nn w2 5 15 = nn w 5 15 := nn_eq g15
          refine ⟨⟨isN.of g0 (by omega) (by omega), isN.eq g7 h.1.2⟩, ⟨by rw [g9, g0], by rw [g11, g7]; exact h.2.1.2.1, ?_⟩, ⟨by rw [m20, r20, h.2.2.1.1], by rw [m21, r21, h.2.2.1.2.1], by rw [m22, r22, h.2.2.1.2.2.1], by rw [m23, r23, h.2.2.1.2.2.2.1], by rw [m24, r24, h.2.2.1.2.2.2.2.1], by rw [m25, r25, h.2.2.1.2.2.2.2.2]⟩, ?_⟩
          · rw [n0, if_neg (by omega), Nat.add_sub_cancel, r25, upd_s, g10]
          · intro i hi
            rw [n0] at hi
            rw [n8, n12, n15]
            by_cases q : i = nn w 19 0
            · have v20 : nn w2 20 i = s := nn_of (by rw [r20, q]; exact upd_s) (by omega)
              have v21 : nn w2 21 i = who := nn_of (by rw [r21, q]; exact upd_s) (by omega)
              rw [v20, v21]
              refine ⟨isN.of (n := s) (by rw [r20, q]; exact upd_s) hs4 (by omega), isN.of (n := who) (by rw [r21, q]; exact upd_s) hwh (by omega), isN.of (n := f) (by rw [r23, q]; exact upd_s) hf (by omega), isN.of (n := t) (by rw [r24, q]; exact upd_s) ht (by omega), isN.of (n := kn) (by rw [r25, q]; exact upd_s) hkn (by omega), fun z => by omega, fun z => by omega, fun z => ?_⟩
              obtain ⟨l, hl, el⟩ := of_t (n := nn w 5 15) (x := a3) (by omega)
              exact isN.of (n := l) (by rw [r22, q, el]; exact upd_s) hl (by omega)
            · obtain ⟨a20, a21, a23, a24, a25, b1, b2, b3⟩ := h.2.2.2 i (by omega)
              have v20 : nn w2 20 i = nn w 20 i := nn_eq (by rw [r20]; exact upd_n q)
              have v21 : nn w2 21 i = nn w 21 i := nn_eq (by rw [r21]; exact upd_n q)
              rw [v20, v21]
              exact ⟨a20.eq (by rw [r20]; exact upd_n q), a21.eq (by rw [r21]; exact upd_n q), a23.eq (by rw [r23]; exact upd_n q), a24.eq (by rw [r24]; exact upd_n q), a25.eq (by rw [r25]; exact upd_n q), b1, b2, fun z => (b3 z).eq (by rw [r22]; exact upd_n q)⟩
        · rcases hwb with ⟨e, -⟩ | e
          · rw [e, ← hwa]; rfl
          · rw [e, ← hwa]; rfl
        · rcases hwb with ⟨e, hq⟩ | e
          · refine Or.inr ⟨by rw [e, ← hwa]; rfl, ?_⟩
            refine Nat.lt_of_lt_of_eq hq (nn_of (n := kn) ?_ (by omega)).symm
            rw [e, ← hwa]; exact upd_s
          · exact Or.inl (by rw [e]; rfl)
        · refine nn_of ?_ (by omega)
          rcases hwb with ⟨e, -⟩ | e
          · rw [e, ← hwa]; exact upd_s
          · rw [e, ← hwa]; exact upd_s
        · refine nn_of ?_ (by omega)
          rcases hwb with ⟨e, -⟩ | e
          · rw [e, ← hwa]; rfl
          · rw [e, ← hwa]; rfl
        · rcases hwb with ⟨e, -⟩ | e
          · rw [e, ← hwa]; rfl
          · rw [e, ← hwa]; rfl
        · intro i hi
          have hne : i ≠ nn w 19 0 := by omega
          rcases hwb with ⟨e, -⟩ | e
          · rw [e, ← hwa]; exact ⟨upd_n hne, upd_n hne, upd_n hne, upd_n hne, upd_n hne, upd_n hne⟩
          · rw [e, ← hwa]; exact ⟨upd_n hne, upd_n hne, upd_n hne, upd_n hne, upd_n hne, upd_n hne⟩
      · refine two_ref (nI 5) (r := nI 0) ?_ ?_ (fun w' z => Or.inl z)
        · unfold X11_note
          rw [kc, klk]
          simp (disch := omega) only [gdn, gb0, gb1, ixn, nm1, nI_add, nI_mul, nsub, nI_ltI, nI_leI, nI_eq, eqNO, eqNO2, ltNO, NOlt, leNO, NOle, if_pos, if_neg, Option.bind_some, if_true, if_false, and_self, eq_self, l0, l1, l2, l3, l4, l5, l6, l7, l8, l9, l10, l11, l12, l13, l14, l15, l16, l17, l18, l19, l20, l24, l26, l30, l31, l32, l40, l41, l42, l43, l45, l47, l48, l57, l58, l59, l60, l61, l62, l63, l64, l97, l99, l100, l101, l102, l103, l104, l105, l106, l107, l108, l109, l110, l122, l160, l240, l255, l600, l1000, l3000, l10000, l10007, l10116, l67108863, l67108864, I_oth, I_J, J_oth, J_I, I_row, J_row, SI_row, SI_oth, SI_J, SJ_row, SJ_oth, SJ_I, upd_s, upd_n, updL_s, updL_n, ne_eq, not_false_eq_true, lt_t, le_t, tI, NO_t, flag0, flag1, ite_or2, ite_self, true_or, or_true, false_or, or_false, true_and, and_true, false_and, and_false, not_true_eq_false, span_e, week_e, c0, refuse_e]
        · rw [km (puI w 0 10 (nI 5)) rfl rfl rfl]
          unfold X12_note_j51
          simp (disch := omega) only [gdn, gb0, gb1, ixn, nm1, nI_add, nI_mul, nsub, nI_ltI, nI_leI, nI_eq, eqNO, eqNO2, ltNO, NOlt, leNO, NOle, if_pos, if_neg, Option.bind_some, if_true, if_false, and_self, eq_self, l0, l1, l2, l3, l4, l5, l6, l7, l8, l9, l10, l11, l12, l13, l14, l15, l16, l17, l18, l19, l20, l24, l26, l30, l31, l32, l40, l41, l42, l43, l45, l47, l48, l57, l58, l59, l60, l61, l62, l63, l64, l97, l99, l100, l101, l102, l103, l104, l105, l106, l107, l108, l109, l110, l122, l160, l240, l255, l600, l1000, l3000, l10000, l10007, l10116, l67108863, l67108864, I_oth, I_J, J_oth, J_I, I_row, J_row, SI_row, SI_oth, SI_J, SJ_row, SJ_oth, SJ_I, upd_s, upd_n, updL_s, updL_n, ne_eq, not_false_eq_true, lt_t, le_t, tI, NO_t, flag0, flag1, ite_or2, ite_self, true_or, or_true, false_or, or_false, true_and, and_true, false_and, and_false, not_true_eq_false, mweek_e, m0, mlk, mis_e]
    · have : nn w 19 0 = 160 := by omega
      refine two_ref (nI 4) (r := nI 0) ?_ ?_ (fun w' z => Or.inl z)
      · unfold X11_note
        rw [kc]
        simp (disch := omega) only [gdn, gb0, gb1, ixn, nm1, nI_add, nI_mul, nsub, nI_ltI, nI_leI, nI_eq, eqNO, eqNO2, ltNO, NOlt, leNO, NOle, if_pos, if_neg, Option.bind_some, if_true, if_false, and_self, eq_self, l0, l1, l2, l3, l4, l5, l6, l7, l8, l9, l10, l11, l12, l13, l14, l15, l16, l17, l18, l19, l20, l24, l26, l30, l31, l32, l40, l41, l42, l43, l45, l47, l48, l57, l58, l59, l60, l61, l62, l63, l64, l97, l99, l100, l101, l102, l103, l104, l105, l106, l107, l108, l109, l110, l122, l160, l240, l255, l600, l1000, l3000, l10000, l10007, l10116, l67108863, l67108864, I_oth, I_J, J_oth, J_I, I_row, J_row, SI_row, SI_oth, SI_J, SJ_row, SJ_oth, SJ_I, upd_s, upd_n, updL_s, updL_n, ne_eq, not_false_eq_true, lt_t, le_t, tI, NO_t, flag0, flag1, ite_or2, ite_self, true_or, or_true, false_or, or_false, true_and, and_true, false_and, and_false, not_true_eq_false, span_e, week_e, c0, refuse_e]
      · rw [km (puI w 0 10 (nI 4)) rfl rfl rfl]
        unfold X12_note_j51
        simp (disch := omega) only [gdn, gb0, gb1, ixn, nm1, nI_add, nI_mul, nsub, nI_ltI, nI_leI, nI_eq, eqNO, eqNO2, ltNO, NOlt, leNO, NOle, if_pos, if_neg, Option.bind_some, if_true, if_false, and_self, eq_self, l0, l1, l2, l3, l4, l5, l6, l7, l8, l9, l10, l11, l12, l13, l14, l15, l16, l17, l18, l19, l20, l24, l26, l30, l31, l32, l40, l41, l42, l43, l45, l47, l48, l57, l58, l59, l60, l61, l62, l63, l64, l97, l99, l100, l101, l102, l103, l104, l105, l106, l107, l108, l109, l110, l122, l160, l240, l255, l600, l1000, l3000, l10000, l10007, l10116, l67108863, l67108864, I_oth, I_J, J_oth, J_I, I_row, J_row, SI_row, SI_oth, SI_J, SJ_row, SJ_oth, SJ_I, upd_s, upd_n, updL_s, updL_n, ne_eq, not_false_eq_true, lt_t, le_t, tI, NO_t, flag0, flag1, ite_or2, ite_self, true_or, or_true, false_or, or_false, true_and, and_true, false_and, and_false, not_true_eq_false, mweek_e, m0, mis_e]
  · refine two_ref (nI 1) (r := nI 0) ?_ ?_ (fun w' z => Or.inl z)
    · unfold X11_note X11_note_j28
      rw [kc]
      simp (disch := omega) only [gdn, gb0, gb1, ixn, nm1, nI_add, nI_mul, nsub, nI_ltI, nI_leI, nI_eq, eqNO, eqNO2, ltNO, NOlt, leNO, NOle, if_pos, if_neg, Option.bind_some, if_true, if_false, and_self, eq_self, l0, l1, l2, l3, l4, l5, l6, l7, l8, l9, l10, l11, l12, l13, l14, l15, l16, l17, l18, l19, l20, l24, l26, l30, l31, l32, l40, l41, l42, l43, l45, l47, l48, l57, l58, l59, l60, l61, l62, l63, l64, l97, l99, l100, l101, l102, l103, l104, l105, l106, l107, l108, l109, l110, l122, l160, l240, l255, l600, l1000, l3000, l10000, l10007, l10116, l67108863, l67108864, I_oth, I_J, J_oth, J_I, I_row, J_row, SI_row, SI_oth, SI_J, SJ_row, SJ_oth, SJ_I, upd_s, upd_n, updL_s, updL_n, ne_eq, not_false_eq_true, lt_t, le_t, tI, NO_t, flag0, flag1, ite_or2, ite_self, true_or, or_true, false_or, or_false, true_and, and_true, false_and, and_false, not_true_eq_false, span_e, week_e, refuse_e]
    · rw [km (puI w 0 10 (nI 1)) rfl rfl rfl]
      unfold X12_note_j51 X12_note_j103
      simp (disch := omega) only [gdn, gb0, gb1, ixn, nm1, nI_add, nI_mul, nsub, nI_ltI, nI_leI, nI_eq, eqNO, eqNO2, ltNO, NOlt, leNO, NOle, if_pos, if_neg, Option.bind_some, if_true, if_false, and_self, eq_self, l0, l1, l2, l3, l4, l5, l6, l7, l8, l9, l10, l11, l12, l13, l14, l15, l16, l17, l18, l19, l20, l24, l26, l30, l31, l32, l40, l41, l42, l43, l45, l47, l48, l57, l58, l59, l60, l61, l62, l63, l64, l97, l99, l100, l101, l102, l103, l104, l105, l106, l107, l108, l109, l110, l122, l160, l240, l255, l600, l1000, l3000, l10000, l10007, l10116, l67108863, l67108864, I_oth, I_J, J_oth, J_I, I_row, J_row, SI_row, SI_oth, SI_J, SJ_row, SJ_oth, SJ_I, upd_s, upd_n, updL_s, updL_n, ne_eq, not_false_eq_true, lt_t, le_t, tI, NO_t, flag0, flag1, ite_or2, ite_self, true_or, or_true, false_or, or_false, true_and, and_true, false_and, and_false, not_true_eq_false, mweek_e, mis_e]
theorem lookFrom_e {w : Wd} (h : IN w) {a : Nat} (ha : a < 60) : ∃ f, f ≤ 60 ∧ X4_lookFrom (nI a) w = some (nI f, puI (puI w 19 7 (nI a)) 19 8 NO) ∧ ∀ i, i < nn w 19 0 → (nn w 25 i ≤ a ↔ nn w 25 i ≤ nn w 19 7) ∨ f ≤ nn w 23 i := by
  have c0 := h.1.1.1
  have b0 := h.1.1.2
  have c7 := h.1.2.1
  have b7 := h.1.2.2
  have hlp : ∀ n, n ≤ nn w 19 0 → ∃ f, f ≤ 60 ∧ lp (X4_lookFrom_b25 (nI a) (nI (min a (nn w 19 7))) (nI (max a (nn w 19 7))) w) (nI 60, nI 0) = lp (X4_lookFrom_b25 (nI a) (nI (min a (nn w 19 7))) (nI (max a (nn w 19 7))) w) (nI f, nI n) ∧ ∀ i, i < n → (nn w 25 i ≤ a ↔ nn w 25 i ≤ nn w 19 7) ∨ f ≤ nn w 23 i := by
    intro n
    induction n with
    | zero => exact fun _ => ⟨60, by omega, rfl, fun i hi => by omega⟩
    | succ n ih =>
      intro hn
      obtain ⟨f, hf, e, hall⟩ := ih (by omega)
      obtain ⟨-, -, e23, -, e25, -⟩ := h.2.2.2 n (by omega)
      have b23 := e23.2
      have b25 := e25.2
      by_cases q : min a (nn w 19 7) < nn w 25 n ∧ nn w 25 n ≤ max a (nn w 19 7)
      · refine ⟨min f (nn w 23 n), by omega, e.trans (lp_step ?_), fun i hi => ?_⟩
        · unfold X4_lookFrom_b25 X4_lookFrom_j70
          simp (disch := omega) only [gdn, gb0, gb1, ixn, nm1, nI_add, nI_mul, nsub, nI_ltI, nI_leI, nI_eq, eqNO, eqNO2, ltNO, NOlt, leNO, NOle, if_pos, if_neg, Option.bind_some, if_true, if_false, and_self, eq_self, l0, l1, l2, l3, l4, l5, l6, l7, l8, l9, l10, l11, l12, l13, l14, l15, l16, l17, l18, l19, l20, l24, l26, l30, l31, l32, l40, l41, l42, l43, l45, l47, l48, l57, l58, l59, l60, l61, l62, l63, l64, l97, l99, l100, l101, l102, l103, l104, l105, l106, l107, l108, l109, l110, l122, l160, l240, l255, l600, l1000, l3000, l10000, l10007, l10116, l67108863, l67108864, c0, e23.1, e25.1, mn_nI]
        · by_cases z : i = n
          · subst z; exact Or.inr (by omega)
          · rcases hall i (by omega) with y | y
            · exact Or.inl y
            · exact Or.inr (by omega)
      · refine ⟨f, hf, e.trans (lp_step ?_), fun i hi => ?_⟩
        · unfold X4_lookFrom_b25 X4_lookFrom_j70
          by_cases z : min a (nn w 19 7) < nn w 25 n
          · simp (disch := omega) only [gdn, gb0, gb1, ixn, nm1, nI_add, nI_mul, nsub, nI_ltI, nI_leI, nI_eq, eqNO, eqNO2, ltNO, NOlt, leNO, NOle, if_pos, if_neg, Option.bind_some, if_true, if_false, and_self, eq_self, l0, l1, l2, l3, l4, l5, l6, l7, l8, l9, l10, l11, l12, l13, l14, l15, l16, l17, l18, l19, l20, l24, l26, l30, l31, l32, l40, l41, l42, l43, l45, l47, l48, l57, l58, l59, l60, l61, l62, l63, l64, l97, l99, l100, l101, l102, l103, l104, l105, l106, l107, l108, l109, l110, l122, l160, l240, l255, l600, l1000, l3000, l10000, l10007, l10116, l67108863, l67108864, c0, e23.1, e25.1]
          · simp (disch := omega) only [gdn, gb0, gb1, ixn, nm1, nI_add, nI_mul, nsub, nI_ltI, nI_leI, nI_eq, eqNO, eqNO2, ltNO, NOlt, leNO, NOle, if_pos, if_neg, Option.bind_some, if_true, if_false, and_self, eq_self, l0, l1, l2, l3, l4, l5, l6, l7, l8, l9, l10, l11, l12, l13, l14, l15, l16, l17, l18, l19, l20, l24, l26, l30, l31, l32, l40, l41, l42, l43, l45, l47, l48, l57, l58, l59, l60, l61, l62, l63, l64, l97, l99, l100, l101, l102, l103, l104, l105, l106, l107, l108, l109, l110, l122, l160, l240, l255, l600, l1000, l3000, l10000, l10007, l10116, l67108863, l67108864, c0, e23.1, e25.1]
        · by_cases z : i = n
          · subst z; exact Or.inl (by omega)
          · exact hall i (by omega)
  obtain ⟨f, hf, e, hall⟩ := hlp _ (Nat.le_refl _)
  refine ⟨f, hf, ?_, hall⟩
  have hx : lp (X4_lookFrom_b25 (nI a) (nI (min a (nn w 19 7))) (nI (max a (nn w 19 7))) w) (nI f, nI (nn w 19 0)) = some (nI f) := lp_exit (by unfold X4_lookFrom_b25; simp (disch := omega) only [gdn, gb0, gb1, ixn, nm1, nI_add, nI_mul, nsub, nI_ltI, nI_leI, nI_eq, eqNO, eqNO2, ltNO, NOlt, leNO, NOle, if_pos, if_neg, Option.bind_some, if_true, if_false, and_self, eq_self, l0, l1, l2, l3, l4, l5, l6, l7, l8, l9, l10, l11, l12, l13, l14, l15, l16, l17, l18, l19, l20, l24, l26, l30, l31, l32, l40, l41, l42, l43, l45, l47, l48, l57, l58, l59, l60, l61, l62, l63, l64, l97, l99, l100, l101, l102, l103, l104, l105, l106, l107, l108, l109, l110, l122, l160, l240, l255, l600, l1000, l3000, l10000, l10007, l10116, l67108863, l67108864, c0])
  unfold X4_lookFrom
  simp (disch := omega) only [gdn, gb0, gb1, ixn, nm1, nI_add, nI_mul, nsub, nI_ltI, nI_leI, nI_eq, eqNO, eqNO2, ltNO, NOlt, leNO, NOle, if_pos, if_neg, Option.bind_some, if_true, if_false, and_self, eq_self, l0, l1, l2, l3, l4, l5, l6, l7, l8, l9, l10, l11, l12, l13, l14, l15, l16, l17, l18, l19, l20, l24, l26, l30, l31, l32, l40, l41, l42, l43, l45, l47, l48, l57, l58, l59, l60, l61, l62, l63, l64, l97, l99, l100, l101, l102, l103, l104, l105, l106, l107, l108, l109, l110, l122, l160, l240, l255, l600, l1000, l3000, l10000, l10007, l10116, l67108863, l67108864, c7, mn_nI, mx_nI, e, hx]
theorem o_asof (a1 : Int32) {w : Wd} (h : IN w) : two (X11_asof a1) (X12_asof a1) w (fun w' => St w w' ∨ (IS w' ∧ IN w' ∧ w'.1 19 8 = NO ∧ ∃ f, f ≤ 60 ∧ w'.1 73 4 = mnI (w.1 73 4) (nI f) ∧ nn w' 19 7 < 60 ∧ ∀ i, i < nn w 19 0 → (nn w 25 i ≤ nn w' 19 7 ↔ nn w 25 i ≤ nn w 19 7) ∨ f ≤ nn w 23 i)) := by
  by_cases hv : 0 ≤ a1.toInt ∧ a1.toInt < ((60 : Nat) : Int)
  · obtain ⟨a, ha, rfl⟩ := of_t hv
    obtain ⟨f, hf, e, hall⟩ := lookFrom_e h ha
    refine ⟨nI 1, puI (puI (puI (puI w 19 7 (nI a)) 19 8 NO) 73 4 (mnI (w.1 73 4) (nI f))) 0 10 (nI 0), puI (puI (puI (puI (puI (puI w 19 7 (nI a)) 19 8 NO) 73 4 (mnI (w.1 73 4) (nI f))) 0 10 (nI 0)) 97 11 (nI a)) 97 0 (nI 0), ?_, ?_, Or.inr ⟨rfl, ?_, rfl, f, hf, rfl, ?_, ?_⟩⟩
    · unfold X11_asof
      rw [e]
      simp (disch := omega) only [gdn, gb0, gb1, ixn, nm1, nI_add, nI_mul, nsub, nI_ltI, nI_leI, nI_eq, eqNO, eqNO2, ltNO, NOlt, leNO, NOle, if_pos, if_neg, Option.bind_some, if_true, if_false, and_self, eq_self, l0, l1, l2, l3, l4, l5, l6, l7, l8, l9, l10, l11, l12, l13, l14, l15, l16, l17, l18, l19, l20, l24, l26, l30, l31, l32, l40, l41, l42, l43, l45, l47, l48, l57, l58, l59, l60, l61, l62, l63, l64, l97, l99, l100, l101, l102, l103, l104, l105, l106, l107, l108, l109, l110, l122, l160, l240, l255, l600, l1000, l3000, l10000, l10007, l10116, l67108863, l67108864, I_oth, I_J, J_oth, J_I, I_row, J_row, SI_row, SI_oth, SI_J, SJ_row, SJ_oth, SJ_I, upd_s, upd_n, updL_s, updL_n, ne_eq, not_false_eq_true, lt_t, le_t, tI, NO_t, flag0, flag1, ite_or2, ite_self, true_or, or_true, false_or, or_false, true_and, and_true, false_and, and_false, not_true_eq_false, week_e, relive_e, agree_e]
    · unfold X12_asof
      simp (disch := omega) only [gdn, gb0, gb1, ixn, nm1, nI_add, nI_mul, nsub, nI_ltI, nI_leI, nI_eq, eqNO, eqNO2, ltNO, NOlt, leNO, NOle, if_pos, if_neg, Option.bind_some, if_true, if_false, and_self, eq_self, l0, l1, l2, l3, l4, l5, l6, l7, l8, l9, l10, l11, l12, l13, l14, l15, l16, l17, l18, l19, l20, l24, l26, l30, l31, l32, l40, l41, l42, l43, l45, l47, l48, l57, l58, l59, l60, l61, l62, l63, l64, l97, l99, l100, l101, l102, l103, l104, l105, l106, l107, l108, l109, l110, l122, l160, l240, l255, l600, l1000, l3000, l10000, l10007, l10116, l67108863, l67108864, I_oth, I_J, J_oth, J_I, I_row, J_row, SI_row, SI_oth, SI_J, SJ_row, SJ_oth, SJ_I, upd_s, upd_n, updL_s, updL_n, ne_eq, not_false_eq_true, lt_t, le_t, tI, NO_t, flag0, flag1, ite_or2, ite_self, true_or, or_true, false_or, or_false, true_and, and_true, false_and, and_false, not_true_eq_false, mweek_e, mis_e]
    · obtain ⟨⟨c0, c7⟩, ⟨m9, m11, m10⟩, hr, ht⟩ := h
      exact ⟨⟨c0, isN.of (n := a) rfl ha (by omega)⟩, ⟨m9, rfl, m10⟩, hr, ht⟩
    · show ix (nI a) < 60
      rw [ixn (by omega)]; exact ha
    · intro i hi
      have e7 : nn (puI (puI (puI (puI (puI (puI w 19 7 (nI a)) 19 8 NO) 73 4 (mnI (w.1 73 4) (nI f))) 0 10 (nI 0)) 97 11 (nI a)) 97 0 (nI 0)) 19 7 = a := nn_of rfl (by omega)
      rw [e7]
      exact hall i hi
  · refine two_ref (nI 1) (r := nI 0) ?_ ?_ (fun w' z => Or.inl z)
    · unfold X11_asof
      simp (disch := omega) only [gdn, gb0, gb1, ixn, nm1, nI_add, nI_mul, nsub, nI_ltI, nI_leI, nI_eq, eqNO, eqNO2, ltNO, NOlt, leNO, NOle, if_pos, if_neg, Option.bind_some, if_true, if_false, and_self, eq_self, l0, l1, l2, l3, l4, l5, l6, l7, l8, l9, l10, l11, l12, l13, l14, l15, l16, l17, l18, l19, l20, l24, l26, l30, l31, l32, l40, l41, l42, l43, l45, l47, l48, l57, l58, l59, l60, l61, l62, l63, l64, l97, l99, l100, l101, l102, l103, l104, l105, l106, l107, l108, l109, l110, l122, l160, l240, l255, l600, l1000, l3000, l10000, l10007, l10116, l67108863, l67108864, I_oth, I_J, J_oth, J_I, I_row, J_row, SI_row, SI_oth, SI_J, SJ_row, SJ_oth, SJ_I, upd_s, upd_n, updL_s, updL_n, ne_eq, not_false_eq_true, lt_t, le_t, tI, NO_t, flag0, flag1, ite_or2, ite_self, true_or, or_true, false_or, or_false, true_and, and_true, false_and, and_false, not_true_eq_false, week_e, refuse_e]
    · unfold X12_asof
      simp (disch := omega) only [gdn, gb0, gb1, ixn, nm1, nI_add, nI_mul, nsub, nI_ltI, nI_leI, nI_eq, eqNO, eqNO2, ltNO, NOlt, leNO, NOle, if_pos, if_neg, Option.bind_some, if_true, if_false, and_self, eq_self, l0, l1, l2, l3, l4, l5, l6, l7, l8, l9, l10, l11, l12, l13, l14, l15, l16, l17, l18, l19, l20, l24, l26, l30, l31, l32, l40, l41, l42, l43, l45, l47, l48, l57, l58, l59, l60, l61, l62, l63, l64, l97, l99, l100, l101, l102, l103, l104, l105, l106, l107, l108, l109, l110, l122, l160, l240, l255, l600, l1000, l3000, l10000, l10007, l10116, l67108863, l67108864, I_oth, I_J, J_oth, J_I, I_row, J_row, SI_row, SI_oth, SI_J, SJ_row, SJ_oth, SJ_I, upd_s, upd_n, updL_s, updL_n, ne_eq, not_false_eq_true, lt_t, le_t, tI, NO_t, flag0, flag1, ite_or2, ite_self, true_or, or_true, false_or, or_false, true_and, and_true, false_and, and_false, not_true_eq_false, mweek_e, mis_e]
