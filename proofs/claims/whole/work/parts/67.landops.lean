theorem place_e {w : Wd} (h : IL w) (a : Int32) : X2_isPlace a w = (if 0 ≤ a.toInt ∧ a.toInt < (nn w 5 0 : Int) then nI 1 else nI 0) := wic a w h.1.1.1 (by have := h.1.1.2; omega)
theorem lrn_e {w : Wd} (h : IL w) (a : Int32) : X2_isLearner a w = (if 0 ≤ a.toInt ∧ a.toInt < (nn w 5 8 : Int) then nI 1 else nI 0) := wic a w h.1.2.2.1.1 (by have := h.1.2.2.1.2; omega)
theorem tch_e {w : Wd} (h : IL w) (a : Int32) : X2_isTeacher a w = (if 0 ≤ a.toInt ∧ a.toInt < (nn w 5 12 : Int) then nI 1 else nI 0) := wic a w h.1.2.2.2.1.1 (by have := h.1.2.2.2.1.2; omega)
theorem lmp_e {w : Wd} (h : IL w) (a : Int32) : X2_isLamp a w = (if 0 ≤ a.toInt ∧ a.toInt < (nn w 5 15 : Int) then nI 1 else nI 0) := wic a w h.1.2.2.2.2.1 (by have := h.1.2.2.2.2.2; omega)
theorem mplace_e {w : Wd} (h : IL w) (a : Int32) : X12_isPlace a w = (if 0 ≤ a.toInt ∧ a.toInt < (nn w 5 0 : Int) then nI 1 else nI 0) := mcnt a _ (by rw [h.2.1.1]; exact h.1.1.1) (by have := h.1.1.2; omega)
theorem mlrn_e {w : Wd} (h : IL w) (a : Int32) : X12_isLearner a w = (if 0 ≤ a.toInt ∧ a.toInt < (nn w 5 8 : Int) then nI 1 else nI 0) := mcnt a _ (by rw [h.2.1.2.2.1]; exact h.1.2.2.1.1) (by have := h.1.2.2.1.2; omega)
theorem mtch_e {w : Wd} (h : IL w) (a : Int32) : X12_isTeacher a w = (if 0 ≤ a.toInt ∧ a.toInt < (nn w 5 12 : Int) then nI 1 else nI 0) := mcnt a _ (by rw [h.2.1.2.2.2.1]; exact h.1.2.2.2.1.1) (by have := h.1.2.2.2.1.2; omega)
theorem mlmp_e {w : Wd} (h : IL w) (a : Int32) : X12_isLamp a w = (if 0 ≤ a.toInt ∧ a.toInt < (nn w 5 15 : Int) then nI 1 else nI 0) := mcnt a _ (by rw [h.2.1.2.2.2.2]; exact h.1.2.2.2.2.1) (by have := h.1.2.2.2.2.2; omega)
theorem mpl (a : Int32) {w : Wd} {n : Nat} (h : w.1 97 4 = nI n) (hn : n < 2 ^ 31) : X12_isPlace a w = (if 0 ≤ a.toInt ∧ a.toInt < (n : Int) then nI 1 else nI 0) := mcnt a _ h hn
theorem mlr (a : Int32) {w : Wd} {n : Nat} (h : w.1 97 6 = nI n) (hn : n < 2 ^ 31) : X12_isLearner a w = (if 0 ≤ a.toInt ∧ a.toInt < (n : Int) then nI 1 else nI 0) := mcnt a _ h hn
theorem mtc (a : Int32) {w : Wd} {n : Nat} (h : w.1 97 7 = nI n) (hn : n < 2 ^ 31) : X12_isTeacher a w = (if 0 ≤ a.toInt ∧ a.toInt < (n : Int) then nI 1 else nI 0) := mcnt a _ h hn
theorem mlm (a : Int32) {w : Wd} {n : Nat} (h : w.1 97 8 = nI n) (hn : n < 2 ^ 31) : X12_isLamp a w = (if 0 ≤ a.toInt ∧ a.toInt < (n : Int) then nI 1 else nI 0) := mcnt a _ h hn
/-- nothing but the status is another -/
def St (w w' : Wd) : Prop := ∃ v, w' = puI (puI w 0 10 v) 97 0 v
theorem St.is {w w' : Wd} (h : St w w') : IS w' := by obtain ⟨v, rfl⟩ := h; exact IS_set
theorem two_ref {f g : Wd → Option (Int32 × Wd)} {w : Wd} {P : Wd → Prop} {r : Int32} (v : Int32) (h1 : f w = some (r, puI w 0 10 v)) (h2 : g (puI w 0 10 v) = some (r, puI (puI w 0 10 v) 97 0 v)) (hP : ∀ w', St w w' → P w') : two f g w P := ⟨r, _, _, h1, h2, hP _ ⟨v, rfl⟩⟩
theorem o_place (a1 : Int32) {w : Wd} (h : IL w) : two (X11_place a1) (X12_place a1) w (fun w' => St w w' ∨ (IS w' ∧ IL w' ∧ nn w 5 0 ≤ nn w' 5 0 ∧ ∀ i, i < nn w 5 0 → w'.1 6 i = w.1 6 i)) := by
  have c0 := h.1.1.1
  have b0 := h.1.1.2
  have m0 : w.1 97 4 = nI (nn w 5 0) := by rw [h.2.1.1]; exact c0
  by_cases hv : 0 ≤ a1.toInt ∧ a1.toInt < ((4 : Nat) : Int)
  · obtain ⟨a, ha, rfl⟩ := of_t hv
    by_cases hc : nn w 5 0 < 16
    · refine ⟨nI (nn w 5 0), (puI (puI (puI w 6 (nn w 5 0) (nI a)) 5 0 (nI (nn w 5 0 + 1))) 0 10 (nI 0)), _, ?_, ?_, Or.inr ⟨?_, IL_place h rfl hc ha, ?_, fun i hi => ?_⟩⟩
      · unfold X11_place X2_addPlace
        simp (disch := omega) only [gdn, gb0, gb1, ixn, nm1, nI_add, nI_mul, nsub, nI_ltI, nI_leI, nI_eq, eqNO, eqNO2, ltNO, NOlt, leNO, NOle, if_pos, if_neg, Option.bind_some, if_true, if_false, and_self, eq_self, l0, l1, l2, l3, l4, l5, l6, l7, l8, l9, l10, l11, l12, l13, l14, l15, l16, l17, l18, l19, l20, l24, l26, l30, l31, l32, l40, l41, l42, l43, l45, l47, l48, l57, l58, l59, l60, l61, l62, l63, l64, l97, l99, l100, l101, l102, l103, l104, l105, l106, l107, l108, l109, l110, l122, l160, l240, l255, l600, l1000, l3000, l10000, l10007, l10116, l67108863, l67108864, I_oth, I_J, J_oth, J_I, I_row, J_row, SI_row, SI_oth, SI_J, SJ_row, SJ_oth, SJ_I, upd_s, upd_n, updL_s, updL_n, ne_eq, not_false_eq_true, lt_t, le_t, tI, NO_t, flag0, flag1, ite_or2, ite_self, true_or, or_true, false_or, or_false, true_and, and_true, false_and, and_false, not_true_eq_false, shire_e, c0, answer_e]
      · unfold X12_place
        simp (disch := omega) only [gdn, gb0, gb1, ixn, nm1, nI_add, nI_mul, nsub, nI_ltI, nI_leI, nI_eq, eqNO, eqNO2, ltNO, NOlt, leNO, NOle, if_pos, if_neg, Option.bind_some, if_true, if_false, and_self, eq_self, l0, l1, l2, l3, l4, l5, l6, l7, l8, l9, l10, l11, l12, l13, l14, l15, l16, l17, l18, l19, l20, l24, l26, l30, l31, l32, l40, l41, l42, l43, l45, l47, l48, l57, l58, l59, l60, l61, l62, l63, l64, l97, l99, l100, l101, l102, l103, l104, l105, l106, l107, l108, l109, l110, l122, l160, l240, l255, l600, l1000, l3000, l10000, l10007, l10116, l67108863, l67108864, I_oth, I_J, J_oth, J_I, I_row, J_row, SI_row, SI_oth, SI_J, SJ_row, SJ_oth, SJ_I, upd_s, upd_n, updL_s, updL_n, ne_eq, not_false_eq_true, lt_t, le_t, tI, NO_t, flag0, flag1, ite_or2, ite_self, true_or, or_true, false_or, or_false, true_and, and_true, false_and, and_false, not_true_eq_false, mshire_e, m0, mgiv_e]
        rw [show nn w 5 0 + 1 - 1 = nn w 5 0 by omega]
      · exact rfl
      · show nn w 5 0 ≤ ix (nI (nn w 5 0 + 1)); rw [ixn (by omega)]; omega
      · exact upd_n (by omega)
    · refine two_ref (nI 4) (r := NO) ?_ ?_ (fun w' z => Or.inl z)
      · unfold X11_place
        simp (disch := omega) only [gdn, gb0, gb1, ixn, nm1, nI_add, nI_mul, nsub, nI_ltI, nI_leI, nI_eq, eqNO, eqNO2, ltNO, NOlt, leNO, NOle, if_pos, if_neg, Option.bind_some, if_true, if_false, and_self, eq_self, l0, l1, l2, l3, l4, l5, l6, l7, l8, l9, l10, l11, l12, l13, l14, l15, l16, l17, l18, l19, l20, l24, l26, l30, l31, l32, l40, l41, l42, l43, l45, l47, l48, l57, l58, l59, l60, l61, l62, l63, l64, l97, l99, l100, l101, l102, l103, l104, l105, l106, l107, l108, l109, l110, l122, l160, l240, l255, l600, l1000, l3000, l10000, l10007, l10116, l67108863, l67108864, I_oth, I_J, J_oth, J_I, I_row, J_row, SI_row, SI_oth, SI_J, SJ_row, SJ_oth, SJ_I, upd_s, upd_n, updL_s, updL_n, ne_eq, not_false_eq_true, lt_t, le_t, tI, NO_t, flag0, flag1, ite_or2, ite_self, true_or, or_true, false_or, or_false, true_and, and_true, false_and, and_false, not_true_eq_false, shire_e, c0, deny_e]
      · unfold X12_place
        have : nn w 5 0 = 16 := by omega
        simp (disch := omega) only [gdn, gb0, gb1, ixn, nm1, nI_add, nI_mul, nsub, nI_ltI, nI_leI, nI_eq, eqNO, eqNO2, ltNO, NOlt, leNO, NOle, if_pos, if_neg, Option.bind_some, if_true, if_false, and_self, eq_self, l0, l1, l2, l3, l4, l5, l6, l7, l8, l9, l10, l11, l12, l13, l14, l15, l16, l17, l18, l19, l20, l24, l26, l30, l31, l32, l40, l41, l42, l43, l45, l47, l48, l57, l58, l59, l60, l61, l62, l63, l64, l97, l99, l100, l101, l102, l103, l104, l105, l106, l107, l108, l109, l110, l122, l160, l240, l255, l600, l1000, l3000, l10000, l10007, l10116, l67108863, l67108864, I_oth, I_J, J_oth, J_I, I_row, J_row, SI_row, SI_oth, SI_J, SJ_row, SJ_oth, SJ_I, upd_s, upd_n, updL_s, updL_n, ne_eq, not_false_eq_true, lt_t, le_t, tI, NO_t, flag0, flag1, ite_or2, ite_self, true_or, or_true, false_or, or_false, true_and, and_true, false_and, and_false, not_true_eq_false, mshire_e, m0, mref_e]
  · refine two_ref (nI 1) (r := NO) ?_ ?_ (fun w' z => Or.inl z)
    · unfold X11_place
      simp (disch := omega) only [gdn, gb0, gb1, ixn, nm1, nI_add, nI_mul, nsub, nI_ltI, nI_leI, nI_eq, eqNO, eqNO2, ltNO, NOlt, leNO, NOle, if_pos, if_neg, Option.bind_some, if_true, if_false, and_self, eq_self, l0, l1, l2, l3, l4, l5, l6, l7, l8, l9, l10, l11, l12, l13, l14, l15, l16, l17, l18, l19, l20, l24, l26, l30, l31, l32, l40, l41, l42, l43, l45, l47, l48, l57, l58, l59, l60, l61, l62, l63, l64, l97, l99, l100, l101, l102, l103, l104, l105, l106, l107, l108, l109, l110, l122, l160, l240, l255, l600, l1000, l3000, l10000, l10007, l10116, l67108863, l67108864, I_oth, I_J, J_oth, J_I, I_row, J_row, SI_row, SI_oth, SI_J, SJ_row, SJ_oth, SJ_I, upd_s, upd_n, updL_s, updL_n, ne_eq, not_false_eq_true, lt_t, le_t, tI, NO_t, flag0, flag1, ite_or2, ite_self, true_or, or_true, false_or, or_false, true_and, and_true, false_and, and_false, not_true_eq_false, shire_e, deny_e]
    · unfold X12_place
      simp (disch := omega) only [gdn, gb0, gb1, ixn, nm1, nI_add, nI_mul, nsub, nI_ltI, nI_leI, nI_eq, eqNO, eqNO2, ltNO, NOlt, leNO, NOle, if_pos, if_neg, Option.bind_some, if_true, if_false, and_self, eq_self, l0, l1, l2, l3, l4, l5, l6, l7, l8, l9, l10, l11, l12, l13, l14, l15, l16, l17, l18, l19, l20, l24, l26, l30, l31, l32, l40, l41, l42, l43, l45, l47, l48, l57, l58, l59, l60, l61, l62, l63, l64, l97, l99, l100, l101, l102, l103, l104, l105, l106, l107, l108, l109, l110, l122, l160, l240, l255, l600, l1000, l3000, l10000, l10007, l10116, l67108863, l67108864, I_oth, I_J, J_oth, J_I, I_row, J_row, SI_row, SI_oth, SI_J, SJ_row, SJ_oth, SJ_I, upd_s, upd_n, updL_s, updL_n, ne_eq, not_false_eq_true, lt_t, le_t, tI, NO_t, flag0, flag1, ite_or2, ite_self, true_or, or_true, false_or, or_false, true_and, and_true, false_and, and_false, not_true_eq_false, mshire_e, mref_e]
theorem o_lamp (a1 : Int32) {w : Wd} (h : IL w) : two (X11_lamp a1) (X12_lamp a1) w (fun w' => St w w' ∨ (IS w' ∧ IL w' ∧ nn w 5 15 ≤ nn w' 5 15 ∧ ∀ i, i < nn w 5 15 → w'.1 17 i = w.1 17 i)) := by
  have c0 := h.1.2.2.2.2.1
  have b0 := h.1.2.2.2.2.2
  have bP := h.1.1.2
  have mP : w.1 97 4 = nI (nn w 5 0) := by rw [h.2.1.1]; exact h.1.1.1
  have m0 : w.1 97 8 = nI (nn w 5 15) := by rw [h.2.1.2.2.2.2]; exact c0
  by_cases hv : (0 ≤ a1.toInt ∧ a1.toInt < (nn w 5 0 : Int))
  · have ha1 := hv
    obtain ⟨a1n, la1, rfl⟩ := of_t (n := nn w 5 0) (show 0 ≤ a1.toInt ∧ a1.toInt < _ from ⟨by omega, ha1.2⟩)
    by_cases hc : nn w 5 15 < 12
    · refine ⟨nI (nn w 5 15), (puI (puI (puI w 17 (nn w 5 15) (nI a1n)) 5 15 (nI (nn w 5 15 + 1))) 0 10 (nI 0)), _, ?_, ?_, Or.inr ⟨?_, IL_lamp  (show IL _ from h) rfl hc la1, ?_, fun i hi => ?_⟩⟩
      · unfold X11_lamp X2_addLamp
        simp (disch := omega) only [gdn, gb0, gb1, ixn, nm1, nI_add, nI_mul, nsub, nI_ltI, nI_leI, nI_eq, eqNO, eqNO2, ltNO, NOlt, leNO, NOle, if_pos, if_neg, Option.bind_some, if_true, if_false, and_self, eq_self, l0, l1, l2, l3, l4, l5, l6, l7, l8, l9, l10, l11, l12, l13, l14, l15, l16, l17, l18, l19, l20, l24, l26, l30, l31, l32, l40, l41, l42, l43, l45, l47, l48, l57, l58, l59, l60, l61, l62, l63, l64, l97, l99, l100, l101, l102, l103, l104, l105, l106, l107, l108, l109, l110, l122, l160, l240, l255, l600, l1000, l3000, l10000, l10007, l10116, l67108863, l67108864, I_oth, I_J, J_oth, J_I, I_row, J_row, SI_row, SI_oth, SI_J, SJ_row, SJ_oth, SJ_I, upd_s, upd_n, updL_s, updL_n, ne_eq, not_false_eq_true, lt_t, le_t, tI, NO_t, flag0, flag1, ite_or2, ite_self, true_or, or_true, false_or, or_false, true_and, and_true, false_and, and_false, not_true_eq_false, place_e h, win, wil, c0, answer_e, relive_e]
      · unfold X12_lamp
        rw [mpl (n := nn w 5 0)]
        · simp (disch := omega) only [gdn, gb0, gb1, ixn, nm1, nI_add, nI_mul, nsub, nI_ltI, nI_leI, nI_eq, eqNO, eqNO2, ltNO, NOlt, leNO, NOle, if_pos, if_neg, Option.bind_some, if_true, if_false, and_self, eq_self, l0, l1, l2, l3, l4, l5, l6, l7, l8, l9, l10, l11, l12, l13, l14, l15, l16, l17, l18, l19, l20, l24, l26, l30, l31, l32, l40, l41, l42, l43, l45, l47, l48, l57, l58, l59, l60, l61, l62, l63, l64, l97, l99, l100, l101, l102, l103, l104, l105, l106, l107, l108, l109, l110, l122, l160, l240, l255, l600, l1000, l3000, l10000, l10007, l10116, l67108863, l67108864, I_oth, I_J, J_oth, J_I, I_row, J_row, SI_row, SI_oth, SI_J, SJ_row, SJ_oth, SJ_I, upd_s, upd_n, updL_s, updL_n, ne_eq, not_false_eq_true, lt_t, le_t, tI, NO_t, flag0, flag1, ite_or2, ite_self, true_or, or_true, false_or, or_false, true_and, and_true, false_and, and_false, not_true_eq_false, m0, mgiv_e]
          rw [show nn w 5 15 + 1 - 1 = nn w 5 15 by omega]
        · exact mP
        · omega
      · exact rfl
      · show nn w 5 15 ≤ ix (nI (nn w 5 15 + 1)); rw [ixn (by omega)]; omega
      · exact upd_n (by omega)
    · refine two_ref (nI 4) (r := NO) ?_ ?_ (fun w' z => Or.inl z)
      · unfold X11_lamp
        simp (disch := omega) only [gdn, gb0, gb1, ixn, nm1, nI_add, nI_mul, nsub, nI_ltI, nI_leI, nI_eq, eqNO, eqNO2, ltNO, NOlt, leNO, NOle, if_pos, if_neg, Option.bind_some, if_true, if_false, and_self, eq_self, l0, l1, l2, l3, l4, l5, l6, l7, l8, l9, l10, l11, l12, l13, l14, l15, l16, l17, l18, l19, l20, l24, l26, l30, l31, l32, l40, l41, l42, l43, l45, l47, l48, l57, l58, l59, l60, l61, l62, l63, l64, l97, l99, l100, l101, l102, l103, l104, l105, l106, l107, l108, l109, l110, l122, l160, l240, l255, l600, l1000, l3000, l10000, l10007, l10116, l67108863, l67108864, I_oth, I_J, J_oth, J_I, I_row, J_row, SI_row, SI_oth, SI_J, SJ_row, SJ_oth, SJ_I, upd_s, upd_n, updL_s, updL_n, ne_eq, not_false_eq_true, lt_t, le_t, tI, NO_t, flag0, flag1, ite_or2, ite_self, true_or, or_true, false_or, or_false, true_and, and_true, false_and, and_false, not_true_eq_false, place_e h, win, wil, c0, deny_e]
      · unfold X12_lamp
        have : nn w 5 15 = 12 := by omega
        rw [mpl (n := nn w 5 0)]
        · simp (disch := omega) only [gdn, gb0, gb1, ixn, nm1, nI_add, nI_mul, nsub, nI_ltI, nI_leI, nI_eq, eqNO, eqNO2, ltNO, NOlt, leNO, NOle, if_pos, if_neg, Option.bind_some, if_true, if_false, and_self, eq_self, l0, l1, l2, l3, l4, l5, l6, l7, l8, l9, l10, l11, l12, l13, l14, l15, l16, l17, l18, l19, l20, l24, l26, l30, l31, l32, l40, l41, l42, l43, l45, l47, l48, l57, l58, l59, l60, l61, l62, l63, l64, l97, l99, l100, l101, l102, l103, l104, l105, l106, l107, l108, l109, l110, l122, l160, l240, l255, l600, l1000, l3000, l10000, l10007, l10116, l67108863, l67108864, I_oth, I_J, J_oth, J_I, I_row, J_row, SI_row, SI_oth, SI_J, SJ_row, SJ_oth, SJ_I, upd_s, upd_n, updL_s, updL_n, ne_eq, not_false_eq_true, lt_t, le_t, tI, NO_t, flag0, flag1, ite_or2, ite_self, true_or, or_true, false_or, or_false, true_and, and_true, false_and, and_false, not_true_eq_false, m0, mref_e]
        · exact mP
        · omega
  · refine two_ref (nI 1) (r := NO) ?_ ?_ (fun w' z => Or.inl z)
    · unfold X11_lamp
      simp (disch := omega) only [gdn, gb0, gb1, ixn, nm1, nI_add, nI_mul, nsub, nI_ltI, nI_leI, nI_eq, eqNO, eqNO2, ltNO, NOlt, leNO, NOle, if_pos, if_neg, Option.bind_some, if_true, if_false, and_self, eq_self, l0, l1, l2, l3, l4, l5, l6, l7, l8, l9, l10, l11, l12, l13, l14, l15, l16, l17, l18, l19, l20, l24, l26, l30, l31, l32, l40, l41, l42, l43, l45, l47, l48, l57, l58, l59, l60, l61, l62, l63, l64, l97, l99, l100, l101, l102, l103, l104, l105, l106, l107, l108, l109, l110, l122, l160, l240, l255, l600, l1000, l3000, l10000, l10007, l10116, l67108863, l67108864, I_oth, I_J, J_oth, J_I, I_row, J_row, SI_row, SI_oth, SI_J, SJ_row, SJ_oth, SJ_I, upd_s, upd_n, updL_s, updL_n, ne_eq, not_false_eq_true, lt_t, le_t, tI, NO_t, flag0, flag1, ite_or2, ite_self, true_or, or_true, false_or, or_false, true_and, and_true, false_and, and_false, not_true_eq_false, place_e h, win, deny_e]
    · unfold X12_lamp
      rw [mpl (n := nn w 5 0)]
      · simp (disch := omega) only [gdn, gb0, gb1, ixn, nm1, nI_add, nI_mul, nsub, nI_ltI, nI_leI, nI_eq, eqNO, eqNO2, ltNO, NOlt, leNO, NOle, if_pos, if_neg, Option.bind_some, if_true, if_false, and_self, eq_self, l0, l1, l2, l3, l4, l5, l6, l7, l8, l9, l10, l11, l12, l13, l14, l15, l16, l17, l18, l19, l20, l24, l26, l30, l31, l32, l40, l41, l42, l43, l45, l47, l48, l57, l58, l59, l60, l61, l62, l63, l64, l97, l99, l100, l101, l102, l103, l104, l105, l106, l107, l108, l109, l110, l122, l160, l240, l255, l600, l1000, l3000, l10000, l10007, l10116, l67108863, l67108864, I_oth, I_J, J_oth, J_I, I_row, J_row, SI_row, SI_oth, SI_J, SJ_row, SJ_oth, SJ_I, upd_s, upd_n, updL_s, updL_n, ne_eq, not_false_eq_true, lt_t, le_t, tI, NO_t, flag0, flag1, ite_or2, ite_self, true_or, or_true, false_or, or_false, true_and, and_true, false_and, and_false, not_true_eq_false, mref_e]
      · exact mP
      · omega
theorem o_teacher (a1 a2 : Int32) {w : Wd} (h : IL w) : two (X11_teacher a1 a2) (X12_teacher a1 a2) w (fun w' => St w w' ∨ (IS w' ∧ IL w' ∧ nn w 5 12 ≤ nn w' 5 12 ∧ ∀ i, i < nn w 5 12 → w'.1 15 i = w.1 15 i ∧ w'.1 16 i = w.1 16 i)) := by
  have c0 := h.1.2.2.2.1.1
  have b0 := h.1.2.2.2.1.2
  have bP := h.1.1.2
  have mP : w.1 97 4 = nI (nn w 5 0) := by rw [h.2.1.1]; exact h.1.1.1
  have m0 : w.1 97 7 = nI (nn w 5 12) := by rw [h.2.1.2.2.2.1]; exact c0
  by_cases hv : (((1 : Nat) : Int) ≤ a1.toInt ∧ a1.toInt < ((32 : Nat) : Int)) ∧ (0 ≤ a2.toInt ∧ a2.toInt < (nn w 5 0 : Int))
  · obtain ⟨ha1, ha2⟩ := hv
    obtain ⟨a1n, la1, rfl⟩ := of_t (n := 32) (show 0 ≤ a1.toInt ∧ a1.toInt < _ from ⟨by omega, ha1.2⟩)
    have ha11 := ha1.1
    rw [tI (by omega)] at ha11
    obtain ⟨a2n, la2, rfl⟩ := of_t (n := nn w 5 0) (show 0 ≤ a2.toInt ∧ a2.toInt < _ from ⟨by omega, ha2.2⟩)
    by_cases hc : nn w 5 12 < 20
    · refine ⟨nI (nn w 5 12), (puI (puI (puI (puI w 15 (nn w 5 12) (nI a1n)) 16 (nn w 5 12) (nI a2n)) 5 12 (nI (nn w 5 12 + 1))) 0 10 (nI 0)), _, ?_, ?_, Or.inr ⟨?_, IL_teacher  (show IL _ from h) rfl hc la1 la2, ?_, fun i hi => ?_⟩⟩
      · unfold X11_teacher X2_addTeacher
        simp (disch := omega) only [gdn, gb0, gb1, ixn, nm1, nI_add, nI_mul, nsub, nI_ltI, nI_leI, nI_eq, eqNO, eqNO2, ltNO, NOlt, leNO, NOle, if_pos, if_neg, Option.bind_some, if_true, if_false, and_self, eq_self, l0, l1, l2, l3, l4, l5, l6, l7, l8, l9, l10, l11, l12, l13, l14, l15, l16, l17, l18, l19, l20, l24, l26, l30, l31, l32, l40, l41, l42, l43, l45, l47, l48, l57, l58, l59, l60, l61, l62, l63, l64, l97, l99, l100, l101, l102, l103, l104, l105, l106, l107, l108, l109, l110, l122, l160, l240, l255, l600, l1000, l3000, l10000, l10007, l10116, l67108863, l67108864, I_oth, I_J, J_oth, J_I, I_row, J_row, SI_row, SI_oth, SI_J, SJ_row, SJ_oth, SJ_I, upd_s, upd_n, updL_s, updL_n, ne_eq, not_false_eq_true, lt_t, le_t, tI, NO_t, flag0, flag1, ite_or2, ite_self, true_or, or_true, false_or, or_false, true_and, and_true, false_and, and_false, not_true_eq_false, place_e h, win, wil, c0, answer_e, relive_e]
      · unfold X12_teacher
        rw [mpl (n := nn w 5 0)]
        · simp (disch := omega) only [gdn, gb0, gb1, ixn, nm1, nI_add, nI_mul, nsub, nI_ltI, nI_leI, nI_eq, eqNO, eqNO2, ltNO, NOlt, leNO, NOle, if_pos, if_neg, Option.bind_some, if_true, if_false, and_self, eq_self, l0, l1, l2, l3, l4, l5, l6, l7, l8, l9, l10, l11, l12, l13, l14, l15, l16, l17, l18, l19, l20, l24, l26, l30, l31, l32, l40, l41, l42, l43, l45, l47, l48, l57, l58, l59, l60, l61, l62, l63, l64, l97, l99, l100, l101, l102, l103, l104, l105, l106, l107, l108, l109, l110, l122, l160, l240, l255, l600, l1000, l3000, l10000, l10007, l10116, l67108863, l67108864, I_oth, I_J, J_oth, J_I, I_row, J_row, SI_row, SI_oth, SI_J, SJ_row, SJ_oth, SJ_I, upd_s, upd_n, updL_s, updL_n, ne_eq, not_false_eq_true, lt_t, le_t, tI, NO_t, flag0, flag1, ite_or2, ite_self, true_or, or_true, false_or, or_false, true_and, and_true, false_and, and_false, not_true_eq_false, m0, mgiv_e]
          rw [show nn w 5 12 + 1 - 1 = nn w 5 12 by omega]
        · exact mP
        · omega
      · exact rfl
      · show nn w 5 12 ≤ ix (nI (nn w 5 12 + 1)); rw [ixn (by omega)]; omega
      · exact ⟨upd_n (by omega), upd_n (by omega)⟩
    · refine two_ref (nI 4) (r := NO) ?_ ?_ (fun w' z => Or.inl z)
      · unfold X11_teacher
        simp (disch := omega) only [gdn, gb0, gb1, ixn, nm1, nI_add, nI_mul, nsub, nI_ltI, nI_leI, nI_eq, eqNO, eqNO2, ltNO, NOlt, leNO, NOle, if_pos, if_neg, Option.bind_some, if_true, if_false, and_self, eq_self, l0, l1, l2, l3, l4, l5, l6, l7, l8, l9, l10, l11, l12, l13, l14, l15, l16, l17, l18, l19, l20, l24, l26, l30, l31, l32, l40, l41, l42, l43, l45, l47, l48, l57, l58, l59, l60, l61, l62, l63, l64, l97, l99, l100, l101, l102, l103, l104, l105, l106, l107, l108, l109, l110, l122, l160, l240, l255, l600, l1000, l3000, l10000, l10007, l10116, l67108863, l67108864, I_oth, I_J, J_oth, J_I, I_row, J_row, SI_row, SI_oth, SI_J, SJ_row, SJ_oth, SJ_I, upd_s, upd_n, updL_s, updL_n, ne_eq, not_false_eq_true, lt_t, le_t, tI, NO_t, flag0, flag1, ite_or2, ite_self, true_or, or_true, false_or, or_false, true_and, and_true, false_and, and_false, not_true_eq_false, place_e h, win, wil, c0, deny_e]
      · unfold X12_teacher
        have : nn w 5 12 = 20 := by omega
        rw [mpl (n := nn w 5 0)]
        · simp (disch := omega) only [gdn, gb0, gb1, ixn, nm1, nI_add, nI_mul, nsub, nI_ltI, nI_leI, nI_eq, eqNO, eqNO2, ltNO, NOlt, leNO, NOle, if_pos, if_neg, Option.bind_some, if_true, if_false, and_self, eq_self, l0, l1, l2, l3, l4, l5, l6, l7, l8, l9, l10, l11, l12, l13, l14, l15, l16, l17, l18, l19, l20, l24, l26, l30, l31, l32, l40, l41, l42, l43, l45, l47, l48, l57, l58, l59, l60, l61, l62, l63, l64, l97, l99, l100, l101, l102, l103, l104, l105, l106, l107, l108, l109, l110, l122, l160, l240, l255, l600, l1000, l3000, l10000, l10007, l10116, l67108863, l67108864, I_oth, I_J, J_oth, J_I, I_row, J_row, SI_row, SI_oth, SI_J, SJ_row, SJ_oth, SJ_I, upd_s, upd_n, updL_s, updL_n, ne_eq, not_false_eq_true, lt_t, le_t, tI, NO_t, flag0, flag1, ite_or2, ite_self, true_or, or_true, false_or, or_false, true_and, and_true, false_and, and_false, not_true_eq_false, m0, mref_e]
        · exact mP
        · omega
  · refine two_ref (nI 1) (r := NO) ?_ ?_ (fun w' z => Or.inl z)
    · unfold X11_teacher X11_teacher_j21
      simp (disch := omega) only [gdn, gb0, gb1, ixn, nm1, nI_add, nI_mul, nsub, nI_ltI, nI_leI, nI_eq, eqNO, eqNO2, ltNO, NOlt, leNO, NOle, if_pos, if_neg, Option.bind_some, if_true, if_false, and_self, eq_self, l0, l1, l2, l3, l4, l5, l6, l7, l8, l9, l10, l11, l12, l13, l14, l15, l16, l17, l18, l19, l20, l24, l26, l30, l31, l32, l40, l41, l42, l43, l45, l47, l48, l57, l58, l59, l60, l61, l62, l63, l64, l97, l99, l100, l101, l102, l103, l104, l105, l106, l107, l108, l109, l110, l122, l160, l240, l255, l600, l1000, l3000, l10000, l10007, l10116, l67108863, l67108864, I_oth, I_J, J_oth, J_I, I_row, J_row, SI_row, SI_oth, SI_J, SJ_row, SJ_oth, SJ_I, upd_s, upd_n, updL_s, updL_n, ne_eq, not_false_eq_true, lt_t, le_t, tI, NO_t, flag0, flag1, ite_or2, ite_self, true_or, or_true, false_or, or_false, true_and, and_true, false_and, and_false, not_true_eq_false, place_e h, win, deny_e]
    · unfold X12_teacher X12_teacher_j19
      rw [mpl (n := nn w 5 0)]
      · simp (disch := omega) only [gdn, gb0, gb1, ixn, nm1, nI_add, nI_mul, nsub, nI_ltI, nI_leI, nI_eq, eqNO, eqNO2, ltNO, NOlt, leNO, NOle, if_pos, if_neg, Option.bind_some, if_true, if_false, and_self, eq_self, l0, l1, l2, l3, l4, l5, l6, l7, l8, l9, l10, l11, l12, l13, l14, l15, l16, l17, l18, l19, l20, l24, l26, l30, l31, l32, l40, l41, l42, l43, l45, l47, l48, l57, l58, l59, l60, l61, l62, l63, l64, l97, l99, l100, l101, l102, l103, l104, l105, l106, l107, l108, l109, l110, l122, l160, l240, l255, l600, l1000, l3000, l10000, l10007, l10116, l67108863, l67108864, I_oth, I_J, J_oth, J_I, I_row, J_row, SI_row, SI_oth, SI_J, SJ_row, SJ_oth, SJ_I, upd_s, upd_n, updL_s, updL_n, ne_eq, not_false_eq_true, lt_t, le_t, tI, NO_t, flag0, flag1, ite_or2, ite_self, true_or, or_true, false_or, or_false, true_and, and_true, false_and, and_false, not_true_eq_false, mref_e]
      · exact mP
      · omega
theorem o_learner (a1 a2 a3 : Int32) {w : Wd} (h : IL w) : two (X11_learner a1 a2 a3) (X12_learner a1 a2 a3) w (fun w' => St w w' ∨ (IS w' ∧ IL w' ∧ w'.1 73 4 = mnI (w.1 73 4) (nI 0) ∧ nn w 5 8 ≤ nn w' 5 8 ∧ ∀ i, i < nn w 5 8 → w'.1 12 i = w.1 12 i ∧ w'.1 13 i = w.1 13 i ∧ w'.1 14 i = w.1 14 i)) := by
  have c0 := h.1.2.2.1.1
  have b0 := h.1.2.2.1.2
  have bP := h.1.1.2
  have mP : w.1 97 4 = nI (nn w 5 0) := by rw [h.2.1.1]; exact h.1.1.1
  have m0 : w.1 97 6 = nI (nn w 5 8) := by rw [h.2.1.2.2.1]; exact c0
  by_cases hv : (0 ≤ a1.toInt ∧ a1.toInt < (nn w 5 0 : Int)) ∧ (((5 : Nat) : Int) ≤ a2.toInt ∧ a2.toInt < ((100 : Nat) : Int)) ∧ (0 ≤ a3.toInt ∧ a3.toInt < ((5 : Nat) : Int))
  · obtain ⟨ha1, ha2, ha3⟩ := hv
    obtain ⟨a1n, la1, rfl⟩ := of_t (n := nn w 5 0) (show 0 ≤ a1.toInt ∧ a1.toInt < _ from ⟨by omega, ha1.2⟩)
    obtain ⟨a2n, la2, rfl⟩ := of_t (n := 100) (show 0 ≤ a2.toInt ∧ a2.toInt < _ from ⟨by omega, ha2.2⟩)
    have ha21 := ha2.1
    rw [tI (by omega)] at ha21
    obtain ⟨a3n, la3, rfl⟩ := of_t (n := 5) (show 0 ≤ a3.toInt ∧ a3.toInt < _ from ⟨by omega, ha3.2⟩)
    by_cases hc : nn w 5 8 < 40
    · refine ⟨nI (nn w 5 8), (puI (puI (puI (puI (puI (puI w 73 4 (mnI (w.1 73 4) (nI 0))) 12 (nn w 5 8) (nI a1n)) 13 (nn w 5 8) (nI a2n)) 14 (nn w 5 8) (nI a3n)) 5 8 (nI (nn w 5 8 + 1))) 0 10 (nI 0)), _, ?_, ?_, Or.inr ⟨?_, IL_learner (w0 := puI w 73 4 (mnI (w.1 73 4) (nI 0))) (n := nn w 5 8) (show IL _ from h) rfl hc la1 la2 la3, rfl, ?_, fun i hi => ?_⟩⟩
      · unfold X11_learner X2_addLearner
        simp (disch := omega) only [gdn, gb0, gb1, ixn, nm1, nI_add, nI_mul, nsub, nI_ltI, nI_leI, nI_eq, eqNO, eqNO2, ltNO, NOlt, leNO, NOle, if_pos, if_neg, Option.bind_some, if_true, if_false, and_self, eq_self, l0, l1, l2, l3, l4, l5, l6, l7, l8, l9, l10, l11, l12, l13, l14, l15, l16, l17, l18, l19, l20, l24, l26, l30, l31, l32, l40, l41, l42, l43, l45, l47, l48, l57, l58, l59, l60, l61, l62, l63, l64, l97, l99, l100, l101, l102, l103, l104, l105, l106, l107, l108, l109, l110, l122, l160, l240, l255, l600, l1000, l3000, l10000, l10007, l10116, l67108863, l67108864, I_oth, I_J, J_oth, J_I, I_row, J_row, SI_row, SI_oth, SI_J, SJ_row, SJ_oth, SJ_I, upd_s, upd_n, updL_s, updL_n, ne_eq, not_false_eq_true, lt_t, le_t, tI, NO_t, flag0, flag1, ite_or2, ite_self, true_or, or_true, false_or, or_false, true_and, and_true, false_and, and_false, not_true_eq_false, place_e h, win, wil, c0, answer_e, relive_e]
      · unfold X12_learner
        rw [mpl (n := nn w 5 0)]
        · simp (disch := omega) only [gdn, gb0, gb1, ixn, nm1, nI_add, nI_mul, nsub, nI_ltI, nI_leI, nI_eq, eqNO, eqNO2, ltNO, NOlt, leNO, NOle, if_pos, if_neg, Option.bind_some, if_true, if_false, and_self, eq_self, l0, l1, l2, l3, l4, l5, l6, l7, l8, l9, l10, l11, l12, l13, l14, l15, l16, l17, l18, l19, l20, l24, l26, l30, l31, l32, l40, l41, l42, l43, l45, l47, l48, l57, l58, l59, l60, l61, l62, l63, l64, l97, l99, l100, l101, l102, l103, l104, l105, l106, l107, l108, l109, l110, l122, l160, l240, l255, l600, l1000, l3000, l10000, l10007, l10116, l67108863, l67108864, I_oth, I_J, J_oth, J_I, I_row, J_row, SI_row, SI_oth, SI_J, SJ_row, SJ_oth, SJ_I, upd_s, upd_n, updL_s, updL_n, ne_eq, not_false_eq_true, lt_t, le_t, tI, NO_t, flag0, flag1, ite_or2, ite_self, true_or, or_true, false_or, or_false, true_and, and_true, false_and, and_false, not_true_eq_false, m0, mgiv_e]
          rw [show nn w 5 8 + 1 - 1 = nn w 5 8 by omega]
        · exact mP
        · omega
      · exact rfl
      · show nn w 5 8 ≤ ix (nI (nn w 5 8 + 1)); rw [ixn (by omega)]; omega
      · exact ⟨upd_n (by omega), upd_n (by omega), upd_n (by omega)⟩
    · refine two_ref (nI 4) (r := NO) ?_ ?_ (fun w' z => Or.inl z)
      · unfold X11_learner
        simp (disch := omega) only [gdn, gb0, gb1, ixn, nm1, nI_add, nI_mul, nsub, nI_ltI, nI_leI, nI_eq, eqNO, eqNO2, ltNO, NOlt, leNO, NOle, if_pos, if_neg, Option.bind_some, if_true, if_false, and_self, eq_self, l0, l1, l2, l3, l4, l5, l6, l7, l8, l9, l10, l11, l12, l13, l14, l15, l16, l17, l18, l19, l20, l24, l26, l30, l31, l32, l40, l41, l42, l43, l45, l47, l48, l57, l58, l59, l60, l61, l62, l63, l64, l97, l99, l100, l101, l102, l103, l104, l105, l106, l107, l108, l109, l110, l122, l160, l240, l255, l600, l1000, l3000, l10000, l10007, l10116, l67108863, l67108864, I_oth, I_J, J_oth, J_I, I_row, J_row, SI_row, SI_oth, SI_J, SJ_row, SJ_oth, SJ_I, upd_s, upd_n, updL_s, updL_n, ne_eq, not_false_eq_true, lt_t, le_t, tI, NO_t, flag0, flag1, ite_or2, ite_self, true_or, or_true, false_or, or_false, true_and, and_true, false_and, and_false, not_true_eq_false, place_e h, win, wil, c0, deny_e]
      · unfold X12_learner
        have : nn w 5 8 = 40 := by omega
        rw [mpl (n := nn w 5 0)]
        · simp (disch := omega) only [gdn, gb0, gb1, ixn, nm1, nI_add, nI_mul, nsub, nI_ltI, nI_leI, nI_eq, eqNO, eqNO2, ltNO, NOlt, leNO, NOle, if_pos, if_neg, Option.bind_some, if_true, if_false, and_self, eq_self, l0, l1, l2, l3, l4, l5, l6, l7, l8, l9, l10, l11, l12, l13, l14, l15, l16, l17, l18, l19, l20, l24, l26, l30, l31, l32, l40, l41, l42, l43, l45, l47, l48, l57, l58, l59, l60, l61, l62, l63, l64, l97, l99, l100, l101, l102, l103, l104, l105, l106, l107, l108, l109, l110, l122, l160, l240, l255, l600, l1000, l3000, l10000, l10007, l10116, l67108863, l67108864, I_oth, I_J, J_oth, J_I, I_row, J_row, SI_row, SI_oth, SI_J, SJ_row, SJ_oth, SJ_I, upd_s, upd_n, updL_s, updL_n, ne_eq, not_false_eq_true, lt_t, le_t, tI, NO_t, flag0, flag1, ite_or2, ite_self, true_or, or_true, false_or, or_false, true_and, and_true, false_and, and_false, not_true_eq_false, m0, mref_e]
        · exact mP
        · omega
  · refine two_ref (nI 1) (r := NO) ?_ ?_ (fun w' z => Or.inl z)
    · unfold X11_learner X11_learner_j30
      simp (disch := omega) only [gdn, gb0, gb1, ixn, nm1, nI_add, nI_mul, nsub, nI_ltI, nI_leI, nI_eq, eqNO, eqNO2, ltNO, NOlt, leNO, NOle, if_pos, if_neg, Option.bind_some, if_true, if_false, and_self, eq_self, l0, l1, l2, l3, l4, l5, l6, l7, l8, l9, l10, l11, l12, l13, l14, l15, l16, l17, l18, l19, l20, l24, l26, l30, l31, l32, l40, l41, l42, l43, l45, l47, l48, l57, l58, l59, l60, l61, l62, l63, l64, l97, l99, l100, l101, l102, l103, l104, l105, l106, l107, l108, l109, l110, l122, l160, l240, l255, l600, l1000, l3000, l10000, l10007, l10116, l67108863, l67108864, I_oth, I_J, J_oth, J_I, I_row, J_row, SI_row, SI_oth, SI_J, SJ_row, SJ_oth, SJ_I, upd_s, upd_n, updL_s, updL_n, ne_eq, not_false_eq_true, lt_t, le_t, tI, NO_t, flag0, flag1, ite_or2, ite_self, true_or, or_true, false_or, or_false, true_and, and_true, false_and, and_false, not_true_eq_false, place_e h, win, deny_e]
    · unfold X12_learner X12_learner_j28
      rw [mpl (n := nn w 5 0)]
      · simp (disch := omega) only [gdn, gb0, gb1, ixn, nm1, nI_add, nI_mul, nsub, nI_ltI, nI_leI, nI_eq, eqNO, eqNO2, ltNO, NOlt, leNO, NOle, if_pos, if_neg, Option.bind_some, if_true, if_false, and_self, eq_self, l0, l1, l2, l3, l4, l5, l6, l7, l8, l9, l10, l11, l12, l13, l14, l15, l16, l17, l18, l19, l20, l24, l26, l30, l31, l32, l40, l41, l42, l43, l45, l47, l48, l57, l58, l59, l60, l61, l62, l63, l64, l97, l99, l100, l101, l102, l103, l104, l105, l106, l107, l108, l109, l110, l122, l160, l240, l255, l600, l1000, l3000, l10000, l10007, l10116, l67108863, l67108864, I_oth, I_J, J_oth, J_I, I_row, J_row, SI_row, SI_oth, SI_J, SJ_row, SJ_oth, SJ_I, upd_s, upd_n, updL_s, updL_n, ne_eq, not_false_eq_true, lt_t, le_t, tI, NO_t, flag0, flag1, ite_or2, ite_self, true_or, or_true, false_or, or_false, true_and, and_true, false_and, and_false, not_true_eq_false, mref_e]
      · exact mP
      · omega
