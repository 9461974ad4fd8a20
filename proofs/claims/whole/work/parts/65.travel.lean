/-! travel: the class -/
noncomputable abbrev tR (w : Wd) (n : Nat) (A : Nat → Nat) : Nat → Nat := trn (tg w) (tsr w) (tds w) n A
theorem tsr_lt {w : Wd} (h : IL w) {e : Nat} (he : e / 2 < nn w 5 2) : tsr w e < 16 ∧ tds w e < 16 := by
  obtain ⟨⟨c1, c2, -⟩, -, -, -, -, hw, -⟩ := h
  obtain ⟨⟨e7, b7⟩, ⟨e8, b8⟩, -⟩ := hw (e / 2) he
  have c1' := c1.2
  refine ⟨?_, ?_⟩
  · unfold tsr; split <;> omega
  · unfold tds; split <;> omega
theorem trn60 {w : Wd} {A : Nat → Nat} (hA : ∀ j, A j ≤ 60) (n : Nat) : ∀ j, tR w n A j ≤ 60 := fun j => Nat.le_trans (trn_le n A j) (hA j)
theorem round_e {w : Wd} (h : IL w) {a4 : Int32} {A : Nat → Nat} {z : Nat → Int32} (hA : ∀ j, A j ≤ 60) : lp (X2_travel_b37 a4) (nI 0, nI 0, seI w 18 (rwN 16 A z)) = some (fg (tfl (tg w) (tsr w) (tds w) (2 * nn w 5 2) A), seI w 18 (rwN 16 (tR w (2 * nn w 5 2) A) z)) := by
  have hW := h.1.2.1
  have hW2 := hW.2
  have hlp := lp_for (b := X2_travel_b37 a4) (fun i => (fg (tfl (tg w) (tsr w) (tds w) (2 * i) A), nI i, seI w 18 (rwN 16 (tR w (2 * i) A) z))) (nn w 5 2) (e := (fg (tfl (tg w) (tsr w) (tds w) (2 * nn w 5 2) A), seI w 18 (rwN 16 (tR w (2 * nn w 5 2) A) z))) (fun i hi => ?_) ?_ 0 (Nat.zero_le _)
  · have e0 : fg (tfl (tg w) (tsr w) (tds w) (2 * 0) A) = nI 0 := fg_f (by rintro ⟨e, he, -⟩; omega)
    rw [e0] at hlp
    exact hlp
  · obtain ⟨⟨e7, b7⟩, ⟨e8, b8⟩, -⟩ := h.2.2.2.2.2.1 i hi
    have h1 := walk_e h (e := 2 * i) (by omega) (z := z) (trn60 (w := w) hA (2 * i))
    have h2 := walk_e h (e := 2 * i + 1) (by omega) (z := z) (trn60 (w := w) hA (2 * i + 1))
    rw [show 2 * i / 2 = i by omega, show tsr w (2 * i) = nn w 7 i by unfold tsr; rw [if_pos (by omega), show 2 * i / 2 = i by omega], show tds w (2 * i) = nn w 8 i by unfold tds; rw [if_pos (by omega), show 2 * i / 2 = i by omega]] at h1
    rw [show (2 * i + 1) / 2 = i by omega, show tsr w (2 * i + 1) = nn w 8 i by unfold tsr; rw [if_neg (by omega), show (2 * i + 1) / 2 = i by omega], show tds w (2 * i + 1) = nn w 7 i by unfold tds; rw [if_neg (by omega), show (2 * i + 1) / 2 = i by omega]] at h2
    unfold X2_travel_b37
    simp (disch := omega) only [gdn, gb0, gb1, ixn, nm1, nI_add, nI_mul, nsub, nI_ltI, nI_leI, nI_eq, eqNO, eqNO2, ltNO, NOlt, leNO, NOle, if_pos, if_neg, Option.bind_some, if_true, if_false, and_self, eq_self, l0, l1, l2, l3, l4, l5, l6, l7, l8, l9, l10, l11, l12, l13, l14, l15, l16, l17, l18, l19, l20, l24, l26, l30, l31, l32, l40, l41, l42, l43, l45, l47, l48, l57, l58, l59, l60, l61, l62, l63, l64, l97, l99, l100, l101, l102, l103, l104, l105, l106, l107, l108, l109, l110, l122, l160, l240, l255, l600, l1000, l3000, l10000, l10007, l10116, l67108863, l67108864, I_oth, I_J, J_oth, J_I, I_row, J_row, SI_row, SI_oth, SI_J, SJ_row, SJ_oth, SJ_I, upd_s, upd_n, updL_s, updL_n, ne_eq, not_false_eq_true, hW.1, e7, e8, h1]
    rw [show trl (tg w) (tsr w) (tds w) (2 * i) (tR w (2 * i) A) = tR w (2 * i + 1) A from rfl]
    simp (disch := omega) only [gdn, gb0, gb1, ixn, nm1, nI_add, nI_mul, nsub, nI_ltI, nI_leI, nI_eq, eqNO, eqNO2, ltNO, NOlt, leNO, NOle, if_pos, if_neg, Option.bind_some, if_true, if_false, and_self, eq_self, l0, l1, l2, l3, l4, l5, l6, l7, l8, l9, l10, l11, l12, l13, l14, l15, l16, l17, l18, l19, l20, l24, l26, l30, l31, l32, l40, l41, l42, l43, l45, l47, l48, l57, l58, l59, l60, l61, l62, l63, l64, l97, l99, l100, l101, l102, l103, l104, l105, l106, l107, l108, l109, l110, l122, l160, l240, l255, l600, l1000, l3000, l10000, l10007, l10116, l67108863, l67108864, I_oth, I_J, J_oth, J_I, I_row, J_row, SI_row, SI_oth, SI_J, SJ_row, SJ_oth, SJ_I, upd_s, upd_n, updL_s, updL_n, ne_eq, not_false_eq_true, e7, e8, h2, fg_or]
    rw [show trl (tg w) (tsr w) (tds w) (2 * i + 1) (tR w (2 * i + 1) A) = tR w (2 * (i + 1)) A from rfl]
    rw [fg_c (show ((tfl (tg w) (tsr w) (tds w) (2 * i) A ∨ tch (tg w) (tsr w) (tds w) (2 * i) (tR w (2 * i) A)) ∨ tch (tg w) (tsr w) (tds w) (2 * i + 1) (tR w (2 * i + 1) A)) ↔ tfl (tg w) (tsr w) (tds w) (2 * (i + 1)) A by rw [show 2 * (i + 1) = 2 * i + 1 + 1 by omega, tfl_s, tfl_s])]
  · unfold X2_travel_b37
    simp (disch := omega) only [gdn, gb0, gb1, ixn, nm1, nI_add, nI_mul, nsub, nI_ltI, nI_leI, nI_eq, eqNO, eqNO2, ltNO, NOlt, leNO, NOle, if_pos, if_neg, Option.bind_some, if_true, if_false, and_self, eq_self, l0, l1, l2, l3, l4, l5, l6, l7, l8, l9, l10, l11, l12, l13, l14, l15, l16, l17, l18, l19, l20, l24, l26, l30, l31, l32, l40, l41, l42, l43, l45, l47, l48, l57, l58, l59, l60, l61, l62, l63, l64, l97, l99, l100, l101, l102, l103, l104, l105, l106, l107, l108, l109, l110, l122, l160, l240, l255, l600, l1000, l3000, l10000, l10007, l10116, l67108863, l67108864, I_oth, I_J, J_oth, J_I, I_row, J_row, SI_row, SI_oth, SI_J, SJ_row, SJ_oth, SJ_I, upd_s, upd_n, updL_s, updL_n, ne_eq, not_false_eq_true, hW.1]
/-- ARRIVALS: 60 is none -/
noncomputable def arK (w : Wd) (s week : Nat) : Nat := @dite _ (∃ K, K < 16 ∧ ¬ tfl (tg w) (tsr w) (tds w) (2 * nn w 5 2) (tit (tg w) (tsr w) (tds w) (2 * nn w 5 2) K (fun j => if j = s then week else 60)) ∧ ∀ k, k < K → tfl (tg w) (tsr w) (tds w) (2 * nn w 5 2) (tit (tg w) (tsr w) (tds w) (2 * nn w 5 2) k (fun j => if j = s then week else 60))) (Classical.propDecidable _) (fun h => Classical.choose h) (fun _ => 0)
noncomputable def arr (w : Wd) (s week : Nat) : Nat → Nat := tit (tg w) (tsr w) (tds w) (2 * nn w 5 2) (arK w s week) (fun j => if j = s then week else 60)
theorem arK_s {w : Wd} (h : IL w) {s week : Nat} (hs : s < 16) (hw : week < 60) : arK w s week < 16 ∧ ¬ tfl (tg w) (tsr w) (tds w) (2 * nn w 5 2) (tit (tg w) (tsr w) (tds w) (2 * nn w 5 2) (arK w s week) (fun j => if j = s then week else 60)) ∧ ∀ k, k < arK w s week → tfl (tg w) (tsr w) (tds w) (2 * nn w 5 2) (tit (tg w) (tsr w) (tds w) (2 * nn w 5 2) k (fun j => if j = s then week else 60)) := by
  have h1 := travel16 (g := tg w) (sr := tsr w) (ds := tds w) (E := 2 * nn w 5 2) (s := s) (week := week) (tg_mono w) (tg_gt w) (fun e he => (tsr_lt h (by omega)).1) (fun e he => (tsr_lt h (by omega)).2) hs hw
  have h2 : arK w s week = Classical.choose h1 := dif_pos h1
  rw [h2]
  exact Classical.choose_spec h1
theorem arr_le {w : Wd} {s week : Nat} (hw : week < 60) (j : Nat) : arr w s week j ≤ 60 := by
  refine Nat.le_trans (tit_le _ j) ?_
  split <;> omega
theorem travel_e {w : Wd} (h : IL w) {s week : Nat} (hs : s < nn w 5 0) (hw : week < 60) : X2_travel (nI s) (nI week) w = some (seI w 18 (rwN 16 (arr w s week) (w.1 18))) := by
  have hP := h.1.1.2
  obtain ⟨hK, hK1, hK2⟩ := arK_s h (s := s) (by omega) hw
  generalize hA0 : (fun j => if j = s then week else 60) = A0 at hK1 hK2
  have h60 : ∀ k j, tit (tg w) (tsr w) (tds w) (2 * nn w 5 2) k A0 j ≤ 60 := by
    intro k j
    refine Nat.le_trans (tit_le _ j) ?_
    rw [← hA0]
    dsimp only
    split <;> omega
  unfold X2_travel
  rw [fillI (by omega)]
  rw [show (fun j => if j < 16 then (60 : Int32) else w.1 18 j) = rwN 16 (fun _ => 60) (w.1 18) from rfl]
  simp (disch := omega) only [gdn, gb0, gb1, ixn, nm1, nI_add, nI_mul, nsub, nI_ltI, nI_leI, nI_eq, eqNO, eqNO2, ltNO, NOlt, leNO, NOle, if_pos, if_neg, Option.bind_some, if_true, if_false, and_self, eq_self, l0, l1, l2, l3, l4, l5, l6, l7, l8, l9, l10, l11, l12, l13, l14, l15, l16, l17, l18, l19, l20, l24, l26, l30, l31, l32, l40, l41, l42, l43, l45, l47, l48, l57, l58, l59, l60, l61, l62, l63, l64, l97, l99, l100, l101, l102, l103, l104, l105, l106, l107, l108, l109, l110, l122, l160, l240, l255, l600, l1000, l3000, l10000, l10007, l10116, l67108863, l67108864, I_oth, I_J, J_oth, J_I, I_row, J_row, SI_row, SI_oth, SI_J, SJ_row, SJ_oth, SJ_I, upd_s, upd_n, updL_s, updL_n, ne_eq, not_false_eq_true, pu_seI, upd_rwN]
  rw [hA0]
  have hlp := lp_for (b := X2_travel_b21) (fun k => (if k ≤ arK w s week then nI 1 else nI 0, nI k, seI w 18 (rwN 16 (tit (tg w) (tsr w) (tds w) (2 * nn w 5 2) k A0) (w.1 18)))) (arK w s week + 1) (e := seI w 18 (rwN 16 (tit (tg w) (tsr w) (tds w) (2 * nn w 5 2) (arK w s week + 1) A0) (w.1 18))) (fun k hk => ?_) ?_ 0 (Nat.zero_le _)
  · rw [if_pos (Nat.zero_le _)] at hlp
    rw [show tit (tg w) (tsr w) (tds w) (2 * nn w 5 2) 0 A0 = A0 from rfl] at hlp
    rw [hlp]
    simp only [Option.bind_some]
    rw [show tit (tg w) (tsr w) (tds w) (2 * nn w 5 2) (arK w s week + 1) A0 = trn (tg w) (tsr w) (tds w) (2 * nn w 5 2) (tit (tg w) (tsr w) (tds w) (2 * nn w 5 2) (arK w s week) A0) from rfl, trn_same hK1]
    unfold arr
    rw [hA0]
  · unfold X2_travel_b21
    simp (disch := omega) only [gdn, gb0, gb1, ixn, nm1, nI_add, nI_mul, nsub, nI_ltI, nI_leI, nI_eq, eqNO, eqNO2, ltNO, NOlt, leNO, NOle, if_pos, if_neg, Option.bind_some, if_true, if_false, and_self, eq_self, l0, l1, l2, l3, l4, l5, l6, l7, l8, l9, l10, l11, l12, l13, l14, l15, l16, l17, l18, l19, l20, l24, l26, l30, l31, l32, l40, l41, l42, l43, l45, l47, l48, l57, l58, l59, l60, l61, l62, l63, l64, l97, l99, l100, l101, l102, l103, l104, l105, l106, l107, l108, l109, l110, l122, l160, l240, l255, l600, l1000, l3000, l10000, l10007, l10116, l67108863, l67108864, I_oth, I_J, J_oth, J_I, I_row, J_row, SI_row, SI_oth, SI_J, SJ_row, SJ_oth, SJ_I, upd_s, upd_n, updL_s, updL_n, ne_eq, not_false_eq_true]
    rw [round_e h (h60 k)]
    simp only [Option.bind_some]
    rw [show tR w (2 * nn w 5 2) (tit (tg w) (tsr w) (tds w) (2 * nn w 5 2) k A0) = tit (tg w) (tsr w) (tds w) (2 * nn w 5 2) (k + 1) A0 from rfl]
    by_cases q : k = arK w s week
    · rw [fg_f (by rw [q]; exact hK1), if_neg (by omega)]
    · rw [fg_t (hK2 k (by omega)), if_pos (by omega)]
  · unfold X2_travel_b21
    simp (disch := omega) only [gdn, gb0, gb1, ixn, nm1, nI_add, nI_mul, nsub, nI_ltI, nI_leI, nI_eq, eqNO, eqNO2, ltNO, NOlt, leNO, NOle, if_pos, if_neg, Option.bind_some, if_true, if_false, and_self, eq_self, l0, l1, l2, l3, l4, l5, l6, l7, l8, l9, l10, l11, l12, l13, l14, l15, l16, l17, l18, l19, l20, l24, l26, l30, l31, l32, l40, l41, l42, l43, l45, l47, l48, l57, l58, l59, l60, l61, l62, l63, l64, l97, l99, l100, l101, l102, l103, l104, l105, l106, l107, l108, l109, l110, l122, l160, l240, l255, l600, l1000, l3000, l10000, l10007, l10116, l67108863, l67108864, I_oth, I_J, J_oth, J_I, I_row, J_row, SI_row, SI_oth, SI_J, SJ_row, SJ_oth, SJ_I, upd_s, upd_n, updL_s, updL_n, ne_eq, not_false_eq_true]
    split <;> rfl
/-! travel: the model -/
def cv (A : Nat → Nat) (j : Nat) : Nat := if A j = 60 then 1000 else A j
theorem mgo_e {w : Wd} (h : IL w) {i x : Nat} (hi : i < nn w 5 2) (hx : x ≤ 60) {a3 a5 a7 : Int32} : lp (X12_travel_b118 a3 (nI i) a5 a7 w) (nI (if x = 60 then 1000 else x)) = some (nI (if x = 60 then 1000 else tgo w i x)) := by
  by_cases h6 : x = 60
  · rw [if_pos h6, if_pos h6]
    refine lp_exit ?_
    unfold X12_travel_b118
    simp (disch := omega) only [gdn, gb0, gb1, ixn, nm1, nI_add, nI_mul, nsub, nI_ltI, nI_leI, nI_eq, eqNO, eqNO2, ltNO, NOlt, leNO, NOle, if_pos, if_neg, Option.bind_some, if_true, if_false, and_self, eq_self, l0, l1, l2, l3, l4, l5, l6, l7, l8, l9, l10, l11, l12, l13, l14, l15, l16, l17, l18, l19, l20, l24, l26, l30, l31, l32, l40, l41, l42, l43, l45, l47, l48, l57, l58, l59, l60, l61, l62, l63, l64, l97, l99, l100, l101, l102, l103, l104, l105, l106, l107, l108, l109, l110, l122, l160, l240, l255, l600, l1000, l3000, l10000, l10007, l10116, l67108863, l67108864]
  · rw [if_neg h6, if_neg h6]
    by_cases q : w.1 10 i ≠ NO ∧ nn w 10 i ≤ x ∧ x ≤ nn w 11 i
    · have ht : tgo w i x = nn w 11 i + 1 := if_pos q
      have h5 := (h.2.2.2.2.2.1 i hi).2.2.2.2
      rcases h5 with z | ⟨-, e11, b11⟩
      · exact (q.1 z.1).elim
      have hlp := lp_for (b := X12_travel_b118 a3 (nI i) a5 a7 w) (fun k => nI (x + k)) (nn w 11 i + 1 - x) (e := nI (nn w 11 i + 1)) (fun k hk => ?_) ?_ 0 (Nat.zero_le _)
      · rw [ht]; exact hlp
      · unfold X12_travel_b118
        have hs := mshut_e h hi (x := x + k) (by omega)
        rw [if_pos ⟨q.1, by omega, by omega⟩] at hs
        simp (disch := omega) only [gdn, gb0, gb1, ixn, nm1, nI_add, nI_mul, nsub, nI_ltI, nI_leI, nI_eq, eqNO, eqNO2, ltNO, NOlt, leNO, NOle, if_pos, if_neg, Option.bind_some, if_true, if_false, and_self, eq_self, l0, l1, l2, l3, l4, l5, l6, l7, l8, l9, l10, l11, l12, l13, l14, l15, l16, l17, l18, l19, l20, l24, l26, l30, l31, l32, l40, l41, l42, l43, l45, l47, l48, l57, l58, l59, l60, l61, l62, l63, l64, l97, l99, l100, l101, l102, l103, l104, l105, l106, l107, l108, l109, l110, l122, l160, l240, l255, l600, l1000, l3000, l10000, l10007, l10116, l67108863, l67108864, hs]
        rfl
      · unfold X12_travel_b118
        rw [show x + (nn w 11 i + 1 - x) = nn w 11 i + 1 by omega]
        have hs := mshut_e h hi (x := nn w 11 i + 1) (by omega)
        rw [if_neg (by omega)] at hs
        by_cases z : nn w 11 i + 1 = 60
        · rw [z]; simp (disch := omega) only [gdn, gb0, gb1, ixn, nm1, nI_add, nI_mul, nsub, nI_ltI, nI_leI, nI_eq, eqNO, eqNO2, ltNO, NOlt, leNO, NOle, if_pos, if_neg, Option.bind_some, if_true, if_false, and_self, eq_self, l0, l1, l2, l3, l4, l5, l6, l7, l8, l9, l10, l11, l12, l13, l14, l15, l16, l17, l18, l19, l20, l24, l26, l30, l31, l32, l40, l41, l42, l43, l45, l47, l48, l57, l58, l59, l60, l61, l62, l63, l64, l97, l99, l100, l101, l102, l103, l104, l105, l106, l107, l108, l109, l110, l122, l160, l240, l255, l600, l1000, l3000, l10000, l10007, l10116, l67108863, l67108864]
        · simp (disch := omega) only [gdn, gb0, gb1, ixn, nm1, nI_add, nI_mul, nsub, nI_ltI, nI_leI, nI_eq, eqNO, eqNO2, ltNO, NOlt, leNO, NOle, if_pos, if_neg, Option.bind_some, if_true, if_false, and_self, eq_self, l0, l1, l2, l3, l4, l5, l6, l7, l8, l9, l10, l11, l12, l13, l14, l15, l16, l17, l18, l19, l20, l24, l26, l30, l31, l32, l40, l41, l42, l43, l45, l47, l48, l57, l58, l59, l60, l61, l62, l63, l64, l97, l99, l100, l101, l102, l103, l104, l105, l106, l107, l108, l109, l110, l122, l160, l240, l255, l600, l1000, l3000, l10000, l10007, l10116, l67108863, l67108864, hs]
    · have ht : tgo w i x = x := if_neg q
      rw [ht]
      refine lp_exit ?_
      unfold X12_travel_b118
      have hs := mshut_e h hi (x := x) (by omega)
      rw [if_neg q] at hs
      simp (disch := omega) only [gdn, gb0, gb1, ixn, nm1, nI_add, nI_mul, nsub, nI_ltI, nI_leI, nI_eq, eqNO, eqNO2, ltNO, NOlt, leNO, NOle, if_pos, if_neg, Option.bind_some, if_true, if_false, and_self, eq_self, l0, l1, l2, l3, l4, l5, l6, l7, l8, l9, l10, l11, l12, l13, l14, l15, l16, l17, l18, l19, l20, l24, l26, l30, l31, l32, l40, l41, l42, l43, l45, l47, l48, l57, l58, l59, l60, l61, l62, l63, l64, l97, l99, l100, l101, l102, l103, l104, l105, l106, l107, l108, l109, l110, l122, l160, l240, l255, l600, l1000, l3000, l10000, l10007, l10116, l67108863, l67108864, hs]
theorem cv_upd {A : Nat → Nat} {b G : Nat} (hG : G < 60) : (fun j => if j = b then G else cv A j) = cv (fun j => if j = b then G else A j) := by
  funext j
  unfold cv
  by_cases q : j = b
  · simp only [if_pos q]; rw [if_neg (by omega)]
  · simp only [if_neg q]
theorem tgo_le {w : Wd} (h : IL w) {i x : Nat} (hi : i < nn w 5 2) (hx : x ≤ 60) : tgo w i x ≤ 60 := by
  unfold tgo
  split
  · rename_i q
    rcases (h.2.2.2.2.2.1 i hi).2.2.2.2 with z | ⟨-, e11, b11⟩
    · exact (q.1 z.1).elim
    · omega
  · exact hx
theorem medge_e {w : Wd} (h : IL w) {e : Nat} (he : e / 2 < nn w 5 2) {A : Nat → Nat} {z : Nat → Int32} (hA : ∀ j, A j ≤ 60) {m : Prop} {s : Int32} : X12_travel_j107 (fg m) (nI (e / 2)) s (nI (tsr w e)) (nI (tds w e)) (seI w 107 (rwN 16 (cv A) z)) = some (.inl (fg (m ∨ tch (tg w) (tsr w) (tds w) e A), s + 1, seI w 107 (rwN 16 (cv (trl (tg w) (tsr w) (tds w) e A)) z))) := by
  have hL : IL (seI w 107 (rwN 16 (cv A) z)) := h
  have hgo := mgo_e hL (i := e / 2) (x := A (tsr w e)) he (hA _) (a3 := fg m) (a5 := s) (a7 := nI (tds w e))
  have hm9 := h.2.2.1.2.2.2.1
  obtain ⟨hs16, hd16⟩ := tsr_lt h he
  have c2' := h.1.2.1.2
  obtain ⟨-, -, ⟨e9, b9⟩, b9', -⟩ := h.2.2.2.2.2.1 (e / 2) he
  have hAs := hA (tsr w e)
  have hAd := hA (tds w e)
  have hle := tgo_le h he hAs
  have hmax : max 1 (nn w 9 (e / 2)) = nn w 9 (e / 2) := Nat.max_eq_right b9'
  have hg : tg w e (A (tsr w e)) = tgo w (e / 2) (A (tsr w e)) + nn w 9 (e / 2) := by unfold tg; rw [hmax]
  unfold X12_travel_j107
  rw [gdn hs16 (by omega), ixn (by omega)]
  rw [show (seI w 107 (rwN 16 (cv A) z)).1 107 (tsr w e) = nI (if A (tsr w e) = 60 then 1000 else A (tsr w e)) from by rw [SI_row, rwN_lt hs16]; rfl]
  rw [hgo]
  simp only [Option.bind_some]
  rw [show tgo (seI w 107 (rwN 16 (cv A) z)) (e / 2) (A (tsr w e)) = tgo w (e / 2) (A (tsr w e)) from rfl]
  have hw9 : (seI w 107 (rwN 16 (cv A) z)).1 104 (e / 2) = nI (nn w 9 (e / 2)) := by
    rw [SI_oth (by omega), hm9]; exact e9
  have hcv : cv A (tds w e) < 2 ^ 31 := by unfold cv; split <;> omega
  by_cases q6 : A (tsr w e) = 60
  · have ht : tch (tg w) (tsr w) (tds w) e A ↔ False := by
      unfold tch
      have := tg_gt w e (A (tsr w e))
      constructor
      · intro y; omega
      · intro y; exact y.elim
    rw [fg_c (show m ∨ tch (tg w) (tsr w) (tds w) e A ↔ m by rw [ht]; simp), trl_f (fun y => ht.mp y), if_pos q6]
    simp (disch := omega) only [gdn, gb0, gb1, ixn, nm1, nI_add, nI_mul, nsub, nI_ltI, nI_leI, nI_eq, eqNO, eqNO2, ltNO, NOlt, leNO, NOle, if_pos, if_neg, Option.bind_some, if_true, if_false, and_self, eq_self, l0, l1, l2, l3, l4, l5, l6, l7, l8, l9, l10, l11, l12, l13, l14, l15, l16, l17, l18, l19, l20, l24, l26, l30, l31, l32, l40, l41, l42, l43, l45, l47, l48, l57, l58, l59, l60, l61, l62, l63, l64, l97, l99, l100, l101, l102, l103, l104, l105, l106, l107, l108, l109, l110, l122, l160, l240, l255, l600, l1000, l3000, l10000, l10007, l10116, l67108863, l67108864, I_oth, I_J, J_oth, J_I, I_row, J_row, SI_row, SI_oth, SI_J, SJ_row, SJ_oth, SJ_I, upd_s, upd_n, updL_s, updL_n, ne_eq, not_false_eq_true, hw9, X12_travel_j199]
  · rw [if_neg q6]
    by_cases q1 : tgo w (e / 2) (A (tsr w e)) + nn w 9 (e / 2) < 60
    · by_cases q2 : tgo w (e / 2) (A (tsr w e)) + nn w 9 (e / 2) < A (tds w e)
      · have q : tch (tg w) (tsr w) (tds w) e A := by unfold tch; rw [hg]; exact ⟨q1, q2⟩
        rw [fg_t (Or.inr q), trl_t q, hg, ← cv_upd q1]
        have q3 : tgo w (e / 2) (A (tsr w e)) + nn w 9 (e / 2) < cv A (tds w e) := by unfold cv; split <;> omega
        simp (disch := omega) only [gdn, gb0, gb1, ixn, nm1, nI_add, nI_mul, nsub, nI_ltI, nI_leI, nI_eq, eqNO, eqNO2, ltNO, NOlt, leNO, NOle, if_pos, if_neg, Option.bind_some, if_true, if_false, and_self, eq_self, l0, l1, l2, l3, l4, l5, l6, l7, l8, l9, l10, l11, l12, l13, l14, l15, l16, l17, l18, l19, l20, l24, l26, l30, l31, l32, l40, l41, l42, l43, l45, l47, l48, l57, l58, l59, l60, l61, l62, l63, l64, l97, l99, l100, l101, l102, l103, l104, l105, l106, l107, l108, l109, l110, l122, l160, l240, l255, l600, l1000, l3000, l10000, l10007, l10116, l67108863, l67108864, I_oth, I_J, J_oth, J_I, I_row, J_row, SI_row, SI_oth, SI_J, SJ_row, SJ_oth, SJ_I, upd_s, upd_n, updL_s, updL_n, ne_eq, not_false_eq_true, hw9, X12_travel_j199, rwN_lt, pu_seI, upd_rwN]
      · have q : ¬ tch (tg w) (tsr w) (tds w) e A := by unfold tch; rw [hg]; exact fun y => q2 y.2
        rw [fg_c (show m ∨ tch (tg w) (tsr w) (tds w) e A ↔ m from ⟨fun y => y.elim id (fun v => (q v).elim), Or.inl⟩), trl_f q]
        have q3 : ¬ tgo w (e / 2) (A (tsr w e)) + nn w 9 (e / 2) < cv A (tds w e) := by unfold cv; split <;> omega
        simp (disch := omega) only [gdn, gb0, gb1, ixn, nm1, nI_add, nI_mul, nsub, nI_ltI, nI_leI, nI_eq, eqNO, eqNO2, ltNO, NOlt, leNO, NOle, if_pos, if_neg, Option.bind_some, if_true, if_false, and_self, eq_self, l0, l1, l2, l3, l4, l5, l6, l7, l8, l9, l10, l11, l12, l13, l14, l15, l16, l17, l18, l19, l20, l24, l26, l30, l31, l32, l40, l41, l42, l43, l45, l47, l48, l57, l58, l59, l60, l61, l62, l63, l64, l97, l99, l100, l101, l102, l103, l104, l105, l106, l107, l108, l109, l110, l122, l160, l240, l255, l600, l1000, l3000, l10000, l10007, l10116, l67108863, l67108864, I_oth, I_J, J_oth, J_I, I_row, J_row, SI_row, SI_oth, SI_J, SJ_row, SJ_oth, SJ_I, upd_s, upd_n, updL_s, updL_n, ne_eq, not_false_eq_true, hw9, X12_travel_j199, rwN_lt]
    · have q : ¬ tch (tg w) (tsr w) (tds w) e A := by unfold tch; rw [hg]; exact fun y => q1 y.1
      rw [fg_c (show m ∨ tch (tg w) (tsr w) (tds w) e A ↔ m from ⟨fun y => y.elim id (fun v => (q v).elim), Or.inl⟩), trl_f q]
      simp (disch := omega) only [gdn, gb0, gb1, ixn, nm1, nI_add, nI_mul, nsub, nI_ltI, nI_leI, nI_eq, eqNO, eqNO2, ltNO, NOlt, leNO, NOle, if_pos, if_neg, Option.bind_some, if_true, if_false, and_self, eq_self, l0, l1, l2, l3, l4, l5, l6, l7, l8, l9, l10, l11, l12, l13, l14, l15, l16, l17, l18, l19, l20, l24, l26, l30, l31, l32, l40, l41, l42, l43, l45, l47, l48, l57, l58, l59, l60, l61, l62, l63, l64, l97, l99, l100, l101, l102, l103, l104, l105, l106, l107, l108, l109, l110, l122, l160, l240, l255, l600, l1000, l3000, l10000, l10007, l10116, l67108863, l67108864, I_oth, I_J, J_oth, J_I, I_row, J_row, SI_row, SI_oth, SI_J, SJ_row, SJ_oth, SJ_I, upd_s, upd_n, updL_s, updL_n, ne_eq, not_false_eq_true, hw9, X12_travel_j199, rwN_lt]
theorem mround_e {w : Wd} (h : IL w) {A : Nat → Nat} {z : Nat → Int32} (hA : ∀ j, A j ≤ 60) : lp X12_travel_b43 (nI 0, nI 0, seI w 107 (rwN 16 (cv A) z)) = some (fg (tfl (tg w) (tsr w) (tds w) (2 * nn w 5 2) A), seI w 107 (rwN 16 (cv (tR w (2 * nn w 5 2) A)) z)) := by
  have hW := h.1.2.1
  have hW2 := hW.2
  have hmW := h.2.1.2.1
  obtain ⟨-, hm7, hm8, -⟩ := h.2.2.1
  have hlp := lp_for (b := X12_travel_b43) (fun i => (fg (tfl (tg w) (tsr w) (tds w) (2 * i) A), nI i, seI w 107 (rwN 16 (cv (tR w (2 * i) A)) z))) (nn w 5 2) (e := (fg (tfl (tg w) (tsr w) (tds w) (2 * nn w 5 2) A), seI w 107 (rwN 16 (cv (tR w (2 * nn w 5 2) A)) z))) (fun i hi => ?_) ?_ 0 (Nat.zero_le _)
  · have e0 : fg (tfl (tg w) (tsr w) (tds w) (2 * 0) A) = nI 0 := fg_f (by rintro ⟨e, he, -⟩; omega)
    rw [e0] at hlp
    exact hlp
  · obtain ⟨⟨e7, b7⟩, ⟨e8, b8⟩, -⟩ := h.2.2.2.2.2.1 i hi
    have h1 := medge_e h (e := 2 * i) (by omega) (z := z) (trn60 (w := w) hA (2 * i)) (m := tfl (tg w) (tsr w) (tds w) (2 * i) A) (s := nI 0)
    have h2 := medge_e h (e := 2 * i + 1) (by omega) (z := z) (trn60 (w := w) hA (2 * i + 1)) (m := tfl (tg w) (tsr w) (tds w) (2 * i) A ∨ tch (tg w) (tsr w) (tds w) (2 * i) (tR w (2 * i) A)) (s := nI 1)
    rw [show 2 * i / 2 = i by omega, show tsr w (2 * i) = nn w 7 i by unfold tsr; rw [if_pos (by omega), show 2 * i / 2 = i by omega], show tds w (2 * i) = nn w 8 i by unfold tds; rw [if_pos (by omega), show 2 * i / 2 = i by omega], show trl (tg w) (tsr w) (tds w) (2 * i) (tR w (2 * i) A) = tR w (2 * i + 1) A from rfl] at h1
    rw [show (2 * i + 1) / 2 = i by omega, show tsr w (2 * i + 1) = nn w 8 i by unfold tsr; rw [if_neg (by omega), show (2 * i + 1) / 2 = i by omega], show tds w (2 * i + 1) = nn w 7 i by unfold tds; rw [if_neg (by omega), show (2 * i + 1) / 2 = i by omega], show trl (tg w) (tsr w) (tds w) (2 * i + 1) (tR w (2 * i + 1) A) = tR w (2 * (i + 1)) A from rfl] at h2
    unfold X12_travel_b43
    dsimp only
    rw [show (seI w 107 (rwN 16 (cv (tR w (2 * i) A)) z)).1 97 5 = nI (nn w 5 2) from by rw [SI_oth (by omega), hmW]; exact hW.1]
    simp (disch := omega) only [gdn, gb0, gb1, ixn, nm1, nI_add, nI_mul, nsub, nI_ltI, nI_leI, nI_eq, eqNO, eqNO2, ltNO, NOlt, leNO, NOle, if_pos, if_neg, Option.bind_some, if_true, if_false, and_self, eq_self, l0, l1, l2, l3, l4, l5, l6, l7, l8, l9, l10, l11, l12, l13, l14, l15, l16, l17, l18, l19, l20, l24, l26, l30, l31, l32, l40, l41, l42, l43, l45, l47, l48, l57, l58, l59, l60, l61, l62, l63, l64, l97, l99, l100, l101, l102, l103, l104, l105, l106, l107, l108, l109, l110, l122, l160, l240, l255, l600, l1000, l3000, l10000, l10007, l10116, l67108863, l67108864]
    rw [lp_step (s' := (fg (tfl (tg w) (tsr w) (tds w) (2 * i) A ∨ tch (tg w) (tsr w) (tds w) (2 * i) (tR w (2 * i) A)), nI 1, seI w 107 (rwN 16 (cv (tR w (2 * i + 1) A)) z))) (by
      unfold X12_travel_b55 X12_travel_j83
      simp (disch := omega) only [gdn, gb0, gb1, ixn, nm1, nI_add, nI_mul, nsub, nI_ltI, nI_leI, nI_eq, eqNO, eqNO2, ltNO, NOlt, leNO, NOle, if_pos, if_neg, Option.bind_some, if_true, if_false, and_self, eq_self, l0, l1, l2, l3, l4, l5, l6, l7, l8, l9, l10, l11, l12, l13, l14, l15, l16, l17, l18, l19, l20, l24, l26, l30, l31, l32, l40, l41, l42, l43, l45, l47, l48, l57, l58, l59, l60, l61, l62, l63, l64, l97, l99, l100, l101, l102, l103, l104, l105, l106, l107, l108, l109, l110, l122, l160, l240, l255, l600, l1000, l3000, l10000, l10007, l10116, l67108863, l67108864, I_oth, I_J, J_oth, J_I, I_row, J_row, SI_row, SI_oth, SI_J, SJ_row, SJ_oth, SJ_I, upd_s, upd_n, updL_s, updL_n, ne_eq, not_false_eq_true, hm7, hm8, e7, e8, h1])]
    rw [lp_step (s' := (fg (tfl (tg w) (tsr w) (tds w) (2 * (i + 1)) A), nI 2, seI w 107 (rwN 16 (cv (tR w (2 * (i + 1)) A)) z))) (by
      unfold X12_travel_b55 X12_travel_j83
      simp (disch := omega) only [gdn, gb0, gb1, ixn, nm1, nI_add, nI_mul, nsub, nI_ltI, nI_leI, nI_eq, eqNO, eqNO2, ltNO, NOlt, leNO, NOle, if_pos, if_neg, Option.bind_some, if_true, if_false, and_self, eq_self, l0, l1, l2, l3, l4, l5, l6, l7, l8, l9, l10, l11, l12, l13, l14, l15, l16, l17, l18, l19, l20, l24, l26, l30, l31, l32, l40, l41, l42, l43, l45, l47, l48, l57, l58, l59, l60, l61, l62, l63, l64, l97, l99, l100, l101, l102, l103, l104, l105, l106, l107, l108, l109, l110, l122, l160, l240, l255, l600, l1000, l3000, l10000, l10007, l10116, l67108863, l67108864, I_oth, I_J, J_oth, J_I, I_row, J_row, SI_row, SI_oth, SI_J, SJ_row, SJ_oth, SJ_I, upd_s, upd_n, updL_s, updL_n, ne_eq, not_false_eq_true, hm7, hm8, e7, e8, h2]
      rw [fg_c (show ((tfl (tg w) (tsr w) (tds w) (2 * i) A ∨ tch (tg w) (tsr w) (tds w) (2 * i) (tR w (2 * i) A)) ∨ tch (tg w) (tsr w) (tds w) (2 * i + 1) (tR w (2 * i + 1) A)) ↔ tfl (tg w) (tsr w) (tds w) (2 * (i + 1)) A by rw [show 2 * (i + 1) = 2 * i + 1 + 1 by omega, tfl_s, tfl_s])])]
    rw [lp_exit (e := (fg (tfl (tg w) (tsr w) (tds w) (2 * (i + 1)) A), seI w 107 (rwN 16 (cv (tR w (2 * (i + 1)) A)) z))) (by
      unfold X12_travel_b55
      simp (disch := omega) only [gdn, gb0, gb1, ixn, nm1, nI_add, nI_mul, nsub, nI_ltI, nI_leI, nI_eq, eqNO, eqNO2, ltNO, NOlt, leNO, NOle, if_pos, if_neg, Option.bind_some, if_true, if_false, and_self, eq_self, l0, l1, l2, l3, l4, l5, l6, l7, l8, l9, l10, l11, l12, l13, l14, l15, l16, l17, l18, l19, l20, l24, l26, l30, l31, l32, l40, l41, l42, l43, l45, l47, l48, l57, l58, l59, l60, l61, l62, l63, l64, l97, l99, l100, l101, l102, l103, l104, l105, l106, l107, l108, l109, l110, l122, l160, l240, l255, l600, l1000, l3000, l10000, l10007, l10116, l67108863, l67108864])]
    rfl
  · unfold X12_travel_b43
    dsimp only
    rw [show (seI w 107 (rwN 16 (cv (tR w (2 * nn w 5 2) A)) z)).1 97 5 = nI (nn w 5 2) from by rw [SI_oth (by omega), hmW]; exact hW.1]
    simp (disch := omega) only [gdn, gb0, gb1, ixn, nm1, nI_add, nI_mul, nsub, nI_ltI, nI_leI, nI_eq, eqNO, eqNO2, ltNO, NOlt, leNO, NOle, if_pos, if_neg, Option.bind_some, if_true, if_false, and_self, eq_self, l0, l1, l2, l3, l4, l5, l6, l7, l8, l9, l10, l11, l12, l13, l14, l15, l16, l17, l18, l19, l20, l24, l26, l30, l31, l32, l40, l41, l42, l43, l45, l47, l48, l57, l58, l59, l60, l61, l62, l63, l64, l97, l99, l100, l101, l102, l103, l104, l105, l106, l107, l108, l109, l110, l122, l160, l240, l255, l600, l1000, l3000, l10000, l10007, l10116, l67108863, l67108864]
theorem mtravel_e {w : Wd} (h : IL w) {s week : Nat} (hs : s < nn w 5 0) (hw : week < 60) : X12_travel (nI s) (nI week) w = some (seI w 107 (rwN 16 (cv (arr w s week)) (w.1 107))) := by
  have hP := h.1.1.2
  obtain ⟨hK, hK1, hK2⟩ := arK_s h (s := s) (by omega) hw
  generalize hA0 : (fun j => if j = s then week else 60) = A0 at hK1 hK2
  have h60 : ∀ k j, tit (tg w) (tsr w) (tds w) (2 * nn w 5 2) k A0 j ≤ 60 := by
    intro k j
    refine Nat.le_trans (tit_le _ j) ?_
    rw [← hA0]
    dsimp only
    split <;> omega
  unfold X12_travel
  have hfill := lp_for (b := X12_travel_b2 (nI s) (nI week)) (fun i => (nI i, seI w 107 (rwN i (cv A0) (w.1 107)))) 16 (e := seI w 107 (rwN 16 (cv A0) (w.1 107))) (fun i hi => ?_) ?_ 0 (Nat.zero_le _)
  · rw [show rwN 0 (cv A0) (w.1 107) = w.1 107 from rwN_id (fun j hj => by omega), seI_same rfl] at hfill
    rw [show ((0 : Int32), w) = (nI 0, w) from rfl, hfill]
    simp only [Option.bind_some]
    have hlp := lp_for (b := X12_travel_b34) (fun k => (if k ≤ arK w s week then nI 1 else nI 0, seI w 107 (rwN 16 (cv (tit (tg w) (tsr w) (tds w) (2 * nn w 5 2) k A0)) (w.1 107)))) (arK w s week + 1) (e := seI w 107 (rwN 16 (cv (tit (tg w) (tsr w) (tds w) (2 * nn w 5 2) (arK w s week + 1) A0)) (w.1 107))) (fun k hk => ?_) ?_ 0 (Nat.zero_le _)
    · rw [if_pos (Nat.zero_le _)] at hlp
      rw [show tit (tg w) (tsr w) (tds w) (2 * nn w 5 2) 0 A0 = A0 from rfl] at hlp
      rw [show ((1 : Int32), seI w 107 (rwN 16 (cv A0) (w.1 107))) = (nI 1, seI w 107 (rwN 16 (cv A0) (w.1 107))) from rfl, hlp]
      simp only [Option.bind_some]
      rw [show tit (tg w) (tsr w) (tds w) (2 * nn w 5 2) (arK w s week + 1) A0 = trn (tg w) (tsr w) (tds w) (2 * nn w 5 2) (tit (tg w) (tsr w) (tds w) (2 * nn w 5 2) (arK w s week) A0) from rfl, trn_same hK1]
      unfold arr
      rw [hA0]
    · unfold X12_travel_b34
      simp (disch := omega) only [gdn, gb0, gb1, ixn, nm1, nI_add, nI_mul, nsub, nI_ltI, nI_leI, nI_eq, eqNO, eqNO2, ltNO, NOlt, leNO, NOle, if_pos, if_neg, Option.bind_some, if_true, if_false, and_self, eq_self, l0, l1, l2, l3, l4, l5, l6, l7, l8, l9, l10, l11, l12, l13, l14, l15, l16, l17, l18, l19, l20, l24, l26, l30, l31, l32, l40, l41, l42, l43, l45, l47, l48, l57, l58, l59, l60, l61, l62, l63, l64, l97, l99, l100, l101, l102, l103, l104, l105, l106, l107, l108, l109, l110, l122, l160, l240, l255, l600, l1000, l3000, l10000, l10007, l10116, l67108863, l67108864]
      rw [mround_e h (h60 k)]
      simp only [Option.bind_some]
      rw [show tR w (2 * nn w 5 2) (tit (tg w) (tsr w) (tds w) (2 * nn w 5 2) k A0) = tit (tg w) (tsr w) (tds w) (2 * nn w 5 2) (k + 1) A0 from rfl]
      by_cases q : k = arK w s week
      · rw [fg_f (by rw [q]; exact hK1), if_neg (by omega)]
      · rw [fg_t (hK2 k (by omega)), if_pos (by omega)]
    · unfold X12_travel_b34
      simp (disch := omega) only [gdn, gb0, gb1, ixn, nm1, nI_add, nI_mul, nsub, nI_ltI, nI_leI, nI_eq, eqNO, eqNO2, ltNO, NOlt, leNO, NOle, if_pos, if_neg, Option.bind_some, if_true, if_false, and_self, eq_self, l0, l1, l2, l3, l4, l5, l6, l7, l8, l9, l10, l11, l12, l13, l14, l15, l16, l17, l18, l19, l20, l24, l26, l30, l31, l32, l40, l41, l42, l43, l45, l47, l48, l57, l58, l59, l60, l61, l62, l63, l64, l97, l99, l100, l101, l102, l103, l104, l105, l106, l107, l108, l109, l110, l122, l160, l240, l255, l600, l1000, l3000, l10000, l10007, l10116, l67108863, l67108864]
  · have hupd : upd (rwN i (cv A0) (w.1 107)) i (nI (cv A0 i)) = rwN (i + 1) (cv A0) (w.1 107) := by
      funext j
      unfold upd rwN
      by_cases q : j = i
      · subst q; simp
      · rw [if_neg q]
        by_cases q2 : j < i
        · rw [if_pos q2, if_pos (by omega)]
        · rw [if_neg q2, if_neg (by omega)]
    unfold X12_travel_b2 X12_travel_j25
    by_cases q : i = s
    · have hv : cv A0 i = week := by rw [← hA0]; unfold cv; simp only [if_pos q]; rw [if_neg (by omega)]
      rw [hv] at hupd
      simp (disch := omega) only [gdn, gb0, gb1, ixn, nm1, nI_add, nI_mul, nsub, nI_ltI, nI_leI, nI_eq, eqNO, eqNO2, ltNO, NOlt, leNO, NOle, if_pos, if_neg, Option.bind_some, if_true, if_false, and_self, eq_self, l0, l1, l2, l3, l4, l5, l6, l7, l8, l9, l10, l11, l12, l13, l14, l15, l16, l17, l18, l19, l20, l24, l26, l30, l31, l32, l40, l41, l42, l43, l45, l47, l48, l57, l58, l59, l60, l61, l62, l63, l64, l97, l99, l100, l101, l102, l103, l104, l105, l106, l107, l108, l109, l110, l122, l160, l240, l255, l600, l1000, l3000, l10000, l10007, l10116, l67108863, l67108864, pu_seI, hupd]
    · have hv : cv A0 i = 1000 := by rw [← hA0]; unfold cv; simp only [if_neg q]; rfl
      rw [hv] at hupd
      simp (disch := omega) only [gdn, gb0, gb1, ixn, nm1, nI_add, nI_mul, nsub, nI_ltI, nI_leI, nI_eq, eqNO, eqNO2, ltNO, NOlt, leNO, NOle, if_pos, if_neg, Option.bind_some, if_true, if_false, and_self, eq_self, l0, l1, l2, l3, l4, l5, l6, l7, l8, l9, l10, l11, l12, l13, l14, l15, l16, l17, l18, l19, l20, l24, l26, l30, l31, l32, l40, l41, l42, l43, l45, l47, l48, l57, l58, l59, l60, l61, l62, l63, l64, l97, l99, l100, l101, l102, l103, l104, l105, l106, l107, l108, l109, l110, l122, l160, l240, l255, l600, l1000, l3000, l10000, l10007, l10116, l67108863, l67108864, pu_seI, hupd]
  · unfold X12_travel_b2
    simp (disch := omega) only [gdn, gb0, gb1, ixn, nm1, nI_add, nI_mul, nsub, nI_ltI, nI_leI, nI_eq, eqNO, eqNO2, ltNO, NOlt, leNO, NOle, if_pos, if_neg, Option.bind_some, if_true, if_false, and_self, eq_self, l0, l1, l2, l3, l4, l5, l6, l7, l8, l9, l10, l11, l12, l13, l14, l15, l16, l17, l18, l19, l20, l24, l26, l30, l31, l32, l40, l41, l42, l43, l45, l47, l48, l57, l58, l59, l60, l61, l62, l63, l64, l97, l99, l100, l101, l102, l103, l104, l105, l106, l107, l108, l109, l110, l122, l160, l240, l255, l600, l1000, l3000, l10000, l10007, l10116, l67108863, l67108864]
