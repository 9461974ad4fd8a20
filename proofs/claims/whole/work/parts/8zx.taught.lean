theorem bIf : bI false = nI 0 := rfl
theorem bIt : bI true = nI 1 := rfl
theorem teach_y {w u : Wd} (h : YI w) {S : List Nat} {T : List (Nat × Nat)} (hu : Fr S T w u) (hc1 : smc S T sR_L sF_L = true) (hc2 : smc S T sR_N2 sF_N2 = true) (hc3 : smc S T sR_B sF_B = true) (hc4 : smc S T sR_R sF_R = true) (hc5 : smc S T sR_Ls sF_Ls = true) (hc6 : smc S T sR_Y sF_Y = true) {week : Nat} (hw : week < 60) (hg : ∀ l, l < nn w 5 8 → rowY (u.1 150) l (YH w week l)) : ∃ v, X12_teach (nI week) u = some v ∧ Fr sS_T [(97, 70)] u v ∧ (∀ m, m < nn w 5 15 → v.1 156 m = tchS w m week) ∧ ∀ l, l < nn w 5 8 → v.1 152 l = lampS w 1 l week ∧ v.1 158 l = fg (3 ≤ YO w week l) ∧ (litY w week l → v.1 157 l = bI (myY w week l (YH w week l))) ∧ (3 ≤ YO w week l → v.1 153 l = nI (YO w week l - 3)) := by
  obtain ⟨a1, a2, a3, a4, a5, a6, a7, a8⟩ := h
  have hy : Sm sR_Y sF_Y w u := hu.sm hc6
  have eL : Sm sR_L sF_L w u := hu.sm hc1
  have n8 : nn u 5 8 = nn w 5 8 := nn_eq (eL.2 (5, 8) (by decide)).1
  have n15 : nn u 5 15 = nn w 5 15 := nn_eq (eL.2 (5, 15) (by decide)).1
  obtain ⟨v, k1, k2, k3, k4⟩ := teach_e (a1.sm eL) (a2.sm (hu.sm hc2)) (a4.sm (hu.sm hc3)) (a6.sm (hu.sm hc4)) (a7.sm (hu.sm hc5)) hw (fun l hl => by rw [n8] at hl; rw [YH_y hy]; exact hg l hl)
  rw [n15, tchS_y hy] at k3
  rw [n8, lampS_y hy, YO_y hy, litY_y hy, myY_y hy, YH_y hy] at k4
  exact ⟨v, k1, k2, k3, k4⟩
theorem o_taught (a1 a2 a3 : Int32) {w : Wd} (h : YI w) : two (X11_taught a1 a2 a3) (X12_taught a1 a2 a3) w OPY := by
  have hL := h.1
  have hN := h.2.1
  have b8 := hL.1.2.2.1.2
  have b15 := hL.1.2.2.2.2.2
  by_cases hv : (0 ≤ a1.toInt ∧ a1.toInt < (nn w 5 8 : Int)) ∧ (0 ≤ a2.toInt ∧ a2.toInt < ((60 : Nat) : Int)) ∧ (0 ≤ a3.toInt ∧ a3.toInt < ((3 : Nat) : Int))
  · obtain ⟨v1, v2, v3⟩ := hv
    obtain ⟨l, hl, rfl⟩ := of_t v1
    obtain ⟨week, hwk, rfl⟩ := of_t v2
    obtain ⟨x, hx, rfl⟩ := of_t v3
    obtain ⟨w1, c1, c2, c3⟩ := reach_y h hwk
    have r74 := (c3 l hl).1
    have hO : YO w week l ≤ 63 := by rw [YO_e]; exact jd_le
    -- the model, at whatever status
    have mod : ∀ y : Int32, ∃ u, X12_taught (nI l) (nI week) (nI x) (puI w1 0 10 y) = (@ite _ (¬ litY w week l ∨ (x = 2 ∧ ¬ 3 ≤ YO w week l)) (Classical.propDecidable _) (some (NO, puI u 97 0 (nI 6))) (some (if x = 0 then bI (myY w week l (YH w week l)) else if x = 1 then fg (3 ≤ YO w week l) else nI (YO w week l - 3), puI u 97 0 (nI 0)))) ∧ Fr sS_M sF_M (puI w1 0 10 y) u := by
      intro y
      obtain ⟨v, d1, d2, d3⟩ := along_y h (fr_ans (x := y) c2) (K := week) (by omega)
      have fv : Fr (sS_Z ++ sS_G) ((97, 70) :: sF_Z) w v := ((fr_ans (x := y) c2).wk (by decide) (by decide)).next d2 (by decide) (by decide)
      obtain ⟨u, t1, t2, t3, t4⟩ := teach_y h fv (by decide) (by decide) (by decide) (by decide) (by decide) (by decide) hwk (fun l hl => (d3 l hl).1)
      obtain ⟨s1, s2, s3, s4⟩ := t4 l hl
      refine ⟨u, ?_, (frGM d2).next t2 (by decide) (by decide)⟩
      have e6 : (puI w1 0 10 y).1 97 6 = nI (nn w 5 8) := by rw [((fr_ans (x := y) c2).row 97 (by decide) (by decide)).1, hL.2.1.2.2.1]; exact hL.1.2.2.1.1
      have hmain : X12_taught (nI l) (nI week) (nI x) (puI w1 0 10 y) = if u.1 152 l = NO then some (NO, puI u 97 0 (nI 6)) else gd (vp_in (u.1 152 l) 12) (if u.1 156 (ix (u.1 152 l)) = NO then some (NO, puI u 97 0 (nI 6)) else if nI x = nI 2 then (if u.1 158 l = nI 0 then some (NO, puI u 97 0 (nI 6)) else X12_taught_j88 (nI l) (nI x) u) else X12_taught_j88 (nI l) (nI x) u) := by
        unfold X12_taught X12_taught_j81
        rw [mlr _ e6 (by omega), mweek_e]
        simp (disch := omega) only [gdn, gb0, gb1, ixn, nm1, nI_add, nI_mul, nsub, nI_ltI, nI_leI, nI_eq, eqNO, eqNO2, ltNO, NOlt, leNO, NOle, if_pos, if_neg, Option.bind_some, if_true, if_false, and_self, eq_self, l0, l1, l2, l3, l4, l5, l6, l7, l8, l9, l10, l11, l12, l13, l14, l15, l16, l17, l18, l19, l20, l24, l26, l30, l31, l32, l40, l41, l42, l43, l45, l47, l48, l57, l58, l59, l60, l61, l62, l63, l64, l97, l99, l100, l101, l102, l103, l104, l105, l106, l107, l108, l109, l110, l122, l160, l240, l255, l600, l1000, l3000, l10000, l10007, l10116, l67108863, l67108864, I_oth, I_J, J_oth, J_I, I_row, J_row, SI_row, SI_oth, SI_J, SJ_row, SJ_oth, SJ_I, upd_s, upd_n, updL_s, updL_n, ne_eq, not_false_eq_true, lt_t, le_t, tI, NO_t, flag0, flag1, ite_or2, ite_self, true_or, or_true, false_or, or_false, true_and, and_true, false_and, and_false, not_true_eq_false, tp_e, d1, t1, mref_e]
      rw [hmain, s1]
      by_cases hq : litY w week l
      · obtain ⟨m, t, hm, hm12, ht, ht20, e1, e2, e3, -⟩ := lit_get hL hN hq
        have e156 : u.1 156 m = nI t := by rw [t3 m hm]; exact e3
        have s3 := s3 hq
        rw [e1]
        simp (disch := omega) only [gdn, gb0, gb1, ixn, nm1, nI_add, nI_mul, nsub, nI_ltI, nI_leI, nI_eq, eqNO, eqNO2, ltNO, NOlt, leNO, NOle, if_pos, if_neg, Option.bind_some, if_true, if_false, and_self, eq_self, l0, l1, l2, l3, l4, l5, l6, l7, l8, l9, l10, l11, l12, l13, l14, l15, l16, l17, l18, l19, l20, l24, l26, l30, l31, l32, l40, l41, l42, l43, l45, l47, l48, l57, l58, l59, l60, l61, l62, l63, l64, l97, l99, l100, l101, l102, l103, l104, l105, l106, l107, l108, l109, l110, l122, l160, l240, l255, l600, l1000, l3000, l10000, l10007, l10116, l67108863, l67108864, e156]
        unfold X12_taught_j88 X12_taught_j138
        have hx3 : x = 0 ∨ x = 1 ∨ x = 2 := by omega
        by_cases q3 : 3 ≤ YO w week l
        · rw [fg_t q3] at s2 ⊢
          have s4 := s4 q3
          rw [ifn (show ¬ (¬ litY w week l ∨ x = 2 ∧ ¬ 3 ≤ YO w week l) from fun z => z.elim (fun y => y hq) (fun y => y.2 q3))]
          rcases hx3 with rfl | rfl | rfl
          · cases hm : myY w week l (YH w week l) <;> rw [hm] at s3 <;> simp (disch := omega) only [gdn, gb0, gb1, ixn, nm1, nI_add, nI_mul, nsub, nI_ltI, nI_leI, nI_eq, eqNO, eqNO2, ltNO, NOlt, leNO, NOle, if_pos, if_neg, Option.bind_some, if_true, if_false, and_self, eq_self, l0, l1, l2, l3, l4, l5, l6, l7, l8, l9, l10, l11, l12, l13, l14, l15, l16, l17, l18, l19, l20, l24, l26, l30, l31, l32, l40, l41, l42, l43, l45, l47, l48, l57, l58, l59, l60, l61, l62, l63, l64, l97, l99, l100, l101, l102, l103, l104, l105, l106, l107, l108, l109, l110, l122, l160, l240, l255, l600, l1000, l3000, l10000, l10007, l10116, l67108863, l67108864, s3, mgiv_e, bIf, bIt]
          · simp (disch := omega) only [gdn, gb0, gb1, ixn, nm1, nI_add, nI_mul, nsub, nI_ltI, nI_leI, nI_eq, eqNO, eqNO2, ltNO, NOlt, leNO, NOle, if_pos, if_neg, Option.bind_some, if_true, if_false, and_self, eq_self, l0, l1, l2, l3, l4, l5, l6, l7, l8, l9, l10, l11, l12, l13, l14, l15, l16, l17, l18, l19, l20, l24, l26, l30, l31, l32, l40, l41, l42, l43, l45, l47, l48, l57, l58, l59, l60, l61, l62, l63, l64, l97, l99, l100, l101, l102, l103, l104, l105, l106, l107, l108, l109, l110, l122, l160, l240, l255, l600, l1000, l3000, l10000, l10007, l10116, l67108863, l67108864, s2, mgiv_e]
          · simp (disch := omega) only [gdn, gb0, gb1, ixn, nm1, nI_add, nI_mul, nsub, nI_ltI, nI_leI, nI_eq, eqNO, eqNO2, ltNO, NOlt, leNO, NOle, if_pos, if_neg, Option.bind_some, if_true, if_false, and_self, eq_self, l0, l1, l2, l3, l4, l5, l6, l7, l8, l9, l10, l11, l12, l13, l14, l15, l16, l17, l18, l19, l20, l24, l26, l30, l31, l32, l40, l41, l42, l43, l45, l47, l48, l57, l58, l59, l60, l61, l62, l63, l64, l97, l99, l100, l101, l102, l103, l104, l105, l106, l107, l108, l109, l110, l122, l160, l240, l255, l600, l1000, l3000, l10000, l10007, l10116, l67108863, l67108864, s2, s4, mgiv_e]
        · rw [fg_f q3] at s2 ⊢
          rcases hx3 with rfl | rfl | rfl
          · rw [ifn (show ¬ (¬ litY w week l ∨ 0 = 2 ∧ ¬ 3 ≤ YO w week l) from fun z => z.elim (fun y => y hq) (fun y => by omega))]
            cases hm : myY w week l (YH w week l) <;> rw [hm] at s3 <;> simp (disch := omega) only [gdn, gb0, gb1, ixn, nm1, nI_add, nI_mul, nsub, nI_ltI, nI_leI, nI_eq, eqNO, eqNO2, ltNO, NOlt, leNO, NOle, if_pos, if_neg, Option.bind_some, if_true, if_false, and_self, eq_self, l0, l1, l2, l3, l4, l5, l6, l7, l8, l9, l10, l11, l12, l13, l14, l15, l16, l17, l18, l19, l20, l24, l26, l30, l31, l32, l40, l41, l42, l43, l45, l47, l48, l57, l58, l59, l60, l61, l62, l63, l64, l97, l99, l100, l101, l102, l103, l104, l105, l106, l107, l108, l109, l110, l122, l160, l240, l255, l600, l1000, l3000, l10000, l10007, l10116, l67108863, l67108864, s3, mgiv_e, bIf, bIt]
          · rw [ifn (show ¬ (¬ litY w week l ∨ 1 = 2 ∧ ¬ 3 ≤ YO w week l) from fun z => z.elim (fun y => y hq) (fun y => by omega))]
            simp (disch := omega) only [gdn, gb0, gb1, ixn, nm1, nI_add, nI_mul, nsub, nI_ltI, nI_leI, nI_eq, eqNO, eqNO2, ltNO, NOlt, leNO, NOle, if_pos, if_neg, Option.bind_some, if_true, if_false, and_self, eq_self, l0, l1, l2, l3, l4, l5, l6, l7, l8, l9, l10, l11, l12, l13, l14, l15, l16, l17, l18, l19, l20, l24, l26, l30, l31, l32, l40, l41, l42, l43, l45, l47, l48, l57, l58, l59, l60, l61, l62, l63, l64, l97, l99, l100, l101, l102, l103, l104, l105, l106, l107, l108, l109, l110, l122, l160, l240, l255, l600, l1000, l3000, l10000, l10007, l10116, l67108863, l67108864, s2, mgiv_e]
          · rw [ifp (show ¬ litY w week l ∨ 2 = 2 ∧ ¬ 3 ≤ YO w week l from Or.inr ⟨rfl, q3⟩)]
            simp (disch := omega) only [gdn, gb0, gb1, ixn, nm1, nI_add, nI_mul, nsub, nI_ltI, nI_leI, nI_eq, eqNO, eqNO2, ltNO, NOlt, leNO, NOle, if_pos, if_neg, Option.bind_some, if_true, if_false, and_self, eq_self, l0, l1, l2, l3, l4, l5, l6, l7, l8, l9, l10, l11, l12, l13, l14, l15, l16, l17, l18, l19, l20, l24, l26, l30, l31, l32, l40, l41, l42, l43, l45, l47, l48, l57, l58, l59, l60, l61, l62, l63, l64, l97, l99, l100, l101, l102, l103, l104, l105, l106, l107, l108, l109, l110, l122, l160, l240, l255, l600, l1000, l3000, l10000, l10007, l10116, l67108863, l67108864, s2]
      · rw [ifp (show ¬ litY w week l ∨ x = 2 ∧ ¬ 3 ≤ YO w week l from Or.inl hq)]
        by_cases q1 : lampS w 1 l week = NO
        · rw [if_pos q1]
        · rw [if_neg q1]
          rcases lampS_in hN (s := 1) (who := l) (week := week) (by omega) with z | ⟨m, hm, z⟩
          · exact (q1 z).elim
          · have em : lmY w week l = m := by unfold lmY; rw [z, ixn (by omega)]
            have e156 : u.1 156 m = NO := by
              rw [t3 m hm]
              rcases tchS_NO (w := w) (lamp := m) (week := week) with y | ⟨t', _, y, _⟩
              · exact y
              · exact (hq ⟨q1, by rw [em, y]; exact fun x => (eqNO (show t' < 2 ^ 31 by omega)).mp x⟩).elim
            rw [z]
            simp (disch := omega) only [gdn, gb0, gb1, ixn, nm1, nI_add, nI_mul, nsub, nI_ltI, nI_leI, nI_eq, eqNO, eqNO2, ltNO, NOlt, leNO, NOle, if_pos, if_neg, Option.bind_some, if_true, if_false, and_self, eq_self, l0, l1, l2, l3, l4, l5, l6, l7, l8, l9, l10, l11, l12, l13, l14, l15, l16, l17, l18, l19, l20, l24, l26, l30, l31, l32, l40, l41, l42, l43, l45, l47, l48, l57, l58, l59, l60, l61, l62, l63, l64, l97, l99, l100, l101, l102, l103, l104, l105, l106, l107, l108, l109, l110, l122, l160, l240, l255, l600, l1000, l3000, l10000, l10007, l10116, l67108863, l67108864, e156]
    -- the class
    have hx3 : x = 0 ∨ x = 1 ∨ x = 2 := by omega
    have hYO := YO_e (w := w) (week := week) (l := l)
    by_cases hq : litY w week l
    · rw [jd_t hq] at hYO
      by_cases q3 : 3 ≤ YO w week l
      · have hmy : myY w week l (YH w week l) = true := by
          cases hm : myY w week l (YH w week l) with
          | true => rfl
          | false => rw [hm, if_pos rfl] at hYO; omega
        obtain ⟨u, m1, m2⟩ := mod (nI 0)
        rw [ifn (show ¬ (¬ litY w week l ∨ x = 2 ∧ ¬ 3 ≤ YO w week l) from fun z => z.elim (fun y => y hq) (fun y => y.2 q3)), hmy, fg_t q3] at m1
        refine two_y (r := if x = 0 then bI true else if x = 1 then nI 1 else nI (YO w week l - 3)) (x := nI 0) h c2 ?_ ⟨u, m1, m2⟩
        unfold X11_taught X10_outcomeOf X11_taught_j75 X11_taught_j93
        rw [show (2 : Int32) = nI 2 from rfl]
        rcases hx3 with rfl | rfl | rfl
        · simp (disch := omega) only [gdn, gb0, gb1, ixn, nm1, nI_add, nI_mul, nsub, nI_ltI, nI_leI, nI_eq, eqNO, eqNO2, ltNO, NOlt, leNO, NOle, if_pos, if_neg, Option.bind_some, if_true, if_false, and_self, eq_self, l0, l1, l2, l3, l4, l5, l6, l7, l8, l9, l10, l11, l12, l13, l14, l15, l16, l17, l18, l19, l20, l24, l26, l30, l31, l32, l40, l41, l42, l43, l45, l47, l48, l57, l58, l59, l60, l61, l62, l63, l64, l97, l99, l100, l101, l102, l103, l104, l105, l106, l107, l108, l109, l110, l122, l160, l240, l255, l600, l1000, l3000, l10000, l10007, l10116, l67108863, l67108864, I_oth, I_J, J_oth, J_I, I_row, J_row, SI_row, SI_oth, SI_J, SJ_row, SJ_oth, SJ_I, upd_s, upd_n, updL_s, updL_n, ne_eq, not_false_eq_true, lt_t, le_t, tI, NO_t, flag0, flag1, ite_or2, ite_self, true_or, or_true, false_or, or_false, true_and, and_true, false_and, and_false, not_true_eq_false, lrn_e hL, week_e, win, c1, cell_e, r74, answer_e, ansW_e, deny_e, bI]
        · simp (disch := omega) only [gdn, gb0, gb1, ixn, nm1, nI_add, nI_mul, nsub, nI_ltI, nI_leI, nI_eq, eqNO, eqNO2, ltNO, NOlt, leNO, NOle, if_pos, if_neg, Option.bind_some, if_true, if_false, and_self, eq_self, l0, l1, l2, l3, l4, l5, l6, l7, l8, l9, l10, l11, l12, l13, l14, l15, l16, l17, l18, l19, l20, l24, l26, l30, l31, l32, l40, l41, l42, l43, l45, l47, l48, l57, l58, l59, l60, l61, l62, l63, l64, l97, l99, l100, l101, l102, l103, l104, l105, l106, l107, l108, l109, l110, l122, l160, l240, l255, l600, l1000, l3000, l10000, l10007, l10116, l67108863, l67108864, I_oth, I_J, J_oth, J_I, I_row, J_row, SI_row, SI_oth, SI_J, SJ_row, SJ_oth, SJ_I, upd_s, upd_n, updL_s, updL_n, ne_eq, not_false_eq_true, lt_t, le_t, tI, NO_t, flag0, flag1, ite_or2, ite_self, true_or, or_true, false_or, or_false, true_and, and_true, false_and, and_false, not_true_eq_false, lrn_e hL, week_e, win, c1, cell_e, r74, answer_e, ansW_e, deny_e, bI]
        · simp (disch := omega) only [gdn, gb0, gb1, ixn, nm1, nI_add, nI_mul, nsub, nI_ltI, nI_leI, nI_eq, eqNO, eqNO2, ltNO, NOlt, leNO, NOle, if_pos, if_neg, Option.bind_some, if_true, if_false, and_self, eq_self, l0, l1, l2, l3, l4, l5, l6, l7, l8, l9, l10, l11, l12, l13, l14, l15, l16, l17, l18, l19, l20, l24, l26, l30, l31, l32, l40, l41, l42, l43, l45, l47, l48, l57, l58, l59, l60, l61, l62, l63, l64, l97, l99, l100, l101, l102, l103, l104, l105, l106, l107, l108, l109, l110, l122, l160, l240, l255, l600, l1000, l3000, l10000, l10007, l10116, l67108863, l67108864, I_oth, I_J, J_oth, J_I, I_row, J_row, SI_row, SI_oth, SI_J, SJ_row, SJ_oth, SJ_I, upd_s, upd_n, updL_s, updL_n, ne_eq, not_false_eq_true, lt_t, le_t, tI, NO_t, flag0, flag1, ite_or2, ite_self, true_or, or_true, false_or, or_false, true_and, and_true, false_and, and_false, not_true_eq_false, lrn_e hL, week_e, win, c1, cell_e, r74, answer_e, ansW_e, deny_e, bI]
      · have h12 : (YO w week l = 1 ∧ myY w week l (YH w week l) = false) ∨ (YO w week l = 2 ∧ myY w week l (YH w week l) = true) := by
          cases hm : myY w week l (YH w week l) with
          | false => rw [hm, if_pos rfl] at hYO; exact Or.inl ⟨hYO, rfl⟩
          | true =>
            rw [hm, if_neg (by simp)] at hYO
            by_cases z : rmY w week (lmY w week l) ≤ YT w week l (lmY w week l)
            · rw [if_pos z] at hYO; exact Or.inr ⟨hYO, rfl⟩
            · rw [if_neg z] at hYO; omega
        by_cases hx2 : x = 2
        · obtain ⟨u, m1, m2⟩ := mod (nI 6)
          rw [ifp (show ¬ litY w week l ∨ x = 2 ∧ ¬ 3 ≤ YO w week l from Or.inr ⟨hx2, q3⟩)] at m1
          refine two_y (r := NO) (x := nI 6) h c2 ?_ ⟨u, m1, m2⟩
          subst hx2
          unfold X11_taught X10_outcomeOf X11_taught_j75 X11_taught_j93
          rw [show (2 : Int32) = nI 2 from rfl]
          rcases h12 with ⟨z, -⟩ | ⟨z, -⟩ <;> rw [z] at r74 <;> simp (disch := omega) only [gdn, gb0, gb1, ixn, nm1, nI_add, nI_mul, nsub, nI_ltI, nI_leI, nI_eq, eqNO, eqNO2, ltNO, NOlt, leNO, NOle, if_pos, if_neg, Option.bind_some, if_true, if_false, and_self, eq_self, l0, l1, l2, l3, l4, l5, l6, l7, l8, l9, l10, l11, l12, l13, l14, l15, l16, l17, l18, l19, l20, l24, l26, l30, l31, l32, l40, l41, l42, l43, l45, l47, l48, l57, l58, l59, l60, l61, l62, l63, l64, l97, l99, l100, l101, l102, l103, l104, l105, l106, l107, l108, l109, l110, l122, l160, l240, l255, l600, l1000, l3000, l10000, l10007, l10116, l67108863, l67108864, I_oth, I_J, J_oth, J_I, I_row, J_row, SI_row, SI_oth, SI_J, SJ_row, SJ_oth, SJ_I, upd_s, upd_n, updL_s, updL_n, ne_eq, not_false_eq_true, lt_t, le_t, tI, NO_t, flag0, flag1, ite_or2, ite_self, true_or, or_true, false_or, or_false, true_and, and_true, false_and, and_false, not_true_eq_false, lrn_e hL, week_e, win, c1, cell_e, r74, answer_e, ansW_e, deny_e, bI]
        · obtain ⟨u, m1, m2⟩ := mod (nI 0)
          rw [ifn (show ¬ (¬ litY w week l ∨ x = 2 ∧ ¬ 3 ≤ YO w week l) from fun z => z.elim (fun y => y hq) (fun y => hx2 y.1)), fg_f q3] at m1
          refine two_y (r := if x = 0 then bI (myY w week l (YH w week l)) else if x = 1 then nI 0 else nI (YO w week l - 3)) (x := nI 0) h c2 ?_ ⟨u, m1, m2⟩
          unfold X11_taught X10_outcomeOf X11_taught_j75 X11_taught_j93
          rw [show (2 : Int32) = nI 2 from rfl]
          have hx2' : x = 0 ∨ x = 1 := by omega
          rcases h12 with ⟨z, z2⟩ | ⟨z, z2⟩ <;> rw [z] at r74 <;> rw [z2] <;> rcases hx2' with rfl | rfl <;> simp (disch := omega) only [gdn, gb0, gb1, ixn, nm1, nI_add, nI_mul, nsub, nI_ltI, nI_leI, nI_eq, eqNO, eqNO2, ltNO, NOlt, leNO, NOle, if_pos, if_neg, Option.bind_some, if_true, if_false, and_self, eq_self, l0, l1, l2, l3, l4, l5, l6, l7, l8, l9, l10, l11, l12, l13, l14, l15, l16, l17, l18, l19, l20, l24, l26, l30, l31, l32, l40, l41, l42, l43, l45, l47, l48, l57, l58, l59, l60, l61, l62, l63, l64, l97, l99, l100, l101, l102, l103, l104, l105, l106, l107, l108, l109, l110, l122, l160, l240, l255, l600, l1000, l3000, l10000, l10007, l10116, l67108863, l67108864, I_oth, I_J, J_oth, J_I, I_row, J_row, SI_row, SI_oth, SI_J, SJ_row, SJ_oth, SJ_I, upd_s, upd_n, updL_s, updL_n, ne_eq, not_false_eq_true, lt_t, le_t, tI, NO_t, flag0, flag1, ite_or2, ite_self, true_or, or_true, false_or, or_false, true_and, and_true, false_and, and_false, not_true_eq_false, lrn_e hL, week_e, win, c1, cell_e, r74, answer_e, ansW_e, deny_e, bI] <;> rfl
    · rw [jd_n hq] at hYO
      obtain ⟨u, m1, m2⟩ := mod (nI 6)
      rw [ifp (show ¬ litY w week l ∨ x = 2 ∧ ¬ 3 ≤ YO w week l from Or.inl hq)] at m1
      refine two_y (r := NO) (x := nI 6) h c2 ?_ ⟨u, m1, m2⟩
      rw [hYO] at r74
      unfold X11_taught X10_outcomeOf
      rw [show (2 : Int32) = nI 2 from rfl]
      simp (disch := omega) only [gdn, gb0, gb1, ixn, nm1, nI_add, nI_mul, nsub, nI_ltI, nI_leI, nI_eq, eqNO, eqNO2, ltNO, NOlt, leNO, NOle, if_pos, if_neg, Option.bind_some, if_true, if_false, and_self, eq_self, l0, l1, l2, l3, l4, l5, l6, l7, l8, l9, l10, l11, l12, l13, l14, l15, l16, l17, l18, l19, l20, l24, l26, l30, l31, l32, l40, l41, l42, l43, l45, l47, l48, l57, l58, l59, l60, l61, l62, l63, l64, l97, l99, l100, l101, l102, l103, l104, l105, l106, l107, l108, l109, l110, l122, l160, l240, l255, l600, l1000, l3000, l10000, l10007, l10116, l67108863, l67108864, I_oth, I_J, J_oth, J_I, I_row, J_row, SI_row, SI_oth, SI_J, SJ_row, SJ_oth, SJ_I, upd_s, upd_n, updL_s, updL_n, ne_eq, not_false_eq_true, lt_t, le_t, tI, NO_t, flag0, flag1, ite_or2, ite_self, true_or, or_true, false_or, or_false, true_and, and_true, false_and, and_false, not_true_eq_false, lrn_e hL, week_e, win, c1, cell_e, r74, deny_e]
  · refine two_ref (nI 1) (r := NO) ?_ ?_ (fun w' z => OPY.st h z)
    · unfold X11_taught X11_taught_j27
      rw [show (2 : Int32) = nI 2 from rfl]
      simp (disch := omega) only [gdn, gb0, gb1, ixn, nm1, nI_add, nI_mul, nsub, nI_ltI, nI_leI, nI_eq, eqNO, eqNO2, ltNO, NOlt, leNO, NOle, if_pos, if_neg, Option.bind_some, if_true, if_false, and_self, eq_self, l0, l1, l2, l3, l4, l5, l6, l7, l8, l9, l10, l11, l12, l13, l14, l15, l16, l17, l18, l19, l20, l24, l26, l30, l31, l32, l40, l41, l42, l43, l45, l47, l48, l57, l58, l59, l60, l61, l62, l63, l64, l97, l99, l100, l101, l102, l103, l104, l105, l106, l107, l108, l109, l110, l122, l160, l240, l255, l600, l1000, l3000, l10000, l10007, l10116, l67108863, l67108864, I_oth, I_J, J_oth, J_I, I_row, J_row, SI_row, SI_oth, SI_J, SJ_row, SJ_oth, SJ_I, upd_s, upd_n, updL_s, updL_n, ne_eq, not_false_eq_true, lt_t, le_t, tI, NO_t, flag0, flag1, ite_or2, ite_self, true_or, or_true, false_or, or_false, true_and, and_true, false_and, and_false, not_true_eq_false, lrn_e hL, week_e, win, deny_e]
    · unfold X12_taught X12_taught_j24
      have e6 : (puI w 0 10 (nI 1)).1 97 6 = nI (nn w 5 8) := by rw [I_oth (by decide), hL.2.1.2.2.1]; exact hL.1.2.2.1.1
      rw [mlr _ e6 (by omega), mweek_e]
      simp (disch := omega) only [gdn, gb0, gb1, ixn, nm1, nI_add, nI_mul, nsub, nI_ltI, nI_leI, nI_eq, eqNO, eqNO2, ltNO, NOlt, leNO, NOle, if_pos, if_neg, Option.bind_some, if_true, if_false, and_self, eq_self, l0, l1, l2, l3, l4, l5, l6, l7, l8, l9, l10, l11, l12, l13, l14, l15, l16, l17, l18, l19, l20, l24, l26, l30, l31, l32, l40, l41, l42, l43, l45, l47, l48, l57, l58, l59, l60, l61, l62, l63, l64, l97, l99, l100, l101, l102, l103, l104, l105, l106, l107, l108, l109, l110, l122, l160, l240, l255, l600, l1000, l3000, l10000, l10007, l10116, l67108863, l67108864, I_oth, I_J, J_oth, J_I, I_row, J_row, SI_row, SI_oth, SI_J, SJ_row, SJ_oth, SJ_I, upd_s, upd_n, updL_s, updL_n, ne_eq, not_false_eq_true, lt_t, le_t, tI, NO_t, flag0, flag1, ite_or2, ite_self, true_or, or_true, false_or, or_false, true_and, and_true, false_and, and_false, not_true_eq_false, mref_e]
