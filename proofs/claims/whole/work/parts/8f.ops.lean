theorem Fr.wk {S S' : List Nat} {T T' : List (Nat × Nat)} {w w' : Wd} (h : Fr S T w w') (hs : ∀ k ∈ S, k ∈ S') (ht : ∀ k ∈ T, k ∈ T') : Fr S' T' w w' := (Fr.rf (S := S') (T := T') (w := w)).next h hs ht
theorem trV_inj {w : Wd} {t M all : Nat} (h : ∀ k, k < M → ¬ badT w t all k) {a b : Nat} (ha : a < M) (hb : b < M) (e : trV w t a = trV w t b) : a = b := by
  by_cases q : a < b
  · exact (h b hb (Or.inr ⟨a, q, e⟩)).elim
  · by_cases q2 : b < a
    · exact (h a ha (Or.inr ⟨b, q2, e.symm⟩)).elim
    · omega
theorem o_send (a1 a2 a3 a4 : Int32) {w : Wd} (hL : IL w) (hN : IN w) (hC : IC w) (hT : IT w) (hS : ISm w) : two (X11_send a1 a2 a3 a4) (X12_send a1 a2 a3 a4) w (fun w' => IS w' ∧ IC w' ∧ ISm w') := by
  have b15 := hL.1.2.2.2.2.2
  have b12 := hL.1.2.2.2.1.2
  have c15 := hL.1.2.2.2.2.1
  have c12 := hL.1.2.2.2.1.1
  have m8 : w.1 97 8 = nI (nn w 5 15) := by rw [hL.2.1.2.2.2.2]; exact c15
  have m7 : w.1 97 7 = nI (nn w 5 12) := by rw [hL.2.1.2.2.2.1]; exact c12
  have stp : ∀ w', St w w' → IS w' ∧ IC w' ∧ ISm w' := fun w' z => ⟨z.is, hC.sm (z.fr.sm (by decide)), by obtain ⟨v, rfl⟩ := z; exact hS⟩
  by_cases hv : ((0 ≤ a1.toInt ∧ a1.toInt < ((4 : Nat) : Int)) ∧ (0 ≤ a2.toInt ∧ a2.toInt < ((4 : Nat) : Int))) ∧ (((1 : Nat) : Int) ≤ a3.toInt ∧ a3.toInt < ((8 : Nat) : Int)) ∧ (0 ≤ a4.toInt ∧ a4.toInt < ((60 : Nat) : Int))
  · obtain ⟨⟨h1, h2⟩, h3, h4⟩ := hv
    obtain ⟨t, ht, rfl⟩ := of_t h1
    obtain ⟨s, hs, rfl⟩ := of_t h2
    obtain ⟨M, lM, rfl⟩ := of_t (n := 8) (x := a3) (by omega)
    obtain ⟨week, hwk, rfl⟩ := of_t h4
    rw [tI (by omega)] at h3
    have hM1 : 1 ≤ M := by omega
    have hM : M ≤ 7 := by omega
    have mis : w.1 4 t = NO ∨ w.1 4 s = NO ∨ (isN w 4 t 61 ∧ isN w 4 s 61) := by
      rcases hT.2.2.2 t ht with z | z
      · exact Or.inl z
      · rcases hT.2.2.2 s hs with y | y
        · exact Or.inr (Or.inl y)
        · exact Or.inr (Or.inr ⟨z, y⟩)
    by_cases hmis : w.1 4 t = NO ∨ w.1 4 s = NO
    · refine two_ref (nI 2) (r := NO) ?_ ?_ stp
      · unfold X11_send X9_isMissing X11_send_j60
        rcases hmis with z | z
        · simp (disch := omega) only [gdn, gb0, gb1, ixn, nm1, nI_add, nI_mul, nsub, nI_ltI, nI_leI, nI_eq, eqNO, eqNO2, ltNO, NOlt, leNO, NOle, if_pos, if_neg, Option.bind_some, if_true, if_false, and_self, eq_self, l0, l1, l2, l3, l4, l5, l6, l7, l8, l9, l10, l11, l12, l13, l14, l15, l16, l17, l18, l19, l20, l24, l26, l30, l31, l32, l40, l41, l42, l43, l45, l47, l48, l57, l58, l59, l60, l61, l62, l63, l64, l97, l99, l100, l101, l102, l103, l104, l105, l106, l107, l108, l109, l110, l122, l160, l240, l255, l600, l1000, l3000, l10000, l10007, l10116, l67108863, l67108864, I_oth, I_J, J_oth, J_I, I_row, J_row, SI_row, SI_oth, SI_J, SJ_row, SJ_oth, SJ_I, upd_s, upd_n, updL_s, updL_n, ne_eq, not_false_eq_true, lt_t, le_t, tI, NO_t, flag0, flag1, ite_or2, ite_self, true_or, or_true, false_or, or_false, true_and, and_true, false_and, and_false, not_true_eq_false, tray_e, win, week_e, z, deny_e]
        · by_cases y : w.1 4 t = NO
          · simp (disch := omega) only [gdn, gb0, gb1, ixn, nm1, nI_add, nI_mul, nsub, nI_ltI, nI_leI, nI_eq, eqNO, eqNO2, ltNO, NOlt, leNO, NOle, if_pos, if_neg, Option.bind_some, if_true, if_false, and_self, eq_self, l0, l1, l2, l3, l4, l5, l6, l7, l8, l9, l10, l11, l12, l13, l14, l15, l16, l17, l18, l19, l20, l24, l26, l30, l31, l32, l40, l41, l42, l43, l45, l47, l48, l57, l58, l59, l60, l61, l62, l63, l64, l97, l99, l100, l101, l102, l103, l104, l105, l106, l107, l108, l109, l110, l122, l160, l240, l255, l600, l1000, l3000, l10000, l10007, l10116, l67108863, l67108864, I_oth, I_J, J_oth, J_I, I_row, J_row, SI_row, SI_oth, SI_J, SJ_row, SJ_oth, SJ_I, upd_s, upd_n, updL_s, updL_n, ne_eq, not_false_eq_true, lt_t, le_t, tI, NO_t, flag0, flag1, ite_or2, ite_self, true_or, or_true, false_or, or_false, true_and, and_true, false_and, and_false, not_true_eq_false, tray_e, win, week_e, y, deny_e]
          · have y' : (w.1 4 t = NO) = False := eq_false y
            simp (disch := omega) only [gdn, gb0, gb1, ixn, nm1, nI_add, nI_mul, nsub, nI_ltI, nI_leI, nI_eq, eqNO, eqNO2, ltNO, NOlt, leNO, NOle, if_pos, if_neg, Option.bind_some, if_true, if_false, and_self, eq_self, l0, l1, l2, l3, l4, l5, l6, l7, l8, l9, l10, l11, l12, l13, l14, l15, l16, l17, l18, l19, l20, l24, l26, l30, l31, l32, l40, l41, l42, l43, l45, l47, l48, l57, l58, l59, l60, l61, l62, l63, l64, l97, l99, l100, l101, l102, l103, l104, l105, l106, l107, l108, l109, l110, l122, l160, l240, l255, l600, l1000, l3000, l10000, l10007, l10116, l67108863, l67108864, I_oth, I_J, J_oth, J_I, I_row, J_row, SI_row, SI_oth, SI_J, SJ_row, SJ_oth, SJ_I, upd_s, upd_n, updL_s, updL_n, ne_eq, not_false_eq_true, lt_t, le_t, tI, NO_t, flag0, flag1, ite_or2, ite_self, true_or, or_true, false_or, or_false, true_and, and_true, false_and, and_false, not_true_eq_false, tray_e, win, week_e, z, y', deny_e]
      · unfold X12_send X12_send_j59
        rw [mtray_e, mtray_e, show (puI w 0 10 (nI 2)).1 99 = w.1 4 from hT.2.2.1]
        rcases hmis with z | z
        · simp (disch := omega) only [gdn, gb0, gb1, ixn, nm1, nI_add, nI_mul, nsub, nI_ltI, nI_leI, nI_eq, eqNO, eqNO2, ltNO, NOlt, leNO, NOle, if_pos, if_neg, Option.bind_some, if_true, if_false, and_self, eq_self, l0, l1, l2, l3, l4, l5, l6, l7, l8, l9, l10, l11, l12, l13, l14, l15, l16, l17, l18, l19, l20, l24, l26, l30, l31, l32, l40, l41, l42, l43, l45, l47, l48, l57, l58, l59, l60, l61, l62, l63, l64, l97, l99, l100, l101, l102, l103, l104, l105, l106, l107, l108, l109, l110, l122, l160, l240, l255, l600, l1000, l3000, l10000, l10007, l10116, l67108863, l67108864, I_oth, I_J, J_oth, J_I, I_row, J_row, SI_row, SI_oth, SI_J, SJ_row, SJ_oth, SJ_I, upd_s, upd_n, updL_s, updL_n, ne_eq, not_false_eq_true, lt_t, le_t, tI, NO_t, flag0, flag1, ite_or2, ite_self, true_or, or_true, false_or, or_false, true_and, and_true, false_and, and_false, not_true_eq_false, mweek_e, z, mref_e]
        · by_cases y : w.1 4 t = NO
          · simp (disch := omega) only [gdn, gb0, gb1, ixn, nm1, nI_add, nI_mul, nsub, nI_ltI, nI_leI, nI_eq, eqNO, eqNO2, ltNO, NOlt, leNO, NOle, if_pos, if_neg, Option.bind_some, if_true, if_false, and_self, eq_self, l0, l1, l2, l3, l4, l5, l6, l7, l8, l9, l10, l11, l12, l13, l14, l15, l16, l17, l18, l19, l20, l24, l26, l30, l31, l32, l40, l41, l42, l43, l45, l47, l48, l57, l58, l59, l60, l61, l62, l63, l64, l97, l99, l100, l101, l102, l103, l104, l105, l106, l107, l108, l109, l110, l122, l160, l240, l255, l600, l1000, l3000, l10000, l10007, l10116, l67108863, l67108864, I_oth, I_J, J_oth, J_I, I_row, J_row, SI_row, SI_oth, SI_J, SJ_row, SJ_oth, SJ_I, upd_s, upd_n, updL_s, updL_n, ne_eq, not_false_eq_true, lt_t, le_t, tI, NO_t, flag0, flag1, ite_or2, ite_self, true_or, or_true, false_or, or_false, true_and, and_true, false_and, and_false, not_true_eq_false, mweek_e, y, mref_e]
          · have y' : (w.1 4 t = NO) = False := eq_false y
            simp (disch := omega) only [gdn, gb0, gb1, ixn, nm1, nI_add, nI_mul, nsub, nI_ltI, nI_leI, nI_eq, eqNO, eqNO2, ltNO, NOlt, leNO, NOle, if_pos, if_neg, Option.bind_some, if_true, if_false, and_self, eq_self, l0, l1, l2, l3, l4, l5, l6, l7, l8, l9, l10, l11, l12, l13, l14, l15, l16, l17, l18, l19, l20, l24, l26, l30, l31, l32, l40, l41, l42, l43, l45, l47, l48, l57, l58, l59, l60, l61, l62, l63, l64, l97, l99, l100, l101, l102, l103, l104, l105, l106, l107, l108, l109, l110, l122, l160, l240, l255, l600, l1000, l3000, l10000, l10007, l10116, l67108863, l67108864, I_oth, I_J, J_oth, J_I, I_row, J_row, SI_row, SI_oth, SI_J, SJ_row, SJ_oth, SJ_I, upd_s, upd_n, updL_s, updL_n, ne_eq, not_false_eq_true, lt_t, le_t, tI, NO_t, flag0, flag1, ite_or2, ite_self, true_or, or_true, false_or, or_false, true_and, and_true, false_and, and_false, not_true_eq_false, mweek_e, z, y', mref_e]
    · obtain ⟨⟨et, bt⟩, es, bs⟩ := (mis.resolve_left (fun z => hmis (Or.inl z))).resolve_left (fun z => hmis (Or.inr z))
      have sub : ∀ a b : Nat, a < 2 ^ 31 → b < 2 ^ 31 → (nI a - nI b).toInt = (a : Int) - b := by
        intro a b ha hb
        rw [toInt_sub (by rw [tI ha, tI hb]; omega) (by rw [tI ha, tI hb]; omega), tI ha, tI hb]
      by_cases hre : M ≤ nn w 4 t ∧ M ≤ nn w 4 s
      · -- the rows
        have hk1 : X11_send (nI t) (nI s) (nI M) (nI week) w = ((X9_startsWithUnlike (nI t) (nI M) (w.1 5 15) w).bind fun q15 => (if q15 = 0 then X11_send_j136 w else (X9_startsWithUnlike (nI s) (nI M) (w.1 5 12) w).bind fun q19 => (if q19 = 0 then X11_send_j136 w else (X7_begin (nI M) w).bind fun q21 => (lp (X11_send_b153 (nI t) (nI s) (nI M) (nI week)) ((0 : Int32), q21)).bind fun e29 => (X4_callUp (nI week) e29).bind fun q30 => (X7_measure (nI week) q30).bind fun q32 => (X7_choose q32).bind fun q34 => (X11_answerOr (6 : Int32) q34.1 q34.2).bind fun q36 => some (q36.1, q36.2)))) := by
          unfold X11_send X9_isMissing X9_reaches
          simp (disch := omega) only [gdn, gb0, gb1, ixn, nm1, nI_add, nI_mul, nsub, nI_ltI, nI_leI, nI_eq, eqNO, eqNO2, ltNO, NOlt, leNO, NOle, if_pos, if_neg, Option.bind_some, if_true, if_false, and_self, eq_self, l0, l1, l2, l3, l4, l5, l6, l7, l8, l9, l10, l11, l12, l13, l14, l15, l16, l17, l18, l19, l20, l24, l26, l30, l31, l32, l40, l41, l42, l43, l45, l47, l48, l57, l58, l59, l60, l61, l62, l63, l64, l97, l99, l100, l101, l102, l103, l104, l105, l106, l107, l108, l109, l110, l122, l160, l240, l255, l600, l1000, l3000, l10000, l10007, l10116, l67108863, l67108864, I_oth, I_J, J_oth, J_I, I_row, J_row, SI_row, SI_oth, SI_J, SJ_row, SJ_oth, SJ_I, upd_s, upd_n, updL_s, updL_n, ne_eq, not_false_eq_true, lt_t, le_t, tI, NO_t, flag0, flag1, ite_or2, ite_self, true_or, or_true, false_or, or_false, true_and, and_true, false_and, and_false, not_true_eq_false, tray_e, win, week_e, et, es]
        have hk2 : ∀ u : Wd, u.1 99 = w.1 4 → X12_send (nI t) (nI s) (nI M) (nI week) u = ((X12_isRow 170 7 (nI t) (nI M) (u.1 97 8) u).bind fun q7 => (if q7.1 = 0 then X12_send_j125 q7.2 else (X12_isRow 171 7 (nI s) (nI M) (q7.2.1 97 7) q7.2).bind fun q11 => (if q11.1 = 0 then X12_send_j125 q11.2 else (lp (X12_send_b134 (nI M) (nI week)) ((0 : Int32), q11.2)).bind fun e21 => (lp (X12_send_b290 (nI M) e21) ((1 : Int32), (0 : Int32))).bind fun e22 => (lp (X12_send_b314 (nI M) e22) ((-1 : Int32), (0 : Int32), e21)).bind fun e31 => (if e31.1 = (-1 : Int32) then (X12_refuse (6 : Int32) e31.2).bind fun q37 => some (q37.1, q37.2) else (lp (X12_send_b462 (nI M) e31.1) ((0 : Int32), e31.2)).bind fun e33 => (some (puI e33 97 105 (nI M))).bind fun w34 => gd (¬ (1000 : Int32) = 0) <| (X12_gives (e31.1 / (1000 : Int32)) w34).bind fun q35 => some (q35.1, q35.2))))) := by
          intro u hu
          unfold X12_send
          rw [hu]
          simp (disch := omega) only [gdn, gb0, gb1, ixn, nm1, nI_add, nI_mul, nsub, nI_ltI, nI_leI, nI_eq, eqNO, eqNO2, ltNO, NOlt, leNO, NOle, if_pos, if_neg, Option.bind_some, if_true, if_false, and_self, eq_self, l0, l1, l2, l3, l4, l5, l6, l7, l8, l9, l10, l11, l12, l13, l14, l15, l16, l17, l18, l19, l20, l24, l26, l30, l31, l32, l40, l41, l42, l43, l45, l47, l48, l57, l58, l59, l60, l61, l62, l63, l64, l97, l99, l100, l101, l102, l103, l104, l105, l106, l107, l108, l109, l110, l122, l160, l240, l255, l600, l1000, l3000, l10000, l10007, l10116, l67108863, l67108864, I_oth, I_J, J_oth, J_I, I_row, J_row, SI_row, SI_oth, SI_J, SJ_row, SJ_oth, SJ_I, upd_s, upd_n, updL_s, updL_n, ne_eq, not_false_eq_true, lt_t, le_t, tI, NO_t, flag0, flag1, ite_or2, ite_self, true_or, or_true, false_or, or_false, true_and, and_true, false_and, and_false, not_true_eq_false, mtray_e, mweek_e, et, es]
        by_cases hb1 : ∀ k, k < M → ¬ badT w t (nn w 5 15) k
        · by_cases hb2 : ∀ k, k < M → ¬ badT w s (nn w 5 12) k
          · have lmOK := fun k hk => trV_e (hb1 k hk)
            have tnOK := fun k hk => trV_e (hb2 k hk)
            have hs1 := starts_e (w := w) (t := t) (M := M) (all := nn w 5 15) ht hM (by omega) c15
            have hs2 := starts_e (w := w) (t := s) (M := M) (all := nn w 5 12) hs hM (by omega) c12
            rw [fg_t hb1] at hs1
            rw [fg_t hb2] at hs2
            generalize hlm : trV w t = lm at lmOK
            generalize htn : (fun j => if j < M then trV w s j else 0) = tn
            have htnE : ∀ j, j < M → tn j = trV w s j := fun j hj => by rw [← htn]; exact if_pos hj
            have htn20 : ∀ j, tn j < 20 := by
              intro j
              rw [← htn]
              dsimp only
              split
              · rename_i hj; have := (tnOK j hj).2; omega
              · omega
            have hinj : ∀ a b, a < M → b < M → tn a = tn b → a = b := fun a b ha hb e => trV_inj hb2 ha hb (by rw [← htnE a ha, ← htnE b hb]; exact e)
            obtain ⟨f, g, hnm, hf, hg⟩ := names_e (w := puI w 88 0 (nI M)) (t := t) (s := s) (M := M) (a4 := nI week) (lm := lm) (tn := tn) ht hs hM (fun k hk => ⟨(lmOK k hk).1, by have := (lmOK k hk).2; omega⟩) (fun k hk => ⟨by rw [htnE k hk]; exact (tnOK k hk).1, htn20 k⟩)
            generalize hw2 : seI (seI (puI w 88 0 (nI M)) 89 f) 90 g = w2 at hnm
            have fr2 : Fr [89, 90] [(88, 0)] w w2 := by rw [← hw2]; exact Fr.seI (Fr.seI (Fr.pfI Fr.rf (by decide)) (by decide)) (by decide)
            obtain ⟨w3, hcu, hCU, h19, fr23⟩ := callUp_e (hL.sm (fr2.sm (by decide))) (hN.sm (fr2.sm (by decide))) (hC.sm (fr2.sm (by decide))) hwk
            have fr3 : Fr [89, 90, 26, 27, 28, 29] [(88, 0), (19, 8)] w w3 := (fr2.wk (by decide) (by decide)).next fr23 (by decide) (by decide)
            have hL3 : IL w3 := hL.sm (fr3.sm (by decide))
            have n15 : nn w3 5 15 = nn w 5 15 := nn_eq (fr3 5 (by decide) 15 (by decide)).1
            have n12 : nn w3 5 12 = nn w 5 12 := nn_eq (fr3 5 (by decide) 12 (by decide)).1
            have r88 : w3.1 88 0 = nI M := by rw [(fr23 88 (by decide) 0 (by decide)).1, ← hw2]; rfl
            have r89 : ∀ k, k < M → w3.1 89 k = nI (lm k) := fun k hk => by rw [(fr23.row 89 (by decide) (by decide)).1, ← hw2]; exact hf k hk
            have r90 : ∀ k, k < M → w3.1 90 k = nI (tn k) := fun k hk => by rw [(fr23.row 90 (by decide) (by decide)).1, ← hw2]; exact hg k hk
            obtain ⟨z, f4, hms, hf4⟩ := meas_k hL3 hwk hCU (lm := lm) (tn := tn) hM r88 (fun k hk => ⟨r89 k hk, by rw [n15]; exact (lmOK k hk).2⟩) (fun k hk => ⟨r90 k hk, by rw [n12, htnE k hk]; exact (tnOK k hk).2⟩)
            rw [arrT_fr (fr3.sm (by decide))] at hf4
            have h6 : ∀ k t, arrT w week lm tn k t < 60 ∨ arrT w week lm tn k t = 1000 := fun k t => arrT_6 hwk k t
            have hch := choose_c (A := arrT w week lm tn) (w := seI (seI w3 18 z) 91 f4) (tn := tn) h6 hM hM1 r88 hf4 (fun k hk => ⟨r90 k hk, htn20 k⟩) hinj
            have hCC : IC w3 := Or.inr ⟨week, hwk, h19, hCU⟩
            -- the model, in the world that the class leaves
            have hmod : ∀ (wc : Wd), Fr [18, 26, 27, 28, 29, 89, 90, 91, 92, 93, 94] [(0, 10), (19, 8), (88, 0), (88, 6)] w wc → ∃ best W2, Fr [107, 170, 171, 172, 173, 174, 176] [] wc W2 ∧ ((best = NO ∧ ∀ l, En M (2 ^ M - 1) l → Lc (arrT w week lm tn) 0 l = 1000) ∨ ∃ f, okR (arrT w week lm tn) M f ∧ best = nI (1000 * Lp (arrT w week lm tn) f M + Sp (arrT w week lm tn) f M) ∧ (∀ k, k < M → W2.1 176 k = nI (tn (f k))) ∧ ∀ g, okR (arrT w week lm tn) M g → (1000 * Lp (arrT w week lm tn) f M + Sp (arrT w week lm tn) f M < 1000 * Lp (arrT w week lm tn) g M + Sp (arrT w week lm tn) g M) ∨ (1000 * Lp (arrT w week lm tn) f M + Sp (arrT w week lm tn) f M = 1000 * Lp (arrT w week lm tn) g M + Sp (arrT w week lm tn) g M ∧ enc tn f M ≤ enc tn g M)) ∧ X12_send (nI t) (nI s) (nI M) (nI week) wc = (if best = NO then some (NO, puI W2 97 0 (nI 6)) else (lp (X12_send_b462 (nI M) best) (nI 0, W2)).bind fun e33 => some (best / nI 1000, puI (puI e33 97 105 (nI M)) 97 0 (nI 0))) := by
              intro wc hfc
              have u100 : wc.2 100 = w.2 2 := (hfc.row 100 (by decide) (by decide)).2.trans hT.1
              have hr1 := (isRow_e (w := w) (u := wc) (t := t) (M := M) (all := nn w 5 15) (kv := 170) (nv := 7) u100 ht hM (by omega) rfl (show wc.1 97 8 = _ from (hfc 97 (by decide) 8 (by decide)).1.trans m8)).1 hb1
              generalize hu1 : seI wc 170 (rwN M (trV w t) (wc.1 170)) = u1 at hr1
              have hr2 := (isRow_e (w := w) (u := u1) (t := s) (M := M) (all := nn w 5 12) (kv := 171) (nv := 7) (by rw [← hu1]; exact u100) hs hM (by omega) rfl (show u1.1 97 7 = _ from by rw [← hu1]; exact (hfc 97 (by decide) 7 (by decide)).1.trans m7)).1 hb2
              generalize hu2 : seI u1 171 (rwN M (trV w s) (u1.1 171)) = u2 at hr2
              have fu2 : Fr [170, 171] [] wc u2 := by rw [← hu2, ← hu1]; exact Fr.seI (Fr.seI Fr.rf (by decide)) (by decide)
              have fw2 : Fr [18, 26, 27, 28, 29, 89, 90, 91, 92, 93, 94, 170, 171] [(0, 10), (19, 8), (88, 0), (88, 6)] w u2 := (hfc.wk (by decide) (by decide)).next fu2 (by decide) (by decide)
              have q15 : nn u2 5 15 = nn w 5 15 := nn_eq (fw2 5 (by decide) 15 (by decide)).1
              have q12 : nn u2 5 12 = nn w 5 12 := nn_eq (fw2 5 (by decide) 12 (by decide)).1
              have q170 : ∀ k, k < M → u2.1 170 k = nI (lm k) := fun k hk => by rw [← hu2, ← hu1, ← hlm]; exact rwN_lt hk
              have q171 : ∀ k, k < M → u2.1 171 k = nI (tn k) := fun k hk => by rw [← hu2, htnE k hk]; exact rwN_lt hk
              obtain ⟨W, hW, fW, hW173⟩ := mmeas_k (hL.sm (fw2.sm (by decide))) (hN.sm (fw2.sm (by decide))) (lm := lm) (tn := tn) hwk hM (fun k hk => ⟨q170 k hk, by rw [q15]; exact (lmOK k hk).2⟩) (fun k hk => ⟨q171 k hk, by rw [q12, htnE k hk]; exact (tnOK k hk).2⟩)
              rw [arrT_fr (fw2.sm (by decide))] at hW173
              obtain ⟨best, W2, hlp, fW2, hq⟩ := msend_tail (w := w) (u := W) (tn := tn) hM hM1 h6 htn20 hW173 (fun k hk => by rw [(fW.row 171 (by decide) (by decide)).1]; exact q171 k hk)
              refine ⟨best, W2, ((fu2.wk (S' := [107, 170, 171, 172, 173, 174, 176]) (T' := []) (by decide) (by decide)).next fW (by decide) (by decide)).next fW2 (by decide) (by decide), hq, ?_⟩
              rw [hk2 wc ((hfc.row 99 (by decide) (by decide)).1.trans hT.2.2.1), hr1]
              simp only [Option.bind_some]
              rw [if_neg (by decide), hr2]
              simp only [Option.bind_some]
              rw [if_neg (by decide), show (0 : Int32) = nI 0 from rfl, hW]
              simp only [Option.bind_some]
              rw [show (1 : Int32) = nI 1 from rfl, rowsN_e hM]
              simp only [Option.bind_some]
              rw [show -nI 1 = NO from rfl, hlp]
              simp only [Option.bind_some]
              by_cases q : best = NO
              · rw [if_pos q, if_pos q]; rfl
              · rw [if_neg q, if_neg q]
                congr 1
                funext e33
                rw [gd_t (show ¬ (1000 : Int32) = nI 0 by decide)]
                rfl
            have hcls : ∀ (v : Int32) (w5 : Wd), X7_choose (seI (seI w3 18 z) 91 f4) = some (v, w5) → X11_send (nI t) (nI s) (nI M) (nI week) w = if v = NO then some (NO, puI w5 0 10 (nI 6)) else some (v, puI w5 0 10 (nI 0)) := by
              intro v w5 hx
              rw [hk1, hs1]
              simp only [Option.bind_some]
              rw [if_neg (by decide), hs2]
              simp only [Option.bind_some]
              rw [if_neg (by decide), show X7_begin (nI M) w = some (puI w 88 0 (nI M)) from rfl]
              simp only [Option.bind_some]
              rw [show (0 : Int32) = nI 0 from rfl, hnm]
              simp only [Option.bind_some]
              rw [hcu]
              simp only [Option.bind_some]
              rw [hms]
              simp only [Option.bind_some]
              rw [hx]
              simp only [Option.bind_some]
              rw [ansOr_e]
              by_cases q : v = NO
              · rw [if_pos q, if_pos q]; rfl
              · rw [if_neg q, if_neg q]; rfl
            have hfin : ∀ (w5 wc w' : Wd) (v : Int32) (x : Int32), X7_choose (seI (seI w3 18 z) 91 f4) = some (v, w5) → wc = puI w5 0 10 x → Fr [107, 170, 171, 172, 173, 174, 176, 175] [(97, 0), (97, 105)] wc w' → IC w' := by
              intro w5 wc w' v x hx hwc hf'
              have f5 := f_X7_choose _ _ hx
              have a1 : Fr [18, 91, 92, 93, 94] [(88, 6), (0, 10)] w3 (seI (seI w3 18 z) 91 f4) := Fr.seI (Fr.seI Fr.rf (by decide)) (by decide)
              have a2 := a1.next f5 (by decide) (by decide)
              have a3 : Fr [18, 91, 92, 93, 94] [(88, 6), (0, 10)] w3 wc := by rw [hwc]; exact a2.pfI (by decide)
              exact hCC.sm (((a3.wk (S' := [18, 91, 92, 93, 94, 107, 170, 171, 172, 173, 174, 176, 175]) (T' := [(88, 6), (0, 10), (97, 0), (97, 105)]) (by decide) (by decide)).next hf' (by decide) (by decide)).sm (by decide))
            rcases hch with ⟨hall, w5, hx, e94, e886⟩ | ⟨l, w5, ho, hl60, hx, r886, r94⟩
            · have k1 := hcls _ _ hx
              rw [if_pos rfl] at k1
              have hfc := f_X11_send _ _ _ _ w _ k1
              obtain ⟨best, W2, fW2, hq, k2⟩ := hmod _ hfc
              have hbn : best = NO := by
                rcases hq with ⟨e, -⟩ | ⟨f, hf, e, -, -⟩
                · exact e
                · exfalso
                  have h1 := hall _ (En_of hM hf.1)
                  rw [Lc_0] at h1
                  have := (div_key hM h6 hf).1
                  omega
              rw [if_pos hbn] at k2
              have g88 : (puI W2 97 0 (nI 6)).1 88 6 = w.1 88 6 := by
                rw [I_oth (by decide), (fW2 88 (by decide) 6 (by decide)).1, I_oth (by decide), e886]
                exact (fr3 88 (by decide) 6 (by decide)).1
              have g94 : (puI W2 97 0 (nI 6)).1 94 = w.1 94 := by
                rw [I_oth (by decide), (fW2.row 94 (by decide) (by decide)).1, I_oth (by decide), e94]
                exact (fr3.row 94 (by decide) (by decide)).1
              have g175 : (puI W2 97 0 (nI 6)).1 175 = w.1 175 := by
                rw [I_oth (by decide), (fW2.row 175 (by decide) (by decide)).1]
                exact (hfc.row 175 (by decide) (by decide)).1
              have g105 : (puI W2 97 0 (nI 6)).1 97 105 = w.1 97 105 := by
                rw [puI_ne (by decide), (fW2 97 (by decide) 105 (by decide)).1]
                exact (hfc 97 (by decide) 105 (by decide)).1
              refine ⟨NO, _, _, k1, k2, ?_, ?_, hS.1.eq g88, by rw [g105, g88]; exact hS.2.1, fun i hi => ?_⟩
              · show (puI W2 97 0 (nI 6)).1 0 10 = (puI W2 97 0 (nI 6)).1 97 0
                rw [I_oth (by decide), I_self, (fW2 0 (by decide) 10 (by decide)).1, I_self]
              · exact hfin w5 _ _ _ _ hx rfl ((fW2.wk (by decide) (by decide)).pfI (by decide))
              · rw [nn_eq g88] at hi
                rw [g175, g94]; exact hS.2.2 i hi
            · have k1 := hcls _ _ hx
              rw [if_neg (by rw [eqNO (by omega)]; exact id)] at k1
              have hfc := f_X11_send _ _ _ _ w _ k1
              obtain ⟨best, W2, fW2, hq, k2⟩ := hmod _ hfc
              rcases hq with ⟨e, hno⟩ | ⟨f, hf, e, hW176, hmin⟩
              · exfalso
                have := hno l ho.1
                omega
              · have hle := opt_row hM h6 htn20 ho hl60 hf hmin
                obtain ⟨d1, d2, d3⟩ := div_key hM h6 hf
                have hLl : Lc (arrT w week lm tn) 0 l = Lp (arrT w week lm tn) f M := by rw [hle, Lc_0]
                rw [if_neg (by rw [e, eqNO (by omega)]; exact id), copy175_e hM] at k2
                simp only [Option.bind_some] at k2
                rw [e, pk_div (by omega) (by omega) (by omega), d3, ← hLl] at k2
                generalize hw' : puI (puI (seI W2 175 fun k => if k < M then W2.1 176 k else W2.1 175 k) 97 105 (nI M)) 97 0 (nI 0) = w' at k2
                have g88 : w'.1 88 6 = nI M := by
                  rw [← hw']
                  show W2.1 88 6 = _
                  rw [(fW2 88 (by decide) 6 (by decide)).1]; exact r886
                have g105 : w'.1 97 105 = nI M := by rw [← hw']; rfl
                refine ⟨_, _, _, k1, k2, ?_, ?_, isN.of g88 (by omega) (by omega), by rw [g88, g105], fun i hi => ?_⟩
                · rw [← hw']
                  show W2.1 0 10 = nI 0
                  rw [(fW2 0 (by decide) 10 (by decide)).1]; exact I_self
                · refine hfin w5 (puI w5 0 10 (nI 0)) _ _ (nI 0) hx rfl ?_
                  rw [← hw']
                  exact ((fW2.wk (S' := [107, 170, 171, 172, 173, 174, 176, 175]) (T' := [(97, 0), (97, 105)]) (by decide) (by decide)).seI (by decide)).pfI (by decide) |>.pfI (by decide)
                · rw [nn_of g88 (by omega)] at hi
                  have e94 : w'.1 94 i = nI (tn (l.getD i 0)) := by
                    rw [← hw']
                    show W2.1 94 i = _
                    rw [(fW2.row 94 (by decide) (by decide)).1]; exact r94 i hi
                  have e175 : w'.1 175 i = nI (tn (f i)) := by
                    rw [← hw']
                    show (if i < M then W2.1 176 i else W2.1 175 i) = _
                    rw [if_pos hi]; exact hW176 i hi
                  rw [e94, e175, hle, suf_get M 0 i hi, Nat.zero_add]
          · refine ⟨NO, puI w 0 10 (nI 1), ?_⟩
            have hs1 := starts_e (w := w) (t := t) (M := M) (all := nn w 5 15) ht hM (by omega) c15
            have hs2 := starts_e (w := w) (t := s) (M := M) (all := nn w 5 12) hs hM (by omega) c12
            rw [fg_t hb1] at hs1
            rw [fg_f hb2] at hs2
            have hr1 := (isRow_e (w := w) (u := puI w 0 10 (nI 1)) (t := t) (M := M) (all := nn w 5 15) (kv := 170) (nv := 7) hT.1 ht hM (by omega) rfl (show (puI w 0 10 (nI 1)).1 97 8 = _ from m8)).1 hb1
            obtain ⟨f, hr2⟩ := (isRow_e (w := w) (u := seI (puI w 0 10 (nI 1)) 170 (rwN M (trV w t) ((puI w 0 10 (nI 1)).1 170))) (t := s) (M := M) (all := nn w 5 12) (kv := 171) (nv := 7) hT.1 hs hM (by omega) rfl (show (seI (puI w 0 10 (nI 1)) 170 (rwN M (trV w t) ((puI w 0 10 (nI 1)).1 170))).1 97 7 = _ from m7)).2 hb2
            refine ⟨puI (seI (seI (puI w 0 10 (nI 1)) 170 (rwN M (trV w t) ((puI w 0 10 (nI 1)).1 170))) 171 f) 97 0 (nI 1), ?_, ?_, ?_⟩
            · rw [hk1, hs1]
              simp only [Option.bind_some]
              rw [if_neg (by decide), hs2]
              simp only [Option.bind_some]
              rw [if_pos (by decide)]
              rfl
            · rw [hk2 (puI w 0 10 (nI 1)) hT.2.2.1, hr1]
              simp only [Option.bind_some]
              rw [if_neg (by decide), hr2]
              simp only [Option.bind_some]
              rw [if_pos (by decide)]
              rfl
            · refine ⟨rfl, ?_, hS⟩
              have hfr : Fr [170, 171] [(0, 10), (97, 0)] w (puI (seI (seI (puI w 0 10 (nI 1)) 170 (rwN M (trV w t) ((puI w 0 10 (nI 1)).1 170))) 171 f) 97 0 (nI 1)) := Fr.pfI (Fr.seI (Fr.seI (Fr.pfI Fr.rf (by decide)) (by decide)) (by decide)) (by decide)
              exact hC.sm (hfr.sm (by decide))
        · have hs1 := starts_e (w := w) (t := t) (M := M) (all := nn w 5 15) ht hM (by omega) c15
          rw [fg_f hb1] at hs1
          obtain ⟨f, hr1⟩ := (isRow_e (w := w) (u := puI w 0 10 (nI 1)) (t := t) (M := M) (all := nn w 5 15) (kv := 170) (nv := 7) hT.1 ht hM (by omega) rfl (show (puI w 0 10 (nI 1)).1 97 8 = _ from m8)).2 hb1
          refine ⟨NO, puI w 0 10 (nI 1), puI (seI (puI w 0 10 (nI 1)) 170 f) 97 0 (nI 1), ?_, ?_, ?_⟩
          · rw [hk1, hs1]
            simp only [Option.bind_some]
            rw [if_pos (by decide)]
            rfl
          · rw [hk2 (puI w 0 10 (nI 1)) hT.2.2.1, hr1]
            simp only [Option.bind_some]
            rw [if_pos (by decide)]
            rfl
          · refine ⟨rfl, ?_, hS⟩
            have hfr : Fr [170] [(0, 10), (97, 0)] w (puI (seI (puI w 0 10 (nI 1)) 170 f) 97 0 (nI 1)) := Fr.pfI (Fr.seI (Fr.pfI Fr.rf (by decide)) (by decide)) (by decide)
            exact hC.sm (hfr.sm (by decide))
      · refine two_ref (nI 3) (r := NO) ?_ ?_ stp
        · unfold X11_send X9_isMissing X9_reaches X11_send_j92
          by_cases z : M ≤ nn w 4 t
          · simp (disch := omega) only [gdn, gb0, gb1, ixn, nm1, nI_add, nI_mul, nsub, nI_ltI, nI_leI, nI_eq, eqNO, eqNO2, ltNO, NOlt, leNO, NOle, if_pos, if_neg, Option.bind_some, if_true, if_false, and_self, eq_self, l0, l1, l2, l3, l4, l5, l6, l7, l8, l9, l10, l11, l12, l13, l14, l15, l16, l17, l18, l19, l20, l24, l26, l30, l31, l32, l40, l41, l42, l43, l45, l47, l48, l57, l58, l59, l60, l61, l62, l63, l64, l97, l99, l100, l101, l102, l103, l104, l105, l106, l107, l108, l109, l110, l122, l160, l240, l255, l600, l1000, l3000, l10000, l10007, l10116, l67108863, l67108864, I_oth, I_J, J_oth, J_I, I_row, J_row, SI_row, SI_oth, SI_J, SJ_row, SJ_oth, SJ_I, upd_s, upd_n, updL_s, updL_n, ne_eq, not_false_eq_true, lt_t, le_t, tI, NO_t, flag0, flag1, ite_or2, ite_self, true_or, or_true, false_or, or_false, true_and, and_true, false_and, and_false, not_true_eq_false, tray_e, win, week_e, et, es, deny_e, sub]
          · simp (disch := omega) only [gdn, gb0, gb1, ixn, nm1, nI_add, nI_mul, nsub, nI_ltI, nI_leI, nI_eq, eqNO, eqNO2, ltNO, NOlt, leNO, NOle, if_pos, if_neg, Option.bind_some, if_true, if_false, and_self, eq_self, l0, l1, l2, l3, l4, l5, l6, l7, l8, l9, l10, l11, l12, l13, l14, l15, l16, l17, l18, l19, l20, l24, l26, l30, l31, l32, l40, l41, l42, l43, l45, l47, l48, l57, l58, l59, l60, l61, l62, l63, l64, l97, l99, l100, l101, l102, l103, l104, l105, l106, l107, l108, l109, l110, l122, l160, l240, l255, l600, l1000, l3000, l10000, l10007, l10116, l67108863, l67108864, I_oth, I_J, J_oth, J_I, I_row, J_row, SI_row, SI_oth, SI_J, SJ_row, SJ_oth, SJ_I, upd_s, upd_n, updL_s, updL_n, ne_eq, not_false_eq_true, lt_t, le_t, tI, NO_t, flag0, flag1, ite_or2, ite_self, true_or, or_true, false_or, or_false, true_and, and_true, false_and, and_false, not_true_eq_false, tray_e, win, week_e, et, es, deny_e, sub]
        · unfold X12_send X12_send_j85
          rw [show (puI w 0 10 (nI 3)).1 99 = w.1 4 from hT.2.2.1]
          by_cases z : M ≤ nn w 4 t
          · simp (disch := omega) only [gdn, gb0, gb1, ixn, nm1, nI_add, nI_mul, nsub, nI_ltI, nI_leI, nI_eq, eqNO, eqNO2, ltNO, NOlt, leNO, NOle, if_pos, if_neg, Option.bind_some, if_true, if_false, and_self, eq_self, l0, l1, l2, l3, l4, l5, l6, l7, l8, l9, l10, l11, l12, l13, l14, l15, l16, l17, l18, l19, l20, l24, l26, l30, l31, l32, l40, l41, l42, l43, l45, l47, l48, l57, l58, l59, l60, l61, l62, l63, l64, l97, l99, l100, l101, l102, l103, l104, l105, l106, l107, l108, l109, l110, l122, l160, l240, l255, l600, l1000, l3000, l10000, l10007, l10116, l67108863, l67108864, I_oth, I_J, J_oth, J_I, I_row, J_row, SI_row, SI_oth, SI_J, SJ_row, SJ_oth, SJ_I, upd_s, upd_n, updL_s, updL_n, ne_eq, not_false_eq_true, lt_t, le_t, tI, NO_t, flag0, flag1, ite_or2, ite_self, true_or, or_true, false_or, or_false, true_and, and_true, false_and, and_false, not_true_eq_false, mtray_e, mweek_e, et, es, mref_e]
          · simp (disch := omega) only [gdn, gb0, gb1, ixn, nm1, nI_add, nI_mul, nsub, nI_ltI, nI_leI, nI_eq, eqNO, eqNO2, ltNO, NOlt, leNO, NOle, if_pos, if_neg, Option.bind_some, if_true, if_false, and_self, eq_self, l0, l1, l2, l3, l4, l5, l6, l7, l8, l9, l10, l11, l12, l13, l14, l15, l16, l17, l18, l19, l20, l24, l26, l30, l31, l32, l40, l41, l42, l43, l45, l47, l48, l57, l58, l59, l60, l61, l62, l63, l64, l97, l99, l100, l101, l102, l103, l104, l105, l106, l107, l108, l109, l110, l122, l160, l240, l255, l600, l1000, l3000, l10000, l10007, l10116, l67108863, l67108864, I_oth, I_J, J_oth, J_I, I_row, J_row, SI_row, SI_oth, SI_J, SJ_row, SJ_oth, SJ_I, upd_s, upd_n, updL_s, updL_n, ne_eq, not_false_eq_true, lt_t, le_t, tI, NO_t, flag0, flag1, ite_or2, ite_self, true_or, or_true, false_or, or_false, true_and, and_true, false_and, and_false, not_true_eq_false, mtray_e, mweek_e, et, es, mref_e]
  · refine two_ref (nI 1) (r := NO) ?_ ?_ stp
    · unfold X11_send X11_send_j32
      simp (disch := omega) only [gdn, gb0, gb1, ixn, nm1, nI_add, nI_mul, nsub, nI_ltI, nI_leI, nI_eq, eqNO, eqNO2, ltNO, NOlt, leNO, NOle, if_pos, if_neg, Option.bind_some, if_true, if_false, and_self, eq_self, l0, l1, l2, l3, l4, l5, l6, l7, l8, l9, l10, l11, l12, l13, l14, l15, l16, l17, l18, l19, l20, l24, l26, l30, l31, l32, l40, l41, l42, l43, l45, l47, l48, l57, l58, l59, l60, l61, l62, l63, l64, l97, l99, l100, l101, l102, l103, l104, l105, l106, l107, l108, l109, l110, l122, l160, l240, l255, l600, l1000, l3000, l10000, l10007, l10116, l67108863, l67108864, I_oth, I_J, J_oth, J_I, I_row, J_row, SI_row, SI_oth, SI_J, SJ_row, SJ_oth, SJ_I, upd_s, upd_n, updL_s, updL_n, ne_eq, not_false_eq_true, lt_t, le_t, tI, NO_t, flag0, flag1, ite_or2, ite_self, true_or, or_true, false_or, or_false, true_and, and_true, false_and, and_false, not_true_eq_false, tray_e, win, week_e, deny_e]
    · unfold X12_send X12_send_j33
      simp (disch := omega) only [gdn, gb0, gb1, ixn, nm1, nI_add, nI_mul, nsub, nI_ltI, nI_leI, nI_eq, eqNO, eqNO2, ltNO, NOlt, leNO, NOle, if_pos, if_neg, Option.bind_some, if_true, if_false, and_self, eq_self, l0, l1, l2, l3, l4, l5, l6, l7, l8, l9, l10, l11, l12, l13, l14, l15, l16, l17, l18, l19, l20, l24, l26, l30, l31, l32, l40, l41, l42, l43, l45, l47, l48, l57, l58, l59, l60, l61, l62, l63, l64, l97, l99, l100, l101, l102, l103, l104, l105, l106, l107, l108, l109, l110, l122, l160, l240, l255, l600, l1000, l3000, l10000, l10007, l10116, l67108863, l67108864, I_oth, I_J, J_oth, J_I, I_row, J_row, SI_row, SI_oth, SI_J, SJ_row, SJ_oth, SJ_I, upd_s, upd_n, updL_s, updL_n, ne_eq, not_false_eq_true, lt_t, le_t, tI, NO_t, flag0, flag1, ite_or2, ite_self, true_or, or_true, false_or, or_false, true_and, and_true, false_and, and_false, not_true_eq_false, mtray_e, mweek_e, mref_e]
