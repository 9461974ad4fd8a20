/-! TRAYS -/
def IT (w : Wd) : Prop := w.2 100 = w.2 2 ∧ w.1 98 = w.1 3 ∧ w.1 99 = w.1 4 ∧ ∀ t, t < 4 → w.1 4 t = NO ∨ isN w 4 t 61
def sR_T : List Nat := [2, 3, 4, 98, 99, 100]
theorem IT.sm {w w' : Wd} (h : IT w) (e : Sm sR_T [] w w') : IT w' := by
  have e2 := e.1 2 (by decide)
  have e3 := e.1 3 (by decide)
  have e4 := e.1 4 (by decide)
  have e98 := e.1 98 (by decide)
  have e99 := e.1 99 (by decide)
  have e100 := e.1 100 (by decide)
  refine ⟨by rw [e2.2, e100.2]; exact h.1, by rw [e3.1, e98.1]; exact h.2.1, by rw [e4.1, e99.1]; exact h.2.2.1, fun t ht => ?_⟩
  rcases h.2.2.2 t ht with q | q
  · exact Or.inl (by rw [e4.1]; exact q)
  · exact Or.inr (q.row e4.1)
theorem lit_m1 : (-1 : Int32) = NO := rfl
theorem o_tray (a1 a2 a3 : Int32) {w : Wd} (h : IT w) : two (X11_tray a1 a2 a3) (X12_tray a1 a2 a3) w (fun w' => St w w' ∨ (IS w' ∧ IT w')) := by
  by_cases hv : (0 ≤ a1.toInt ∧ a1.toInt < ((4 : Nat) : Int)) ∧ (0 ≤ a2.toInt ∧ a2.toInt < ((4 : Nat) : Int)) ∧ (0 ≤ a3.toInt ∧ a3.toInt < ((61 : Nat) : Int))
  · obtain ⟨h1, h2, h3⟩ := hv
    obtain ⟨t, ht, rfl⟩ := of_t h1
    obtain ⟨m, hm, rfl⟩ := of_t h3
    have e1 : X11_tray (nI t) a2 (nI m) w = some (nI 1, puI (seJ (puI (puI w 3 t a2) 4 t (nI m)) 2 (fun j => if 60 * t ≤ j ∧ j < 60 * t + m then 0 else w.2 2 j)) 0 10 (nI 0)) := by
      unfold X11_tray X9_lay
      rw [show nI t * (60 : Int32) = nI (60 * t) from by rw [show (60 : Int32) = nI 60 from rfl, nI_mul, Nat.mul_comm]]
      simp (disch := omega) only [gdn, gb0, gb1, ixn, nm1, nI_add, nI_mul, nsub, nI_ltI, nI_leI, nI_eq, eqNO, eqNO2, ltNO, NOlt, leNO, NOle, if_pos, if_neg, Option.bind_some, if_true, if_false, and_self, eq_self, l0, l1, l2, l3, l4, l5, l6, l7, l8, l9, l10, l11, l12, l13, l14, l15, l16, l17, l18, l19, l20, l24, l26, l30, l31, l32, l40, l41, l42, l43, l45, l47, l48, l57, l58, l59, l60, l61, l62, l63, l64, l97, l99, l100, l101, l102, l103, l104, l105, l106, l107, l108, l109, l110, l122, l160, l240, l255, l600, l1000, l3000, l10000, l10007, l10116, l67108863, l67108864, I_oth, I_J, J_oth, J_I, I_row, J_row, SI_row, SI_oth, SI_J, SJ_row, SJ_oth, SJ_I, upd_s, upd_n, updL_s, updL_n, ne_eq, not_false_eq_true, lt_t, le_t, tI, NO_t, flag0, flag1, ite_or2, ite_self, true_or, or_true, false_or, or_false, true_and, and_true, false_and, and_false, not_true_eq_false, tray_e, wil, win, agree_e, fillJ]
    refine ⟨_, _, puI (seJ (puI (puI (puI (seJ (puI (puI w 3 t a2) 4 t (nI m)) 2 (fun j => if 60 * t ≤ j ∧ j < 60 * t + m then 0 else w.2 2 j)) 0 10 (nI 0)) 98 t a2) 99 t (nI m)) 100 (fun j => if 60 * t ≤ j ∧ j < 60 * t + m then 0 else w.2 100 j)) 97 0 (nI 0), e1, ?_, Or.inr ⟨?_, ?_⟩⟩
    · generalize hw0 : puI (seJ (puI (puI w 3 t a2) 4 t (nI m)) 2 (fun j => if 60 * t ≤ j ∧ j < 60 * t + m then 0 else w.2 2 j)) 0 10 (nI 0) = w0
      have e100 : (puI (puI w0 98 t a2) 99 t (nI m)).2 100 = w.2 100 := by rw [← hw0]; rfl
      have hlp := lp_for (b := X12_tray_b49 (nI t) (nI m)) (fun i => (nI i, seJ (puI (puI w0 98 t a2) 99 t (nI m)) 100 (fun j => if 60 * t ≤ j ∧ j < 60 * t + i then 0 else w.2 100 j))) m (e := seJ (puI (puI w0 98 t a2) 99 t (nI m)) 100 (fun j => if 60 * t ≤ j ∧ j < 60 * t + m then 0 else w.2 100 j)) (fun i hi => ?_) ?_ 0 (Nat.zero_le _)
      · rw [seJ_same (by funext j; rw [if_neg (by omega), e100])] at hlp
        unfold X12_tray
        rw [mtray_e]
        simp (disch := omega) only [gdn, gb0, gb1, ixn, nm1, nI_add, nI_mul, nsub, nI_ltI, nI_leI, nI_eq, eqNO, eqNO2, ltNO, NOlt, leNO, NOle, if_pos, if_neg, Option.bind_some, if_true, if_false, and_self, eq_self, l0, l1, l2, l3, l4, l5, l6, l7, l8, l9, l10, l11, l12, l13, l14, l15, l16, l17, l18, l19, l20, l24, l26, l30, l31, l32, l40, l41, l42, l43, l45, l47, l48, l57, l58, l59, l60, l61, l62, l63, l64, l97, l99, l100, l101, l102, l103, l104, l105, l106, l107, l108, l109, l110, l122, l160, l240, l255, l600, l1000, l3000, l10000, l10007, l10116, l67108863, l67108864, I_oth, I_J, J_oth, J_I, I_row, J_row, SI_row, SI_oth, SI_J, SJ_row, SJ_oth, SJ_I, upd_s, upd_n, updL_s, updL_n, ne_eq, not_false_eq_true, lt_t, le_t, tI, NO_t, flag0, flag1, ite_or2, ite_self, true_or, or_true, false_or, or_false, true_and, and_true, false_and, and_false, not_true_eq_false, hlp, mis_e]
      · unfold X12_tray_b49
        simp (disch := omega) only [gdn, gb0, gb1, ixn, nm1, nI_add, nI_mul, nsub, nI_ltI, nI_leI, nI_eq, eqNO, eqNO2, ltNO, NOlt, leNO, NOle, if_pos, if_neg, Option.bind_some, if_true, if_false, and_self, eq_self, l0, l1, l2, l3, l4, l5, l6, l7, l8, l9, l10, l11, l12, l13, l14, l15, l16, l17, l18, l19, l20, l24, l26, l30, l31, l32, l40, l41, l42, l43, l45, l47, l48, l57, l58, l59, l60, l61, l62, l63, l64, l97, l99, l100, l101, l102, l103, l104, l105, l106, l107, l108, l109, l110, l122, l160, l240, l255, l600, l1000, l3000, l10000, l10007, l10116, l67108863, l67108864, pu_seJ]
        congr 4
        funext j
        unfold vp_updL
        dsimp only
        by_cases hj : j = 60 * t + i
        · subst hj; simp
        · rw [if_neg hj]
          by_cases h2 : 60 * t ≤ j ∧ j < 60 * t + i
          · rw [if_pos h2, if_pos (by omega)]
          · rw [if_neg h2, if_neg (by omega)]
      · unfold X12_tray_b49
        simp (disch := omega) only [gdn, gb0, gb1, ixn, nm1, nI_add, nI_mul, nsub, nI_ltI, nI_leI, nI_eq, eqNO, eqNO2, ltNO, NOlt, leNO, NOle, if_pos, if_neg, Option.bind_some, if_true, if_false, and_self, eq_self, l0, l1, l2, l3, l4, l5, l6, l7, l8, l9, l10, l11, l12, l13, l14, l15, l16, l17, l18, l19, l20, l24, l26, l30, l31, l32, l40, l41, l42, l43, l45, l47, l48, l57, l58, l59, l60, l61, l62, l63, l64, l97, l99, l100, l101, l102, l103, l104, l105, l106, l107, l108, l109, l110, l122, l160, l240, l255, l600, l1000, l3000, l10000, l10007, l10116, l67108863, l67108864]
    · exact rfl
    · refine ⟨?_, ?_, ?_, fun q hq => ?_⟩
      · funext j
        show (if 60 * t ≤ j ∧ j < 60 * t + m then 0 else w.2 100 j) = if 60 * t ≤ j ∧ j < 60 * t + m then 0 else w.2 2 j
        rw [h.1]
      · show upd (w.1 98) t a2 = upd (w.1 3) t a2
        rw [h.2.1]
      · show upd (w.1 99) t (nI m) = upd (w.1 4) t (nI m)
        rw [h.2.2.1]
      · by_cases hqt : q = t
        · subst hqt
          exact Or.inr (isN.of (n := m) (show upd (w.1 4) q (nI m) q = nI m from upd_s) (by omega) (by decide))
        · rcases h.2.2.2 q hq with e | e
          · exact Or.inl ((show upd (w.1 4) t (nI m) q = w.1 4 q from upd_n hqt).trans e)
          · exact Or.inr (isN.of (n := nn w 4 q) ((show upd (w.1 4) t (nI m) q = w.1 4 q from upd_n hqt).trans e.1) e.2 (by decide))
  · refine two_ref (nI 1) (r := nI 0) ?_ ?_ (fun w' z => Or.inl z)
    · unfold X11_tray X11_tray_j26
      simp (disch := omega) only [gdn, gb0, gb1, ixn, nm1, nI_add, nI_mul, nsub, nI_ltI, nI_leI, nI_eq, eqNO, eqNO2, ltNO, NOlt, leNO, NOle, if_pos, if_neg, Option.bind_some, if_true, if_false, and_self, eq_self, l0, l1, l2, l3, l4, l5, l6, l7, l8, l9, l10, l11, l12, l13, l14, l15, l16, l17, l18, l19, l20, l24, l26, l30, l31, l32, l40, l41, l42, l43, l45, l47, l48, l57, l58, l59, l60, l61, l62, l63, l64, l97, l99, l100, l101, l102, l103, l104, l105, l106, l107, l108, l109, l110, l122, l160, l240, l255, l600, l1000, l3000, l10000, l10007, l10116, l67108863, l67108864, I_oth, I_J, J_oth, J_I, I_row, J_row, SI_row, SI_oth, SI_J, SJ_row, SJ_oth, SJ_I, upd_s, upd_n, updL_s, updL_n, ne_eq, not_false_eq_true, lt_t, le_t, tI, NO_t, flag0, flag1, ite_or2, ite_self, true_or, or_true, false_or, or_false, true_and, and_true, false_and, and_false, not_true_eq_false, tray_e, wil, win, refuse_e]
    · unfold X12_tray X12_tray_j26
      simp (disch := omega) only [gdn, gb0, gb1, ixn, nm1, nI_add, nI_mul, nsub, nI_ltI, nI_leI, nI_eq, eqNO, eqNO2, ltNO, NOlt, leNO, NOle, if_pos, if_neg, Option.bind_some, if_true, if_false, and_self, eq_self, l0, l1, l2, l3, l4, l5, l6, l7, l8, l9, l10, l11, l12, l13, l14, l15, l16, l17, l18, l19, l20, l24, l26, l30, l31, l32, l40, l41, l42, l43, l45, l47, l48, l57, l58, l59, l60, l61, l62, l63, l64, l97, l99, l100, l101, l102, l103, l104, l105, l106, l107, l108, l109, l110, l122, l160, l240, l255, l600, l1000, l3000, l10000, l10007, l10116, l67108863, l67108864, I_oth, I_J, J_oth, J_I, I_row, J_row, SI_row, SI_oth, SI_J, SJ_row, SJ_oth, SJ_I, upd_s, upd_n, updL_s, updL_n, ne_eq, not_false_eq_true, lt_t, le_t, tI, NO_t, flag0, flag1, ite_or2, ite_self, true_or, or_true, false_or, or_false, true_and, and_true, false_and, and_false, not_true_eq_false, mtray_e, mis_e]
/-! why not -/
noncomputable def wn (w : Wd) (a1 a2 : Int32) : Nat := if ¬ (0 ≤ a1.toInt ∧ a1.toInt < ((4 : Nat) : Int)) then 1 else if w.1 4 (ix a1) = NO then 2 else if 0 ≤ a2.toInt ∧ a2.toInt < (nn w 4 (ix a1) : Int) then 0 else 3
theorem wn_le (w : Wd) (a1 a2 : Int32) : wn w a1 a2 < 4 := by
  unfold wn
  split
  · omega
  · split
    · omega
    · split <;> omega
theorem wn_0 {w : Wd} (h : IT w) {a1 a2 : Int32} (e : wn w a1 a2 = 0) : ∃ t p : Nat, t < 4 ∧ p < 60 ∧ a1 = nI t ∧ a2 = nI p := by
  unfold wn at e
  by_cases h1 : 0 ≤ a1.toInt ∧ a1.toInt < ((4 : Nat) : Int)
  · rw [if_neg (fun z => z h1)] at e
    obtain ⟨t, ht, rfl⟩ := of_t h1
    rw [ixn (by omega)] at e
    by_cases h2 : w.1 4 t = NO
    · rw [if_pos h2] at e; omega
    · rw [if_neg h2] at e
      by_cases h3 : 0 ≤ a2.toInt ∧ a2.toInt < (nn w 4 t : Int)
      · obtain ⟨p, hp, rfl⟩ := of_t h3
        have := (h.2.2.2 t ht).resolve_left h2
        have := this.2
        exact ⟨t, p, ht, by omega, rfl, rfl⟩
      · rw [if_neg h3] at e; omega
  · rw [if_pos h1] at e; omega
theorem why_e {w : Wd} (h : IT w) (a1 a2 : Int32) : X9_whyNot a1 a2 w = some (nI (wn w a1 a2)) := by
  unfold X9_whyNot wn
  rw [tray_e]
  by_cases h1 : 0 ≤ a1.toInt ∧ a1.toInt < ((4 : Nat) : Int)
  · rw [if_neg (show ¬ ¬ (0 ≤ a1.toInt ∧ a1.toInt < ((4 : Nat) : Int)) from fun z => z h1)]
    obtain ⟨t, ht, rfl⟩ := of_t h1
    unfold X9_isMissing
    rw [ixn (by omega)]
    rcases h.2.2.2 t ht with q | q
    · simp (disch := omega) only [gdn, gb0, gb1, ixn, nm1, nI_add, nI_mul, nsub, nI_ltI, nI_leI, nI_eq, eqNO, eqNO2, ltNO, NOlt, leNO, NOle, if_pos, if_neg, Option.bind_some, if_true, if_false, and_self, eq_self, l0, l1, l2, l3, l4, l5, l6, l7, l8, l9, l10, l11, l12, l13, l14, l15, l16, l17, l18, l19, l20, l24, l26, l30, l31, l32, l40, l41, l42, l43, l45, l47, l48, l57, l58, l59, l60, l61, l62, l63, l64, l97, l99, l100, l101, l102, l103, l104, l105, l106, l107, l108, l109, l110, l122, l160, l240, l255, l600, l1000, l3000, l10000, l10007, l10116, l67108863, l67108864, I_oth, I_J, J_oth, J_I, I_row, J_row, SI_row, SI_oth, SI_J, SJ_row, SJ_oth, SJ_I, upd_s, upd_n, updL_s, updL_n, ne_eq, not_false_eq_true, lt_t, le_t, tI, NO_t, flag0, flag1, ite_or2, ite_self, true_or, or_true, false_or, or_false, true_and, and_true, false_and, and_false, not_true_eq_false, q]
    · have hne : (w.1 4 t = NO) = False := by rw [q.1]; have := q.2; rw [eqNO (by omega)]
      have := q.2
      rw [wic a2 w q.1 (by omega)]
      by_cases h3 : 0 ≤ a2.toInt ∧ a2.toInt < (nn w 4 t : Int)
      · simp (disch := omega) only [gdn, gb0, gb1, ixn, nm1, nI_add, nI_mul, nsub, nI_ltI, nI_leI, nI_eq, eqNO, eqNO2, ltNO, NOlt, leNO, NOle, if_pos, if_neg, Option.bind_some, if_true, if_false, and_self, eq_self, l0, l1, l2, l3, l4, l5, l6, l7, l8, l9, l10, l11, l12, l13, l14, l15, l16, l17, l18, l19, l20, l24, l26, l30, l31, l32, l40, l41, l42, l43, l45, l47, l48, l57, l58, l59, l60, l61, l62, l63, l64, l97, l99, l100, l101, l102, l103, l104, l105, l106, l107, l108, l109, l110, l122, l160, l240, l255, l600, l1000, l3000, l10000, l10007, l10116, l67108863, l67108864, I_oth, I_J, J_oth, J_I, I_row, J_row, SI_row, SI_oth, SI_J, SJ_row, SJ_oth, SJ_I, upd_s, upd_n, updL_s, updL_n, ne_eq, not_false_eq_true, lt_t, le_t, tI, NO_t, flag0, flag1, ite_or2, ite_self, true_or, or_true, false_or, or_false, true_and, and_true, false_and, and_false, not_true_eq_false, hne]
      · simp (disch := omega) only [gdn, gb0, gb1, ixn, nm1, nI_add, nI_mul, nsub, nI_ltI, nI_leI, nI_eq, eqNO, eqNO2, ltNO, NOlt, leNO, NOle, if_pos, if_neg, Option.bind_some, if_true, if_false, and_self, eq_self, l0, l1, l2, l3, l4, l5, l6, l7, l8, l9, l10, l11, l12, l13, l14, l15, l16, l17, l18, l19, l20, l24, l26, l30, l31, l32, l40, l41, l42, l43, l45, l47, l48, l57, l58, l59, l60, l61, l62, l63, l64, l97, l99, l100, l101, l102, l103, l104, l105, l106, l107, l108, l109, l110, l122, l160, l240, l255, l600, l1000, l3000, l10000, l10007, l10116, l67108863, l67108864, I_oth, I_J, J_oth, J_I, I_row, J_row, SI_row, SI_oth, SI_J, SJ_row, SJ_oth, SJ_I, upd_s, upd_n, updL_s, updL_n, ne_eq, not_false_eq_true, lt_t, le_t, tI, NO_t, flag0, flag1, ite_or2, ite_self, true_or, or_true, false_or, or_false, true_and, and_true, false_and, and_false, not_true_eq_false, hne]
  · simp (disch := omega) only [gdn, gb0, gb1, ixn, nm1, nI_add, nI_mul, nsub, nI_ltI, nI_leI, nI_eq, eqNO, eqNO2, ltNO, NOlt, leNO, NOle, if_pos, if_neg, Option.bind_some, if_true, if_false, and_self, eq_self, l0, l1, l2, l3, l4, l5, l6, l7, l8, l9, l10, l11, l12, l13, l14, l15, l16, l17, l18, l19, l20, l24, l26, l30, l31, l32, l40, l41, l42, l43, l45, l47, l48, l57, l58, l59, l60, l61, l62, l63, l64, l97, l99, l100, l101, l102, l103, l104, l105, l106, l107, l108, l109, l110, l122, l160, l240, l255, l600, l1000, l3000, l10000, l10007, l10116, l67108863, l67108864, I_oth, I_J, J_oth, J_I, I_row, J_row, SI_row, SI_oth, SI_J, SJ_row, SJ_oth, SJ_I, upd_s, upd_n, updL_s, updL_n, ne_eq, not_false_eq_true, lt_t, le_t, tI, NO_t, flag0, flag1, ite_or2, ite_self, true_or, or_true, false_or, or_false, true_and, and_true, false_and, and_false, not_true_eq_false]
theorem mwhy_e {w : Wd} (h : IT w) (a1 a2 : Int32) : X12_wrongPlace a1 a2 w = some (nI (wn w a1 a2)) := by
  unfold X12_wrongPlace wn
  rw [mtray_e, h.2.2.1]
  by_cases h1 : 0 ≤ a1.toInt ∧ a1.toInt < ((4 : Nat) : Int)
  · rw [if_neg (show ¬ ¬ (0 ≤ a1.toInt ∧ a1.toInt < ((4 : Nat) : Int)) from fun z => z h1)]
    obtain ⟨t, ht, rfl⟩ := of_t h1
    rw [ixn (by omega)]
    rcases h.2.2.2 t ht with q | q
    · simp (disch := omega) only [gdn, gb0, gb1, ixn, nm1, nI_add, nI_mul, nsub, nI_ltI, nI_leI, nI_eq, eqNO, eqNO2, ltNO, NOlt, leNO, NOle, if_pos, if_neg, Option.bind_some, if_true, if_false, and_self, eq_self, l0, l1, l2, l3, l4, l5, l6, l7, l8, l9, l10, l11, l12, l13, l14, l15, l16, l17, l18, l19, l20, l24, l26, l30, l31, l32, l40, l41, l42, l43, l45, l47, l48, l57, l58, l59, l60, l61, l62, l63, l64, l97, l99, l100, l101, l102, l103, l104, l105, l106, l107, l108, l109, l110, l122, l160, l240, l255, l600, l1000, l3000, l10000, l10007, l10116, l67108863, l67108864, I_oth, I_J, J_oth, J_I, I_row, J_row, SI_row, SI_oth, SI_J, SJ_row, SJ_oth, SJ_I, upd_s, upd_n, updL_s, updL_n, ne_eq, not_false_eq_true, lt_t, le_t, tI, NO_t, flag0, flag1, ite_or2, ite_self, true_or, or_true, false_or, or_false, true_and, and_true, false_and, and_false, not_true_eq_false, q]
    · have := q.2
      rw [q.1]
      by_cases h3 : 0 ≤ a2.toInt ∧ a2.toInt < (nn w 4 t : Int)
      · simp (disch := omega) only [gdn, gb0, gb1, ixn, nm1, nI_add, nI_mul, nsub, nI_ltI, nI_leI, nI_eq, eqNO, eqNO2, ltNO, NOlt, leNO, NOle, if_pos, if_neg, Option.bind_some, if_true, if_false, and_self, eq_self, l0, l1, l2, l3, l4, l5, l6, l7, l8, l9, l10, l11, l12, l13, l14, l15, l16, l17, l18, l19, l20, l24, l26, l30, l31, l32, l40, l41, l42, l43, l45, l47, l48, l57, l58, l59, l60, l61, l62, l63, l64, l97, l99, l100, l101, l102, l103, l104, l105, l106, l107, l108, l109, l110, l122, l160, l240, l255, l600, l1000, l3000, l10000, l10007, l10116, l67108863, l67108864, I_oth, I_J, J_oth, J_I, I_row, J_row, SI_row, SI_oth, SI_J, SJ_row, SJ_oth, SJ_I, upd_s, upd_n, updL_s, updL_n, ne_eq, not_false_eq_true, lt_t, le_t, tI, NO_t, flag0, flag1, ite_or2, ite_self, true_or, or_true, false_or, or_false, true_and, and_true, false_and, and_false, not_true_eq_false]
      · by_cases h4 : a2.toInt < 0
        · simp (disch := omega) only [gdn, gb0, gb1, ixn, nm1, nI_add, nI_mul, nsub, nI_ltI, nI_leI, nI_eq, eqNO, eqNO2, ltNO, NOlt, leNO, NOle, if_pos, if_neg, Option.bind_some, if_true, if_false, and_self, eq_self, l0, l1, l2, l3, l4, l5, l6, l7, l8, l9, l10, l11, l12, l13, l14, l15, l16, l17, l18, l19, l20, l24, l26, l30, l31, l32, l40, l41, l42, l43, l45, l47, l48, l57, l58, l59, l60, l61, l62, l63, l64, l97, l99, l100, l101, l102, l103, l104, l105, l106, l107, l108, l109, l110, l122, l160, l240, l255, l600, l1000, l3000, l10000, l10007, l10116, l67108863, l67108864, I_oth, I_J, J_oth, J_I, I_row, J_row, SI_row, SI_oth, SI_J, SJ_row, SJ_oth, SJ_I, upd_s, upd_n, updL_s, updL_n, ne_eq, not_false_eq_true, lt_t, le_t, tI, NO_t, flag0, flag1, ite_or2, ite_self, true_or, or_true, false_or, or_false, true_and, and_true, false_and, and_false, not_true_eq_false]
        · simp (disch := omega) only [gdn, gb0, gb1, ixn, nm1, nI_add, nI_mul, nsub, nI_ltI, nI_leI, nI_eq, eqNO, eqNO2, ltNO, NOlt, leNO, NOle, if_pos, if_neg, Option.bind_some, if_true, if_false, and_self, eq_self, l0, l1, l2, l3, l4, l5, l6, l7, l8, l9, l10, l11, l12, l13, l14, l15, l16, l17, l18, l19, l20, l24, l26, l30, l31, l32, l40, l41, l42, l43, l45, l47, l48, l57, l58, l59, l60, l61, l62, l63, l64, l97, l99, l100, l101, l102, l103, l104, l105, l106, l107, l108, l109, l110, l122, l160, l240, l255, l600, l1000, l3000, l10000, l10007, l10116, l67108863, l67108864, I_oth, I_J, J_oth, J_I, I_row, J_row, SI_row, SI_oth, SI_J, SJ_row, SJ_oth, SJ_I, upd_s, upd_n, updL_s, updL_n, ne_eq, not_false_eq_true, lt_t, le_t, tI, NO_t, flag0, flag1, ite_or2, ite_self, true_or, or_true, false_or, or_false, true_and, and_true, false_and, and_false, not_true_eq_false]
  · simp (disch := omega) only [gdn, gb0, gb1, ixn, nm1, nI_add, nI_mul, nsub, nI_ltI, nI_leI, nI_eq, eqNO, eqNO2, ltNO, NOlt, leNO, NOle, if_pos, if_neg, Option.bind_some, if_true, if_false, and_self, eq_self, l0, l1, l2, l3, l4, l5, l6, l7, l8, l9, l10, l11, l12, l13, l14, l15, l16, l17, l18, l19, l20, l24, l26, l30, l31, l32, l40, l41, l42, l43, l45, l47, l48, l57, l58, l59, l60, l61, l62, l63, l64, l97, l99, l100, l101, l102, l103, l104, l105, l106, l107, l108, l109, l110, l122, l160, l240, l255, l600, l1000, l3000, l10000, l10007, l10116, l67108863, l67108864, I_oth, I_J, J_oth, J_I, I_row, J_row, SI_row, SI_oth, SI_J, SJ_row, SJ_oth, SJ_I, upd_s, upd_n, updL_s, updL_n, ne_eq, not_false_eq_true, lt_t, le_t, tI, NO_t, flag0, flag1, ite_or2, ite_self, true_or, or_true, false_or, or_false, true_and, and_true, false_and, and_false, not_true_eq_false]
theorem cut_e (v : Int64) (s : Int32) (w u : Wd) : X12_cut v s u = X9_cut v s w := rfl
theorem o_write (a1 a2 : Int32) (v : Int64) {w : Wd} (h : IT w) : two (X11_write a1 a2 v) (X12_write a1 a2 v) w (fun w' => St w w' ∨ (IS w' ∧ IT w')) := by
  by_cases e : wn w a1 a2 = 0
  · obtain ⟨t, p, ht, hp, rfl, rfl⟩ := wn_0 h e
    refine ⟨nI 1, puI (puJ w 2 (60 * t + p) (X9_cut v (w.1 3 t) w)) 0 10 (nI 0), puI (puJ (puI (puJ w 2 (60 * t + p) (X9_cut v (w.1 3 t) w)) 0 10 (nI 0)) 100 (60 * t + p) (X9_cut v (w.1 3 t) w)) 97 0 (nI 0), ?_, ?_, Or.inr ⟨?_, ?_⟩⟩
    · unfold X11_write X9_put
      rw [why_e h, e, show nI t * (60 : Int32) = nI (60 * t) from by rw [show (60 : Int32) = nI 60 from rfl, nI_mul, Nat.mul_comm]]
      simp (disch := omega) only [gdn, gb0, gb1, ixn, nm1, nI_add, nI_mul, nsub, nI_ltI, nI_leI, nI_eq, eqNO, eqNO2, ltNO, NOlt, leNO, NOle, if_pos, if_neg, Option.bind_some, if_true, if_false, and_self, eq_self, l0, l1, l2, l3, l4, l5, l6, l7, l8, l9, l10, l11, l12, l13, l14, l15, l16, l17, l18, l19, l20, l24, l26, l30, l31, l32, l40, l41, l42, l43, l45, l47, l48, l57, l58, l59, l60, l61, l62, l63, l64, l97, l99, l100, l101, l102, l103, l104, l105, l106, l107, l108, l109, l110, l122, l160, l240, l255, l600, l1000, l3000, l10000, l10007, l10116, l67108863, l67108864, I_oth, I_J, J_oth, J_I, I_row, J_row, SI_row, SI_oth, SI_J, SJ_row, SJ_oth, SJ_I, upd_s, upd_n, updL_s, updL_n, ne_eq, not_false_eq_true, lt_t, le_t, tI, NO_t, flag0, flag1, ite_or2, ite_self, true_or, or_true, false_or, or_false, true_and, and_true, false_and, and_false, not_true_eq_false, agree_e]
    · have hw : wn (puI (puJ w 2 (60 * t + p) (X9_cut v (w.1 3 t) w)) 0 10 (nI 0)) (nI t) (nI p) = 0 := e
      unfold X12_write X12_write_j34
      have hq := mwhy_e (show IT (puI (puJ (seJ w 100 (vp_updL (w.2 100) (60 * t + p) (X9_cut v (w.1 3 t) w))) 2 (60 * t + p) (X9_cut v (w.1 3 t) w)) 0 10 (nI 0)) from ⟨by show vp_updL (w.2 100) _ _ = vp_updL (w.2 2) _ _; rw [h.1], h.2.1, h.2.2.1, h.2.2.2⟩) (nI t) (nI p)
      have hq' : X12_wrongPlace (nI t) (nI p) (puI (puJ w 2 (60 * t + p) (X9_cut v (w.1 3 t) w)) 0 10 (nI 0)) = some (nI 0) := hq.trans (by rw [show wn (puI (puJ (seJ w 100 (vp_updL (w.2 100) (60 * t + p) (X9_cut v (w.1 3 t) w))) 2 (60 * t + p) (X9_cut v (w.1 3 t) w)) 0 10 (nI 0)) (nI t) (nI p) = 0 from e])
      rw [hq']
      simp (disch := omega) only [gdn, gb0, gb1, ixn, nm1, nI_add, nI_mul, nsub, nI_ltI, nI_leI, nI_eq, eqNO, eqNO2, ltNO, NOlt, leNO, NOle, if_pos, if_neg, Option.bind_some, if_true, if_false, and_self, eq_self, l0, l1, l2, l3, l4, l5, l6, l7, l8, l9, l10, l11, l12, l13, l14, l15, l16, l17, l18, l19, l20, l24, l26, l30, l31, l32, l40, l41, l42, l43, l45, l47, l48, l57, l58, l59, l60, l61, l62, l63, l64, l97, l99, l100, l101, l102, l103, l104, l105, l106, l107, l108, l109, l110, l122, l160, l240, l255, l600, l1000, l3000, l10000, l10007, l10116, l67108863, l67108864, I_oth, I_J, J_oth, J_I, I_row, J_row, SI_row, SI_oth, SI_J, SJ_row, SJ_oth, SJ_I, upd_s, upd_n, updL_s, updL_n, ne_eq, not_false_eq_true, lt_t, le_t, tI, NO_t, flag0, flag1, ite_or2, ite_self, true_or, or_true, false_or, or_false, true_and, and_true, false_and, and_false, not_true_eq_false, mis_e, cut_e, h.2.1]
      rfl
    · exact rfl
    · refine ⟨?_, h.2.1, h.2.2.1, h.2.2.2⟩
      show vp_updL (w.2 100) _ _ = vp_updL (w.2 2) _ _
      rw [h.1]
  · have hl := wn_le w a1 a2
    refine two_ref (nI (wn w a1 a2)) (r := nI 0) ?_ ?_ (fun w' z => Or.inl z)
    · unfold X11_write
      rw [why_e h]
      simp (disch := omega) only [gdn, gb0, gb1, ixn, nm1, nI_add, nI_mul, nsub, nI_ltI, nI_leI, nI_eq, eqNO, eqNO2, ltNO, NOlt, leNO, NOle, if_pos, if_neg, Option.bind_some, if_true, if_false, and_self, eq_self, l0, l1, l2, l3, l4, l5, l6, l7, l8, l9, l10, l11, l12, l13, l14, l15, l16, l17, l18, l19, l20, l24, l26, l30, l31, l32, l40, l41, l42, l43, l45, l47, l48, l57, l58, l59, l60, l61, l62, l63, l64, l97, l99, l100, l101, l102, l103, l104, l105, l106, l107, l108, l109, l110, l122, l160, l240, l255, l600, l1000, l3000, l10000, l10007, l10116, l67108863, l67108864, I_oth, I_J, J_oth, J_I, I_row, J_row, SI_row, SI_oth, SI_J, SJ_row, SJ_oth, SJ_I, upd_s, upd_n, updL_s, updL_n, ne_eq, not_false_eq_true, lt_t, le_t, tI, NO_t, flag0, flag1, ite_or2, ite_self, true_or, or_true, false_or, or_false, true_and, and_true, false_and, and_false, not_true_eq_false, refuse_e]
    · unfold X12_write X12_write_j34
      rw [mwhy_e (show IT (puI w 0 10 _) from h), show wn (puI w 0 10 (nI (wn w a1 a2))) a1 a2 = wn w a1 a2 from rfl]
      simp (disch := omega) only [gdn, gb0, gb1, ixn, nm1, nI_add, nI_mul, nsub, nI_ltI, nI_leI, nI_eq, eqNO, eqNO2, ltNO, NOlt, leNO, NOle, if_pos, if_neg, Option.bind_some, if_true, if_false, and_self, eq_self, l0, l1, l2, l3, l4, l5, l6, l7, l8, l9, l10, l11, l12, l13, l14, l15, l16, l17, l18, l19, l20, l24, l26, l30, l31, l32, l40, l41, l42, l43, l45, l47, l48, l57, l58, l59, l60, l61, l62, l63, l64, l97, l99, l100, l101, l102, l103, l104, l105, l106, l107, l108, l109, l110, l122, l160, l240, l255, l600, l1000, l3000, l10000, l10007, l10116, l67108863, l67108864, I_oth, I_J, J_oth, J_I, I_row, J_row, SI_row, SI_oth, SI_J, SJ_row, SJ_oth, SJ_I, upd_s, upd_n, updL_s, updL_n, ne_eq, not_false_eq_true, lt_t, le_t, tI, NO_t, flag0, flag1, ite_or2, ite_self, true_or, or_true, false_or, or_false, true_and, and_true, false_and, and_false, not_true_eq_false, mis_e]
theorem o_read (a1 a2 : Int32) {w : Wd} (h : IT w) : two (X11_read a1 a2) (X12_read a1 a2) w (fun w' => St w w') := by
  by_cases e : wn w a1 a2 = 0
  · obtain ⟨t, p, ht, hp, rfl, rfl⟩ := wn_0 h e
    refine ⟨w.2 2 (60 * t + p), puI w 0 10 (nI 0), puI (puI w 0 10 (nI 0)) 97 0 (nI 0), ?_, ?_, ⟨_, rfl⟩⟩
    · unfold X11_read X9_at
      rw [why_e h, e, show nI t * (60 : Int32) = nI (60 * t) from by rw [show (60 : Int32) = nI 60 from rfl, nI_mul, Nat.mul_comm]]
      simp (disch := omega) only [gdn, gb0, gb1, ixn, nm1, nI_add, nI_mul, nsub, nI_ltI, nI_leI, nI_eq, eqNO, eqNO2, ltNO, NOlt, leNO, NOle, if_pos, if_neg, Option.bind_some, if_true, if_false, and_self, eq_self, l0, l1, l2, l3, l4, l5, l6, l7, l8, l9, l10, l11, l12, l13, l14, l15, l16, l17, l18, l19, l20, l24, l26, l30, l31, l32, l40, l41, l42, l43, l45, l47, l48, l57, l58, l59, l60, l61, l62, l63, l64, l97, l99, l100, l101, l102, l103, l104, l105, l106, l107, l108, l109, l110, l122, l160, l240, l255, l600, l1000, l3000, l10000, l10007, l10116, l67108863, l67108864, I_oth, I_J, J_oth, J_I, I_row, J_row, SI_row, SI_oth, SI_J, SJ_row, SJ_oth, SJ_I, upd_s, upd_n, updL_s, updL_n, ne_eq, not_false_eq_true, lt_t, le_t, tI, NO_t, flag0, flag1, ite_or2, ite_self, true_or, or_true, false_or, or_false, true_and, and_true, false_and, and_false, not_true_eq_false]
    · unfold X12_read
      rw [mwhy_e (show IT (puI w 0 10 _) from h), show wn (puI w 0 10 (nI 0)) (nI t) (nI p) = 0 from e]
      simp (disch := omega) only [gdn, gb0, gb1, ixn, nm1, nI_add, nI_mul, nsub, nI_ltI, nI_leI, nI_eq, eqNO, eqNO2, ltNO, NOlt, leNO, NOle, if_pos, if_neg, Option.bind_some, if_true, if_false, and_self, eq_self, l0, l1, l2, l3, l4, l5, l6, l7, l8, l9, l10, l11, l12, l13, l14, l15, l16, l17, l18, l19, l20, l24, l26, l30, l31, l32, l40, l41, l42, l43, l45, l47, l48, l57, l58, l59, l60, l61, l62, l63, l64, l97, l99, l100, l101, l102, l103, l104, l105, l106, l107, l108, l109, l110, l122, l160, l240, l255, l600, l1000, l3000, l10000, l10007, l10116, l67108863, l67108864, I_oth, I_J, J_oth, J_I, I_row, J_row, SI_row, SI_oth, SI_J, SJ_row, SJ_oth, SJ_I, upd_s, upd_n, updL_s, updL_n, ne_eq, not_false_eq_true, lt_t, le_t, tI, NO_t, flag0, flag1, ite_or2, ite_self, true_or, or_true, false_or, or_false, true_and, and_true, false_and, and_false, not_true_eq_false, h.1]
  · have hl := wn_le w a1 a2
    refine ⟨-1, puI w 0 10 (nI (wn w a1 a2)), puI (puI w 0 10 (nI (wn w a1 a2))) 97 0 (nI (wn w a1 a2)), ?_, ?_, ⟨_, rfl⟩⟩
    · unfold X11_read
      rw [why_e h]
      simp (disch := omega) only [gdn, gb0, gb1, ixn, nm1, nI_add, nI_mul, nsub, nI_ltI, nI_leI, nI_eq, eqNO, eqNO2, ltNO, NOlt, leNO, NOle, if_pos, if_neg, Option.bind_some, if_true, if_false, and_self, eq_self, l0, l1, l2, l3, l4, l5, l6, l7, l8, l9, l10, l11, l12, l13, l14, l15, l16, l17, l18, l19, l20, l24, l26, l30, l31, l32, l40, l41, l42, l43, l45, l47, l48, l57, l58, l59, l60, l61, l62, l63, l64, l97, l99, l100, l101, l102, l103, l104, l105, l106, l107, l108, l109, l110, l122, l160, l240, l255, l600, l1000, l3000, l10000, l10007, l10116, l67108863, l67108864, I_oth, I_J, J_oth, J_I, I_row, J_row, SI_row, SI_oth, SI_J, SJ_row, SJ_oth, SJ_I, upd_s, upd_n, updL_s, updL_n, ne_eq, not_false_eq_true, lt_t, le_t, tI, NO_t, flag0, flag1, ite_or2, ite_self, true_or, or_true, false_or, or_false, true_and, and_true, false_and, and_false, not_true_eq_false, deny_e]
      rfl
    · unfold X12_read
      rw [mwhy_e (show IT (puI w 0 10 _) from h), show wn (puI w 0 10 (nI (wn w a1 a2))) a1 a2 = wn w a1 a2 from rfl]
      simp (disch := omega) only [gdn, gb0, gb1, ixn, nm1, nI_add, nI_mul, nsub, nI_ltI, nI_leI, nI_eq, eqNO, eqNO2, ltNO, NOlt, leNO, NOle, if_pos, if_neg, Option.bind_some, if_true, if_false, and_self, eq_self, l0, l1, l2, l3, l4, l5, l6, l7, l8, l9, l10, l11, l12, l13, l14, l15, l16, l17, l18, l19, l20, l24, l26, l30, l31, l32, l40, l41, l42, l43, l45, l47, l48, l57, l58, l59, l60, l61, l62, l63, l64, l97, l99, l100, l101, l102, l103, l104, l105, l106, l107, l108, l109, l110, l122, l160, l240, l255, l600, l1000, l3000, l10000, l10007, l10116, l67108863, l67108864, I_oth, I_J, J_oth, J_I, I_row, J_row, SI_row, SI_oth, SI_J, SJ_row, SJ_oth, SJ_I, upd_s, upd_n, updL_s, updL_n, ne_eq, not_false_eq_true, lt_t, le_t, tI, NO_t, flag0, flag1, ite_or2, ite_self, true_or, or_true, false_or, or_false, true_and, and_true, false_and, and_false, not_true_eq_false]
/-! pour -/
theorem o_pour (a1 a2 a3 a4 a5 : Int32) {w : Wd} (h : IT w) : two (X11_pour a1 a2 a3 a4 a5) (X12_pour a1 a2 a3 a4 a5) w (fun w' => St w w' ∨ (IS w' ∧ IT w')) := by
  by_cases hv : (0 ≤ a1.toInt ∧ a1.toInt < ((4 : Nat) : Int)) ∧ (0 ≤ a3.toInt ∧ a3.toInt < ((4 : Nat) : Int)) ∧ 0 ≤ a2.toInt ∧ 0 ≤ a4.toInt ∧ 0 ≤ a5.toInt
  · obtain ⟨h1, h3, h2, h4, h5⟩ := hv
    obtain ⟨t, ht, rfl⟩ := of_t h1
    obtain ⟨s, hs, rfl⟩ := of_t h3
    obtain ⟨p, hp, rfl⟩ := nI_of (x := a2) (by rw [lt_t, tl_0]; omega)
    obtain ⟨q, hq, rfl⟩ := nI_of (x := a4) (by rw [lt_t, tl_0]; omega)
    obtain ⟨m, hm, rfl⟩ := nI_of (x := a5) (by rw [lt_t, tl_0]; omega)
    have mis : w.1 4 t = NO ∨ w.1 4 s = NO ∨ (isN w 4 t 61 ∧ isN w 4 s 61) := by
      rcases h.2.2.2 t ht with z | z
      · exact Or.inl z
      · rcases h.2.2.2 s hs with y | y
        · exact Or.inr (Or.inl y)
        · exact Or.inr (Or.inr ⟨z, y⟩)
    by_cases hmis : w.1 4 t = NO ∨ w.1 4 s = NO
    · refine two_ref (nI 2) (r := nI 0) ?_ ?_ (fun w' z => Or.inl z)
      · unfold X11_pour X9_isMissing X11_pour_j56
        rcases hmis with z | z
        · simp (disch := omega) only [gdn, gb0, gb1, ixn, nm1, nI_add, nI_mul, nsub, nI_ltI, nI_leI, nI_eq, eqNO, eqNO2, ltNO, NOlt, leNO, NOle, if_pos, if_neg, Option.bind_some, if_true, if_false, and_self, eq_self, l0, l1, l2, l3, l4, l5, l6, l7, l8, l9, l10, l11, l12, l13, l14, l15, l16, l17, l18, l19, l20, l24, l26, l30, l31, l32, l40, l41, l42, l43, l45, l47, l48, l57, l58, l59, l60, l61, l62, l63, l64, l97, l99, l100, l101, l102, l103, l104, l105, l106, l107, l108, l109, l110, l122, l160, l240, l255, l600, l1000, l3000, l10000, l10007, l10116, l67108863, l67108864, I_oth, I_J, J_oth, J_I, I_row, J_row, SI_row, SI_oth, SI_J, SJ_row, SJ_oth, SJ_I, upd_s, upd_n, updL_s, updL_n, ne_eq, not_false_eq_true, lt_t, le_t, tI, NO_t, flag0, flag1, ite_or2, ite_self, true_or, or_true, false_or, or_false, true_and, and_true, false_and, and_false, not_true_eq_false, tray_e, z, refuse_e]
        · by_cases y : w.1 4 t = NO
          · simp (disch := omega) only [gdn, gb0, gb1, ixn, nm1, nI_add, nI_mul, nsub, nI_ltI, nI_leI, nI_eq, eqNO, eqNO2, ltNO, NOlt, leNO, NOle, if_pos, if_neg, Option.bind_some, if_true, if_false, and_self, eq_self, l0, l1, l2, l3, l4, l5, l6, l7, l8, l9, l10, l11, l12, l13, l14, l15, l16, l17, l18, l19, l20, l24, l26, l30, l31, l32, l40, l41, l42, l43, l45, l47, l48, l57, l58, l59, l60, l61, l62, l63, l64, l97, l99, l100, l101, l102, l103, l104, l105, l106, l107, l108, l109, l110, l122, l160, l240, l255, l600, l1000, l3000, l10000, l10007, l10116, l67108863, l67108864, I_oth, I_J, J_oth, J_I, I_row, J_row, SI_row, SI_oth, SI_J, SJ_row, SJ_oth, SJ_I, upd_s, upd_n, updL_s, updL_n, ne_eq, not_false_eq_true, lt_t, le_t, tI, NO_t, flag0, flag1, ite_or2, ite_self, true_or, or_true, false_or, or_false, true_and, and_true, false_and, and_false, not_true_eq_false, tray_e, y, refuse_e]
          · have y' : (w.1 4 t = NO) = False := eq_false y
            simp (disch := omega) only [gdn, gb0, gb1, ixn, nm1, nI_add, nI_mul, nsub, nI_ltI, nI_leI, nI_eq, eqNO, eqNO2, ltNO, NOlt, leNO, NOle, if_pos, if_neg, Option.bind_some, if_true, if_false, and_self, eq_self, l0, l1, l2, l3, l4, l5, l6, l7, l8, l9, l10, l11, l12, l13, l14, l15, l16, l17, l18, l19, l20, l24, l26, l30, l31, l32, l40, l41, l42, l43, l45, l47, l48, l57, l58, l59, l60, l61, l62, l63, l64, l97, l99, l100, l101, l102, l103, l104, l105, l106, l107, l108, l109, l110, l122, l160, l240, l255, l600, l1000, l3000, l10000, l10007, l10116, l67108863, l67108864, I_oth, I_J, J_oth, J_I, I_row, J_row, SI_row, SI_oth, SI_J, SJ_row, SJ_oth, SJ_I, upd_s, upd_n, updL_s, updL_n, ne_eq, not_false_eq_true, lt_t, le_t, tI, NO_t, flag0, flag1, ite_or2, ite_self, true_or, or_true, false_or, or_false, true_and, and_true, false_and, and_false, not_true_eq_false, tray_e, z, y', refuse_e]
      · unfold X12_pour X12_pour_j54
        rw [mtray_e, mtray_e, show (puI w 0 10 (nI 2)).1 99 = w.1 4 from h.2.2.1]
        rcases hmis with z | z
        · simp (disch := omega) only [gdn, gb0, gb1, ixn, nm1, nI_add, nI_mul, nsub, nI_ltI, nI_leI, nI_eq, eqNO, eqNO2, ltNO, NOlt, leNO, NOle, if_pos, if_neg, Option.bind_some, if_true, if_false, and_self, eq_self, l0, l1, l2, l3, l4, l5, l6, l7, l8, l9, l10, l11, l12, l13, l14, l15, l16, l17, l18, l19, l20, l24, l26, l30, l31, l32, l40, l41, l42, l43, l45, l47, l48, l57, l58, l59, l60, l61, l62, l63, l64, l97, l99, l100, l101, l102, l103, l104, l105, l106, l107, l108, l109, l110, l122, l160, l240, l255, l600, l1000, l3000, l10000, l10007, l10116, l67108863, l67108864, I_oth, I_J, J_oth, J_I, I_row, J_row, SI_row, SI_oth, SI_J, SJ_row, SJ_oth, SJ_I, upd_s, upd_n, updL_s, updL_n, ne_eq, not_false_eq_true, lt_t, le_t, tI, NO_t, flag0, flag1, ite_or2, ite_self, true_or, or_true, false_or, or_false, true_and, and_true, false_and, and_false, not_true_eq_false, z, mis_e]
        · by_cases y : w.1 4 t = NO
          · simp (disch := omega) only [gdn, gb0, gb1, ixn, nm1, nI_add, nI_mul, nsub, nI_ltI, nI_leI, nI_eq, eqNO, eqNO2, ltNO, NOlt, leNO, NOle, if_pos, if_neg, Option.bind_some, if_true, if_false, and_self, eq_self, l0, l1, l2, l3, l4, l5, l6, l7, l8, l9, l10, l11, l12, l13, l14, l15, l16, l17, l18, l19, l20, l24, l26, l30, l31, l32, l40, l41, l42, l43, l45, l47, l48, l57, l58, l59, l60, l61, l62, l63, l64, l97, l99, l100, l101, l102, l103, l104, l105, l106, l107, l108, l109, l110, l122, l160, l240, l255, l600, l1000, l3000, l10000, l10007, l10116, l67108863, l67108864, I_oth, I_J, J_oth, J_I, I_row, J_row, SI_row, SI_oth, SI_J, SJ_row, SJ_oth, SJ_I, upd_s, upd_n, updL_s, updL_n, ne_eq, not_false_eq_true, lt_t, le_t, tI, NO_t, flag0, flag1, ite_or2, ite_self, true_or, or_true, false_or, or_false, true_and, and_true, false_and, and_false, not_true_eq_false, y, mis_e]
          · have y' : (w.1 4 t = NO) = False := eq_false y
            simp (disch := omega) only [gdn, gb0, gb1, ixn, nm1, nI_add, nI_mul, nsub, nI_ltI, nI_leI, nI_eq, eqNO, eqNO2, ltNO, NOlt, leNO, NOle, if_pos, if_neg, Option.bind_some, if_true, if_false, and_self, eq_self, l0, l1, l2, l3, l4, l5, l6, l7, l8, l9, l10, l11, l12, l13, l14, l15, l16, l17, l18, l19, l20, l24, l26, l30, l31, l32, l40, l41, l42, l43, l45, l47, l48, l57, l58, l59, l60, l61, l62, l63, l64, l97, l99, l100, l101, l102, l103, l104, l105, l106, l107, l108, l109, l110, l122, l160, l240, l255, l600, l1000, l3000, l10000, l10007, l10116, l67108863, l67108864, I_oth, I_J, J_oth, J_I, I_row, J_row, SI_row, SI_oth, SI_J, SJ_row, SJ_oth, SJ_I, upd_s, upd_n, updL_s, updL_n, ne_eq, not_false_eq_true, lt_t, le_t, tI, NO_t, flag0, flag1, ite_or2, ite_self, true_or, or_true, false_or, or_false, true_and, and_true, false_and, and_false, not_true_eq_false, z, y', mis_e]
    · obtain ⟨⟨et, bt⟩, es, bs⟩ := (mis.resolve_left (fun z => hmis (Or.inl z))).resolve_left (fun z => hmis (Or.inr z))
      have sub : ∀ a b : Nat, a < 2 ^ 31 → b < 2 ^ 31 → (nI a - nI b).toInt = (a : Int) - b := by
        intro a b ha hb
        rw [toInt_sub (by rw [tI ha, tI hb]; omega) (by rw [tI ha, tI hb]; omega), tI ha, tI hb]
      by_cases hal : w.1 3 t = w.1 3 s
      · by_cases hre : p + m ≤ nn w 4 t ∧ q + m ≤ nn w 4 s
        · have hcp : cpok (nI (60 * t + p)) (nI (60 * s + q)) (nI m) 240 240 := by
            refine ⟨nI_pos (by omega), nI_pos (by omega), nI_pos (by omega), ?_, ?_⟩
            · rw [ixn (by omega), ixn (by omega)]; omega
            · rw [ixn (by omega), ixn (by omega)]; omega
          refine ⟨nI 1, puI (seJ w 2 (va_cpy (w.2 2) (w.2 2) (60 * t + p) (60 * s + q) m)) 0 10 (nI 0), puI (seJ (puI (seJ w 2 (va_cpy (w.2 2) (w.2 2) (60 * t + p) (60 * s + q) m)) 0 10 (nI 0)) 100 (va_cpy (w.2 2) (w.2 2) (60 * t + p) (60 * s + q) m)) 97 0 (nI 0), ?_, ?_, Or.inr ⟨rfl, ?_⟩⟩
          · unfold X11_pour X9_isMissing X9_alike X9_reaches X9_carry
            rw [show nI t * (60 : Int32) = nI (60 * t) from by rw [show (60 : Int32) = nI 60 from rfl, nI_mul, Nat.mul_comm], show nI s * (60 : Int32) = nI (60 * s) from by rw [show (60 : Int32) = nI 60 from rfl, nI_mul, Nat.mul_comm], nI_add, nI_add, gd_t hcp]
            simp (disch := omega) only [gdn, gb0, gb1, ixn, nm1, nI_add, nI_mul, nsub, nI_ltI, nI_leI, nI_eq, eqNO, eqNO2, ltNO, NOlt, leNO, NOle, if_pos, if_neg, Option.bind_some, if_true, if_false, and_self, eq_self, l0, l1, l2, l3, l4, l5, l6, l7, l8, l9, l10, l11, l12, l13, l14, l15, l16, l17, l18, l19, l20, l24, l26, l30, l31, l32, l40, l41, l42, l43, l45, l47, l48, l57, l58, l59, l60, l61, l62, l63, l64, l97, l99, l100, l101, l102, l103, l104, l105, l106, l107, l108, l109, l110, l122, l160, l240, l255, l600, l1000, l3000, l10000, l10007, l10116, l67108863, l67108864, I_oth, I_J, J_oth, J_I, I_row, J_row, SI_row, SI_oth, SI_J, SJ_row, SJ_oth, SJ_I, upd_s, upd_n, updL_s, updL_n, ne_eq, not_false_eq_true, lt_t, le_t, tI, NO_t, flag0, flag1, ite_or2, ite_self, true_or, or_true, false_or, or_false, true_and, and_true, false_and, and_false, not_true_eq_false, tray_e, et, es, hal, agree_e]
          · generalize hw0 : puI (seJ w 2 (va_cpy (w.2 2) (w.2 2) (60 * t + p) (60 * s + q) m)) 0 10 (nI 0) = w0
            have r98 : w0.1 98 = w.1 3 := by rw [← hw0]; exact h.2.1
            have r99 : w0.1 99 = w.1 4 := by rw [← hw0]; exact h.2.2.1
            have r100 : w0.2 100 = w.2 2 := by rw [← hw0]; exact h.1
            have key : lp (X12_pour_b118 (nI t) (nI p) (nI s) (nI q) (nI m)) (nI 0, w0) = some (seJ w0 100 (va_cpy (w.2 2) (w.2 2) (60 * t + p) (60 * s + q) m)) := by
              by_cases hd : q ≤ p
              · have hlp := lp_for (b := X12_pour_b118 (nI t) (nI p) (nI s) (nI q) (nI m)) (fun i => (nI i, seJ w0 100 (va_cpy (w.2 2) (w.2 2) (60 * t + p) (60 * s + q) i))) m (e := seJ w0 100 (va_cpy (w.2 2) (w.2 2) (60 * t + p) (60 * s + q) m)) (fun i hi => ?_) ?_ 0 (Nat.zero_le _)
                · rw [seJ_same (by funext j; rw [r100]; exact pk_cpy_out (by omega))] at hlp
                  exact hlp
                · unfold X12_pour_b118 X12_pour_j143
                  have hrd : va_cpy (w.2 2) (w.2 2) (60 * t + p) (60 * s + q) i (60 * t + p + i) = w.2 2 (60 * t + p + i) := pk_cpy_out (by
                    by_cases z : t = s
                    · subst z; omega
                    · omega)
                  simp (disch := omega) only [gdn, gb0, gb1, ixn, nm1, nI_add, nI_mul, nsub, nI_ltI, nI_leI, nI_eq, eqNO, eqNO2, ltNO, NOlt, leNO, NOle, if_pos, if_neg, Option.bind_some, if_true, if_false, and_self, eq_self, l0, l1, l2, l3, l4, l5, l6, l7, l8, l9, l10, l11, l12, l13, l14, l15, l16, l17, l18, l19, l20, l24, l26, l30, l31, l32, l40, l41, l42, l43, l45, l47, l48, l57, l58, l59, l60, l61, l62, l63, l64, l97, l99, l100, l101, l102, l103, l104, l105, l106, l107, l108, l109, l110, l122, l160, l240, l255, l600, l1000, l3000, l10000, l10007, l10116, l67108863, l67108864, I_oth, I_J, J_oth, J_I, I_row, J_row, SI_row, SI_oth, SI_J, SJ_row, SJ_oth, SJ_I, upd_s, upd_n, updL_s, updL_n, ne_eq, not_false_eq_true, pu_seJ, hrd]
                  congr 4
                  funext j
                  unfold vp_updL va_cpy
                  by_cases hj : j = 60 * s + q + i
                  · rw [if_pos hj, if_pos (by omega)]
                    exact congrArg (w.2 2) (by omega)
                  · rw [if_neg hj]
                    by_cases z : 60 * s + q ≤ j ∧ j < 60 * s + q + i
                    · rw [if_pos z, if_pos (by omega)]
                    · rw [if_neg z, if_neg (by omega)]
                · unfold X12_pour_b118
                  simp (disch := omega) only [gdn, gb0, gb1, ixn, nm1, nI_add, nI_mul, nsub, nI_ltI, nI_leI, nI_eq, eqNO, eqNO2, ltNO, NOlt, leNO, NOle, if_pos, if_neg, Option.bind_some, if_true, if_false, and_self, eq_self, l0, l1, l2, l3, l4, l5, l6, l7, l8, l9, l10, l11, l12, l13, l14, l15, l16, l17, l18, l19, l20, l24, l26, l30, l31, l32, l40, l41, l42, l43, l45, l47, l48, l57, l58, l59, l60, l61, l62, l63, l64, l97, l99, l100, l101, l102, l103, l104, l105, l106, l107, l108, l109, l110, l122, l160, l240, l255, l600, l1000, l3000, l10000, l10007, l10116, l67108863, l67108864]
              · have hlp := lp_for (b := X12_pour_b118 (nI t) (nI p) (nI s) (nI q) (nI m)) (fun i => (nI i, seJ w0 100 (va_cpy (w.2 2) (w.2 2) (60 * t + p + (m - i)) (60 * s + q + (m - i)) i))) m (e := seJ w0 100 (va_cpy (w.2 2) (w.2 2) (60 * t + p) (60 * s + q) m)) (fun i hi => ?_) ?_ 0 (Nat.zero_le _)
                · rw [seJ_same (by funext j; rw [r100]; exact pk_cpy_out (by omega))] at hlp
                  exact hlp
                · unfold X12_pour_b118 X12_pour_j143
                  have hrd : va_cpy (w.2 2) (w.2 2) (60 * t + p + (m - i)) (60 * s + q + (m - i)) i (60 * t + p + (m - 1 - i)) = w.2 2 (60 * t + p + (m - 1 - i)) := pk_cpy_out (by
                    by_cases z : t = s
                    · subst z; omega
                    · omega)
                  simp (disch := omega) only [gdn, gb0, gb1, ixn, nm1, nI_add, nI_mul, nsub, nI_ltI, nI_leI, nI_eq, eqNO, eqNO2, ltNO, NOlt, leNO, NOle, if_pos, if_neg, Option.bind_some, if_true, if_false, and_self, eq_self, l0, l1, l2, l3, l4, l5, l6, l7, l8, l9, l10, l11, l12, l13, l14, l15, l16, l17, l18, l19, l20, l24, l26, l30, l31, l32, l40, l41, l42, l43, l45, l47, l48, l57, l58, l59, l60, l61, l62, l63, l64, l97, l99, l100, l101, l102, l103, l104, l105, l106, l107, l108, l109, l110, l122, l160, l240, l255, l600, l1000, l3000, l10000, l10007, l10116, l67108863, l67108864, I_oth, I_J, J_oth, J_I, I_row, J_row, SI_row, SI_oth, SI_J, SJ_row, SJ_oth, SJ_I, upd_s, upd_n, updL_s, updL_n, ne_eq, not_false_eq_true, pu_seJ, hrd]
                  congr 4
                  funext j
                  unfold vp_updL va_cpy
                  by_cases hj : j = 60 * s + q + (m - 1 - i)
                  · rw [if_pos hj, if_pos (by omega)]
                    exact congrArg (w.2 2) (by omega)
                  · rw [if_neg hj]
                    by_cases z : 60 * s + q + (m - i) ≤ j ∧ j < 60 * s + q + (m - i) + i
                    · rw [if_pos z, if_pos (by omega)]
                      exact congrArg (w.2 2) (by omega)
                    · rw [if_neg z, if_neg (by omega)]
                · unfold X12_pour_b118
                  rw [show m - m = 0 by omega, Nat.add_zero, Nat.add_zero]
                  simp (disch := omega) only [gdn, gb0, gb1, ixn, nm1, nI_add, nI_mul, nsub, nI_ltI, nI_leI, nI_eq, eqNO, eqNO2, ltNO, NOlt, leNO, NOle, if_pos, if_neg, Option.bind_some, if_true, if_false, and_self, eq_self, l0, l1, l2, l3, l4, l5, l6, l7, l8, l9, l10, l11, l12, l13, l14, l15, l16, l17, l18, l19, l20, l24, l26, l30, l31, l32, l40, l41, l42, l43, l45, l47, l48, l57, l58, l59, l60, l61, l62, l63, l64, l97, l99, l100, l101, l102, l103, l104, l105, l106, l107, l108, l109, l110, l122, l160, l240, l255, l600, l1000, l3000, l10000, l10007, l10116, l67108863, l67108864]
            unfold X12_pour
            rw [r98, r99]
            simp (disch := omega) only [gdn, gb0, gb1, ixn, nm1, nI_add, nI_mul, nsub, nI_ltI, nI_leI, nI_eq, eqNO, eqNO2, ltNO, NOlt, leNO, NOle, if_pos, if_neg, Option.bind_some, if_true, if_false, and_self, eq_self, l0, l1, l2, l3, l4, l5, l6, l7, l8, l9, l10, l11, l12, l13, l14, l15, l16, l17, l18, l19, l20, l24, l26, l30, l31, l32, l40, l41, l42, l43, l45, l47, l48, l57, l58, l59, l60, l61, l62, l63, l64, l97, l99, l100, l101, l102, l103, l104, l105, l106, l107, l108, l109, l110, l122, l160, l240, l255, l600, l1000, l3000, l10000, l10007, l10116, l67108863, l67108864, I_oth, I_J, J_oth, J_I, I_row, J_row, SI_row, SI_oth, SI_J, SJ_row, SJ_oth, SJ_I, upd_s, upd_n, updL_s, updL_n, ne_eq, not_false_eq_true, lt_t, le_t, tI, NO_t, flag0, flag1, ite_or2, ite_self, true_or, or_true, false_or, or_false, true_and, and_true, false_and, and_false, not_true_eq_false, mtray_e, et, es, hal, key, mis_e]
          · refine ⟨rfl, h.2.1, h.2.2.1, h.2.2.2⟩
        · refine two_ref (nI 3) (r := nI 0) ?_ ?_ (fun w' z => Or.inl z)
          · unfold X11_pour X9_isMissing X9_alike X9_reaches X11_pour_j110
            by_cases z : p + m ≤ nn w 4 t
            · simp (disch := omega) only [gdn, gb0, gb1, ixn, nm1, nI_add, nI_mul, nsub, nI_ltI, nI_leI, nI_eq, eqNO, eqNO2, ltNO, NOlt, leNO, NOle, if_pos, if_neg, Option.bind_some, if_true, if_false, and_self, eq_self, l0, l1, l2, l3, l4, l5, l6, l7, l8, l9, l10, l11, l12, l13, l14, l15, l16, l17, l18, l19, l20, l24, l26, l30, l31, l32, l40, l41, l42, l43, l45, l47, l48, l57, l58, l59, l60, l61, l62, l63, l64, l97, l99, l100, l101, l102, l103, l104, l105, l106, l107, l108, l109, l110, l122, l160, l240, l255, l600, l1000, l3000, l10000, l10007, l10116, l67108863, l67108864, I_oth, I_J, J_oth, J_I, I_row, J_row, SI_row, SI_oth, SI_J, SJ_row, SJ_oth, SJ_I, upd_s, upd_n, updL_s, updL_n, ne_eq, not_false_eq_true, lt_t, le_t, tI, NO_t, flag0, flag1, ite_or2, ite_self, true_or, or_true, false_or, or_false, true_and, and_true, false_and, and_false, not_true_eq_false, tray_e, et, es, hal, refuse_e, sub]
            · simp (disch := omega) only [gdn, gb0, gb1, ixn, nm1, nI_add, nI_mul, nsub, nI_ltI, nI_leI, nI_eq, eqNO, eqNO2, ltNO, NOlt, leNO, NOle, if_pos, if_neg, Option.bind_some, if_true, if_false, and_self, eq_self, l0, l1, l2, l3, l4, l5, l6, l7, l8, l9, l10, l11, l12, l13, l14, l15, l16, l17, l18, l19, l20, l24, l26, l30, l31, l32, l40, l41, l42, l43, l45, l47, l48, l57, l58, l59, l60, l61, l62, l63, l64, l97, l99, l100, l101, l102, l103, l104, l105, l106, l107, l108, l109, l110, l122, l160, l240, l255, l600, l1000, l3000, l10000, l10007, l10116, l67108863, l67108864, I_oth, I_J, J_oth, J_I, I_row, J_row, SI_row, SI_oth, SI_J, SJ_row, SJ_oth, SJ_I, upd_s, upd_n, updL_s, updL_n, ne_eq, not_false_eq_true, lt_t, le_t, tI, NO_t, flag0, flag1, ite_or2, ite_self, true_or, or_true, false_or, or_false, true_and, and_true, false_and, and_false, not_true_eq_false, tray_e, et, es, hal, refuse_e, sub]
          · unfold X12_pour X12_pour_j109
            rw [show (puI w 0 10 (nI 3)).1 98 = w.1 3 from h.2.1, show (puI w 0 10 (nI 3)).1 99 = w.1 4 from h.2.2.1]
            by_cases z : p + m ≤ nn w 4 t
            · simp (disch := omega) only [gdn, gb0, gb1, ixn, nm1, nI_add, nI_mul, nsub, nI_ltI, nI_leI, nI_eq, eqNO, eqNO2, ltNO, NOlt, leNO, NOle, if_pos, if_neg, Option.bind_some, if_true, if_false, and_self, eq_self, l0, l1, l2, l3, l4, l5, l6, l7, l8, l9, l10, l11, l12, l13, l14, l15, l16, l17, l18, l19, l20, l24, l26, l30, l31, l32, l40, l41, l42, l43, l45, l47, l48, l57, l58, l59, l60, l61, l62, l63, l64, l97, l99, l100, l101, l102, l103, l104, l105, l106, l107, l108, l109, l110, l122, l160, l240, l255, l600, l1000, l3000, l10000, l10007, l10116, l67108863, l67108864, I_oth, I_J, J_oth, J_I, I_row, J_row, SI_row, SI_oth, SI_J, SJ_row, SJ_oth, SJ_I, upd_s, upd_n, updL_s, updL_n, ne_eq, not_false_eq_true, lt_t, le_t, tI, NO_t, flag0, flag1, ite_or2, ite_self, true_or, or_true, false_or, or_false, true_and, and_true, false_and, and_false, not_true_eq_false, mtray_e, et, es, hal, mis_e, sub]
            · simp (disch := omega) only [gdn, gb0, gb1, ixn, nm1, nI_add, nI_mul, nsub, nI_ltI, nI_leI, nI_eq, eqNO, eqNO2, ltNO, NOlt, leNO, NOle, if_pos, if_neg, Option.bind_some, if_true, if_false, and_self, eq_self, l0, l1, l2, l3, l4, l5, l6, l7, l8, l9, l10, l11, l12, l13, l14, l15, l16, l17, l18, l19, l20, l24, l26, l30, l31, l32, l40, l41, l42, l43, l45, l47, l48, l57, l58, l59, l60, l61, l62, l63, l64, l97, l99, l100, l101, l102, l103, l104, l105, l106, l107, l108, l109, l110, l122, l160, l240, l255, l600, l1000, l3000, l10000, l10007, l10116, l67108863, l67108864, I_oth, I_J, J_oth, J_I, I_row, J_row, SI_row, SI_oth, SI_J, SJ_row, SJ_oth, SJ_I, upd_s, upd_n, updL_s, updL_n, ne_eq, not_false_eq_true, lt_t, le_t, tI, NO_t, flag0, flag1, ite_or2, ite_self, true_or, or_true, false_or, or_false, true_and, and_true, false_and, and_false, not_true_eq_false, mtray_e, et, es, hal, mis_e, sub]
      · have hal' : (w.1 3 t = w.1 3 s) = False := eq_false hal
        refine two_ref (nI 8) (r := nI 0) ?_ ?_ (fun w' z => Or.inl z)
        · unfold X11_pour X9_isMissing X9_alike
          simp (disch := omega) only [gdn, gb0, gb1, ixn, nm1, nI_add, nI_mul, nsub, nI_ltI, nI_leI, nI_eq, eqNO, eqNO2, ltNO, NOlt, leNO, NOle, if_pos, if_neg, Option.bind_some, if_true, if_false, and_self, eq_self, l0, l1, l2, l3, l4, l5, l6, l7, l8, l9, l10, l11, l12, l13, l14, l15, l16, l17, l18, l19, l20, l24, l26, l30, l31, l32, l40, l41, l42, l43, l45, l47, l48, l57, l58, l59, l60, l61, l62, l63, l64, l97, l99, l100, l101, l102, l103, l104, l105, l106, l107, l108, l109, l110, l122, l160, l240, l255, l600, l1000, l3000, l10000, l10007, l10116, l67108863, l67108864, I_oth, I_J, J_oth, J_I, I_row, J_row, SI_row, SI_oth, SI_J, SJ_row, SJ_oth, SJ_I, upd_s, upd_n, updL_s, updL_n, ne_eq, not_false_eq_true, lt_t, le_t, tI, NO_t, flag0, flag1, ite_or2, ite_self, true_or, or_true, false_or, or_false, true_and, and_true, false_and, and_false, not_true_eq_false, tray_e, et, es, hal', refuse_e]
        · unfold X12_pour
          rw [show (puI w 0 10 (nI 8)).1 98 = w.1 3 from h.2.1, show (puI w 0 10 (nI 8)).1 99 = w.1 4 from h.2.2.1]
          simp (disch := omega) only [gdn, gb0, gb1, ixn, nm1, nI_add, nI_mul, nsub, nI_ltI, nI_leI, nI_eq, eqNO, eqNO2, ltNO, NOlt, leNO, NOle, if_pos, if_neg, Option.bind_some, if_true, if_false, and_self, eq_self, l0, l1, l2, l3, l4, l5, l6, l7, l8, l9, l10, l11, l12, l13, l14, l15, l16, l17, l18, l19, l20, l24, l26, l30, l31, l32, l40, l41, l42, l43, l45, l47, l48, l57, l58, l59, l60, l61, l62, l63, l64, l97, l99, l100, l101, l102, l103, l104, l105, l106, l107, l108, l109, l110, l122, l160, l240, l255, l600, l1000, l3000, l10000, l10007, l10116, l67108863, l67108864, I_oth, I_J, J_oth, J_I, I_row, J_row, SI_row, SI_oth, SI_J, SJ_row, SJ_oth, SJ_I, upd_s, upd_n, updL_s, updL_n, ne_eq, not_false_eq_true, lt_t, le_t, tI, NO_t, flag0, flag1, ite_or2, ite_self, true_or, or_true, false_or, or_false, true_and, and_true, false_and, and_false, not_true_eq_false, mtray_e, et, es, hal', mis_e]
  · refine two_ref (nI 1) (r := nI 0) ?_ ?_ (fun w' z => Or.inl z)
    · unfold X11_pour X11_pour_j28
      by_cases z : 0 ≤ a5.toInt
      · simp (disch := omega) only [gdn, gb0, gb1, ixn, nm1, nI_add, nI_mul, nsub, nI_ltI, nI_leI, nI_eq, eqNO, eqNO2, ltNO, NOlt, leNO, NOle, if_pos, if_neg, Option.bind_some, if_true, if_false, and_self, eq_self, l0, l1, l2, l3, l4, l5, l6, l7, l8, l9, l10, l11, l12, l13, l14, l15, l16, l17, l18, l19, l20, l24, l26, l30, l31, l32, l40, l41, l42, l43, l45, l47, l48, l57, l58, l59, l60, l61, l62, l63, l64, l97, l99, l100, l101, l102, l103, l104, l105, l106, l107, l108, l109, l110, l122, l160, l240, l255, l600, l1000, l3000, l10000, l10007, l10116, l67108863, l67108864, I_oth, I_J, J_oth, J_I, I_row, J_row, SI_row, SI_oth, SI_J, SJ_row, SJ_oth, SJ_I, upd_s, upd_n, updL_s, updL_n, ne_eq, not_false_eq_true, lt_t, le_t, tI, NO_t, flag0, flag1, ite_or2, ite_self, true_or, or_true, false_or, or_false, true_and, and_true, false_and, and_false, not_true_eq_false, tray_e, refuse_e]
      · simp (disch := omega) only [gdn, gb0, gb1, ixn, nm1, nI_add, nI_mul, nsub, nI_ltI, nI_leI, nI_eq, eqNO, eqNO2, ltNO, NOlt, leNO, NOle, if_pos, if_neg, Option.bind_some, if_true, if_false, and_self, eq_self, l0, l1, l2, l3, l4, l5, l6, l7, l8, l9, l10, l11, l12, l13, l14, l15, l16, l17, l18, l19, l20, l24, l26, l30, l31, l32, l40, l41, l42, l43, l45, l47, l48, l57, l58, l59, l60, l61, l62, l63, l64, l97, l99, l100, l101, l102, l103, l104, l105, l106, l107, l108, l109, l110, l122, l160, l240, l255, l600, l1000, l3000, l10000, l10007, l10116, l67108863, l67108864, I_oth, I_J, J_oth, J_I, I_row, J_row, SI_row, SI_oth, SI_J, SJ_row, SJ_oth, SJ_I, upd_s, upd_n, updL_s, updL_n, ne_eq, not_false_eq_true, lt_t, le_t, tI, NO_t, flag0, flag1, ite_or2, ite_self, true_or, or_true, false_or, or_false, true_and, and_true, false_and, and_false, not_true_eq_false, tray_e, refuse_e]
    · unfold X12_pour X12_pour_j28
      by_cases z : 0 ≤ a5.toInt
      · simp (disch := omega) only [gdn, gb0, gb1, ixn, nm1, nI_add, nI_mul, nsub, nI_ltI, nI_leI, nI_eq, eqNO, eqNO2, ltNO, NOlt, leNO, NOle, if_pos, if_neg, Option.bind_some, if_true, if_false, and_self, eq_self, l0, l1, l2, l3, l4, l5, l6, l7, l8, l9, l10, l11, l12, l13, l14, l15, l16, l17, l18, l19, l20, l24, l26, l30, l31, l32, l40, l41, l42, l43, l45, l47, l48, l57, l58, l59, l60, l61, l62, l63, l64, l97, l99, l100, l101, l102, l103, l104, l105, l106, l107, l108, l109, l110, l122, l160, l240, l255, l600, l1000, l3000, l10000, l10007, l10116, l67108863, l67108864, I_oth, I_J, J_oth, J_I, I_row, J_row, SI_row, SI_oth, SI_J, SJ_row, SJ_oth, SJ_I, upd_s, upd_n, updL_s, updL_n, ne_eq, not_false_eq_true, lt_t, le_t, tI, NO_t, flag0, flag1, ite_or2, ite_self, true_or, or_true, false_or, or_false, true_and, and_true, false_and, and_false, not_true_eq_false, mtray_e, mis_e]
      · simp (disch := omega) only [gdn, gb0, gb1, ixn, nm1, nI_add, nI_mul, nsub, nI_ltI, nI_leI, nI_eq, eqNO, eqNO2, ltNO, NOlt, leNO, NOle, if_pos, if_neg, Option.bind_some, if_true, if_false, and_self, eq_self, l0, l1, l2, l3, l4, l5, l6, l7, l8, l9, l10, l11, l12, l13, l14, l15, l16, l17, l18, l19, l20, l24, l26, l30, l31, l32, l40, l41, l42, l43, l45, l47, l48, l57, l58, l59, l60, l61, l62, l63, l64, l97, l99, l100, l101, l102, l103, l104, l105, l106, l107, l108, l109, l110, l122, l160, l240, l255, l600, l1000, l3000, l10000, l10007, l10116, l67108863, l67108864, I_oth, I_J, J_oth, J_I, I_row, J_row, SI_row, SI_oth, SI_J, SJ_row, SJ_oth, SJ_I, upd_s, upd_n, updL_s, updL_n, ne_eq, not_false_eq_true, lt_t, le_t, tI, NO_t, flag0, flag1, ite_or2, ite_self, true_or, or_true, false_or, or_false, true_and, and_true, false_and, and_false, not_true_eq_false, mtray_e, mis_e]
