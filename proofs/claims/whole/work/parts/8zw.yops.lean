/-! taught, knows, hours, gap -/
def YI (w : Wd) : Prop := IL w ∧ IN w ∧ IC w ∧ IBo w ∧ IG w ∧ IR w ∧ ILs w ∧ IY w
def sS_Z : List Nat := [18, 26, 27, 28, 29, 44, 45, 46, 47, 48, 49, 50, 51, 52, 53, 54, 55, 56, 57, 58, 59, 60, 61, 62, 63, 64, 74, 75, 76, 77, 78, 79]
def sF_Z : List (Nat × Nat) := [(0, 10), (19, 8), (73, 4)]
def sS_M : List Nat := [107, 144, 145, 146, 150, 151, 152, 153, 154, 155, 156, 157, 158, 159, 160, 163, 164, 165, 166, 167]
def sF_M : List (Nat × Nat) := [(97, 70), (97, 96), (97, 97), (97, 98)]
def OPY (w' : Wd) : Prop := IS w' ∧ IG w' ∧ IC w' ∧ IY w'
/-- what the class leaves -/
def OPC (w w1 : Wd) : Prop := Fr sS_Z sF_Z w w1 ∧ IG w1 ∧ IC w1 ∧ IY w1
theorem YI.to {w w1 : Wd} (h : YI w) (h1 : OPC w w1) : YI w1 := by
  obtain ⟨a1, a2, a3, a4, a5, a6, a7, a8⟩ := h
  obtain ⟨f, g1, g2, g3⟩ := h1
  exact ⟨a1.sm (f.sm (by decide)), a2.sm (f.sm (by decide)), g2, a4.sm (f.sm (by decide)), g1, a6.sm (f.sm (by decide)), a7.sm (f.sm (by decide)), g3⟩
theorem OPC.rf {w : Wd} (h : YI w) : OPC w w := ⟨Fr.rf, h.2.2.2.2.1, h.2.2.1, h.2.2.2.2.2.2.2⟩
theorem IY.c {w w' : Wd} (h : IY w) (e : Sm sR_Y sF_Y w w') (e5 : w'.1 5 8 = w.1 5 8) (e73 : w'.1 73 4 = w.1 73 4) (e74 : w'.1 74 = w.1 74) (e75 : w'.1 75 = w.1 75) (e76 : w'.1 76 = w.1 76) : IY w' := by
  obtain ⟨B, h1, h2, h3⟩ := h
  exact ⟨B, h1, by rw [e73]; exact h2, h3.c e e5 e74 e75 e76⟩
theorem opy_of {w w1 u : Wd} {x y : Int32} (hw : YI w) (h1 : OPC w w1) (f2 : Fr sS_M sF_M (puI w1 0 10 x) u) (hxy : x = y) : OPY (puI u 97 0 y) := by
  subst hxy
  obtain ⟨-, -, -, a4, -⟩ := hw.to h1
  obtain ⟨f, g1, g2, g3⟩ := h1
  have f3 : Fr sS_M ((0, 10) :: (97, 0) :: sF_M) w1 (puI u 97 0 x) := Fr.pfI ((Fr.wk (fr_0 : Fr [] [(0, 10)] w1 (puI w1 0 10 x)) (by simp) (by decide)).next f2 (fun _ z => z) (by decide)) (by decide)
  refine ⟨?_, IG.sm a4 g1 (f3.sm (by decide)), g2.sm (f3.sm (by decide)), g3.c (f3.sm (by decide)) ?_ ?_ ?_ ?_ ?_⟩
  · unfold IS
    rw [I_self, I_oth (by decide), (f2 0 (by decide) 10 (by decide)).1, I_self]
  · exact (f3 5 (by decide) 8 (by decide)).1
  · exact (f3 73 (by decide) 4 (by decide)).1
  · exact (f3.row 74 (by decide) (by decide)).1
  · exact (f3.row 75 (by decide) (by decide)).1
  · exact (f3.row 76 (by decide) (by decide)).1
theorem OPY.st {w w' : Wd} (hw : YI w) (h : St w w') : OPY w' := by
  obtain ⟨v, rfl⟩ := h
  exact opy_of hw (OPC.rf hw) Fr.rf rfl
theorem reach_y {w : Wd} (h : YI w) {week : Nat} (hw : week < 60) : ∃ w1, X10_reach (nI week) w = some w1 ∧ OPC w w1 ∧ ∀ l, l < nn w 5 8 → w1.1 74 (40 * week + l) = nI (YO w week l) ∧ w1.1 76 (40 * week + l) = nI (YG w (week + 1) l).2 ∧ rowY (w1.1 75) (40 * week + l) (YH w (week + 1) l) := by
  obtain ⟨a1, a2, a3, a4, a5, a6, a7, a8⟩ := h
  obtain ⟨v, k1, k2, k3, k4, k5, k6⟩ := reach_e a1 a2 a3 a4 a5 a6 a7 a8 hw
  have hy : Sm sR_Y sF_Y w v := k2.sm (by decide)
  refine ⟨v, k1, ⟨k2.wk (by decide) (by decide), k3, k4, k5⟩, fun l hl => ?_⟩
  have := k6 week (by omega) l (by rw [nn_eq (k2 5 (by decide) 8 (by decide)).1]; exact hl)
  rw [YO_y hy, YG_y hy, YH_y hy] at this
  exact this
theorem along_y {w u : Wd} (h : YI w) (hu : Fr sS_Z sF_Z w u) {K : Nat} (hK : K ≤ 60) : ∃ v, X12_goAlong (tp K) u = some v ∧ Fr sS_G [(97, 70)] u v ∧ ∀ l, l < nn w 5 8 → rowY (v.1 150) l (YH w K l) ∧ v.1 151 l = nI (YG w K l).2 := by
  obtain ⟨a1, a2, a3, a4, a5, a6, a7, a8⟩ := h
  obtain ⟨v, k1, k2, k3⟩ := along_e (a1.sm (hu.sm (by decide))) (a2.sm (hu.sm (by decide))) (a4.sm (hu.sm (by decide))) (a6.sm (hu.sm (by decide))) (a7.sm (hu.sm (by decide))) hK
  have hy : Sm sR_Y sF_Y w u := hu.sm (by decide)
  refine ⟨v, k1, k2, fun l hl => ?_⟩
  have := k3 l (by rw [nn_eq (hu 5 (by decide) 8 (by decide)).1]; exact hl)
  rw [YH_y hy, YG_y hy] at this
  exact this
theorem tp_e {n : Nat} : nI n - nI 1 = tp n := by
  cases n with
  | zero => rfl
  | succ n => rw [tp_s, nsub (by omega)]; rfl
theorem fr_ans {w w1 : Wd} {x : Int32} (h : OPC w w1) : Fr sS_Z sF_Z w (puI w1 0 10 x) := Fr.pfI h.1 (by decide)
theorem two_y {f g : Wd → Option (Int32 × Wd)} {w w1 : Wd} {r x : Int32} (hw : YI w) (h1 : OPC w w1) (k1 : f w = some (r, puI w1 0 10 x)) (k2 : ∃ u, g (puI w1 0 10 x) = some (r, puI u 97 0 x) ∧ Fr sS_M sF_M (puI w1 0 10 x) u) : two f g w OPY := by
  obtain ⟨u, k2, k3⟩ := k2
  exact ⟨r, _, _, k1, k2, opy_of hw h1 k3 rfl⟩
theorem frGM {u v : Wd} (h : Fr sS_G [(97, 70)] u v) : Fr sS_M sF_M u v := h.wk (by decide) (by decide)
theorem o_knows (a1 a2 : Int32) {w : Wd} (h : YI w) : two (X11_knows a1 a2) (X12_knows a1 a2) w OPY := by
  have hL := h.1
  have b8 := hL.1.2.2.1.2
  by_cases hv : (0 ≤ a1.toInt ∧ a1.toInt < (nn w 5 8 : Int)) ∧ (0 ≤ a2.toInt ∧ a2.toInt < ((60 : Nat) : Int))
  · obtain ⟨v1, v2⟩ := hv
    obtain ⟨l, hl, rfl⟩ := of_t v1
    obtain ⟨week, hwk, rfl⟩ := of_t v2
    obtain ⟨w1, c1, c2, c3⟩ := reach_y h hwk
    obtain ⟨v, d1, d2, d3⟩ := along_y h (fr_ans (x := nI 0) c2) (K := week + 1) (by omega)
    have h1 := h.to c2
    have hS1 := h1.2.2.2.2.2.2.1
    have hS := h.2.2.2.2.2.2.1
    have hd := doneB_e hS1 (l := l) (week := week) (by omega) hwk (g := YH w (week + 1) l) (fun k hk => ⟨(c3 l hl).2.2 k hk, YH_le hS k hk⟩)
    have en : ndF w1 = ndF w := by funext k; exact nn_row (c2.1.row 70 (by decide) (by decide)).1
    rw [en] at hd
    have fv : Fr (sS_Z ++ sS_G) ((97, 70) :: sF_Z) w v := ((fr_ans (x := nI 0) c2).wk (by decide) (by decide)).next d2 (by decide) (by decide)
    have hm := mdone_e (w := v) (hS.sm (fv.sm (by decide))) (l := l) (by omega) (g := YH w (week + 1) l) (fun k hk => ⟨(d3 l hl).1 k hk, YH_le hS k hk⟩)
    have en2 : ndF v = ndF w := by funext k; exact nn_row (fv.row 70 (by decide) (by decide)).1
    rw [en2] at hm
    rw [tp_s] at d1
    refine two_y (r := nI (dnS (ndF w) (YH w (week + 1) l))) (x := nI 0) h c2 ?_ ⟨v, ?_, frGM d2⟩
    · unfold X11_knows
      simp (disch := omega) only [gdn, gb0, gb1, ixn, nm1, nI_add, nI_mul, nsub, nI_ltI, nI_leI, nI_eq, eqNO, eqNO2, ltNO, NOlt, leNO, NOle, if_pos, if_neg, Option.bind_some, if_true, if_false, and_self, eq_self, l0, l1, l2, l3, l4, l5, l6, l7, l8, l9, l10, l11, l12, l13, l14, l15, l16, l17, l18, l19, l20, l24, l26, l30, l31, l32, l40, l41, l42, l43, l45, l47, l48, l57, l58, l59, l60, l61, l62, l63, l64, l97, l99, l100, l101, l102, l103, l104, l105, l106, l107, l108, l109, l110, l122, l160, l240, l255, l600, l1000, l3000, l10000, l10007, l10116, l67108863, l67108864, I_oth, I_J, J_oth, J_I, I_row, J_row, SI_row, SI_oth, SI_J, SJ_row, SJ_oth, SJ_I, upd_s, upd_n, updL_s, updL_n, ne_eq, not_false_eq_true, lt_t, le_t, tI, NO_t, flag0, flag1, ite_or2, ite_self, true_or, or_true, false_or, or_false, true_and, and_true, false_and, and_false, not_true_eq_false, lrn_e hL, week_e, c1, hd, answer_e]
    · unfold X12_knows
      have e6 : (puI w1 0 10 (nI 0)).1 97 6 = nI (nn w 5 8) := by rw [((fr_ans (x := nI 0) c2).row 97 (by decide) (by decide)).1, hL.2.1.2.2.1]; exact hL.1.2.2.1.1
      rw [mlr _ e6 (by omega), mweek_e]
      simp (disch := omega) only [gdn, gb0, gb1, ixn, nm1, nI_add, nI_mul, nsub, nI_ltI, nI_leI, nI_eq, eqNO, eqNO2, ltNO, NOlt, leNO, NOle, if_pos, if_neg, Option.bind_some, if_true, if_false, and_self, eq_self, l0, l1, l2, l3, l4, l5, l6, l7, l8, l9, l10, l11, l12, l13, l14, l15, l16, l17, l18, l19, l20, l24, l26, l30, l31, l32, l40, l41, l42, l43, l45, l47, l48, l57, l58, l59, l60, l61, l62, l63, l64, l97, l99, l100, l101, l102, l103, l104, l105, l106, l107, l108, l109, l110, l122, l160, l240, l255, l600, l1000, l3000, l10000, l10007, l10116, l67108863, l67108864, I_oth, I_J, J_oth, J_I, I_row, J_row, SI_row, SI_oth, SI_J, SJ_row, SJ_oth, SJ_I, upd_s, upd_n, updL_s, updL_n, ne_eq, not_false_eq_true, lt_t, le_t, tI, NO_t, flag0, flag1, ite_or2, ite_self, true_or, or_true, false_or, or_false, true_and, and_true, false_and, and_false, not_true_eq_false, d1, hm, mgiv_e]
  · refine two_ref (nI 1) (r := NO) ?_ ?_ (fun w' z => OPY.st h z)
    · unfold X11_knows X11_knows_j18
      simp (disch := omega) only [gdn, gb0, gb1, ixn, nm1, nI_add, nI_mul, nsub, nI_ltI, nI_leI, nI_eq, eqNO, eqNO2, ltNO, NOlt, leNO, NOle, if_pos, if_neg, Option.bind_some, if_true, if_false, and_self, eq_self, l0, l1, l2, l3, l4, l5, l6, l7, l8, l9, l10, l11, l12, l13, l14, l15, l16, l17, l18, l19, l20, l24, l26, l30, l31, l32, l40, l41, l42, l43, l45, l47, l48, l57, l58, l59, l60, l61, l62, l63, l64, l97, l99, l100, l101, l102, l103, l104, l105, l106, l107, l108, l109, l110, l122, l160, l240, l255, l600, l1000, l3000, l10000, l10007, l10116, l67108863, l67108864, I_oth, I_J, J_oth, J_I, I_row, J_row, SI_row, SI_oth, SI_J, SJ_row, SJ_oth, SJ_I, upd_s, upd_n, updL_s, updL_n, ne_eq, not_false_eq_true, lt_t, le_t, tI, NO_t, flag0, flag1, ite_or2, ite_self, true_or, or_true, false_or, or_false, true_and, and_true, false_and, and_false, not_true_eq_false, lrn_e hL, week_e, deny_e]
    · unfold X12_knows X12_knows_j15
      have e6 : (puI w 0 10 (nI 1)).1 97 6 = nI (nn w 5 8) := by rw [I_oth (by decide), hL.2.1.2.2.1]; exact hL.1.2.2.1.1
      rw [mlr _ e6 (by omega), mweek_e]
      simp (disch := omega) only [gdn, gb0, gb1, ixn, nm1, nI_add, nI_mul, nsub, nI_ltI, nI_leI, nI_eq, eqNO, eqNO2, ltNO, NOlt, leNO, NOle, if_pos, if_neg, Option.bind_some, if_true, if_false, and_self, eq_self, l0, l1, l2, l3, l4, l5, l6, l7, l8, l9, l10, l11, l12, l13, l14, l15, l16, l17, l18, l19, l20, l24, l26, l30, l31, l32, l40, l41, l42, l43, l45, l47, l48, l57, l58, l59, l60, l61, l62, l63, l64, l97, l99, l100, l101, l102, l103, l104, l105, l106, l107, l108, l109, l110, l122, l160, l240, l255, l600, l1000, l3000, l10000, l10007, l10116, l67108863, l67108864, I_oth, I_J, J_oth, J_I, I_row, J_row, SI_row, SI_oth, SI_J, SJ_row, SJ_oth, SJ_I, upd_s, upd_n, updL_s, updL_n, ne_eq, not_false_eq_true, lt_t, le_t, tI, NO_t, flag0, flag1, ite_or2, ite_self, true_or, or_true, false_or, or_false, true_and, and_true, false_and, and_false, not_true_eq_false, mref_e]
theorem o_gap (a1 a2 : Int32) {w : Wd} (h : YI w) : two (X11_gap a1 a2) (X12_gap a1 a2) w OPY := by
  have hL := h.1
  have b8 := hL.1.2.2.1.2
  by_cases hv : (0 ≤ a1.toInt ∧ a1.toInt < (nn w 5 8 : Int)) ∧ (0 ≤ a2.toInt ∧ a2.toInt < ((60 : Nat) : Int))
  · obtain ⟨v1, v2⟩ := hv
    obtain ⟨l, hl, rfl⟩ := of_t v1
    obtain ⟨week, hwk, rfl⟩ := of_t v2
    obtain ⟨w1, c1, c2, c3⟩ := reach_y h hwk
    obtain ⟨v, d1, d2, d3⟩ := along_y h (fr_ans (x := nI 0) c2) (K := week + 1) (by omega)
    rw [tp_s] at d1
    have r76 := (c3 l hl).2.1
    have r151 := (d3 l hl).2
    refine two_y (r := nI (YG w (week + 1) l).2) (x := nI 0) h c2 ?_ ⟨v, ?_, frGM d2⟩
    · unfold X11_gap X10_gapsBehind
      simp (disch := omega) only [gdn, gb0, gb1, ixn, nm1, nI_add, nI_mul, nsub, nI_ltI, nI_leI, nI_eq, eqNO, eqNO2, ltNO, NOlt, leNO, NOle, if_pos, if_neg, Option.bind_some, if_true, if_false, and_self, eq_self, l0, l1, l2, l3, l4, l5, l6, l7, l8, l9, l10, l11, l12, l13, l14, l15, l16, l17, l18, l19, l20, l24, l26, l30, l31, l32, l40, l41, l42, l43, l45, l47, l48, l57, l58, l59, l60, l61, l62, l63, l64, l97, l99, l100, l101, l102, l103, l104, l105, l106, l107, l108, l109, l110, l122, l160, l240, l255, l600, l1000, l3000, l10000, l10007, l10116, l67108863, l67108864, I_oth, I_J, J_oth, J_I, I_row, J_row, SI_row, SI_oth, SI_J, SJ_row, SJ_oth, SJ_I, upd_s, upd_n, updL_s, updL_n, ne_eq, not_false_eq_true, lt_t, le_t, tI, NO_t, flag0, flag1, ite_or2, ite_self, true_or, or_true, false_or, or_false, true_and, and_true, false_and, and_false, not_true_eq_false, lrn_e hL, week_e, c1, cell_e, r76, answer_e]
    · unfold X12_gap
      have e6 : (puI w1 0 10 (nI 0)).1 97 6 = nI (nn w 5 8) := by rw [((fr_ans (x := nI 0) c2).row 97 (by decide) (by decide)).1, hL.2.1.2.2.1]; exact hL.1.2.2.1.1
      rw [mlr _ e6 (by omega), mweek_e]
      simp (disch := omega) only [gdn, gb0, gb1, ixn, nm1, nI_add, nI_mul, nsub, nI_ltI, nI_leI, nI_eq, eqNO, eqNO2, ltNO, NOlt, leNO, NOle, if_pos, if_neg, Option.bind_some, if_true, if_false, and_self, eq_self, l0, l1, l2, l3, l4, l5, l6, l7, l8, l9, l10, l11, l12, l13, l14, l15, l16, l17, l18, l19, l20, l24, l26, l30, l31, l32, l40, l41, l42, l43, l45, l47, l48, l57, l58, l59, l60, l61, l62, l63, l64, l97, l99, l100, l101, l102, l103, l104, l105, l106, l107, l108, l109, l110, l122, l160, l240, l255, l600, l1000, l3000, l10000, l10007, l10116, l67108863, l67108864, I_oth, I_J, J_oth, J_I, I_row, J_row, SI_row, SI_oth, SI_J, SJ_row, SJ_oth, SJ_I, upd_s, upd_n, updL_s, updL_n, ne_eq, not_false_eq_true, lt_t, le_t, tI, NO_t, flag0, flag1, ite_or2, ite_self, true_or, or_true, false_or, or_false, true_and, and_true, false_and, and_false, not_true_eq_false, d1, r151, mgiv_e]
  · refine two_ref (nI 1) (r := NO) ?_ ?_ (fun w' z => OPY.st h z)
    · unfold X11_gap X11_gap_j18
      simp (disch := omega) only [gdn, gb0, gb1, ixn, nm1, nI_add, nI_mul, nsub, nI_ltI, nI_leI, nI_eq, eqNO, eqNO2, ltNO, NOlt, leNO, NOle, if_pos, if_neg, Option.bind_some, if_true, if_false, and_self, eq_self, l0, l1, l2, l3, l4, l5, l6, l7, l8, l9, l10, l11, l12, l13, l14, l15, l16, l17, l18, l19, l20, l24, l26, l30, l31, l32, l40, l41, l42, l43, l45, l47, l48, l57, l58, l59, l60, l61, l62, l63, l64, l97, l99, l100, l101, l102, l103, l104, l105, l106, l107, l108, l109, l110, l122, l160, l240, l255, l600, l1000, l3000, l10000, l10007, l10116, l67108863, l67108864, I_oth, I_J, J_oth, J_I, I_row, J_row, SI_row, SI_oth, SI_J, SJ_row, SJ_oth, SJ_I, upd_s, upd_n, updL_s, updL_n, ne_eq, not_false_eq_true, lt_t, le_t, tI, NO_t, flag0, flag1, ite_or2, ite_self, true_or, or_true, false_or, or_false, true_and, and_true, false_and, and_false, not_true_eq_false, lrn_e hL, week_e, deny_e]
    · unfold X12_gap X12_gap_j15
      have e6 : (puI w 0 10 (nI 1)).1 97 6 = nI (nn w 5 8) := by rw [I_oth (by decide), hL.2.1.2.2.1]; exact hL.1.2.2.1.1
      rw [mlr _ e6 (by omega), mweek_e]
      simp (disch := omega) only [gdn, gb0, gb1, ixn, nm1, nI_add, nI_mul, nsub, nI_ltI, nI_leI, nI_eq, eqNO, eqNO2, ltNO, NOlt, leNO, NOle, if_pos, if_neg, Option.bind_some, if_true, if_false, and_self, eq_self, l0, l1, l2, l3, l4, l5, l6, l7, l8, l9, l10, l11, l12, l13, l14, l15, l16, l17, l18, l19, l20, l24, l26, l30, l31, l32, l40, l41, l42, l43, l45, l47, l48, l57, l58, l59, l60, l61, l62, l63, l64, l97, l99, l100, l101, l102, l103, l104, l105, l106, l107, l108, l109, l110, l122, l160, l240, l255, l600, l1000, l3000, l10000, l10007, l10116, l67108863, l67108864, I_oth, I_J, J_oth, J_I, I_row, J_row, SI_row, SI_oth, SI_J, SJ_row, SJ_oth, SJ_I, upd_s, upd_n, updL_s, updL_n, ne_eq, not_false_eq_true, lt_t, le_t, tI, NO_t, flag0, flag1, ite_or2, ite_self, true_or, or_true, false_or, or_false, true_and, and_true, false_and, and_false, not_true_eq_false, mref_e]
theorem o_hours (a1 a2 a3 : Int32) {w : Wd} (h : YI w) : two (X11_hours a1 a2 a3) (X12_hours a1 a2 a3) w OPY := by
  have hL := h.1
  have b8 := hL.1.2.2.1.2
  by_cases hv : (0 ≤ a1.toInt ∧ a1.toInt < (nn w 5 8 : Int)) ∧ (0 ≤ a2.toInt ∧ a2.toInt < ((15 : Nat) : Int)) ∧ (0 ≤ a3.toInt ∧ a3.toInt < ((60 : Nat) : Int))
  · obtain ⟨v1, v2, v3⟩ := hv
    obtain ⟨l, hl, rfl⟩ := of_t v1
    obtain ⟨k, hk, rfl⟩ := of_t v2
    obtain ⟨week, hwk, rfl⟩ := of_t v3
    obtain ⟨w1, c1, c2, c3⟩ := reach_y h hwk
    obtain ⟨v, d1, d2, d3⟩ := along_y h (fr_ans (x := nI 0) c2) (K := week + 1) (by omega)
    rw [tp_s] at d1
    have r75 := (c3 l hl).2.2 k hk
    have r150 := (d3 l hl).1 k hk
    refine two_y (r := nI (YH w (week + 1) l k)) (x := nI 0) h c2 ?_ ⟨v, ?_, frGM d2⟩
    · unfold X11_hours X10_hoursBehind
      have ei : (40 * week + l) * 15 + k = 15 * (40 * week + l) + k := by omega
      simp (disch := omega) only [gdn, gb0, gb1, ixn, nm1, nI_add, nI_mul, nsub, nI_ltI, nI_leI, nI_eq, eqNO, eqNO2, ltNO, NOlt, leNO, NOle, if_pos, if_neg, Option.bind_some, if_true, if_false, and_self, eq_self, l0, l1, l2, l3, l4, l5, l6, l7, l8, l9, l10, l11, l12, l13, l14, l15, l16, l17, l18, l19, l20, l24, l26, l30, l31, l32, l40, l41, l42, l43, l45, l47, l48, l57, l58, l59, l60, l61, l62, l63, l64, l97, l99, l100, l101, l102, l103, l104, l105, l106, l107, l108, l109, l110, l122, l160, l240, l255, l600, l1000, l3000, l10000, l10007, l10116, l67108863, l67108864, I_oth, I_J, J_oth, J_I, I_row, J_row, SI_row, SI_oth, SI_J, SJ_row, SJ_oth, SJ_I, upd_s, upd_n, updL_s, updL_n, ne_eq, not_false_eq_true, lt_t, le_t, tI, NO_t, flag0, flag1, ite_or2, ite_self, true_or, or_true, false_or, or_false, true_and, and_true, false_and, and_false, not_true_eq_false, lrn_e hL, week_e, lesson_e, c1, cell_e, ei, r75, answer_e]
    · unfold X12_hours
      have e6 : (puI w1 0 10 (nI 0)).1 97 6 = nI (nn w 5 8) := by rw [((fr_ans (x := nI 0) c2).row 97 (by decide) (by decide)).1, hL.2.1.2.2.1]; exact hL.1.2.2.1.1
      rw [mlr _ e6 (by omega), mweek_e]
      simp (disch := omega) only [gdn, gb0, gb1, ixn, nm1, nI_add, nI_mul, nsub, nI_ltI, nI_leI, nI_eq, eqNO, eqNO2, ltNO, NOlt, leNO, NOle, if_pos, if_neg, Option.bind_some, if_true, if_false, and_self, eq_self, l0, l1, l2, l3, l4, l5, l6, l7, l8, l9, l10, l11, l12, l13, l14, l15, l16, l17, l18, l19, l20, l24, l26, l30, l31, l32, l40, l41, l42, l43, l45, l47, l48, l57, l58, l59, l60, l61, l62, l63, l64, l97, l99, l100, l101, l102, l103, l104, l105, l106, l107, l108, l109, l110, l122, l160, l240, l255, l600, l1000, l3000, l10000, l10007, l10116, l67108863, l67108864, I_oth, I_J, J_oth, J_I, I_row, J_row, SI_row, SI_oth, SI_J, SJ_row, SJ_oth, SJ_I, upd_s, upd_n, updL_s, updL_n, ne_eq, not_false_eq_true, lt_t, le_t, tI, NO_t, flag0, flag1, ite_or2, ite_self, true_or, or_true, false_or, or_false, true_and, and_true, false_and, and_false, not_true_eq_false, d1, r150, mgiv_e]
  · refine two_ref (nI 1) (r := NO) ?_ ?_ (fun w' z => OPY.st h z)
    · unfold X11_hours X11_hours_j25
      simp (disch := omega) only [gdn, gb0, gb1, ixn, nm1, nI_add, nI_mul, nsub, nI_ltI, nI_leI, nI_eq, eqNO, eqNO2, ltNO, NOlt, leNO, NOle, if_pos, if_neg, Option.bind_some, if_true, if_false, and_self, eq_self, l0, l1, l2, l3, l4, l5, l6, l7, l8, l9, l10, l11, l12, l13, l14, l15, l16, l17, l18, l19, l20, l24, l26, l30, l31, l32, l40, l41, l42, l43, l45, l47, l48, l57, l58, l59, l60, l61, l62, l63, l64, l97, l99, l100, l101, l102, l103, l104, l105, l106, l107, l108, l109, l110, l122, l160, l240, l255, l600, l1000, l3000, l10000, l10007, l10116, l67108863, l67108864, I_oth, I_J, J_oth, J_I, I_row, J_row, SI_row, SI_oth, SI_J, SJ_row, SJ_oth, SJ_I, upd_s, upd_n, updL_s, updL_n, ne_eq, not_false_eq_true, lt_t, le_t, tI, NO_t, flag0, flag1, ite_or2, ite_self, true_or, or_true, false_or, or_false, true_and, and_true, false_and, and_false, not_true_eq_false, lrn_e hL, week_e, lesson_e, deny_e]
    · unfold X12_hours X12_hours_j25
      have e6 : (puI w 0 10 (nI 1)).1 97 6 = nI (nn w 5 8) := by rw [I_oth (by decide), hL.2.1.2.2.1]; exact hL.1.2.2.1.1
      rw [mlr _ e6 (by omega), mweek_e]
      simp (disch := omega) only [gdn, gb0, gb1, ixn, nm1, nI_add, nI_mul, nsub, nI_ltI, nI_leI, nI_eq, eqNO, eqNO2, ltNO, NOlt, leNO, NOle, if_pos, if_neg, Option.bind_some, if_true, if_false, and_self, eq_self, l0, l1, l2, l3, l4, l5, l6, l7, l8, l9, l10, l11, l12, l13, l14, l15, l16, l17, l18, l19, l20, l24, l26, l30, l31, l32, l40, l41, l42, l43, l45, l47, l48, l57, l58, l59, l60, l61, l62, l63, l64, l97, l99, l100, l101, l102, l103, l104, l105, l106, l107, l108, l109, l110, l122, l160, l240, l255, l600, l1000, l3000, l10000, l10007, l10116, l67108863, l67108864, I_oth, I_J, J_oth, J_I, I_row, J_row, SI_row, SI_oth, SI_J, SJ_row, SJ_oth, SJ_I, upd_s, upd_n, updL_s, updL_n, ne_eq, not_false_eq_true, lt_t, le_t, tI, NO_t, flag0, flag1, ite_or2, ite_self, true_or, or_true, false_or, or_false, true_and, and_true, false_and, and_false, not_true_eq_false, mref_e]
