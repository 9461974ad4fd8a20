/-! what a RULE says, side by side -/
theorem draft_e {w : Wd} {t F D : Nat} (h0 : w.1 30 0 = nI t) (ht : t < 5) (h33 : w.1 33 t = nI F) (h14 : w.1 30 14 = nI (D + 1)) (hF : F + D < 100) : X0_draft w = some (nI (F + D)) := by
  unfold X0_draft
  simp (disch := omega) only [gdn, gb0, gb1, ixn, nm1, nI_add, nI_mul, nsub, nI_ltI, nI_leI, nI_eq, eqNO, eqNO2, ltNO, NOlt, leNO, NOle, if_pos, if_neg, Option.bind_some, if_true, if_false, and_self, eq_self, l0, l1, l2, l3, l4, l5, l6, l7, l8, l9, l10, l11, l12, l13, l14, l15, l16, l17, l18, l19, l20, l24, l26, l30, l31, l32, l40, l41, l42, l43, l45, l47, l48, l57, l58, l59, l60, l61, l62, l63, l64, l97, l99, l100, l101, l102, l103, l104, l105, l106, l107, l108, l109, l110, l122, l160, l240, l255, l600, l1000, l3000, l10000, l10007, l10116, l67108863, l67108864, h0, h33, h14]
  rw [show F + (D + 1) - 1 = F + D by omega, mx_nI (by omega) (by omega), Nat.max_eq_right (by omega)]
def DRF (w : Wd) (t F D : Nat) : Prop := w.1 30 0 = nI t ∧ t < 5 ∧ w.1 33 t = nI F ∧ w.1 30 14 = nI (D + 1) ∧ F + D < 100
theorem DRF.c {w w' : Wd} {t F D : Nat} (h : DRF w t F D) (e0 : w'.1 30 0 = w.1 30 0) (e33 : w'.1 33 = w.1 33) (e14 : w'.1 30 14 = w.1 30 14) : DRF w' t F D := ⟨by rw [e0]; exact h.1, h.2.1, by rw [e33]; exact h.2.2.1, by rw [e14]; exact h.2.2.2.1, h.2.2.2.2⟩
theorem KS.drf {a : Nat} {w w' : Wd} (e : KS a w w') {t F D : Nat} (h : DRF w t F D) : DRF w' t F D := h.c (e.1 30 (by decide) 0 (by decide)).1 (e.1.row 33 (by decide) (by decide)).1 (e.1 30 (by decide) 14 (by decide)).1
theorem KT.drf {a : Nat} {w w' : Wd} (e : KT a w w') {t F D : Nat} (h : DRF w t F D) : DRF w' t F D := h.c (e.1 30 (by decide) 0 (by decide)).1 (e.1.row 33 (by decide) (by decide)).1 (e.1 30 (by decide) 14 (by decide)).1
theorem f5.drf {w w' : Wd} (e : Fr [] f5 w w') {t F D : Nat} (h : DRF w t F D) : DRF w' t F D := h.c (e 30 (by decide) 0 (by decide)).1 (e.row 33 (by decide) (by decide)).1 (e 30 (by decide) 14 (by decide)).1
theorem DRF.e {w : Wd} {t F D : Nat} (h : DRF w t F D) : X0_draft w = some (nI (F + D)) := draft_e h.1 h.2.1 h.2.2.1 h.2.2.2.1 h.2.2.2.2
theorem KS.r7 {a : Nat} {w w' : Wd} (e : KS a w w') {k : Nat} (h1 : 35 ≤ k) (h2 : k ≤ 41) : w'.1 k = w.1 k ∧ w'.2 k = w.2 k := e.1.row k (by simp only [List.mem_cons, List.not_mem_nil, or_false]; omega) (by simp only [fS, List.map_cons, List.map_nil, List.mem_cons, List.not_mem_nil, or_false]; omega)
section
variable {w : Wd} {a : Nat} {Y U : List Nat}
/-- unless -/
theorem t_unless {t F D : Nat} (h : CX w 9 0 U a Y) (hD : DRF w t F D) (h7 : w.1 65 7 = nI 102) (hU : ∀ x ∈ U, 1 ≤ bnd x) (hL : U.length ≤ 8) (hC : a + Y.length + U.length ≤ 3000) (h12 : w.1 65 12 = nI 0 ∨ w.1 65 12 = nI 2) (h40 : w.1 40 (F + D) = NO) : ∃ e, X6_take w = some (nI 0, e) ∧ (CX e 7 0 [] a (Y ++ U.map opc) ∧ e.1 65 12 = nI 1 ∧ DRF e t F D ∧ e.1 40 (F + D) = nI (a + Y.length + U.length) ∧ (∀ k, 35 ≤ k → k ≤ 41 → k ≠ 40 → e.1 k = w.1 k ∧ e.2 k = w.2 k)) ∧ Kg fQ (F + D) a w e := by
  obtain ⟨h11, h14, hq⟩ := h
  obtain ⟨w1, r1, r2, r3, r4⟩ := release_e (b := 1) (A := U) (R := []) (by rw [List.append_nil]; exact hq) hU (fun x hx => by cases hx) (by rw [List.append_nil]; omega) hC (by omega)
  have f0 : KT a w w1 := ⟨(Fr.rf : Fr [42, 68] fT w w).next r3 (by decide) (by decide), r4⟩
  have hD1 := f0.drf hD
  obtain ⟨q1, q2, q3, q4⟩ := r2
  have hlen : (Y ++ U.map opc).length = Y.length + U.length := by rw [List.length_append, List.length_map]
  rw [hlen] at q3
  have hr : X6_isReckoner (nI 102) w = nI 0 := by rw [reck_e (by omega), if_neg (by omega)]
  have hb := hD.2.2.2.2
  have hu : X0_hasUnless w = some (nI 0) := by
    unfold X0_hasUnless
    simp (disch := omega) only [gdn, gb0, gb1, ixn, nm1, nI_add, nI_mul, nsub, nI_ltI, nI_leI, nI_eq, eqNO, eqNO2, ltNO, NOlt, leNO, NOle, if_pos, if_neg, Option.bind_some, if_true, if_false, and_self, eq_self, l0, l1, l2, l3, l4, l5, l6, l7, l8, l9, l10, l11, l12, l13, l14, l15, l16, l17, l18, l19, l20, l24, l26, l30, l31, l32, l40, l41, l42, l43, l45, l47, l48, l57, l58, l59, l60, l61, l62, l63, l64, l97, l99, l100, l101, l102, l103, l104, l105, l106, l107, l108, l109, l110, l122, l160, l240, l255, l600, l1000, l3000, l10000, l10007, l10116, l67108863, l67108864, hD.e, h40]
  have hF : F + D < 100 := hD.2.2.2.2
  refine ⟨puI (puI (puI (puI (puI w1 40 (F + D) (nI (a + (Y.length + U.length)))) 65 12 (nI 1)) 65 14 (nI 0)) 65 16 (nI 0)) 65 11 (nI 7), ?_, ⟨⟨I_self, ?_, ?_, trivial, ?_, ?_⟩, ?_, ?_, ?_, fun k k1 k2 k3 => ?_⟩, ?_⟩
  · have hx : X0_draftUnless w1 = some (puI w1 40 (F + D) (nI (a + (Y.length + U.length)))) := by
      unfold X0_draftUnless
      simp (disch := omega) only [gdn, gb0, gb1, ixn, nm1, nI_add, nI_mul, nsub, nI_ltI, nI_leI, nI_eq, eqNO, eqNO2, ltNO, NOlt, leNO, NOle, if_pos, if_neg, Option.bind_some, if_true, if_false, and_self, eq_self, l0, l1, l2, l3, l4, l5, l6, l7, l8, l9, l10, l11, l12, l13, l14, l15, l16, l17, l18, l19, l20, l24, l26, l30, l31, l32, l40, l41, l42, l43, l45, l47, l48, l57, l58, l59, l60, l61, l62, l63, l64, l97, l99, l100, l101, l102, l103, l104, l105, l106, l107, l108, l109, l110, l122, l160, l240, l255, l600, l1000, l3000, l10000, l10007, l10116, l67108863, l67108864, hD1.e, q3]
    unfold X6_take X6_takeBehindSum X6_openUnless X6_openSum
    rw [show (1 : Int32) = nI 1 from rfl] at *
    rcases h12 with e | e
    · simp (disch := omega) only [gdn, gb0, gb1, ixn, nm1, nI_add, nI_mul, nsub, nI_ltI, nI_leI, nI_eq, eqNO, eqNO2, ltNO, NOlt, leNO, NOle, if_pos, if_neg, Option.bind_some, if_true, if_false, and_self, eq_self, l0, l1, l2, l3, l4, l5, l6, l7, l8, l9, l10, l11, l12, l13, l14, l15, l16, l17, l18, l19, l20, l24, l26, l30, l31, l32, l40, l41, l42, l43, l45, l47, l48, l57, l58, l59, l60, l61, l62, l63, l64, l97, l99, l100, l101, l102, l103, l104, l105, l106, l107, l108, l109, l110, l122, l160, l240, l255, l600, l1000, l3000, l10000, l10007, l10116, l67108863, l67108864, h11, h14, h7, hr, e, hu, r1, hx, goOn_e]
    · simp (disch := omega) only [gdn, gb0, gb1, ixn, nm1, nI_add, nI_mul, nsub, nI_ltI, nI_leI, nI_eq, eqNO, eqNO2, ltNO, NOlt, leNO, NOle, if_pos, if_neg, Option.bind_some, if_true, if_false, and_self, eq_self, l0, l1, l2, l3, l4, l5, l6, l7, l8, l9, l10, l11, l12, l13, l14, l15, l16, l17, l18, l19, l20, l24, l26, l30, l31, l32, l40, l41, l42, l43, l45, l47, l48, l57, l58, l59, l60, l61, l62, l63, l64, l97, l99, l100, l101, l102, l103, l104, l105, l106, l107, l108, l109, l110, l122, l160, l240, l255, l600, l1000, l3000, l10000, l10007, l10116, l67108863, l67108864, h11, h14, h7, hr, e, hu, r1, hx, goOn_e]
  · rw [puI_ne (by decide), puI_ne (by decide), I_self]
  · rw [puI_ne (by decide), I_self]; rfl
  · rw [puI_ne (by decide), puI_ne (by decide), puI_ne (by decide), puI_ne (by decide), I_oth (by decide), q3, hlen]
  · refine q4.row ?_
    rw [I_oth (by decide), I_oth (by decide), I_oth (by decide), I_oth (by decide), I_oth (by decide)]
  · rw [puI_ne (by decide), puI_ne (by decide), puI_ne (by decide), I_self]
  · exact hD1.c (by simp (disch := omega) only [gdn, gb0, gb1, ixn, nm1, nI_add, nI_mul, nsub, nI_ltI, nI_leI, nI_eq, eqNO, eqNO2, ltNO, NOlt, leNO, NOle, if_pos, if_neg, Option.bind_some, if_true, if_false, and_self, eq_self, l0, l1, l2, l3, l4, l5, l6, l7, l8, l9, l10, l11, l12, l13, l14, l15, l16, l17, l18, l19, l20, l24, l26, l30, l31, l32, l40, l41, l42, l43, l45, l47, l48, l57, l58, l59, l60, l61, l62, l63, l64, l97, l99, l100, l101, l102, l103, l104, l105, l106, l107, l108, l109, l110, l122, l160, l240, l255, l600, l1000, l3000, l10000, l10007, l10116, l67108863, l67108864, I_oth, I_J, J_oth, J_I, I_row, J_row, SI_row, SI_oth, SI_J, SJ_row, SJ_oth, SJ_I, upd_s, upd_n, updL_s, updL_n, ne_eq, not_false_eq_true]) (by simp (disch := omega) only [gdn, gb0, gb1, ixn, nm1, nI_add, nI_mul, nsub, nI_ltI, nI_leI, nI_eq, eqNO, eqNO2, ltNO, NOlt, leNO, NOle, if_pos, if_neg, Option.bind_some, if_true, if_false, and_self, eq_self, l0, l1, l2, l3, l4, l5, l6, l7, l8, l9, l10, l11, l12, l13, l14, l15, l16, l17, l18, l19, l20, l24, l26, l30, l31, l32, l40, l41, l42, l43, l45, l47, l48, l57, l58, l59, l60, l61, l62, l63, l64, l97, l99, l100, l101, l102, l103, l104, l105, l106, l107, l108, l109, l110, l122, l160, l240, l255, l600, l1000, l3000, l10000, l10007, l10116, l67108863, l67108864, I_oth, I_J, J_oth, J_I, I_row, J_row, SI_row, SI_oth, SI_J, SJ_row, SJ_oth, SJ_I, upd_s, upd_n, updL_s, updL_n, ne_eq, not_false_eq_true]) (by simp (disch := omega) only [gdn, gb0, gb1, ixn, nm1, nI_add, nI_mul, nsub, nI_ltI, nI_leI, nI_eq, eqNO, eqNO2, ltNO, NOlt, leNO, NOle, if_pos, if_neg, Option.bind_some, if_true, if_false, and_self, eq_self, l0, l1, l2, l3, l4, l5, l6, l7, l8, l9, l10, l11, l12, l13, l14, l15, l16, l17, l18, l19, l20, l24, l26, l30, l31, l32, l40, l41, l42, l43, l45, l47, l48, l57, l58, l59, l60, l61, l62, l63, l64, l97, l99, l100, l101, l102, l103, l104, l105, l106, l107, l108, l109, l110, l122, l160, l240, l255, l600, l1000, l3000, l10000, l10007, l10116, l67108863, l67108864, I_oth, I_J, J_oth, J_I, I_row, J_row, SI_row, SI_oth, SI_J, SJ_row, SJ_oth, SJ_I, upd_s, upd_n, updL_s, updL_n, ne_eq, not_false_eq_true])
  · rw [I_oth (by decide), I_oth (by decide), I_oth (by decide), I_oth (by decide), I_self, ← Nat.add_assoc]
  · rw [I_oth (by omega), I_oth (by omega), I_oth (by omega), I_oth (by omega), I_oth k3]
    have := f0.1.row k (by simp only [List.mem_cons, List.not_mem_nil, or_false]; omega) (by simp only [fT, List.map_cons, List.map_nil, List.mem_cons, List.not_mem_nil, or_false]; omega)
    exact ⟨this.1, by rw [I_J, I_J, I_J, I_J, I_J]; exact this.2⟩
  · exact ((((f0.kg.rI (by omega) (by omega) (Nat.le_refl _)).fI (by decide) (Or.inr rfl)).fI (by decide) (Or.inr rfl)).fI (by decide) (Or.inr rfl)).fI (by decide) (Or.inr rfl)
/-- the RULE ends -/
theorem t_end {t F D : Nat} (h : CX w 9 0 U a Y) (hD : DRF w t F D) (h7 : w.1 65 7 = nI 59) (hU : ∀ x ∈ U, 1 ≤ bnd x) (hL : U.length ≤ 8) (hC : a + Y.length + U.length ≤ 3000) (h12 : w.1 65 12 = nI 0 ∨ w.1 65 12 = nI 2) : ∃ e, X6_take w = some (nI 0, e) ∧ (e.1 65 11 = nI 0 ∧ e.1 30 15 = nI (a + Y.length + U.length) ∧ CB e a (Y ++ U.map opc) ∧ DRF e t F D ∧ e.1 41 (F + D) = nI (a + Y.length + U.length) ∧ e.1 40 (F + D) = (if w.1 40 (F + D) = NO then nI (a + Y.length + U.length) else w.1 40 (F + D)) ∧ (∀ k, 35 ≤ k → k ≤ 39 → e.1 k = w.1 k ∧ e.2 k = w.2 k)) ∧ Kg fQ (F + D) a w e := by
  obtain ⟨h11, h14, hq⟩ := h
  obtain ⟨w1, r1, r2, r3, r4⟩ := release_e (b := 1) (A := U) (R := []) (by rw [List.append_nil]; exact hq) hU (fun x hx => by cases hx) (by rw [List.append_nil]; omega) hC (by omega)
  have f0 : KT a w w1 := ⟨(Fr.rf : Fr [42, 68] fT w w).next r3 (by decide) (by decide), r4⟩
  have hD1 := f0.drf hD
  obtain ⟨q1, q2, q3, q4⟩ := r2
  have hlen : (Y ++ U.map opc).length = Y.length + U.length := by rw [List.length_append, List.length_map]
  rw [hlen, ← Nat.add_assoc] at q3
  have hr : X6_isReckoner (nI 59) w = nI 0 := by rw [reck_e (by omega), if_neg (by omega)]
  have hF : F + D < 100 := hD.2.2.2.2
  have r7 : ∀ k, 35 ≤ k → k ≤ 41 → w1.1 k = w.1 k ∧ w1.2 k = w.2 k := fun k k1 k2 => f0.1.row k (by simp only [List.mem_cons, List.not_mem_nil, or_false]; omega) (by simp only [fT, List.map_cons, List.map_nil, List.mem_cons, List.not_mem_nil, or_false]; omega)
  have hcr : ∃ w2, X0_closeRule w1 = some w2 ∧ w2.1 41 (F + D) = nI (a + Y.length + U.length) ∧ w2.1 40 (F + D) = (if w.1 40 (F + D) = NO then nI (a + Y.length + U.length) else w.1 40 (F + D)) ∧ (∀ k, 35 ≤ k → k ≤ 39 → w2.1 k = w1.1 k ∧ w2.2 k = w1.2 k) ∧ Kg fQ (F + D) a w1 w2 ∧ (∀ j, w2.1 30 j = w1.1 30 j) ∧ w2.1 33 = w1.1 33 ∧ w2.1 42 = w1.1 42 := by
    have g40 : (puI w1 41 (F + D) (nI (a + Y.length + U.length))).1 40 (F + D) = w.1 40 (F + D) := by rw [I_oth (by decide), (r7 40 (by omega) (by omega)).1]
    have g15 : (puI w1 41 (F + D) (nI (a + Y.length + U.length))).1 30 15 = nI (a + Y.length + U.length) := by rw [I_oth (by decide)]; exact q3
    by_cases q : w.1 40 (F + D) = NO
    · refine ⟨puI (puI w1 41 (F + D) (nI (a + Y.length + U.length))) 40 (F + D) (nI (a + Y.length + U.length)), ?_, ?_, ?_, fun k k1 k2 => ?_, ?_, fun j => ?_, ?_, ?_⟩
      · unfold X0_closeRule
        simp (disch := omega) only [gdn, gb0, gb1, ixn, nm1, nI_add, nI_mul, nsub, nI_ltI, nI_leI, nI_eq, eqNO, eqNO2, ltNO, NOlt, leNO, NOle, if_pos, if_neg, Option.bind_some, if_true, if_false, and_self, eq_self, l0, l1, l2, l3, l4, l5, l6, l7, l8, l9, l10, l11, l12, l13, l14, l15, l16, l17, l18, l19, l20, l24, l26, l30, l31, l32, l40, l41, l42, l43, l45, l47, l48, l57, l58, l59, l60, l61, l62, l63, l64, l97, l99, l100, l101, l102, l103, l104, l105, l106, l107, l108, l109, l110, l122, l160, l240, l255, l600, l1000, l3000, l10000, l10007, l10116, l67108863, l67108864, hD1.e, q3, g40, q, g15]
      · rw [I_oth (by decide), I_self]
      · rw [I_self, if_pos q]
      · rw [I_oth (by omega), I_oth (by omega), I_J, I_J]; exact ⟨rfl, rfl⟩
      · exact (Kg.rf.rI (by omega) (by omega) (Nat.le_refl _)).rI (by omega) (by omega) (Nat.le_refl _)
      · rw [I_oth (by decide), I_oth (by decide)]
      · rw [I_oth (by decide), I_oth (by decide)]
      · rw [I_oth (by decide), I_oth (by decide)]
    · refine ⟨puI w1 41 (F + D) (nI (a + Y.length + U.length)), ?_, ?_, ?_, fun k k1 k2 => ?_, ?_, fun j => ?_, ?_, ?_⟩
      · unfold X0_closeRule
        simp (disch := omega) only [gdn, gb0, gb1, ixn, nm1, nI_add, nI_mul, nsub, nI_ltI, nI_leI, nI_eq, eqNO, eqNO2, ltNO, NOlt, leNO, NOle, if_pos, if_neg, Option.bind_some, if_true, if_false, and_self, eq_self, l0, l1, l2, l3, l4, l5, l6, l7, l8, l9, l10, l11, l12, l13, l14, l15, l16, l17, l18, l19, l20, l24, l26, l30, l31, l32, l40, l41, l42, l43, l45, l47, l48, l57, l58, l59, l60, l61, l62, l63, l64, l97, l99, l100, l101, l102, l103, l104, l105, l106, l107, l108, l109, l110, l122, l160, l240, l255, l600, l1000, l3000, l10000, l10007, l10116, l67108863, l67108864, hD1.e, q3, g40, q, g15]
      · rw [I_self]
      · rw [g40, if_neg q]
      · rw [I_oth (by omega), I_J]; exact ⟨rfl, rfl⟩
      · exact Kg.rf.rI (by omega) (by omega) (Nat.le_refl _)
      · rw [I_oth (by decide)]
      · rw [I_oth (by decide)]
      · rw [I_oth (by decide)]
  obtain ⟨w2, c1, c2, c3, c4, c5, c6, c7, c8⟩ := hcr
  refine ⟨puI w2 65 11 (nI 0), ?_, ⟨I_self, ?_, ?_, ?_, ?_, ?_, fun k k1 k2 => ?_⟩, ?_⟩
  · unfold X6_take X6_takeBehindSum X6_closeRule
    rcases h12 with e | e
    · simp (disch := omega) only [gdn, gb0, gb1, ixn, nm1, nI_add, nI_mul, nsub, nI_ltI, nI_leI, nI_eq, eqNO, eqNO2, ltNO, NOlt, leNO, NOle, if_pos, if_neg, Option.bind_some, if_true, if_false, and_self, eq_self, l0, l1, l2, l3, l4, l5, l6, l7, l8, l9, l10, l11, l12, l13, l14, l15, l16, l17, l18, l19, l20, l24, l26, l30, l31, l32, l40, l41, l42, l43, l45, l47, l48, l57, l58, l59, l60, l61, l62, l63, l64, l97, l99, l100, l101, l102, l103, l104, l105, l106, l107, l108, l109, l110, l122, l160, l240, l255, l600, l1000, l3000, l10000, l10007, l10116, l67108863, l67108864, h11, h14, h7, hr, e, r1, c1, goOn_e]
    · simp (disch := omega) only [gdn, gb0, gb1, ixn, nm1, nI_add, nI_mul, nsub, nI_ltI, nI_leI, nI_eq, eqNO, eqNO2, ltNO, NOlt, leNO, NOle, if_pos, if_neg, Option.bind_some, if_true, if_false, and_self, eq_self, l0, l1, l2, l3, l4, l5, l6, l7, l8, l9, l10, l11, l12, l13, l14, l15, l16, l17, l18, l19, l20, l24, l26, l30, l31, l32, l40, l41, l42, l43, l45, l47, l48, l57, l58, l59, l60, l61, l62, l63, l64, l97, l99, l100, l101, l102, l103, l104, l105, l106, l107, l108, l109, l110, l122, l160, l240, l255, l600, l1000, l3000, l10000, l10007, l10116, l67108863, l67108864, h11, h14, h7, hr, e, r1, c1, goOn_e]
  · rw [I_oth (by decide), c6]; exact q3
  · exact q4.row (by rw [I_oth (by decide), c8])
  · exact hD1.c (by rw [I_oth (by decide), c6]) (by rw [I_oth (by decide), c7]) (by rw [I_oth (by decide), c6])
  · rw [I_oth (by decide)]; exact c2
  · rw [I_oth (by decide)]; exact c3
  · rw [I_oth (by omega), I_J, (c4 k k1 k2).1, (c4 k k1 k2).2]; exact r7 k k1 (by omega)
  · exact (f0.kg.tr c5).fI (by decide) (Or.inr rfl)
theorem t_noend {t F D q : Nat} (h : CX w 9 0 U a Y) (hD : DRF w t F D) (h7 : w.1 65 7 = nI q) (hq : q < 128) (h59 : ¬ q = 59) (hr : ¬ (q = 43 ∨ q = 45 ∨ q = 42 ∨ q = 47)) (h12 : w.1 65 12 = nI 0 ∨ (w.1 65 12 = nI 2 ∧ ¬ (q = 107 ∨ q = 108))) (h40 : q = 102 → ¬ w.1 40 (F + D) = NO) : X6_take w = some (nI 2, w) := by
  obtain ⟨h11, h14, hq'⟩ := h
  have hr : X6_isReckoner (nI q) w = nI 0 := by rw [reck_e (by omega), if_neg hr]
  have hF : F + D < 100 := hD.2.2.2.2
  unfold X6_take X6_takeBehindSum X6_takeBehindSum_j92 X6_takeBehindSum_j72
  by_cases q2 : q = 102
  · have hu : X0_hasUnless w = some (nI 1) := by
      have := h40 q2
      unfold X0_hasUnless
      simp (disch := omega) only [gdn, gb0, gb1, ixn, nm1, nI_add, nI_mul, nsub, nI_ltI, nI_leI, nI_eq, eqNO, eqNO2, ltNO, NOlt, leNO, NOle, if_pos, if_neg, Option.bind_some, if_true, if_false, and_self, eq_self, l0, l1, l2, l3, l4, l5, l6, l7, l8, l9, l10, l11, l12, l13, l14, l15, l16, l17, l18, l19, l20, l24, l26, l30, l31, l32, l40, l41, l42, l43, l45, l47, l48, l57, l58, l59, l60, l61, l62, l63, l64, l97, l99, l100, l101, l102, l103, l104, l105, l106, l107, l108, l109, l110, l122, l160, l240, l255, l600, l1000, l3000, l10000, l10007, l10116, l67108863, l67108864, hD.e, this]
    subst q2
    rcases h12 with e | ⟨e, -⟩
    · simp (disch := omega) only [gdn, gb0, gb1, ixn, nm1, nI_add, nI_mul, nsub, nI_ltI, nI_leI, nI_eq, eqNO, eqNO2, ltNO, NOlt, leNO, NOle, if_pos, if_neg, Option.bind_some, if_true, if_false, and_self, eq_self, l0, l1, l2, l3, l4, l5, l6, l7, l8, l9, l10, l11, l12, l13, l14, l15, l16, l17, l18, l19, l20, l24, l26, l30, l31, l32, l40, l41, l42, l43, l45, l47, l48, l57, l58, l59, l60, l61, l62, l63, l64, l97, l99, l100, l101, l102, l103, l104, l105, l106, l107, l108, l109, l110, l122, l160, l240, l255, l600, l1000, l3000, l10000, l10007, l10116, l67108863, l67108864, h11, h14, h7, hr, e, hu]
    · simp (disch := omega) only [gdn, gb0, gb1, ixn, nm1, nI_add, nI_mul, nsub, nI_ltI, nI_leI, nI_eq, eqNO, eqNO2, ltNO, NOlt, leNO, NOle, if_pos, if_neg, Option.bind_some, if_true, if_false, and_self, eq_self, l0, l1, l2, l3, l4, l5, l6, l7, l8, l9, l10, l11, l12, l13, l14, l15, l16, l17, l18, l19, l20, l24, l26, l30, l31, l32, l40, l41, l42, l43, l45, l47, l48, l57, l58, l59, l60, l61, l62, l63, l64, l97, l99, l100, l101, l102, l103, l104, l105, l106, l107, l108, l109, l110, l122, l160, l240, l255, l600, l1000, l3000, l10000, l10007, l10116, l67108863, l67108864, h11, h14, h7, hr, e, hu]
  · rcases h12 with e | ⟨e, e2⟩
    · by_cases z1 : q = 60 ∨ q = 61 ∨ q = 62 ∨ q = 107 ∨ q = 108
      · rcases z1 with z | z | z | z | z <;> subst z <;> simp (disch := omega) only [gdn, gb0, gb1, ixn, nm1, nI_add, nI_mul, nsub, nI_ltI, nI_leI, nI_eq, eqNO, eqNO2, ltNO, NOlt, leNO, NOle, if_pos, if_neg, Option.bind_some, if_true, if_false, and_self, eq_self, l0, l1, l2, l3, l4, l5, l6, l7, l8, l9, l10, l11, l12, l13, l14, l15, l16, l17, l18, l19, l20, l24, l26, l30, l31, l32, l40, l41, l42, l43, l45, l47, l48, l57, l58, l59, l60, l61, l62, l63, l64, l97, l99, l100, l101, l102, l103, l104, l105, l106, l107, l108, l109, l110, l122, l160, l240, l255, l600, l1000, l3000, l10000, l10007, l10116, l67108863, l67108864, h11, h14, h7, hr, e]
      · simp (disch := omega) only [gdn, gb0, gb1, ixn, nm1, nI_add, nI_mul, nsub, nI_ltI, nI_leI, nI_eq, eqNO, eqNO2, ltNO, NOlt, leNO, NOle, if_pos, if_neg, Option.bind_some, if_true, if_false, and_self, eq_self, l0, l1, l2, l3, l4, l5, l6, l7, l8, l9, l10, l11, l12, l13, l14, l15, l16, l17, l18, l19, l20, l24, l26, l30, l31, l32, l40, l41, l42, l43, l45, l47, l48, l57, l58, l59, l60, l61, l62, l63, l64, l97, l99, l100, l101, l102, l103, l104, l105, l106, l107, l108, l109, l110, l122, l160, l240, l255, l600, l1000, l3000, l10000, l10007, l10116, l67108863, l67108864, h11, h14, h7, hr, e]
    · by_cases z1 : q = 60 ∨ q = 61 ∨ q = 62
      · rcases z1 with z | z | z <;> subst z <;> simp (disch := omega) only [gdn, gb0, gb1, ixn, nm1, nI_add, nI_mul, nsub, nI_ltI, nI_leI, nI_eq, eqNO, eqNO2, ltNO, NOlt, leNO, NOle, if_pos, if_neg, Option.bind_some, if_true, if_false, and_self, eq_self, l0, l1, l2, l3, l4, l5, l6, l7, l8, l9, l10, l11, l12, l13, l14, l15, l16, l17, l18, l19, l20, l24, l26, l30, l31, l32, l40, l41, l42, l43, l45, l47, l48, l57, l58, l59, l60, l61, l62, l63, l64, l97, l99, l100, l101, l102, l103, l104, l105, l106, l107, l108, l109, l110, l122, l160, l240, l255, l600, l1000, l3000, l10000, l10007, l10116, l67108863, l67108864, h11, h14, h7, hr, e]
      · simp (disch := omega) only [gdn, gb0, gb1, ixn, nm1, nI_add, nI_mul, nsub, nI_ltI, nI_leI, nI_eq, eqNO, eqNO2, ltNO, NOlt, leNO, NOle, if_pos, if_neg, Option.bind_some, if_true, if_false, and_self, eq_self, l0, l1, l2, l3, l4, l5, l6, l7, l8, l9, l10, l11, l12, l13, l14, l15, l16, l17, l18, l19, l20, l24, l26, l30, l31, l32, l40, l41, l42, l43, l45, l47, l48, l57, l58, l59, l60, l61, l62, l63, l64, l97, l99, l100, l101, l102, l103, l104, l105, l106, l107, l108, l109, l110, l122, l160, l240, l255, l600, l1000, l3000, l10000, l10007, l10116, l67108863, l67108864, h11, h14, h7, hr, e]
end
