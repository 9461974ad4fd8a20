/-- a search: the first of n -/
theorem lp_hit {E : Type} {b : Int32 → Option (Int32 ⊕ E)} {p : Nat → Prop} {n : Nat} {e : E} (step : ∀ i, i < n → ¬ p i → b (nI i) = some (.inl (nI (i + 1)))) (hit : ∀ i, i < n → p i → b (nI i) = some (.inr e)) (h : ∃ i, i < n ∧ p i) : lp b (nI 0) = some e := by
  obtain ⟨k, hk, hp, hm⟩ := least_of h
  exact lp_for (fun i => nI i) k (fun i hi => step i (by omega) (hm i hi)) (hit k hk hp) 0 (Nat.zero_le _)
theorem lp_miss {E : Type} {b : Int32 → Option (Int32 ⊕ E)} {p : Nat → Prop} {n : Nat} {e : E} (step : ∀ i, i < n → ¬ p i → b (nI i) = some (.inl (nI (i + 1)))) (last : b (nI n) = some (.inr e)) (h : ¬ ∃ i, i < n ∧ p i) : lp b (nI 0) = some e :=
  lp_for (fun i => nI i) n (fun i hi => step i hi (fun q => h ⟨i, hi, q⟩)) last 0 (Nat.zero_le _)
def joined (w : Wd) (a b : Nat) : Prop := ∃ i, i < nn w 5 2 ∧ ((nn w 7 i = a ∧ nn w 8 i = b) ∨ (nn w 7 i = b ∧ nn w 8 i = a))
theorem joined_e {w : Wd} (h : IL w) {a b : Nat} (ha : a < 16) (hb : b < 16) : X2_areJoined (nI a) (nI b) w = some (fg (joined w a b)) := by
  have hW := h.1.2.1
  have hW2 := hW.2
  have hP := h.1.1.2
  have ht := h.2.2.2.2.2.1
  have hst : ∀ i, i < nn w 5 2 → ¬ ((nn w 7 i = a ∧ nn w 8 i = b) ∨ (nn w 7 i = b ∧ nn w 8 i = a)) → X2_areJoined_b2 (nI a) (nI b) w (nI i) = some (.inl (nI (i + 1))) := by
    intro i hi q
    obtain ⟨⟨e7, b7⟩, ⟨e8, b8⟩, -⟩ := ht i hi
    unfold X2_areJoined_b2 X2_areJoined_j30 X2_areJoined_j52
    by_cases q1 : nn w 7 i = a
    · by_cases q2 : nn w 8 i = b
      · exact (q (Or.inl ⟨q1, q2⟩)).elim
      · by_cases q3 : nn w 7 i = b
        · by_cases q4 : nn w 8 i = a
          · exact (q (Or.inr ⟨q3, q4⟩)).elim
          · simp (disch := omega) only [gdn, gb0, gb1, ixn, nm1, nI_add, nI_mul, nsub, nI_ltI, nI_leI, nI_eq, eqNO, eqNO2, ltNO, NOlt, leNO, NOle, if_pos, if_neg, Option.bind_some, if_true, if_false, and_self, eq_self, l0, l1, l2, l3, l4, l5, l6, l7, l8, l9, l10, l11, l12, l13, l14, l15, l16, l17, l18, l19, l20, l24, l26, l30, l31, l32, l40, l41, l42, l43, l45, l47, l48, l57, l58, l59, l60, l61, l62, l63, l64, l97, l99, l100, l101, l102, l103, l104, l105, l106, l107, l108, l109, l110, l122, l160, l240, l255, l600, l1000, l3000, l10000, l10007, l10116, l67108863, l67108864, I_oth, I_J, J_oth, J_I, I_row, J_row, SI_row, SI_oth, SI_J, SJ_row, SJ_oth, SJ_I, upd_s, upd_n, updL_s, updL_n, ne_eq, not_false_eq_true, hW.1, e7, e8]
        · simp (disch := omega) only [gdn, gb0, gb1, ixn, nm1, nI_add, nI_mul, nsub, nI_ltI, nI_leI, nI_eq, eqNO, eqNO2, ltNO, NOlt, leNO, NOle, if_pos, if_neg, Option.bind_some, if_true, if_false, and_self, eq_self, l0, l1, l2, l3, l4, l5, l6, l7, l8, l9, l10, l11, l12, l13, l14, l15, l16, l17, l18, l19, l20, l24, l26, l30, l31, l32, l40, l41, l42, l43, l45, l47, l48, l57, l58, l59, l60, l61, l62, l63, l64, l97, l99, l100, l101, l102, l103, l104, l105, l106, l107, l108, l109, l110, l122, l160, l240, l255, l600, l1000, l3000, l10000, l10007, l10116, l67108863, l67108864, I_oth, I_J, J_oth, J_I, I_row, J_row, SI_row, SI_oth, SI_J, SJ_row, SJ_oth, SJ_I, upd_s, upd_n, updL_s, updL_n, ne_eq, not_false_eq_true, hW.1, e7, e8]
    · by_cases q3 : nn w 7 i = b
      · by_cases q4 : nn w 8 i = a
        · exact (q (Or.inr ⟨q3, q4⟩)).elim
        · simp (disch := omega) only [gdn, gb0, gb1, ixn, nm1, nI_add, nI_mul, nsub, nI_ltI, nI_leI, nI_eq, eqNO, eqNO2, ltNO, NOlt, leNO, NOle, if_pos, if_neg, Option.bind_some, if_true, if_false, and_self, eq_self, l0, l1, l2, l3, l4, l5, l6, l7, l8, l9, l10, l11, l12, l13, l14, l15, l16, l17, l18, l19, l20, l24, l26, l30, l31, l32, l40, l41, l42, l43, l45, l47, l48, l57, l58, l59, l60, l61, l62, l63, l64, l97, l99, l100, l101, l102, l103, l104, l105, l106, l107, l108, l109, l110, l122, l160, l240, l255, l600, l1000, l3000, l10000, l10007, l10116, l67108863, l67108864, I_oth, I_J, J_oth, J_I, I_row, J_row, SI_row, SI_oth, SI_J, SJ_row, SJ_oth, SJ_I, upd_s, upd_n, updL_s, updL_n, ne_eq, not_false_eq_true, hW.1, e7, e8]
      · simp (disch := omega) only [gdn, gb0, gb1, ixn, nm1, nI_add, nI_mul, nsub, nI_ltI, nI_leI, nI_eq, eqNO, eqNO2, ltNO, NOlt, leNO, NOle, if_pos, if_neg, Option.bind_some, if_true, if_false, and_self, eq_self, l0, l1, l2, l3, l4, l5, l6, l7, l8, l9, l10, l11, l12, l13, l14, l15, l16, l17, l18, l19, l20, l24, l26, l30, l31, l32, l40, l41, l42, l43, l45, l47, l48, l57, l58, l59, l60, l61, l62, l63, l64, l97, l99, l100, l101, l102, l103, l104, l105, l106, l107, l108, l109, l110, l122, l160, l240, l255, l600, l1000, l3000, l10000, l10007, l10116, l67108863, l67108864, I_oth, I_J, J_oth, J_I, I_row, J_row, SI_row, SI_oth, SI_J, SJ_row, SJ_oth, SJ_I, upd_s, upd_n, updL_s, updL_n, ne_eq, not_false_eq_true, hW.1, e7, e8]
  have hhit : ∀ i, i < nn w 5 2 → ((nn w 7 i = a ∧ nn w 8 i = b) ∨ (nn w 7 i = b ∧ nn w 8 i = a)) → X2_areJoined_b2 (nI a) (nI b) w (nI i) = some (.inr (.inl ())) := by
    intro i hi q
    obtain ⟨⟨e7, b7⟩, ⟨e8, b8⟩, -⟩ := ht i hi
    unfold X2_areJoined_b2 X2_areJoined_j30 X2_areJoined_j52
    rcases q with ⟨q1, q2⟩ | ⟨q1, q2⟩
    · simp (disch := omega) only [gdn, gb0, gb1, ixn, nm1, nI_add, nI_mul, nsub, nI_ltI, nI_leI, nI_eq, eqNO, eqNO2, ltNO, NOlt, leNO, NOle, if_pos, if_neg, Option.bind_some, if_true, if_false, and_self, eq_self, l0, l1, l2, l3, l4, l5, l6, l7, l8, l9, l10, l11, l12, l13, l14, l15, l16, l17, l18, l19, l20, l24, l26, l30, l31, l32, l40, l41, l42, l43, l45, l47, l48, l57, l58, l59, l60, l61, l62, l63, l64, l97, l99, l100, l101, l102, l103, l104, l105, l106, l107, l108, l109, l110, l122, l160, l240, l255, l600, l1000, l3000, l10000, l10007, l10116, l67108863, l67108864, I_oth, I_J, J_oth, J_I, I_row, J_row, SI_row, SI_oth, SI_J, SJ_row, SJ_oth, SJ_I, upd_s, upd_n, updL_s, updL_n, ne_eq, not_false_eq_true, hW.1, e7, e8]
    · by_cases q3 : a = b
      · simp (disch := omega) only [gdn, gb0, gb1, ixn, nm1, nI_add, nI_mul, nsub, nI_ltI, nI_leI, nI_eq, eqNO, eqNO2, ltNO, NOlt, leNO, NOle, if_pos, if_neg, Option.bind_some, if_true, if_false, and_self, eq_self, l0, l1, l2, l3, l4, l5, l6, l7, l8, l9, l10, l11, l12, l13, l14, l15, l16, l17, l18, l19, l20, l24, l26, l30, l31, l32, l40, l41, l42, l43, l45, l47, l48, l57, l58, l59, l60, l61, l62, l63, l64, l97, l99, l100, l101, l102, l103, l104, l105, l106, l107, l108, l109, l110, l122, l160, l240, l255, l600, l1000, l3000, l10000, l10007, l10116, l67108863, l67108864, I_oth, I_J, J_oth, J_I, I_row, J_row, SI_row, SI_oth, SI_J, SJ_row, SJ_oth, SJ_I, upd_s, upd_n, updL_s, updL_n, ne_eq, not_false_eq_true, hW.1, e7, e8]
      · simp (disch := omega) only [gdn, gb0, gb1, ixn, nm1, nI_add, nI_mul, nsub, nI_ltI, nI_leI, nI_eq, eqNO, eqNO2, ltNO, NOlt, leNO, NOle, if_pos, if_neg, Option.bind_some, if_true, if_false, and_self, eq_self, l0, l1, l2, l3, l4, l5, l6, l7, l8, l9, l10, l11, l12, l13, l14, l15, l16, l17, l18, l19, l20, l24, l26, l30, l31, l32, l40, l41, l42, l43, l45, l47, l48, l57, l58, l59, l60, l61, l62, l63, l64, l97, l99, l100, l101, l102, l103, l104, l105, l106, l107, l108, l109, l110, l122, l160, l240, l255, l600, l1000, l3000, l10000, l10007, l10116, l67108863, l67108864, I_oth, I_J, J_oth, J_I, I_row, J_row, SI_row, SI_oth, SI_J, SJ_row, SJ_oth, SJ_I, upd_s, upd_n, updL_s, updL_n, ne_eq, not_false_eq_true, hW.1, e7, e8]
  unfold X2_areJoined
  rw [show (0 : Int32) = nI 0 from rfl]
  by_cases hj : joined w a b
  · rw [lp_hit hst hhit hj, fg_t hj]; rfl
  · rw [lp_miss hst (e := .inr ()) (by unfold X2_areJoined_b2; simp (disch := omega) only [gdn, gb0, gb1, ixn, nm1, nI_add, nI_mul, nsub, nI_ltI, nI_leI, nI_eq, eqNO, eqNO2, ltNO, NOlt, leNO, NOle, if_pos, if_neg, Option.bind_some, if_true, if_false, and_self, eq_self, l0, l1, l2, l3, l4, l5, l6, l7, l8, l9, l10, l11, l12, l13, l14, l15, l16, l17, l18, l19, l20, l24, l26, l30, l31, l32, l40, l41, l42, l43, l45, l47, l48, l57, l58, l59, l60, l61, l62, l63, l64, l97, l99, l100, l101, l102, l103, l104, l105, l106, l107, l108, l109, l110, l122, l160, l240, l255, l600, l1000, l3000, l10000, l10007, l10116, l67108863, l67108864, I_oth, I_J, J_oth, J_I, I_row, J_row, SI_row, SI_oth, SI_J, SJ_row, SJ_oth, SJ_I, upd_s, upd_n, updL_s, updL_n, ne_eq, not_false_eq_true, hW.1]) hj, fg_f hj]; rfl
theorem mjoined_e {w u : Wd} (h : IL w) (u5 : u.1 97 5 = w.1 97 5) (u7 : u.1 102 = w.1 102) (u8 : u.1 103 = w.1 103) {a b : Nat} {a3 a4 a5 : Int32} (ha : a < 16) (hb : b < 16) {f : Unit ⊕ Unit} (hf : f = .inl () ∧ joined w a b ∨ f = .inr () ∧ ¬ joined w a b) : lp (X12_way_b103 (nI a) (nI b) a3 a4 a5 u) (nI 0) = some f := by
  have hW := h.1.2.1
  have hW2 := hW.2
  have hP := h.1.1.2
  have hm : u.1 97 5 = nI (nn w 5 2) := by rw [u5, h.2.1.2.1]; exact hW.1
  obtain ⟨-, m7, m8, -⟩ := h.2.2.1
  rw [← u7] at m7
  rw [← u8] at m8
  have ht := h.2.2.2.2.2.1
  have hst : ∀ i, i < nn w 5 2 → ¬ ((nn w 7 i = a ∧ nn w 8 i = b) ∨ (nn w 7 i = b ∧ nn w 8 i = a)) → X12_way_b103 (nI a) (nI b) a3 a4 a5 u (nI i) = some (.inl (nI (i + 1))) := by
    intro i hi q
    obtain ⟨⟨e7, b7⟩, ⟨e8, b8⟩, -⟩ := ht i hi
    unfold X12_way_b103 X12_way_j134 X12_way_j163
    rw [m7, m8]
    by_cases q1 : nn w 7 i = a
    · by_cases q2 : nn w 8 i = b
      · exact (q (Or.inl ⟨q1, q2⟩)).elim
      · by_cases q3 : nn w 7 i = b
        · by_cases q4 : nn w 8 i = a
          · exact (q (Or.inr ⟨q3, q4⟩)).elim
          · simp (disch := omega) only [gdn, gb0, gb1, ixn, nm1, nI_add, nI_mul, nsub, nI_ltI, nI_leI, nI_eq, eqNO, eqNO2, ltNO, NOlt, leNO, NOle, if_pos, if_neg, Option.bind_some, if_true, if_false, and_self, eq_self, l0, l1, l2, l3, l4, l5, l6, l7, l8, l9, l10, l11, l12, l13, l14, l15, l16, l17, l18, l19, l20, l24, l26, l30, l31, l32, l40, l41, l42, l43, l45, l47, l48, l57, l58, l59, l60, l61, l62, l63, l64, l97, l99, l100, l101, l102, l103, l104, l105, l106, l107, l108, l109, l110, l122, l160, l240, l255, l600, l1000, l3000, l10000, l10007, l10116, l67108863, l67108864, I_oth, I_J, J_oth, J_I, I_row, J_row, SI_row, SI_oth, SI_J, SJ_row, SJ_oth, SJ_I, upd_s, upd_n, updL_s, updL_n, ne_eq, not_false_eq_true, hm, e7, e8]
        · simp (disch := omega) only [gdn, gb0, gb1, ixn, nm1, nI_add, nI_mul, nsub, nI_ltI, nI_leI, nI_eq, eqNO, eqNO2, ltNO, NOlt, leNO, NOle, if_pos, if_neg, Option.bind_some, if_true, if_false, and_self, eq_self, l0, l1, l2, l3, l4, l5, l6, l7, l8, l9, l10, l11, l12, l13, l14, l15, l16, l17, l18, l19, l20, l24, l26, l30, l31, l32, l40, l41, l42, l43, l45, l47, l48, l57, l58, l59, l60, l61, l62, l63, l64, l97, l99, l100, l101, l102, l103, l104, l105, l106, l107, l108, l109, l110, l122, l160, l240, l255, l600, l1000, l3000, l10000, l10007, l10116, l67108863, l67108864, I_oth, I_J, J_oth, J_I, I_row, J_row, SI_row, SI_oth, SI_J, SJ_row, SJ_oth, SJ_I, upd_s, upd_n, updL_s, updL_n, ne_eq, not_false_eq_true, hm, e7, e8]
    · by_cases q3 : nn w 7 i = b
      · by_cases q4 : nn w 8 i = a
        · exact (q (Or.inr ⟨q3, q4⟩)).elim
        · simp (disch := omega) only [gdn, gb0, gb1, ixn, nm1, nI_add, nI_mul, nsub, nI_ltI, nI_leI, nI_eq, eqNO, eqNO2, ltNO, NOlt, leNO, NOle, if_pos, if_neg, Option.bind_some, if_true, if_false, and_self, eq_self, l0, l1, l2, l3, l4, l5, l6, l7, l8, l9, l10, l11, l12, l13, l14, l15, l16, l17, l18, l19, l20, l24, l26, l30, l31, l32, l40, l41, l42, l43, l45, l47, l48, l57, l58, l59, l60, l61, l62, l63, l64, l97, l99, l100, l101, l102, l103, l104, l105, l106, l107, l108, l109, l110, l122, l160, l240, l255, l600, l1000, l3000, l10000, l10007, l10116, l67108863, l67108864, I_oth, I_J, J_oth, J_I, I_row, J_row, SI_row, SI_oth, SI_J, SJ_row, SJ_oth, SJ_I, upd_s, upd_n, updL_s, updL_n, ne_eq, not_false_eq_true, hm, e7, e8]
      · simp (disch := omega) only [gdn, gb0, gb1, ixn, nm1, nI_add, nI_mul, nsub, nI_ltI, nI_leI, nI_eq, eqNO, eqNO2, ltNO, NOlt, leNO, NOle, if_pos, if_neg, Option.bind_some, if_true, if_false, and_self, eq_self, l0, l1, l2, l3, l4, l5, l6, l7, l8, l9, l10, l11, l12, l13, l14, l15, l16, l17, l18, l19, l20, l24, l26, l30, l31, l32, l40, l41, l42, l43, l45, l47, l48, l57, l58, l59, l60, l61, l62, l63, l64, l97, l99, l100, l101, l102, l103, l104, l105, l106, l107, l108, l109, l110, l122, l160, l240, l255, l600, l1000, l3000, l10000, l10007, l10116, l67108863, l67108864, I_oth, I_J, J_oth, J_I, I_row, J_row, SI_row, SI_oth, SI_J, SJ_row, SJ_oth, SJ_I, upd_s, upd_n, updL_s, updL_n, ne_eq, not_false_eq_true, hm, e7, e8]
  have hhit : ∀ i, i < nn w 5 2 → ((nn w 7 i = a ∧ nn w 8 i = b) ∨ (nn w 7 i = b ∧ nn w 8 i = a)) → X12_way_b103 (nI a) (nI b) a3 a4 a5 u (nI i) = some (.inr (.inl ())) := by
    intro i hi q
    obtain ⟨⟨e7, b7⟩, ⟨e8, b8⟩, -⟩ := ht i hi
    unfold X12_way_b103 X12_way_j134 X12_way_j163
    rw [m7, m8]
    rcases q with ⟨q1, q2⟩ | ⟨q1, q2⟩
    · simp (disch := omega) only [gdn, gb0, gb1, ixn, nm1, nI_add, nI_mul, nsub, nI_ltI, nI_leI, nI_eq, eqNO, eqNO2, ltNO, NOlt, leNO, NOle, if_pos, if_neg, Option.bind_some, if_true, if_false, and_self, eq_self, l0, l1, l2, l3, l4, l5, l6, l7, l8, l9, l10, l11, l12, l13, l14, l15, l16, l17, l18, l19, l20, l24, l26, l30, l31, l32, l40, l41, l42, l43, l45, l47, l48, l57, l58, l59, l60, l61, l62, l63, l64, l97, l99, l100, l101, l102, l103, l104, l105, l106, l107, l108, l109, l110, l122, l160, l240, l255, l600, l1000, l3000, l10000, l10007, l10116, l67108863, l67108864, I_oth, I_J, J_oth, J_I, I_row, J_row, SI_row, SI_oth, SI_J, SJ_row, SJ_oth, SJ_I, upd_s, upd_n, updL_s, updL_n, ne_eq, not_false_eq_true, hm, e7, e8]
    · by_cases q3 : a = b
      · simp (disch := omega) only [gdn, gb0, gb1, ixn, nm1, nI_add, nI_mul, nsub, nI_ltI, nI_leI, nI_eq, eqNO, eqNO2, ltNO, NOlt, leNO, NOle, if_pos, if_neg, Option.bind_some, if_true, if_false, and_self, eq_self, l0, l1, l2, l3, l4, l5, l6, l7, l8, l9, l10, l11, l12, l13, l14, l15, l16, l17, l18, l19, l20, l24, l26, l30, l31, l32, l40, l41, l42, l43, l45, l47, l48, l57, l58, l59, l60, l61, l62, l63, l64, l97, l99, l100, l101, l102, l103, l104, l105, l106, l107, l108, l109, l110, l122, l160, l240, l255, l600, l1000, l3000, l10000, l10007, l10116, l67108863, l67108864, I_oth, I_J, J_oth, J_I, I_row, J_row, SI_row, SI_oth, SI_J, SJ_row, SJ_oth, SJ_I, upd_s, upd_n, updL_s, updL_n, ne_eq, not_false_eq_true, hm, e7, e8]
      · simp (disch := omega) only [gdn, gb0, gb1, ixn, nm1, nI_add, nI_mul, nsub, nI_ltI, nI_leI, nI_eq, eqNO, eqNO2, ltNO, NOlt, leNO, NOle, if_pos, if_neg, Option.bind_some, if_true, if_false, and_self, eq_self, l0, l1, l2, l3, l4, l5, l6, l7, l8, l9, l10, l11, l12, l13, l14, l15, l16, l17, l18, l19, l20, l24, l26, l30, l31, l32, l40, l41, l42, l43, l45, l47, l48, l57, l58, l59, l60, l61, l62, l63, l64, l97, l99, l100, l101, l102, l103, l104, l105, l106, l107, l108, l109, l110, l122, l160, l240, l255, l600, l1000, l3000, l10000, l10007, l10116, l67108863, l67108864, I_oth, I_J, J_oth, J_I, I_row, J_row, SI_row, SI_oth, SI_J, SJ_row, SJ_oth, SJ_I, upd_s, upd_n, updL_s, updL_n, ne_eq, not_false_eq_true, hm, e7, e8]
  rcases hf with ⟨rfl, hj⟩ | ⟨rfl, hj⟩
  · exact lp_hit hst hhit hj
  · exact lp_miss hst (by unfold X12_way_b103; simp (disch := omega) only [gdn, gb0, gb1, ixn, nm1, nI_add, nI_mul, nsub, nI_ltI, nI_leI, nI_eq, eqNO, eqNO2, ltNO, NOlt, leNO, NOle, if_pos, if_neg, Option.bind_some, if_true, if_false, and_self, eq_self, l0, l1, l2, l3, l4, l5, l6, l7, l8, l9, l10, l11, l12, l13, l14, l15, l16, l17, l18, l19, l20, l24, l26, l30, l31, l32, l40, l41, l42, l43, l45, l47, l48, l57, l58, l59, l60, l61, l62, l63, l64, l97, l99, l100, l101, l102, l103, l104, l105, l106, l107, l108, l109, l110, l122, l160, l240, l255, l600, l1000, l3000, l10000, l10007, l10116, l67108863, l67108864, I_oth, I_J, J_oth, J_I, I_row, J_row, SI_row, SI_oth, SI_J, SJ_row, SJ_oth, SJ_I, upd_s, upd_n, updL_s, updL_n, ne_eq, not_false_eq_true, hm]) hj
theorem o_way (a1 a2 a3 a4 a5 : Int32) {w : Wd} (h : IL w) : two (X11_way a1 a2 a3 a4 a5) (X12_way a1 a2 a3 a4 a5) w (fun w' => St w w' ∨ (IS w' ∧ IL w' ∧ w'.1 73 4 = mnI (w.1 73 4) (nI 0))) := by
  have c0 := h.1.2.1.1
  have b0 := h.1.2.1.2
  have bP := h.1.1.2
  have mP : w.1 97 4 = nI (nn w 5 0) := by rw [h.2.1.1]; exact h.1.1.1
  have m0 : w.1 97 5 = nI (nn w 5 2) := by rw [h.2.1.2.1]; exact c0
  have hNO : ∀ x : Int32, x = NO ↔ x.toInt = -1 := fun x => by rw [eq_t, NO_t]
  by_cases hv : ((0 ≤ a1.toInt ∧ a1.toInt < (nn w 5 0 : Int)) ∧ (0 ≤ a2.toInt ∧ a2.toInt < (nn w 5 0 : Int)) ∧ a1.toInt ≠ a2.toInt ∧ (((1 : Nat) : Int) ≤ a3.toInt ∧ a3.toInt < ((10 : Nat) : Int))) ∧ ((a4.toInt = -1 ∧ a5.toInt = -1) ∨ ((0 ≤ a4.toInt ∧ a4.toInt < ((60 : Nat) : Int)) ∧ (0 ≤ a5.toInt ∧ a5.toInt < ((60 : Nat) : Int)) ∧ a4.toInt ≤ a5.toInt))
  · obtain ⟨⟨h1, h2, h12, h3⟩, hs⟩ := hv
    obtain ⟨a, la, rfl⟩ := of_t h1
    obtain ⟨b, lb, rfl⟩ := of_t h2
    obtain ⟨c, lc, rfl⟩ := of_t (n := 10) (show 0 ≤ a3.toInt ∧ a3.toInt < _ from ⟨by omega, h3.2⟩)
    rw [tI (by omega)] at h3
    rw [tI (by omega), tI (by omega)] at h12
    -- both come to the same place
    have k1 : X11_way (nI a) (nI b) (nI c) a4 a5 w = X11_way_j77 (nI a) (nI b) (nI c) a4 a5 w := by
      unfold X11_way X11_way_j16 X11_way_j17
      simp only [show (-1 : Int32) = NO from rfl]
      by_cases q4 : a4 = NO
      · by_cases q5 : a5 = NO
        · rw [if_pos q4, if_pos q5]
          simp (disch := omega) only [gdn, gb0, gb1, ixn, nm1, nI_add, nI_mul, nsub, nI_ltI, nI_leI, nI_eq, eqNO, eqNO2, ltNO, NOlt, leNO, NOle, if_pos, if_neg, Option.bind_some, if_true, if_false, and_self, eq_self, l0, l1, l2, l3, l4, l5, l6, l7, l8, l9, l10, l11, l12, l13, l14, l15, l16, l17, l18, l19, l20, l24, l26, l30, l31, l32, l40, l41, l42, l43, l45, l47, l48, l57, l58, l59, l60, l61, l62, l63, l64, l97, l99, l100, l101, l102, l103, l104, l105, l106, l107, l108, l109, l110, l122, l160, l240, l255, l600, l1000, l3000, l10000, l10007, l10116, l67108863, l67108864, I_oth, I_J, J_oth, J_I, I_row, J_row, SI_row, SI_oth, SI_J, SJ_row, SJ_oth, SJ_I, upd_s, upd_n, updL_s, updL_n, ne_eq, not_false_eq_true, lt_t, le_t, tI, NO_t, flag0, flag1, ite_or2, ite_self, true_or, or_true, false_or, or_false, true_and, and_true, false_and, and_false, not_true_eq_false, place_e h, win, wil, span_e]
        · rw [if_pos q4, if_neg q5]
          rw [hNO] at q4 q5
          exact absurd hs (by omega)
      · rw [if_neg q4]
        rw [hNO] at q4
        simp (disch := omega) only [gdn, gb0, gb1, ixn, nm1, nI_add, nI_mul, nsub, nI_ltI, nI_leI, nI_eq, eqNO, eqNO2, ltNO, NOlt, leNO, NOle, if_pos, if_neg, Option.bind_some, if_true, if_false, and_self, eq_self, l0, l1, l2, l3, l4, l5, l6, l7, l8, l9, l10, l11, l12, l13, l14, l15, l16, l17, l18, l19, l20, l24, l26, l30, l31, l32, l40, l41, l42, l43, l45, l47, l48, l57, l58, l59, l60, l61, l62, l63, l64, l97, l99, l100, l101, l102, l103, l104, l105, l106, l107, l108, l109, l110, l122, l160, l240, l255, l600, l1000, l3000, l10000, l10007, l10116, l67108863, l67108864, I_oth, I_J, J_oth, J_I, I_row, J_row, SI_row, SI_oth, SI_J, SJ_row, SJ_oth, SJ_I, upd_s, upd_n, updL_s, updL_n, ne_eq, not_false_eq_true, lt_t, le_t, tI, NO_t, flag0, flag1, ite_or2, ite_self, true_or, or_true, false_or, or_false, true_and, and_true, false_and, and_false, not_true_eq_false, place_e h, win, wil, span_e]
    have k2 : ∀ u : Wd, u.1 97 4 = nI (nn w 5 0) → X12_way (nI a) (nI b) (nI c) a4 a5 u = X12_way_j85 (nI a) (nI b) (nI c) a4 a5 u := by
      intro u hu
      unfold X12_way X12_way_j16 X12_way_j17
      simp only [show (-1 : Int32) = NO from rfl]
      rw [mpl (n := nn w 5 0) _ hu (by omega), mpl (n := nn w 5 0) _ hu (by omega)]
      by_cases q4 : a4 = NO
      · by_cases q5 : a5 = NO
        · rw [if_pos q4, if_pos q5]
          simp (disch := omega) only [gdn, gb0, gb1, ixn, nm1, nI_add, nI_mul, nsub, nI_ltI, nI_leI, nI_eq, eqNO, eqNO2, ltNO, NOlt, leNO, NOle, if_pos, if_neg, Option.bind_some, if_true, if_false, and_self, eq_self, l0, l1, l2, l3, l4, l5, l6, l7, l8, l9, l10, l11, l12, l13, l14, l15, l16, l17, l18, l19, l20, l24, l26, l30, l31, l32, l40, l41, l42, l43, l45, l47, l48, l57, l58, l59, l60, l61, l62, l63, l64, l97, l99, l100, l101, l102, l103, l104, l105, l106, l107, l108, l109, l110, l122, l160, l240, l255, l600, l1000, l3000, l10000, l10007, l10116, l67108863, l67108864, I_oth, I_J, J_oth, J_I, I_row, J_row, SI_row, SI_oth, SI_J, SJ_row, SJ_oth, SJ_I, upd_s, upd_n, updL_s, updL_n, ne_eq, not_false_eq_true, lt_t, le_t, tI, NO_t, flag0, flag1, ite_or2, ite_self, true_or, or_true, false_or, or_false, true_and, and_true, false_and, and_false, not_true_eq_false, mweek_e]
        · rw [if_pos q4, if_neg q5]
          rw [hNO] at q4 q5
          exact absurd hs (by omega)
      · rw [if_neg q4]
        rw [hNO] at q4
        simp (disch := omega) only [gdn, gb0, gb1, ixn, nm1, nI_add, nI_mul, nsub, nI_ltI, nI_leI, nI_eq, eqNO, eqNO2, ltNO, NOlt, leNO, NOle, if_pos, if_neg, Option.bind_some, if_true, if_false, and_self, eq_self, l0, l1, l2, l3, l4, l5, l6, l7, l8, l9, l10, l11, l12, l13, l14, l15, l16, l17, l18, l19, l20, l24, l26, l30, l31, l32, l40, l41, l42, l43, l45, l47, l48, l57, l58, l59, l60, l61, l62, l63, l64, l97, l99, l100, l101, l102, l103, l104, l105, l106, l107, l108, l109, l110, l122, l160, l240, l255, l600, l1000, l3000, l10000, l10007, l10116, l67108863, l67108864, I_oth, I_J, J_oth, J_I, I_row, J_row, SI_row, SI_oth, SI_J, SJ_row, SJ_oth, SJ_I, upd_s, upd_n, updL_s, updL_n, ne_eq, not_false_eq_true, lt_t, le_t, tI, NO_t, flag0, flag1, ite_or2, ite_self, true_or, or_true, false_or, or_false, true_and, and_true, false_and, and_false, not_true_eq_false, mweek_e]
    have hxy : (a4 = NO ∧ a5 = NO) ∨ ∃ u v : Nat, a4 = nI u ∧ a5 = nI v ∧ u < 60 ∧ v < 60 := by
      rcases hs with ⟨z1, z2⟩ | ⟨z1, z2, -⟩
      · exact Or.inl ⟨(hNO _).mpr z1, (hNO _).mpr z2⟩
      · obtain ⟨u, hu, rfl⟩ := of_t z1
        obtain ⟨v, hv, rfl⟩ := of_t z2
        exact Or.inr ⟨u, v, rfl, rfl, hu, hv⟩
    by_cases hc : nn w 5 2 < 30
    · by_cases hj : joined w a b
      · refine two_ref (nI 7) (r := NO) ?_ ?_ (fun w' z => Or.inl z)
        · rw [k1]
          unfold X11_way_j77
          simp (disch := omega) only [gdn, gb0, gb1, ixn, nm1, nI_add, nI_mul, nsub, nI_ltI, nI_leI, nI_eq, eqNO, eqNO2, ltNO, NOlt, leNO, NOle, if_pos, if_neg, Option.bind_some, if_true, if_false, and_self, eq_self, l0, l1, l2, l3, l4, l5, l6, l7, l8, l9, l10, l11, l12, l13, l14, l15, l16, l17, l18, l19, l20, l24, l26, l30, l31, l32, l40, l41, l42, l43, l45, l47, l48, l57, l58, l59, l60, l61, l62, l63, l64, l97, l99, l100, l101, l102, l103, l104, l105, l106, l107, l108, l109, l110, l122, l160, l240, l255, l600, l1000, l3000, l10000, l10007, l10116, l67108863, l67108864, I_oth, I_J, J_oth, J_I, I_row, J_row, SI_row, SI_oth, SI_J, SJ_row, SJ_oth, SJ_I, upd_s, upd_n, updL_s, updL_n, ne_eq, not_false_eq_true, lt_t, le_t, tI, NO_t, flag0, flag1, ite_or2, ite_self, true_or, or_true, false_or, or_false, true_and, and_true, false_and, and_false, not_true_eq_false, c0, joined_e h, fg_t hj, deny_e]
        · rw [k2 _ (show (puI _ 0 10 _).1 97 4 = _ from mP)]
          unfold X12_way_j85
          rw [show (0 : Int32) = nI 0 from rfl, mjoined_e h ?_ ?_ ?_ (by omega) (by omega) (Or.inl ⟨rfl, hj⟩)]
          · simp (disch := omega) only [gdn, gb0, gb1, ixn, nm1, nI_add, nI_mul, nsub, nI_ltI, nI_leI, nI_eq, eqNO, eqNO2, ltNO, NOlt, leNO, NOle, if_pos, if_neg, Option.bind_some, if_true, if_false, and_self, eq_self, l0, l1, l2, l3, l4, l5, l6, l7, l8, l9, l10, l11, l12, l13, l14, l15, l16, l17, l18, l19, l20, l24, l26, l30, l31, l32, l40, l41, l42, l43, l45, l47, l48, l57, l58, l59, l60, l61, l62, l63, l64, l97, l99, l100, l101, l102, l103, l104, l105, l106, l107, l108, l109, l110, l122, l160, l240, l255, l600, l1000, l3000, l10000, l10007, l10116, l67108863, l67108864, I_oth, I_J, J_oth, J_I, I_row, J_row, SI_row, SI_oth, SI_J, SJ_row, SJ_oth, SJ_I, upd_s, upd_n, updL_s, updL_n, ne_eq, not_false_eq_true, lt_t, le_t, tI, NO_t, flag0, flag1, ite_or2, ite_self, true_or, or_true, false_or, or_false, true_and, and_true, false_and, and_false, not_true_eq_false, m0, mref_e]
          · rfl
          · rfl
          · rfl
      · refine ⟨nI (nn w 5 2), puI (puI (puI (puI (puI (puI (puI (puI w 73 4 (mnI (w.1 73 4) (nI 0))) 7 (nn w 5 2) (nI a)) 8 (nn w 5 2) (nI b)) 9 (nn w 5 2) (nI c)) 10 (nn w 5 2) a4) 11 (nn w 5 2) a5) 5 2 (nI (nn w 5 2 + 1))) 0 10 (nI 0), _, ?_, ?_, Or.inr ⟨?_, IL_way (w0 := puI w 73 4 (mnI (w.1 73 4) (nI 0))) (n := nn w 5 2) (show IL _ from h) rfl hc la lb lc (by omega) hxy, rfl⟩⟩
        · rw [k1]
          unfold X11_way_j77 X2_addWay
          simp (disch := omega) only [gdn, gb0, gb1, ixn, nm1, nI_add, nI_mul, nsub, nI_ltI, nI_leI, nI_eq, eqNO, eqNO2, ltNO, NOlt, leNO, NOle, if_pos, if_neg, Option.bind_some, if_true, if_false, and_self, eq_self, l0, l1, l2, l3, l4, l5, l6, l7, l8, l9, l10, l11, l12, l13, l14, l15, l16, l17, l18, l19, l20, l24, l26, l30, l31, l32, l40, l41, l42, l43, l45, l47, l48, l57, l58, l59, l60, l61, l62, l63, l64, l97, l99, l100, l101, l102, l103, l104, l105, l106, l107, l108, l109, l110, l122, l160, l240, l255, l600, l1000, l3000, l10000, l10007, l10116, l67108863, l67108864, I_oth, I_J, J_oth, J_I, I_row, J_row, SI_row, SI_oth, SI_J, SJ_row, SJ_oth, SJ_I, upd_s, upd_n, updL_s, updL_n, ne_eq, not_false_eq_true, lt_t, le_t, tI, NO_t, flag0, flag1, ite_or2, ite_self, true_or, or_true, false_or, or_false, true_and, and_true, false_and, and_false, not_true_eq_false, c0, joined_e h, fg_f hj, answer_e, relive_e]
        · rw [k2 _ ?_]
          · unfold X12_way_j85
            rw [show (0 : Int32) = nI 0 from rfl, mjoined_e h ?_ ?_ ?_ (by omega) (by omega) (Or.inr ⟨rfl, hj⟩)]
            · simp (disch := omega) only [gdn, gb0, gb1, ixn, nm1, nI_add, nI_mul, nsub, nI_ltI, nI_leI, nI_eq, eqNO, eqNO2, ltNO, NOlt, leNO, NOle, if_pos, if_neg, Option.bind_some, if_true, if_false, and_self, eq_self, l0, l1, l2, l3, l4, l5, l6, l7, l8, l9, l10, l11, l12, l13, l14, l15, l16, l17, l18, l19, l20, l24, l26, l30, l31, l32, l40, l41, l42, l43, l45, l47, l48, l57, l58, l59, l60, l61, l62, l63, l64, l97, l99, l100, l101, l102, l103, l104, l105, l106, l107, l108, l109, l110, l122, l160, l240, l255, l600, l1000, l3000, l10000, l10007, l10116, l67108863, l67108864, I_oth, I_J, J_oth, J_I, I_row, J_row, SI_row, SI_oth, SI_J, SJ_row, SJ_oth, SJ_I, upd_s, upd_n, updL_s, updL_n, ne_eq, not_false_eq_true, lt_t, le_t, tI, NO_t, flag0, flag1, ite_or2, ite_self, true_or, or_true, false_or, or_false, true_and, and_true, false_and, and_false, not_true_eq_false, m0, mgiv_e]
              rw [show nn w 5 2 + 1 - 1 = nn w 5 2 by omega]
            · rfl
            · rfl
            · rfl
          · exact mP
        · exact rfl
    · refine two_ref (nI 4) (r := NO) ?_ ?_ (fun w' z => Or.inl z)
      · rw [k1]
        unfold X11_way_j77
        simp (disch := omega) only [gdn, gb0, gb1, ixn, nm1, nI_add, nI_mul, nsub, nI_ltI, nI_leI, nI_eq, eqNO, eqNO2, ltNO, NOlt, leNO, NOle, if_pos, if_neg, Option.bind_some, if_true, if_false, and_self, eq_self, l0, l1, l2, l3, l4, l5, l6, l7, l8, l9, l10, l11, l12, l13, l14, l15, l16, l17, l18, l19, l20, l24, l26, l30, l31, l32, l40, l41, l42, l43, l45, l47, l48, l57, l58, l59, l60, l61, l62, l63, l64, l97, l99, l100, l101, l102, l103, l104, l105, l106, l107, l108, l109, l110, l122, l160, l240, l255, l600, l1000, l3000, l10000, l10007, l10116, l67108863, l67108864, I_oth, I_J, J_oth, J_I, I_row, J_row, SI_row, SI_oth, SI_J, SJ_row, SJ_oth, SJ_I, upd_s, upd_n, updL_s, updL_n, ne_eq, not_false_eq_true, lt_t, le_t, tI, NO_t, flag0, flag1, ite_or2, ite_self, true_or, or_true, false_or, or_false, true_and, and_true, false_and, and_false, not_true_eq_false, c0, deny_e]
      · rw [k2 _ (show (puI _ 0 10 _).1 97 4 = _ from mP)]
        unfold X12_way_j85
        have : nn w 5 2 = 30 := by omega
        simp (disch := omega) only [gdn, gb0, gb1, ixn, nm1, nI_add, nI_mul, nsub, nI_ltI, nI_leI, nI_eq, eqNO, eqNO2, ltNO, NOlt, leNO, NOle, if_pos, if_neg, Option.bind_some, if_true, if_false, and_self, eq_self, l0, l1, l2, l3, l4, l5, l6, l7, l8, l9, l10, l11, l12, l13, l14, l15, l16, l17, l18, l19, l20, l24, l26, l30, l31, l32, l40, l41, l42, l43, l45, l47, l48, l57, l58, l59, l60, l61, l62, l63, l64, l97, l99, l100, l101, l102, l103, l104, l105, l106, l107, l108, l109, l110, l122, l160, l240, l255, l600, l1000, l3000, l10000, l10007, l10116, l67108863, l67108864, I_oth, I_J, J_oth, J_I, I_row, J_row, SI_row, SI_oth, SI_J, SJ_row, SJ_oth, SJ_I, upd_s, upd_n, updL_s, updL_n, ne_eq, not_false_eq_true, lt_t, le_t, tI, NO_t, flag0, flag1, ite_or2, ite_self, true_or, or_true, false_or, or_false, true_and, and_true, false_and, and_false, not_true_eq_false, m0, mref_e]
  · refine two_ref (nI 1) (r := NO) ?_ ?_ (fun w' z => Or.inl z)
    · unfold X11_way X11_way_j16
      simp only [show (-1 : Int32) = NO from rfl]
      by_cases q : a4 = NO ∧ a5 = NO
      · have q4 := (hNO _).mp q.1
        have q5 := (hNO _).mp q.2
        rw [if_pos q.1, if_pos q.2]
        unfold X11_way_j17 X11_way_j71
        simp only [eq_t (x := a1) (y := a2)]
        simp (disch := omega) only [gdn, gb0, gb1, ixn, nm1, nI_add, nI_mul, nsub, nI_ltI, nI_leI, nI_eq, eqNO, eqNO2, ltNO, NOlt, leNO, NOle, if_pos, if_neg, Option.bind_some, if_true, if_false, and_self, eq_self, l0, l1, l2, l3, l4, l5, l6, l7, l8, l9, l10, l11, l12, l13, l14, l15, l16, l17, l18, l19, l20, l24, l26, l30, l31, l32, l40, l41, l42, l43, l45, l47, l48, l57, l58, l59, l60, l61, l62, l63, l64, l97, l99, l100, l101, l102, l103, l104, l105, l106, l107, l108, l109, l110, l122, l160, l240, l255, l600, l1000, l3000, l10000, l10007, l10116, l67108863, l67108864, I_oth, I_J, J_oth, J_I, I_row, J_row, SI_row, SI_oth, SI_J, SJ_row, SJ_oth, SJ_I, upd_s, upd_n, updL_s, updL_n, ne_eq, not_false_eq_true, lt_t, le_t, tI, NO_t, flag0, flag1, ite_or2, ite_self, true_or, or_true, false_or, or_false, true_and, and_true, false_and, and_false, not_true_eq_false, place_e h, win, deny_e]
      · have k : (if a4 = NO then if a5 = NO then X11_way_j17 a1 a2 a3 a4 a5 1 w else X11_way_j17 a1 a2 a3 a4 a5 0 w else X11_way_j17 a1 a2 a3 a4 a5 0 w) = X11_way_j17 a1 a2 a3 a4 a5 0 w := by
          by_cases q4 : a4 = NO
          · rw [if_pos q4, if_neg (fun z => q ⟨q4, z⟩)]
          · rw [if_neg q4]
        rw [k]
        unfold X11_way_j17 X11_way_j71
        rw [hNO, hNO] at q
        simp only [eq_t (x := a1) (y := a2)]
        simp (disch := omega) only [gdn, gb0, gb1, ixn, nm1, nI_add, nI_mul, nsub, nI_ltI, nI_leI, nI_eq, eqNO, eqNO2, ltNO, NOlt, leNO, NOle, if_pos, if_neg, Option.bind_some, if_true, if_false, and_self, eq_self, l0, l1, l2, l3, l4, l5, l6, l7, l8, l9, l10, l11, l12, l13, l14, l15, l16, l17, l18, l19, l20, l24, l26, l30, l31, l32, l40, l41, l42, l43, l45, l47, l48, l57, l58, l59, l60, l61, l62, l63, l64, l97, l99, l100, l101, l102, l103, l104, l105, l106, l107, l108, l109, l110, l122, l160, l240, l255, l600, l1000, l3000, l10000, l10007, l10116, l67108863, l67108864, I_oth, I_J, J_oth, J_I, I_row, J_row, SI_row, SI_oth, SI_J, SJ_row, SJ_oth, SJ_I, upd_s, upd_n, updL_s, updL_n, ne_eq, not_false_eq_true, lt_t, le_t, tI, NO_t, flag0, flag1, ite_or2, ite_self, true_or, or_true, false_or, or_false, true_and, and_true, false_and, and_false, not_true_eq_false, place_e h, win, span_e, deny_e]
    · unfold X12_way X12_way_j16
      simp only [show (-1 : Int32) = NO from rfl]
      by_cases q : a4 = NO ∧ a5 = NO
      · have q4 := (hNO _).mp q.1
        have q5 := (hNO _).mp q.2
        rw [if_pos q.1, if_pos q.2]
        unfold X12_way_j17 X12_way_j79
        rw [mpl (n := nn w 5 0) _ (show (puI _ 0 10 _).1 97 4 = _ from mP) (by omega), mpl (n := nn w 5 0) _ (show (puI _ 0 10 _).1 97 4 = _ from mP) (by omega)]
        simp only [eq_t (x := a1) (y := a2)]
        simp (disch := omega) only [gdn, gb0, gb1, ixn, nm1, nI_add, nI_mul, nsub, nI_ltI, nI_leI, nI_eq, eqNO, eqNO2, ltNO, NOlt, leNO, NOle, if_pos, if_neg, Option.bind_some, if_true, if_false, and_self, eq_self, l0, l1, l2, l3, l4, l5, l6, l7, l8, l9, l10, l11, l12, l13, l14, l15, l16, l17, l18, l19, l20, l24, l26, l30, l31, l32, l40, l41, l42, l43, l45, l47, l48, l57, l58, l59, l60, l61, l62, l63, l64, l97, l99, l100, l101, l102, l103, l104, l105, l106, l107, l108, l109, l110, l122, l160, l240, l255, l600, l1000, l3000, l10000, l10007, l10116, l67108863, l67108864, I_oth, I_J, J_oth, J_I, I_row, J_row, SI_row, SI_oth, SI_J, SJ_row, SJ_oth, SJ_I, upd_s, upd_n, updL_s, updL_n, ne_eq, not_false_eq_true, lt_t, le_t, tI, NO_t, flag0, flag1, ite_or2, ite_self, true_or, or_true, false_or, or_false, true_and, and_true, false_and, and_false, not_true_eq_false, mref_e]
      · have k : (if a4 = NO then if a5 = NO then X12_way_j17 a1 a2 a3 a4 a5 1 (puI w 0 10 (nI 1)) else X12_way_j17 a1 a2 a3 a4 a5 0 (puI w 0 10 (nI 1)) else X12_way_j17 a1 a2 a3 a4 a5 0 (puI w 0 10 (nI 1))) = X12_way_j17 a1 a2 a3 a4 a5 0 (puI w 0 10 (nI 1)) := by
          by_cases q4 : a4 = NO
          · rw [if_pos q4, if_neg (fun z => q ⟨q4, z⟩)]
          · rw [if_neg q4]
        rw [k]
        unfold X12_way_j17 X12_way_j79
        rw [hNO, hNO] at q
        rw [mpl (n := nn w 5 0) _ (show (puI _ 0 10 _).1 97 4 = _ from mP) (by omega), mpl (n := nn w 5 0) _ (show (puI _ 0 10 _).1 97 4 = _ from mP) (by omega)]
        simp only [eq_t (x := a1) (y := a2)]
        simp (disch := omega) only [gdn, gb0, gb1, ixn, nm1, nI_add, nI_mul, nsub, nI_ltI, nI_leI, nI_eq, eqNO, eqNO2, ltNO, NOlt, leNO, NOle, if_pos, if_neg, Option.bind_some, if_true, if_false, and_self, eq_self, l0, l1, l2, l3, l4, l5, l6, l7, l8, l9, l10, l11, l12, l13, l14, l15, l16, l17, l18, l19, l20, l24, l26, l30, l31, l32, l40, l41, l42, l43, l45, l47, l48, l57, l58, l59, l60, l61, l62, l63, l64, l97, l99, l100, l101, l102, l103, l104, l105, l106, l107, l108, l109, l110, l122, l160, l240, l255, l600, l1000, l3000, l10000, l10007, l10116, l67108863, l67108864, I_oth, I_J, J_oth, J_I, I_row, J_row, SI_row, SI_oth, SI_J, SJ_row, SJ_oth, SJ_I, upd_s, upd_n, updL_s, updL_n, ne_eq, not_false_eq_true, lt_t, le_t, tI, NO_t, flag0, flag1, ite_or2, ite_self, true_or, or_true, false_or, or_false, true_and, and_true, false_and, and_false, not_true_eq_false, mweek_e, mref_e]
theorem o_arrival (a1 a2 a3 : Int32) {w : Wd} (h : IL w) : two (X11_arrival a1 a2 a3) (X12_arrival a1 a2 a3) w (fun w' => IS w') := by
  have bP := h.1.1.2
  have mP : w.1 97 4 = nI (nn w 5 0) := by rw [h.2.1.1]; exact h.1.1.1
  by_cases hv : (0 ≤ a1.toInt ∧ a1.toInt < (nn w 5 0 : Int)) ∧ (0 ≤ a2.toInt ∧ a2.toInt < (nn w 5 0 : Int)) ∧ (0 ≤ a3.toInt ∧ a3.toInt < ((60 : Nat) : Int))
  · obtain ⟨h1, h2, h3⟩ := hv
    obtain ⟨a, la, rfl⟩ := of_t h1
    obtain ⟨b, lb, rfl⟩ := of_t h2
    obtain ⟨c, lc, rfl⟩ := of_t h3
    have hle := arr_le (w := w) (s := a) lc b
    have k1 : X11_arrival (nI a) (nI b) (nI c) w = X11_answerOr (nI 6) (if arr w a c b = 60 then NO else nI (arr w a c b)) (seI w 18 (rwN 16 (arr w a c) (w.1 18))) := by
      unfold X11_arrival X2_reached
      rw [travel_e h la lc]
      by_cases q : arr w a c b = 60
      · simp (disch := omega) only [gdn, gb0, gb1, ixn, nm1, nI_add, nI_mul, nsub, nI_ltI, nI_leI, nI_eq, eqNO, eqNO2, ltNO, NOlt, leNO, NOle, if_pos, if_neg, Option.bind_some, if_true, if_false, and_self, eq_self, l0, l1, l2, l3, l4, l5, l6, l7, l8, l9, l10, l11, l12, l13, l14, l15, l16, l17, l18, l19, l20, l24, l26, l30, l31, l32, l40, l41, l42, l43, l45, l47, l48, l57, l58, l59, l60, l61, l62, l63, l64, l97, l99, l100, l101, l102, l103, l104, l105, l106, l107, l108, l109, l110, l122, l160, l240, l255, l600, l1000, l3000, l10000, l10007, l10116, l67108863, l67108864, I_oth, I_J, J_oth, J_I, I_row, J_row, SI_row, SI_oth, SI_J, SJ_row, SJ_oth, SJ_I, upd_s, upd_n, updL_s, updL_n, ne_eq, not_false_eq_true, lt_t, le_t, tI, NO_t, flag0, flag1, ite_or2, ite_self, true_or, or_true, false_or, or_false, true_and, and_true, false_and, and_false, not_true_eq_false, place_e h, week_e, rwN_lt, ansOr_e]
      · simp (disch := omega) only [gdn, gb0, gb1, ixn, nm1, nI_add, nI_mul, nsub, nI_ltI, nI_leI, nI_eq, eqNO, eqNO2, ltNO, NOlt, leNO, NOle, if_pos, if_neg, Option.bind_some, if_true, if_false, and_self, eq_self, l0, l1, l2, l3, l4, l5, l6, l7, l8, l9, l10, l11, l12, l13, l14, l15, l16, l17, l18, l19, l20, l24, l26, l30, l31, l32, l40, l41, l42, l43, l45, l47, l48, l57, l58, l59, l60, l61, l62, l63, l64, l97, l99, l100, l101, l102, l103, l104, l105, l106, l107, l108, l109, l110, l122, l160, l240, l255, l600, l1000, l3000, l10000, l10007, l10116, l67108863, l67108864, I_oth, I_J, J_oth, J_I, I_row, J_row, SI_row, SI_oth, SI_J, SJ_row, SJ_oth, SJ_I, upd_s, upd_n, updL_s, updL_n, ne_eq, not_false_eq_true, lt_t, le_t, tI, NO_t, flag0, flag1, ite_or2, ite_self, true_or, or_true, false_or, or_false, true_and, and_true, false_and, and_false, not_true_eq_false, place_e h, week_e, rwN_lt, ansOr_e]
    have k2 : ∀ u : Wd, IL u → arr u a c = arr w a c → nn u 5 0 = nn w 5 0 → X12_arrival (nI a) (nI b) (nI c) u = if arr w a c b = 60 then some (NO, puI (seI u 107 (rwN 16 (cv (arr w a c)) (u.1 107))) 97 0 (nI 6)) else some (nI (arr w a c b), puI (seI u 107 (rwN 16 (cv (arr w a c)) (u.1 107))) 97 0 (nI 0)) := by
      intro u hu ha hn
      unfold X12_arrival
      rw [mtravel_e hu (by omega) lc, ha]
      by_cases q : arr w a c b = 60
      · have e : cv (arr w a c) b = 1000 := if_pos q
        simp (disch := omega) only [gdn, gb0, gb1, ixn, nm1, nI_add, nI_mul, nsub, nI_ltI, nI_leI, nI_eq, eqNO, eqNO2, ltNO, NOlt, leNO, NOle, if_pos, if_neg, Option.bind_some, if_true, if_false, and_self, eq_self, l0, l1, l2, l3, l4, l5, l6, l7, l8, l9, l10, l11, l12, l13, l14, l15, l16, l17, l18, l19, l20, l24, l26, l30, l31, l32, l40, l41, l42, l43, l45, l47, l48, l57, l58, l59, l60, l61, l62, l63, l64, l97, l99, l100, l101, l102, l103, l104, l105, l106, l107, l108, l109, l110, l122, l160, l240, l255, l600, l1000, l3000, l10000, l10007, l10116, l67108863, l67108864, I_oth, I_J, J_oth, J_I, I_row, J_row, SI_row, SI_oth, SI_J, SJ_row, SJ_oth, SJ_I, upd_s, upd_n, updL_s, updL_n, ne_eq, not_false_eq_true, lt_t, le_t, tI, NO_t, flag0, flag1, ite_or2, ite_self, true_or, or_true, false_or, or_false, true_and, and_true, false_and, and_false, not_true_eq_false, mplace_e hu, hn, mweek_e, rwN_lt, mref_e, mgiv_e, e]
      · have e : cv (arr w a c) b = arr w a c b := if_neg q
        simp (disch := omega) only [gdn, gb0, gb1, ixn, nm1, nI_add, nI_mul, nsub, nI_ltI, nI_leI, nI_eq, eqNO, eqNO2, ltNO, NOlt, leNO, NOle, if_pos, if_neg, Option.bind_some, if_true, if_false, and_self, eq_self, l0, l1, l2, l3, l4, l5, l6, l7, l8, l9, l10, l11, l12, l13, l14, l15, l16, l17, l18, l19, l20, l24, l26, l30, l31, l32, l40, l41, l42, l43, l45, l47, l48, l57, l58, l59, l60, l61, l62, l63, l64, l97, l99, l100, l101, l102, l103, l104, l105, l106, l107, l108, l109, l110, l122, l160, l240, l255, l600, l1000, l3000, l10000, l10007, l10116, l67108863, l67108864, I_oth, I_J, J_oth, J_I, I_row, J_row, SI_row, SI_oth, SI_J, SJ_row, SJ_oth, SJ_I, upd_s, upd_n, updL_s, updL_n, ne_eq, not_false_eq_true, lt_t, le_t, tI, NO_t, flag0, flag1, ite_or2, ite_self, true_or, or_true, false_or, or_false, true_and, and_true, false_and, and_false, not_true_eq_false, mplace_e hu, hn, mweek_e, rwN_lt, mref_e, mgiv_e, e]
    by_cases q : arr w a c b = 60
    · refine ⟨NO, puI (seI w 18 (rwN 16 (arr w a c) (w.1 18))) 0 10 (nI 6), _, by rw [k1, if_pos q, ansOr_e, if_pos rfl], by rw [k2 _ (show IL (puI (seI w 18 _) 0 10 _) from h) rfl rfl, if_pos q], ?_⟩
      exact rfl
    · refine ⟨nI (arr w a c b), puI (seI w 18 (rwN 16 (arr w a c) (w.1 18))) 0 10 (nI 0), _, by rw [k1, if_neg q, ansOr_e]; simp (disch := omega) only [gdn, gb0, gb1, ixn, nm1, nI_add, nI_mul, nsub, nI_ltI, nI_leI, nI_eq, eqNO, eqNO2, ltNO, NOlt, leNO, NOle, if_pos, if_neg, Option.bind_some, if_true, if_false, and_self, eq_self, l0, l1, l2, l3, l4, l5, l6, l7, l8, l9, l10, l11, l12, l13, l14, l15, l16, l17, l18, l19, l20, l24, l26, l30, l31, l32, l40, l41, l42, l43, l45, l47, l48, l57, l58, l59, l60, l61, l62, l63, l64, l97, l99, l100, l101, l102, l103, l104, l105, l106, l107, l108, l109, l110, l122, l160, l240, l255, l600, l1000, l3000, l10000, l10007, l10116, l67108863, l67108864], by rw [k2 _ (show IL (puI (seI w 18 _) 0 10 _) from h) rfl rfl, if_neg q], ?_⟩
      exact rfl
  · refine two_ref (nI 1) (r := NO) ?_ ?_ (fun w' z => z.is)
    · unfold X11_arrival X11_arrival_j29
      simp (disch := omega) only [gdn, gb0, gb1, ixn, nm1, nI_add, nI_mul, nsub, nI_ltI, nI_leI, nI_eq, eqNO, eqNO2, ltNO, NOlt, leNO, NOle, if_pos, if_neg, Option.bind_some, if_true, if_false, and_self, eq_self, l0, l1, l2, l3, l4, l5, l6, l7, l8, l9, l10, l11, l12, l13, l14, l15, l16, l17, l18, l19, l20, l24, l26, l30, l31, l32, l40, l41, l42, l43, l45, l47, l48, l57, l58, l59, l60, l61, l62, l63, l64, l97, l99, l100, l101, l102, l103, l104, l105, l106, l107, l108, l109, l110, l122, l160, l240, l255, l600, l1000, l3000, l10000, l10007, l10116, l67108863, l67108864, I_oth, I_J, J_oth, J_I, I_row, J_row, SI_row, SI_oth, SI_J, SJ_row, SJ_oth, SJ_I, upd_s, upd_n, updL_s, updL_n, ne_eq, not_false_eq_true, lt_t, le_t, tI, NO_t, flag0, flag1, ite_or2, ite_self, true_or, or_true, false_or, or_false, true_and, and_true, false_and, and_false, not_true_eq_false, place_e h, week_e, deny_e]
    · unfold X12_arrival X12_arrival_j23
      rw [mpl (n := nn w 5 0) _ (show (puI _ 0 10 _).1 97 4 = _ from mP) (by omega), mpl (n := nn w 5 0) _ (show (puI _ 0 10 _).1 97 4 = _ from mP) (by omega)]
      simp (disch := omega) only [gdn, gb0, gb1, ixn, nm1, nI_add, nI_mul, nsub, nI_ltI, nI_leI, nI_eq, eqNO, eqNO2, ltNO, NOlt, leNO, NOle, if_pos, if_neg, Option.bind_some, if_true, if_false, and_self, eq_self, l0, l1, l2, l3, l4, l5, l6, l7, l8, l9, l10, l11, l12, l13, l14, l15, l16, l17, l18, l19, l20, l24, l26, l30, l31, l32, l40, l41, l42, l43, l45, l47, l48, l57, l58, l59, l60, l61, l62, l63, l64, l97, l99, l100, l101, l102, l103, l104, l105, l106, l107, l108, l109, l110, l122, l160, l240, l255, l600, l1000, l3000, l10000, l10007, l10116, l67108863, l67108864, I_oth, I_J, J_oth, J_I, I_row, J_row, SI_row, SI_oth, SI_J, SJ_row, SJ_oth, SJ_I, upd_s, upd_n, updL_s, updL_n, ne_eq, not_false_eq_true, lt_t, le_t, tI, NO_t, flag0, flag1, ite_or2, ite_self, true_or, or_true, false_or, or_false, true_and, and_true, false_and, and_false, not_true_eq_false, mweek_e, mref_e]
