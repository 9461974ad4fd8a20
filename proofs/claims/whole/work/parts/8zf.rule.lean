/-! a whole RULE -/
section
variable {c : Nat → Nat} {n : Nat}
/-- both at a RULE's beginning -/
def DRS (w0c w0m : Wd) (t F D : Nat) : Prop := w0c.1 30 0 = nI t ∧ t < 5 ∧ w0c.1 33 t = nI F ∧ w0c.1 30 14 = nI D ∧ F ≤ 20 * t ∧ w0m.1 97 42 = nI t ∧ w0m.1 124 t = nI D ∧ D ≤ 20 ∧ ∀ k, k < D → LQ (w0c.2 35 (F + k)) (w0m.2 132 (20 * t + k))
def RGW (c : Nat → Nat) (n : Nat) (w0c w0m : Wd) (t F D a S O KA KB KO p0 : Nat) (P : Option Wd) (r : Int32 × Wd) : Prop := r.1 = nI 1 ∧ ∃ st p wc A' S' O', P = PS n st wc ∧ (st ≤ p ∧ p ≤ n ∧ wc.1 65 6 = nI p) ∧ p0 < p ∧ wc.1 65 11 = nI 0 ∧ wc.1 30 14 = nI (D + 1) ∧ wc.1 30 15 = nI A' ∧ Kg fR (F + D) a w0c wc ∧ (wc.1 65 4 = w0c.1 65 4 ∧ wc.1 65 5 = w0c.1 65 5) ∧ KU t (20 * t + D) O S w0m r.2 ∧ MT c n p r.2 ∧ (r.2.1 97 41 = nI 0 ∧ r.2.1 97 40 = w0m.1 97 40) ∧ (r.2.1 97 43 = nI S' ∧ r.2.1 97 44 = nI O' ∧ r.2.1 124 t = nI (D + 1)) ∧ (a ≤ A' ∧ S ≤ S' ∧ O ≤ O') ∧ (A' ≤ KA + p ∧ S' ≤ KB + p ∧ 3 * O' ≤ 3 * KO + p) ∧ D < 20 ∧ RuleOK2 wc r.2 (F + D) (20 * t + D) ∧ (nn wc 37 (F + D) = 101 ∨ nn wc 37 (F + D) = 103 → RCx wc r.2 (F + D) (20 * t + D) A' S' O')
theorem t_rule {w : Wd} {t F D q a : Nat} {x : Int64} (h0 : w.1 30 0 = nI t) (ht : t < 5) (h33 : w.1 33 t = nI F) (h14 : w.1 30 14 = nI D) (hF : F + D ≤ 100) (hF2 : F ≤ 20 * t) (hD : D ≤ 20) (h15 : w.1 30 15 = nI a) (h11 : w.1 65 11 = nI 0) (h7 : w.1 65 7 = nI q) (hq : q < 128) (hx : q = 3 → w.2 65 9 = x) : (¬ q = 1 → ¬ q = 3 → X6_take w = some (nI 2, w)) ∧ (q = 3 → D = 20 → X6_take w = some (nI 3, w)) ∧ (q = 3 → D < 20 → (∃ k, k < D ∧ w.2 35 (F + k) = x) → X6_take w = some (nI 4, w)) ∧ (q = 3 → D < 20 → (¬ ∃ k, k < D ∧ w.2 35 (F + k) = x) → ∃ e, X6_take w = some (nI 0, e) ∧ (DRF e t F D ∧ e.1 65 11 = nI 1 ∧ e.1 30 15 = nI a ∧ e.2 35 (F + D) = x ∧ e.2 36 (F + D) = -1 ∧ e.1 38 (F + D) = nI 0 ∧ e.1 39 (F + D) = nI a ∧ e.1 40 (F + D) = NO) ∧ Kg fQ (F + D) a w e) := by
  have hr : X6_take w = (X6_takeRule w).bind (fun q => some (q.1, q.2)) := by
    unfold X6_take
    simp (disch := omega) only [gdn, gb0, gb1, ixn, nm1, nI_add, nI_mul, nsub, nI_ltI, nI_leI, nI_eq, eqNO, eqNO2, ltNO, NOlt, leNO, NOle, if_pos, if_neg, Option.bind_some, if_true, if_false, and_self, eq_self, l0, l1, l2, l3, l4, l5, l6, l7, l8, l9, l10, l11, l12, l13, l14, l15, l16, l17, l18, l19, l20, l24, l26, l30, l31, l32, l40, l41, l42, l43, l45, l47, l48, l57, l58, l59, l60, l61, l62, l63, l64, l97, l99, l100, l101, l102, l103, l104, l105, l106, l107, l108, l109, l110, l122, l160, l240, l255, l600, l1000, l3000, l10000, l10007, l10116, l67108863, l67108864, h11]
  have hfull : X0_isFull w = if D = 20 then nI 1 else nI 0 := by
    unfold X0_isFull X0_isFullO
    by_cases z : D = 20
    · rw [if_pos z]
      simp (disch := omega) only [gdn, gb0, gb1, ixn, nm1, nI_add, nI_mul, nsub, nI_ltI, nI_leI, nI_eq, eqNO, eqNO2, ltNO, NOlt, leNO, NOle, if_pos, if_neg, Option.bind_some, if_true, if_false, and_self, eq_self, l0, l1, l2, l3, l4, l5, l6, l7, l8, l9, l10, l11, l12, l13, l14, l15, l16, l17, l18, l19, l20, l24, l26, l30, l31, l32, l40, l41, l42, l43, l45, l47, l48, l57, l58, l59, l60, l61, l62, l63, l64, l97, l99, l100, l101, l102, l103, l104, l105, l106, l107, l108, l109, l110, l122, l160, l240, l255, l600, l1000, l3000, l10000, l10007, l10116, l67108863, l67108864, h14]
      rfl
    · rw [if_neg z]
      simp (disch := omega) only [gdn, gb0, gb1, ixn, nm1, nI_add, nI_mul, nsub, nI_ltI, nI_leI, nI_eq, eqNO, eqNO2, ltNO, NOlt, leNO, NOle, if_pos, if_neg, Option.bind_some, if_true, if_false, and_self, eq_self, l0, l1, l2, l3, l4, l5, l6, l7, l8, l9, l10, l11, l12, l13, l14, l15, l16, l17, l18, l19, l20, l24, l26, l30, l31, l32, l40, l41, l42, l43, l45, l47, l48, l57, l58, l59, l60, l61, l62, l63, l64, l97, l99, l100, l101, l102, l103, l104, l105, l106, l107, l108, l109, l110, l122, l160, l240, l255, l600, l1000, l3000, l10000, l10007, l10116, l67108863, l67108864, h14, h0]
      rfl
  refine ⟨fun e1 e3 => ?_, fun e eD => ?_, fun e eD hk => ?_, fun e eD hk => ?_⟩
  · rw [hr]
    unfold X6_takeRule
    simp (disch := omega) only [gdn, gb0, gb1, ixn, nm1, nI_add, nI_mul, nsub, nI_ltI, nI_leI, nI_eq, eqNO, eqNO2, ltNO, NOlt, leNO, NOle, if_pos, if_neg, Option.bind_some, if_true, if_false, and_self, eq_self, l0, l1, l2, l3, l4, l5, l6, l7, l8, l9, l10, l11, l12, l13, l14, l15, l16, l17, l18, l19, l20, l24, l26, l30, l31, l32, l40, l41, l42, l43, l45, l47, l48, l57, l58, l59, l60, l61, l62, l63, l64, l97, l99, l100, l101, l102, l103, l104, l105, l106, l107, l108, l109, l110, l122, l160, l240, l255, l600, l1000, l3000, l10000, l10007, l10116, l67108863, l67108864, h7]
  · rw [if_pos eD] at hfull
    subst e
    rw [hr]
    unfold X6_takeRule
    simp (disch := omega) only [gdn, gb0, gb1, ixn, nm1, nI_add, nI_mul, nsub, nI_ltI, nI_leI, nI_eq, eqNO, eqNO2, ltNO, NOlt, leNO, NOle, if_pos, if_neg, Option.bind_some, if_true, if_false, and_self, eq_self, l0, l1, l2, l3, l4, l5, l6, l7, l8, l9, l10, l11, l12, l13, l14, l15, l16, l17, l18, l19, l20, l24, l26, l30, l31, l32, l40, l41, l42, l43, l45, l47, l48, l57, l58, l59, l60, l61, l62, l63, l64, l97, l99, l100, l101, l102, l103, l104, l105, l106, l107, l108, l109, l110, l122, l160, l240, l255, l600, l1000, l3000, l10000, l10007, l10116, l67108863, l67108864, h7, hfull]
  · rw [if_neg (by omega)] at hfull
    subst e
    have hd := hasDraft_e (x := x) h0 ht h33 h14 hF
    rw [fg_t hk] at hd
    rw [hr]
    unfold X6_takeRule
    simp (disch := omega) only [gdn, gb0, gb1, ixn, nm1, nI_add, nI_mul, nsub, nI_ltI, nI_leI, nI_eq, eqNO, eqNO2, ltNO, NOlt, leNO, NOle, if_pos, if_neg, Option.bind_some, if_true, if_false, and_self, eq_self, l0, l1, l2, l3, l4, l5, l6, l7, l8, l9, l10, l11, l12, l13, l14, l15, l16, l17, l18, l19, l20, l24, l26, l30, l31, l32, l40, l41, l42, l43, l45, l47, l48, l57, l58, l59, l60, l61, l62, l63, l64, l97, l99, l100, l101, l102, l103, l104, l105, l106, l107, l108, l109, l110, l122, l160, l240, l255, l600, l1000, l3000, l10000, l10007, l10116, l67108863, l67108864, h7, hfull, hx rfl, hd]
  · rw [if_neg (by omega)] at hfull
    subst e
    have hd := hasDraft_e (x := x) h0 ht h33 h14 hF
    rw [fg_f hk] at hd
    have hopen : X0_openRule x w = some (puI (puI (puI (puI (puI (puI (puJ (puJ w 35 (F + D) x) 36 (F + D) (-1)) 37 (F + D) (nI 0)) 38 (F + D) (nI 0)) 39 (F + D) (nI a)) 40 (F + D) NO) 41 (F + D) (nI a)) 30 14 (nI (D + 1))) := by
      have g1 : (puI (puI (puJ (puJ w 35 (F + D) x) 36 (F + D) (-1)) 37 (F + D) (nI 0)) 38 (F + D) (nI 0)).1 30 15 = nI a := by simp (disch := omega) only [gdn, gb0, gb1, ixn, nm1, nI_add, nI_mul, nsub, nI_ltI, nI_leI, nI_eq, eqNO, eqNO2, ltNO, NOlt, leNO, NOle, if_pos, if_neg, Option.bind_some, if_true, if_false, and_self, eq_self, l0, l1, l2, l3, l4, l5, l6, l7, l8, l9, l10, l11, l12, l13, l14, l15, l16, l17, l18, l19, l20, l24, l26, l30, l31, l32, l40, l41, l42, l43, l45, l47, l48, l57, l58, l59, l60, l61, l62, l63, l64, l97, l99, l100, l101, l102, l103, l104, l105, l106, l107, l108, l109, l110, l122, l160, l240, l255, l600, l1000, l3000, l10000, l10007, l10116, l67108863, l67108864, I_oth, I_J, J_oth, J_I, I_row, J_row, SI_row, SI_oth, SI_J, SJ_row, SJ_oth, SJ_I, upd_s, upd_n, updL_s, updL_n, ne_eq, not_false_eq_true, h15]
      have g2 : (puI (puI (puI (puI (puJ (puJ w 35 (F + D) x) 36 (F + D) (-1)) 37 (F + D) (nI 0)) 38 (F + D) (nI 0)) 39 (F + D) (nI a)) 40 (F + D) NO).1 30 15 = nI a := by simp (disch := omega) only [gdn, gb0, gb1, ixn, nm1, nI_add, nI_mul, nsub, nI_ltI, nI_leI, nI_eq, eqNO, eqNO2, ltNO, NOlt, leNO, NOle, if_pos, if_neg, Option.bind_some, if_true, if_false, and_self, eq_self, l0, l1, l2, l3, l4, l5, l6, l7, l8, l9, l10, l11, l12, l13, l14, l15, l16, l17, l18, l19, l20, l24, l26, l30, l31, l32, l40, l41, l42, l43, l45, l47, l48, l57, l58, l59, l60, l61, l62, l63, l64, l97, l99, l100, l101, l102, l103, l104, l105, l106, l107, l108, l109, l110, l122, l160, l240, l255, l600, l1000, l3000, l10000, l10007, l10116, l67108863, l67108864, I_oth, I_J, J_oth, J_I, I_row, J_row, SI_row, SI_oth, SI_J, SJ_row, SJ_oth, SJ_I, upd_s, upd_n, updL_s, updL_n, ne_eq, not_false_eq_true, h15]
      have g3 : (puI (puI (puI (puI (puI (puJ (puJ w 35 (F + D) x) 36 (F + D) (-1)) 37 (F + D) (nI 0)) 38 (F + D) (nI 0)) 39 (F + D) (nI a)) 40 (F + D) NO) 41 (F + D) (nI a)).1 30 14 = nI D := by simp (disch := omega) only [gdn, gb0, gb1, ixn, nm1, nI_add, nI_mul, nsub, nI_ltI, nI_leI, nI_eq, eqNO, eqNO2, ltNO, NOlt, leNO, NOle, if_pos, if_neg, Option.bind_some, if_true, if_false, and_self, eq_self, l0, l1, l2, l3, l4, l5, l6, l7, l8, l9, l10, l11, l12, l13, l14, l15, l16, l17, l18, l19, l20, l24, l26, l30, l31, l32, l40, l41, l42, l43, l45, l47, l48, l57, l58, l59, l60, l61, l62, l63, l64, l97, l99, l100, l101, l102, l103, l104, l105, l106, l107, l108, l109, l110, l122, l160, l240, l255, l600, l1000, l3000, l10000, l10007, l10116, l67108863, l67108864, I_oth, I_J, J_oth, J_I, I_row, J_row, SI_row, SI_oth, SI_J, SJ_row, SJ_oth, SJ_I, upd_s, upd_n, updL_s, updL_n, ne_eq, not_false_eq_true, h14]
      unfold X0_openRule
      simp (disch := omega) only [gdn, gb0, gb1, ixn, nm1, nI_add, nI_mul, nsub, nI_ltI, nI_leI, nI_eq, eqNO, eqNO2, ltNO, NOlt, leNO, NOle, if_pos, if_neg, Option.bind_some, if_true, if_false, and_self, eq_self, l0, l1, l2, l3, l4, l5, l6, l7, l8, l9, l10, l11, l12, l13, l14, l15, l16, l17, l18, l19, l20, l24, l26, l30, l31, l32, l40, l41, l42, l43, l45, l47, l48, l57, l58, l59, l60, l61, l62, l63, l64, l97, l99, l100, l101, l102, l103, l104, l105, l106, l107, l108, l109, l110, l122, l160, l240, l255, l600, l1000, l3000, l10000, l10007, l10116, l67108863, l67108864, h0, h33, h14, g1, g2, g3]
    refine ⟨puI (puI (puI (puI (puI (puI (puI (puJ (puJ w 35 (F + D) x) 36 (F + D) (-1)) 37 (F + D) (nI 0)) 38 (F + D) (nI 0)) 39 (F + D) (nI a)) 40 (F + D) NO) 41 (F + D) (nI a)) 30 14 (nI (D + 1))) 65 11 (nI 1), ?_, ⟨⟨?_, ht, ?_, ?_, by omega⟩, I_self, ?_, ?_, ?_, ?_, ?_, ?_⟩, ?_⟩
    · rw [hr]
      unfold X6_takeRule
      simp (disch := omega) only [gdn, gb0, gb1, ixn, nm1, nI_add, nI_mul, nsub, nI_ltI, nI_leI, nI_eq, eqNO, eqNO2, ltNO, NOlt, leNO, NOle, if_pos, if_neg, Option.bind_some, if_true, if_false, and_self, eq_self, l0, l1, l2, l3, l4, l5, l6, l7, l8, l9, l10, l11, l12, l13, l14, l15, l16, l17, l18, l19, l20, l24, l26, l30, l31, l32, l40, l41, l42, l43, l45, l47, l48, l57, l58, l59, l60, l61, l62, l63, l64, l97, l99, l100, l101, l102, l103, l104, l105, l106, l107, l108, l109, l110, l122, l160, l240, l255, l600, l1000, l3000, l10000, l10007, l10116, l67108863, l67108864, h7, hfull, hx rfl, hd, hopen, goOn_e]
    · simp (disch := omega) only [gdn, gb0, gb1, ixn, nm1, nI_add, nI_mul, nsub, nI_ltI, nI_leI, nI_eq, eqNO, eqNO2, ltNO, NOlt, leNO, NOle, if_pos, if_neg, Option.bind_some, if_true, if_false, and_self, eq_self, l0, l1, l2, l3, l4, l5, l6, l7, l8, l9, l10, l11, l12, l13, l14, l15, l16, l17, l18, l19, l20, l24, l26, l30, l31, l32, l40, l41, l42, l43, l45, l47, l48, l57, l58, l59, l60, l61, l62, l63, l64, l97, l99, l100, l101, l102, l103, l104, l105, l106, l107, l108, l109, l110, l122, l160, l240, l255, l600, l1000, l3000, l10000, l10007, l10116, l67108863, l67108864, I_oth, I_J, J_oth, J_I, I_row, J_row, SI_row, SI_oth, SI_J, SJ_row, SJ_oth, SJ_I, upd_s, upd_n, updL_s, updL_n, ne_eq, not_false_eq_true, h0]
    · simp (disch := omega) only [gdn, gb0, gb1, ixn, nm1, nI_add, nI_mul, nsub, nI_ltI, nI_leI, nI_eq, eqNO, eqNO2, ltNO, NOlt, leNO, NOle, if_pos, if_neg, Option.bind_some, if_true, if_false, and_self, eq_self, l0, l1, l2, l3, l4, l5, l6, l7, l8, l9, l10, l11, l12, l13, l14, l15, l16, l17, l18, l19, l20, l24, l26, l30, l31, l32, l40, l41, l42, l43, l45, l47, l48, l57, l58, l59, l60, l61, l62, l63, l64, l97, l99, l100, l101, l102, l103, l104, l105, l106, l107, l108, l109, l110, l122, l160, l240, l255, l600, l1000, l3000, l10000, l10007, l10116, l67108863, l67108864, I_oth, I_J, J_oth, J_I, I_row, J_row, SI_row, SI_oth, SI_J, SJ_row, SJ_oth, SJ_I, upd_s, upd_n, updL_s, updL_n, ne_eq, not_false_eq_true, h33]
    · simp (disch := omega) only [gdn, gb0, gb1, ixn, nm1, nI_add, nI_mul, nsub, nI_ltI, nI_leI, nI_eq, eqNO, eqNO2, ltNO, NOlt, leNO, NOle, if_pos, if_neg, Option.bind_some, if_true, if_false, and_self, eq_self, l0, l1, l2, l3, l4, l5, l6, l7, l8, l9, l10, l11, l12, l13, l14, l15, l16, l17, l18, l19, l20, l24, l26, l30, l31, l32, l40, l41, l42, l43, l45, l47, l48, l57, l58, l59, l60, l61, l62, l63, l64, l97, l99, l100, l101, l102, l103, l104, l105, l106, l107, l108, l109, l110, l122, l160, l240, l255, l600, l1000, l3000, l10000, l10007, l10116, l67108863, l67108864, I_oth, I_J, J_oth, J_I, I_row, J_row, SI_row, SI_oth, SI_J, SJ_row, SJ_oth, SJ_I, upd_s, upd_n, updL_s, updL_n, ne_eq, not_false_eq_true]
    · simp (disch := omega) only [gdn, gb0, gb1, ixn, nm1, nI_add, nI_mul, nsub, nI_ltI, nI_leI, nI_eq, eqNO, eqNO2, ltNO, NOlt, leNO, NOle, if_pos, if_neg, Option.bind_some, if_true, if_false, and_self, eq_self, l0, l1, l2, l3, l4, l5, l6, l7, l8, l9, l10, l11, l12, l13, l14, l15, l16, l17, l18, l19, l20, l24, l26, l30, l31, l32, l40, l41, l42, l43, l45, l47, l48, l57, l58, l59, l60, l61, l62, l63, l64, l97, l99, l100, l101, l102, l103, l104, l105, l106, l107, l108, l109, l110, l122, l160, l240, l255, l600, l1000, l3000, l10000, l10007, l10116, l67108863, l67108864, I_oth, I_J, J_oth, J_I, I_row, J_row, SI_row, SI_oth, SI_J, SJ_row, SJ_oth, SJ_I, upd_s, upd_n, updL_s, updL_n, ne_eq, not_false_eq_true, h15]
    · simp only [I_J]; rw [J_oth (by decide), J_row, updL_s]
    · simp only [I_J]; rw [J_row, updL_s]
    · simp (disch := omega) only [gdn, gb0, gb1, ixn, nm1, nI_add, nI_mul, nsub, nI_ltI, nI_leI, nI_eq, eqNO, eqNO2, ltNO, NOlt, leNO, NOle, if_pos, if_neg, Option.bind_some, if_true, if_false, and_self, eq_self, l0, l1, l2, l3, l4, l5, l6, l7, l8, l9, l10, l11, l12, l13, l14, l15, l16, l17, l18, l19, l20, l24, l26, l30, l31, l32, l40, l41, l42, l43, l45, l47, l48, l57, l58, l59, l60, l61, l62, l63, l64, l97, l99, l100, l101, l102, l103, l104, l105, l106, l107, l108, l109, l110, l122, l160, l240, l255, l600, l1000, l3000, l10000, l10007, l10116, l67108863, l67108864, I_oth, I_J, J_oth, J_I, I_row, J_row, SI_row, SI_oth, SI_J, SJ_row, SJ_oth, SJ_I, upd_s, upd_n, updL_s, updL_n, ne_eq, not_false_eq_true]
    · simp (disch := omega) only [gdn, gb0, gb1, ixn, nm1, nI_add, nI_mul, nsub, nI_ltI, nI_leI, nI_eq, eqNO, eqNO2, ltNO, NOlt, leNO, NOle, if_pos, if_neg, Option.bind_some, if_true, if_false, and_self, eq_self, l0, l1, l2, l3, l4, l5, l6, l7, l8, l9, l10, l11, l12, l13, l14, l15, l16, l17, l18, l19, l20, l24, l26, l30, l31, l32, l40, l41, l42, l43, l45, l47, l48, l57, l58, l59, l60, l61, l62, l63, l64, l97, l99, l100, l101, l102, l103, l104, l105, l106, l107, l108, l109, l110, l122, l160, l240, l255, l600, l1000, l3000, l10000, l10007, l10116, l67108863, l67108864, I_oth, I_J, J_oth, J_I, I_row, J_row, SI_row, SI_oth, SI_J, SJ_row, SJ_oth, SJ_I, upd_s, upd_n, updL_s, updL_n, ne_eq, not_false_eq_true]
    · simp (disch := omega) only [gdn, gb0, gb1, ixn, nm1, nI_add, nI_mul, nsub, nI_ltI, nI_leI, nI_eq, eqNO, eqNO2, ltNO, NOlt, leNO, NOle, if_pos, if_neg, Option.bind_some, if_true, if_false, and_self, eq_self, l0, l1, l2, l3, l4, l5, l6, l7, l8, l9, l10, l11, l12, l13, l14, l15, l16, l17, l18, l19, l20, l24, l26, l30, l31, l32, l40, l41, l42, l43, l45, l47, l48, l57, l58, l59, l60, l61, l62, l63, l64, l97, l99, l100, l101, l102, l103, l104, l105, l106, l107, l108, l109, l110, l122, l160, l240, l255, l600, l1000, l3000, l10000, l10007, l10116, l67108863, l67108864, I_oth, I_J, J_oth, J_I, I_row, J_row, SI_row, SI_oth, SI_J, SJ_row, SJ_oth, SJ_I, upd_s, upd_n, updL_s, updL_n, ne_eq, not_false_eq_true]
    · exact ((((((((Kg.rf.rJ (by omega) (by omega) (Nat.le_refl _)).rJ (by omega) (by omega) (Nat.le_refl _)).rI (by omega) (by omega) (Nat.le_refl _)).rI (by omega) (by omega) (Nat.le_refl _)).rI (by omega) (by omega) (Nat.le_refl _)).rI (by omega) (by omega) (Nat.le_refl _)).rI (by omega) (by omega) (Nat.le_refl _)).fI (by decide) (Or.inl rfl)).fI (by decide) (Or.inr rfl)
theorem t_strk {w : Wd} {t F D q : Nat} {x : Int64} (hD : DRF w t F D) (h11 : w.1 65 11 = nI 2) (h7 : w.1 65 7 = nI q) (hq : q < 128) (hx : q = 3 → w.2 65 9 = x) : (¬ q = 3 → X6_take w = some (nI 2, w)) ∧ (q = 3 → X6_take w = some (nI 0, puI (puJ w 36 (F + D) x) 65 11 (nI 3))) := by
  have hF : F + D < 100 := hD.2.2.2.2
  constructor
  · intro e
    unfold X6_take X6_takeStruckLabel
    simp (disch := omega) only [gdn, gb0, gb1, ixn, nm1, nI_add, nI_mul, nsub, nI_ltI, nI_leI, nI_eq, eqNO, eqNO2, ltNO, NOlt, leNO, NOle, if_pos, if_neg, Option.bind_some, if_true, if_false, and_self, eq_self, l0, l1, l2, l3, l4, l5, l6, l7, l8, l9, l10, l11, l12, l13, l14, l15, l16, l17, l18, l19, l20, l24, l26, l30, l31, l32, l40, l41, l42, l43, l45, l47, l48, l57, l58, l59, l60, l61, l62, l63, l64, l97, l99, l100, l101, l102, l103, l104, l105, l106, l107, l108, l109, l110, l122, l160, l240, l255, l600, l1000, l3000, l10000, l10007, l10116, l67108863, l67108864, h11, h7]
  · intro e
    subst e
    have hs : X0_draftStrikes x w = some (puJ w 36 (F + D) x) := by
      unfold X0_draftStrikes
      simp (disch := omega) only [gdn, gb0, gb1, ixn, nm1, nI_add, nI_mul, nsub, nI_ltI, nI_leI, nI_eq, eqNO, eqNO2, ltNO, NOlt, leNO, NOle, if_pos, if_neg, Option.bind_some, if_true, if_false, and_self, eq_self, l0, l1, l2, l3, l4, l5, l6, l7, l8, l9, l10, l11, l12, l13, l14, l15, l16, l17, l18, l19, l20, l24, l26, l30, l31, l32, l40, l41, l42, l43, l45, l47, l48, l57, l58, l59, l60, l61, l62, l63, l64, l97, l99, l100, l101, l102, l103, l104, l105, l106, l107, l108, l109, l110, l122, l160, l240, l255, l600, l1000, l3000, l10000, l10007, l10116, l67108863, l67108864, hD.e]
    unfold X6_take X6_takeStruckLabel
    simp (disch := omega) only [gdn, gb0, gb1, ixn, nm1, nI_add, nI_mul, nsub, nI_ltI, nI_leI, nI_eq, eqNO, eqNO2, ltNO, NOlt, leNO, NOle, if_pos, if_neg, Option.bind_some, if_true, if_false, and_self, eq_self, l0, l1, l2, l3, l4, l5, l6, l7, l8, l9, l10, l11, l12, l13, l14, l15, l16, l17, l18, l19, l20, l24, l26, l30, l31, l32, l40, l41, l42, l43, l45, l47, l48, l57, l58, l59, l60, l61, l62, l63, l64, l97, l99, l100, l101, l102, l103, l104, l105, l106, l107, l108, l109, l110, l122, l160, l240, l255, l600, l1000, l3000, l10000, l10007, l10116, l67108863, l67108864, h11, h7, hx rfl, hs, goOn_e]
theorem t_strikes {w : Wd} (h11 : w.1 65 11 = nI 1) (h7 : w.1 65 7 = nI 100) : X6_take w = some (nI 0, puI w 65 11 (nI 2)) := by
  unfold X6_take
  simp (disch := omega) only [gdn, gb0, gb1, ixn, nm1, nI_add, nI_mul, nsub, nI_ltI, nI_leI, nI_eq, eqNO, eqNO2, ltNO, NOlt, leNO, NOle, if_pos, if_neg, Option.bind_some, if_true, if_false, and_self, eq_self, l0, l1, l2, l3, l4, l5, l6, l7, l8, l9, l10, l11, l12, l13, l14, l15, l16, l17, l18, l19, l20, l24, l26, l30, l31, l32, l40, l41, l42, l43, l45, l47, l48, l57, l58, l59, l60, l61, l62, l63, l64, l97, l99, l100, l101, l102, l103, l104, l105, l106, l107, l108, l109, l110, l122, l160, l240, l255, l600, l1000, l3000, l10000, l10007, l10116, l67108863, l67108864, h11, h7, goOn_e]
theorem rule_e (hn : n ≤ 600) {w0c w0m : Wd} (hW : IW w0c) (hB : ∀ i, i < n → BY (w0c.1 66 i) (c i)) (hMB : MB c n w0m) {t F D a S O KA KB KO p st : Nat} (hKA : KA ≤ 2400) (hKB : KB ≤ 2400) (hKO : KO ≤ 800) (hst : st ≤ p) (hp : p ≤ n) (h6 : w0c.1 65 6 = nI p) (h11 : w0c.1 65 11 = nI 0) (hDS : DRS w0c w0m t F D) (h15 : w0c.1 30 15 = nI a) (hMT : MT c n p w0m) (h41 : w0m.1 97 41 = nI 0) (h43 : w0m.1 97 43 = nI S) (h44 : w0m.1 97 44 = nI O) (bd : a ≤ KA + p ∧ S ≤ KB + p ∧ 3 * O ≤ 3 * KO + p) (h1 : ¬ tk c n p = 1) : ok (X12_rule w0m) (fun r => RGW c n w0c w0m t F D a S O KA KB KO p (PS n st w0c) r ∨ FP (Kg fR (F + D) a w0c) (KU t (20 * t + D) O S w0m) (PS n st w0c) r) := by
  obtain ⟨d0, d1, d2, d3, d4, d5, d6, d7, d8⟩ := hDS
  have hrg := tk_rng (c := c) (n := n) p
  have hlab := label_e hn hMB hp hMT
  have tr : ∀ e, Fr [] f5 w0c e → TC c n p e → _ := fun e he hT => t_rule (w := e) (t := t) (F := F) (D := D) (q := tk c n p) (a := a) (x := lN (p5 (tw c n p))) (by rw [(he 30 (by decide) 0 (by decide)).1]; exact d0) d1 (by rw [(he.row 33 (by decide) (by decide)).1]; exact d2) (by rw [(he 30 (by decide) 14 (by decide)).1]; exact d3) (by omega) d4 d7 (by rw [(he 30 (by decide) 15 (by decide)).1]; exact h15) (by rw [(he 65 (by decide) 11 (by decide)).1]; exact h11) hT.1 (by omega) hT.2.2.2.2
  by_cases q3 : tk c n p = 3
  · rw [if_pos q3] at hlab
    have hw := tw_w hp q3
    have hp8 := p8_lt hw
    have hm1 : lg_cmp (lN (p8 (tw c n p))) (-1) ≠ 0 := by
      intro z
      have : lN (p8 (tw c n p)) = -1 := by
        have := (cmpz (a := lN (p8 (tw c n p))) (b := -1))
        rw [show nI 0 = (0 : Int32) from rfl] at this
        rw [this] at z; exact z
      exact lN_m1 hp8 this
    by_cases qD : D = 20
    · obtain ⟨w2, f1, f2, f3, f4⟩ := fails_e hMT h41 (k := 3)
      have hj : X12_rule w0m = some (nI 0, w2) := by
        subst qD
        unfold X12_rule
        rw [hlab]
        simp only [Option.bind_some]
        rw [if_neg hm1]
        simp (disch := omega) only [gdn, gb0, gb1, ixn, nm1, nI_add, nI_mul, nsub, nI_ltI, nI_leI, nI_eq, eqNO, eqNO2, ltNO, NOlt, leNO, NOle, if_pos, if_neg, Option.bind_some, if_true, if_false, and_self, eq_self, l0, l1, l2, l3, l4, l5, l6, l7, l8, l9, l10, l11, l12, l13, l14, l15, l16, l17, l18, l19, l20, l24, l26, l30, l31, l32, l40, l41, l42, l43, l45, l47, l48, l57, l58, l59, l60, l61, l62, l63, l64, l97, l99, l100, l101, l102, l103, l104, l105, l106, l107, l108, l109, l110, l122, l160, l240, l255, l600, l1000, l3000, l10000, l10007, l10116, l67108863, l67108864, d5, d6, f1]
      rw [hj]
      exact ok_i (Or.inr (FPkk hn (st := st) (O1 := 0) (S1 := 0) hW hB hst hp h6 (by omega) (by omega) rfl Kg.rf KU.rf (fun e he hT h0 => ⟨e, (tr e he hT).2.1 q3 qD, Kg.rf⟩) f2 f3 f4))
    · have hDl : D < 20 := by omega
      obtain ⟨el, hel, hlq⟩ := mdraft_e (w := w0m) (G := 20 * t) (D := D) (x := lN (p8 (tw c n p))) (by omega)
      have hiff : (∃ k, k < D ∧ w0m.2 132 (20 * t + k) = lN (p8 (tw c n p))) ↔ (∃ k, k < D ∧ w0c.2 35 (F + k) = lN (p5 (tw c n p))) := by
        constructor
        · rintro ⟨k, hk, e⟩
          exact ⟨k, hk, ((d8 k hk).eq ⟨_, hw, rfl, rfl⟩).mpr e⟩
        · rintro ⟨k, hk, e⟩
          exact ⟨k, hk, ((d8 k hk).eq ⟨_, hw, rfl, rfl⟩).mp e⟩
      have hstart : X12_rule w0m = (match el with
          | (.inl e6) => ((X12_fails (4 : Int32) w0m).bind fun q7 => gd (narrow .boolean (.int q7.1) = .int q7.1) <| some (q7.1, q7.2))
          | (.inr e9) => (gd (vp_in (nI (20 * t + D)) 120) <| (some (puJ w0m 132 (ix (nI (20 * t + D))) (lN (p8 (tw c n p))))).bind fun w10 => gd (vp_in (nI (20 * t + D)) 120) <| (some (puJ w10 133 (ix (nI (20 * t + D))) (-1 : Int64))).bind fun w11 => (X12_next w11).bind fun q12 => (X12_isKey (0 : Int32) q12).bind fun q14 => (if q14 = 0 then X12_rule_j161 (nI (20 * t + D)) q12 else (X12_next q12).bind fun q36 => (X12_labelHere q36).bind fun q38 => gd (vp_in (nI (20 * t + D)) 120) <| (some (puJ q36 133 (ix (nI (20 * t + D))) q38)).bind fun w40 => gd (vp_in (nI (20 * t + D)) 120) <| (if (lg_cmp (w40.2 133 (ix (nI (20 * t + D)))) (-1 : Int64)) = 0 then (X12_fails (2 : Int32) w40).bind fun q43 => gd (narrow .boolean (.int q43.1) = .int q43.1) <| some (q43.1, q43.2) else (X12_next w40).bind fun q41 => X12_rule_j161 (nI (20 * t + D)) q41)))) := by
        unfold X12_rule
        rw [hlab]
        simp only [Option.bind_some]
        rw [if_neg hm1, d5, gdn (by omega) (by omega), ixn (by omega), d6, if_neg (by rw [show (20 : Int32) = nI 20 from rfl, nI_eq (by omega) (by omega)]; exact qD), gdn (by omega) (by omega)]
        rw [show (20 : Int32) * nI t + nI D = nI (20 * t + D) by rw [show (20 : Int32) = nI 20 from rfl, nI_mul, nI_add], show (20 : Int32) * nI t = nI (20 * t) by rw [show (20 : Int32) = nI 20 from rfl, nI_mul]]
        simp only [hel, Option.bind_some]
        rcases el with e | e <;> rfl
      rw [hstart]
      rcases hlq with ⟨hex, rfl⟩ | ⟨hex, rfl⟩
      · obtain ⟨w2, f1, f2, f3, f4⟩ := fails_e hMT h41 (k := 4)
        simp only
        rw [show (4 : Int32) = nI 4 from rfl, f1]
        simp only [Option.bind_some]
        rw [gb0]
        refine ok_i (Or.inr (FPkk hn (st := st) (O1 := 0) (S1 := 0) hW hB hst hp h6 (by omega) (by omega) rfl Kg.rf KU.rf (fun e he hT h0 => ⟨e, (tr e he hT).2.2.1 q3 hDl ?_, Kg.rf⟩) f2 f3 f4))
        rw [(he.row 35 (by decide) (by decide)).2]
        exact hiff.mp hex
      · simp only
        obtain ⟨te1, te2, te3, te4⟩ := te_s (c := c) hp
        have te5 := te4 h1
        obtain ⟨e1, q1, q4, ⟨q5a, q5b, q5c, q5d, q5e, q5f, q5g, q5h⟩, q6, q7⟩ := clsR (f := F + D) (a := a) (st := st) hn hW hB hst hp h6 (by omega) h1 (Q := fun e => DRF e t F D ∧ e.1 65 11 = nI 1 ∧ e.1 30 15 = nI a ∧ e.2 35 (F + D) = lN (p5 (tw c n p)) ∧ e.2 36 (F + D) = -1 ∧ e.1 38 (F + D) = nI 0 ∧ e.1 39 (F + D) = nI a ∧ e.1 40 (F + D) = NO) (fun e he hT => (tr e he hT).2.2.2 q3 hDl (by rw [(he.row 35 (by decide) (by decide)).2]; exact fun z => hex (hiff.mpr z)))
        rw [gdn (by omega) (by omega), ixn (by omega)]
        simp only [Option.bind_some]
        rw [gdn (by omega) (by omega)]
        have kA : KU t (20 * t + D) O S w0m (puJ (puJ w0m 132 (20 * t + D) (lN (p8 (tw c n p)))) 133 (20 * t + D) (-1)) := (KU.rf.rJ (by omega) (by omega) (Nat.le_refl _)).rJ (by omega) (by omega) (Nat.le_refl _)
        obtain ⟨w1, n1, n2, n3⟩ := nxt hn (w := puJ (puJ w0m 132 (20 * t + D) (lN (p8 (tw c n p)))) 133 (20 * t + D) (-1)) (kA.mb hMB) hp (by rw [J_I, J_I]; exact hMT.2.2.1)
        have kB := kA.nx n2
        rw [n1]
        simp only [Option.bind_some]
        have b97 : ∀ j, 39 ≤ j → w1.1 97 j = w0m.1 97 j := fun j hj => by rw [(n2 97 (by decide) j (by simp only [List.mem_cons, List.not_mem_nil, or_false, Prod.mk.injEq]; omega)).1, J_I, J_I]
        have b124 : w1.1 124 = w0m.1 124 := by rw [(n2.row 124 (by decide) (by decide)).1, J_I, J_I]
        have b132 : w1.2 132 (20 * t + D) = lN (p8 (tw c n p)) := by rw [(n2.row 132 (by decide) (by decide)).2, J_oth (by decide), J_row, updL_s]
        have b133 : w1.2 133 (20 * t + D) = -1 := by rw [(n2.row 133 (by decide) (by decide)).2, J_row, updL_s]
        generalize hp1 : te c n p = p1 at *
        obtain ⟨ue1, ue2, ue3, ue4⟩ := te_s (c := c) te3
        have hrg1 := tk_rng (c := c) (n := n) p1
        have hk := key_e hn (kB.mb hMB) te3 n3 (t := 100) (by omega) (by omega)
        rw [show kx 100 = 0 from rfl, show nI 0 = (0 : Int32) from rfl] at hk
        rw [hk]
        simp only [Option.bind_some]
        -- behind the labels
        have fin : ∀ (st' p' : Nat) (wc wm : Wd) (s : Nat), PS n st w0c = PS n st' wc → Kg fR (F + D) a w0c wc → (wc.1 65 4 = w0c.1 65 4 ∧ wc.1 65 5 = w0c.1 65 5) → KU t (20 * t + D) O S w0m wm → (∀ j, 39 ≤ j → wm.1 97 j = w0m.1 97 j) → wm.1 124 = w0m.1 124 → wm.2 132 (20 * t + D) = lN (p8 (tw c n p)) → (LQ (wc.2 36 (F + D)) (wm.2 133 (20 * t + D)) ∨ (wc.2 36 (F + D) = -1 ∧ wm.2 133 (20 * t + D) = -1)) → wc.2 35 (F + D) = lN (p5 (tw c n p)) → p < p' → st' ≤ p' → p' ≤ n → wc.1 65 6 = nI p' → wc.1 65 11 = nI s → (s = 1 ∨ s = 3) → (s = 1 → ¬ tk c n p' = 100) → DRF wc t F D → wc.1 30 15 = nI a → wc.1 39 (F + D) = nI a → wc.1 40 (F + D) = NO → wc.1 38 (F + D) = nI 0 → MT c n p' wm → ok (X12_rule_j161 (nI (20 * t + D)) wm) (fun r => RGW c n w0c w0m t F D a S O KA KB KO p (PS n st w0c) r ∨ FP (Kg fR (F + D) a w0c) (KU t (20 * t + D) O S w0m) (PS n st w0c) r) := by
          intro st' p' wc wm s hP hKg hf hKU h97 h124 h132 h133 h35 hpp hst' hp' h6' h11' hs hs1 hDR h15' h39 h40 h38 hMT'
          refine ok_mono (tail_e (t := t) (F := F) (D := D) (a := a) (m := 20 * t + D) (S := S) (O := O) (KA := KA) (KB := KB) (KO := KO) (st := st') (p := p') (s := s) hn (hKg.iw hW) (hKg.by hB) (hKU.mb hMB) hKA hKB hKO (by omega) hst' hp' h6' h11' hs hs1 hDR h15' h39 h40 h38 hMT' (by rw [h97 41 (by omega)]; exact h41) (by rw [h97 43 (by omega)]; exact h43) (by rw [h97 44 (by omega)]; exact h44) (by rw [h97 42 (by omega)]; exact d5) (by rw [h124]; exact d6) hDl ⟨by omega, by omega, by omega⟩) (fun r hr => ?_)
          rcases hr with ⟨x1, st3, p3, wc3, A', S', O', y1, y2, y3, y4, y5, y6, y7, y8, y9, y10, y11, y12, y13, y14, y15, y16, y17, y18⟩ | ⟨e1', k, pl, e, f1, f2, f3, f4, f5', f6, f7, f8, f9, f10⟩
          · refine Or.inl ⟨x1, st3, p3, wc3, A', S', O', by rw [hP]; exact y1, y2, by omega, y4, y5.2.2.2.1, y6, hKg.tr y7, ⟨by rw [y8.1]; exact hf.1, by rw [y8.2]; exact hf.2⟩, hKU.tr y9, y10, ⟨y11.1, by rw [y11.2]; exact h97 40 (by omega)⟩, y12, y13, y14, hDl, ⟨?_, ?_, y16, y17⟩, y18⟩
            · rw [y15.1, y15.2.2.1, h35, h132]; exact ⟨_, hw, rfl, rfl⟩
            · rw [y15.2.1, y15.2.2.2]; exact h133
          · exact Or.inr ⟨e1', k, pl, e, f1, f2, f3, f4, f5', hKU.tr f6, by rw [hP]; exact f7, f8, f9, hKg.tr f10⟩
        by_cases q100 : tk c n p1 = 100
        · -- strikes
          rw [if_pos q100, if_neg (by decide)]
          have ue5 := ue4 (by omega)
          obtain ⟨e2, r1, r4, ⟨r5a, r5b, r5c, r5d⟩, r6, r7⟩ := clsR (f := F + D) (a := a) (st := st + 1) (p := p1) hn (q6.iw hW) (q6.by hB) (by omega) te3 q4 (by omega) (by omega) (Q := fun e => DRF e t F D ∧ e.1 65 11 = nI 2 ∧ e.1 30 15 = nI a ∧ (∀ k, 35 ≤ k → k ≤ 41 → e.1 k = e1.1 k ∧ e.2 k = e1.2 k)) (fun e he hT => by
            refine ⟨_, t_strikes (w := e) (by rw [(he 65 (by decide) 11 (by decide)).1]; exact q5b) (by rw [hT.1, q100]), ⟨(f5.drf he q5a).c (by rw [I_oth (by decide)]) (by rw [I_oth (by decide)]) (by rw [I_oth (by decide)]), I_self, by rw [I_oth (by decide), (he 30 (by decide) 15 (by decide)).1]; exact q5c, fun k k1 k2 => ?_⟩, Kg.rf.fI (by decide) (Or.inr rfl)⟩
            have := he.row k (by simp) (by simp only [f5, List.map_cons, List.map_nil, List.mem_cons, List.not_mem_nil, or_false]; omega)
            rw [I_oth (by omega), I_J, this.1, this.2]; exact ⟨rfl, rfl⟩)
          obtain ⟨w2, o1, o2, o3⟩ := nxt hn (kB.mb hMB) te3 n3.2.2.1
          have kC := kB.nx o2
          rw [o1]
          simp only [Option.bind_some]
          have c97 : ∀ j, 39 ≤ j → w2.1 97 j = w0m.1 97 j := fun j hj => by rw [(o2 97 (by decide) j (by simp only [List.mem_cons, List.not_mem_nil, or_false, Prod.mk.injEq]; omega)).1, b97 j hj]
          have kK := q6.tr r6
          generalize hp2 : te c n p1 = p2 at *
          obtain ⟨ve1, ve2, ve3, ve4⟩ := te_s (c := c) ue3
          have hrg2 := tk_rng (c := c) (n := n) p2
          rw [label_e hn (kC.mb hMB) ue3 o3]
          simp only [Option.bind_some]
          rw [gdn (by omega) (by omega), gdn (by omega) (by omega)]
          rw [show ∀ v, (puJ w2 133 (20 * t + D) v).2 133 (20 * t + D) = v from fun v => by rw [J_row, updL_s]]
          by_cases q33 : tk c n p2 = 3
          · have hw2 := tw_w ue3 q33
            have hm2 : lg_cmp (lN (p8 (tw c n p2))) (-1) ≠ 0 := by
              intro z
              have : lN (p8 (tw c n p2)) = -1 := by
                have := (cmpz (a := lN (p8 (tw c n p2))) (b := -1))
                rw [show nI 0 = (0 : Int32) from rfl] at this
                rw [this] at z; exact z
              exact lN_m1 (p8_lt hw2) this
            rw [if_pos q33, if_neg hm2]
            have ve5 := ve4 (by omega)
            obtain ⟨e3, s1, s4, ⟨s5a, s5b, s5c, s5d, s5e⟩, s6, s7⟩ := clsR (f := F + D) (a := a) (st := st + 1 + 1) (p := p2) hn (kK.iw hW) (kK.by hB) (by omega) ue3 r4 (by omega) (by omega) (Q := fun e => DRF e t F D ∧ e.1 65 11 = nI 3 ∧ e.1 30 15 = nI a ∧ e.2 36 (F + D) = lN (p5 (tw c n p2)) ∧ (∀ k, 35 ≤ k → k ≤ 41 → e.1 k = e1.1 k ∧ (k ≠ 36 → e.2 k = e1.2 k))) (fun e he hT => by
              have z := (t_strk (w := e) (x := lN (p5 (tw c n p2))) (f5.drf he r5a) (by rw [(he 65 (by decide) 11 (by decide)).1]; exact r5b) hT.1 (by omega) hT.2.2.2.2).2 q33
              refine ⟨_, z, ⟨(f5.drf he r5a).c (by rw [I_oth (by decide), J_I]) (by rw [I_oth (by decide), J_I]) (by rw [I_oth (by decide), J_I]), I_self, by rw [I_oth (by decide), J_I, (he 30 (by decide) 15 (by decide)).1]; exact r5c, by rw [I_J, J_row, updL_s], fun k k1 k2 => ⟨?_, fun k3 => ?_⟩⟩, (Kg.rf.rJ (by omega) (by omega) (Nat.le_refl _)).fI (by decide) (Or.inr rfl)⟩
              · have := he.row k (by simp) (by simp only [f5, List.map_cons, List.map_nil, List.mem_cons, List.not_mem_nil, or_false]; omega)
                rw [I_oth (by omega), J_I, this.1]; exact (r5d k k1 k2).1
              · have := he.row k (by simp) (by simp only [f5, List.map_cons, List.map_nil, List.mem_cons, List.not_mem_nil, or_false]; omega)
                rw [I_J, J_oth k3, this.2]; exact (r5d k k1 k2).2)
            have kD : KU t (20 * t + D) O S w0m (puJ w2 133 (20 * t + D) (lN (p8 (tw c n p2)))) := kC.rJ (by omega) (by omega) (Nat.le_refl _)
            obtain ⟨w3, g1, g2, g3⟩ := nxt hn (w := puJ w2 133 (20 * t + D) (lN (p8 (tw c n p2)))) (kD.mb hMB) ue3 (by rw [J_I]; exact o3.2.2.1)
            rw [g1]
            simp only [Option.bind_some]
            refine fin (st + 1 + 1 + 1) (te c n p2) e3 w3 3 (by rw [q1, r1, s1]) (kK.tr s6) ⟨by rw [s7.1, r7.1, q7.1], by rw [s7.2, r7.2, q7.2]⟩ (kD.nx g2) (fun j hj => by rw [(g2 97 (by decide) j (by simp only [List.mem_cons, List.not_mem_nil, or_false, Prod.mk.injEq]; omega)).1, J_I, c97 j hj]) (by rw [(g2.row 124 (by decide) (by decide)).1, J_I, (o2.row 124 (by decide) (by decide)).1, b124]) ?_ (Or.inl ?_) ?_ (by omega) (by omega) ve3 s4 s5b (Or.inr rfl) (fun z => by omega) s5a s5c ?_ ?_ ?_ g3
            · rw [(g2.row 132 (by decide) (by decide)).2, J_oth (by decide), (o2.row 132 (by decide) (by decide)).2]; exact b132
            · rw [s5d, (g2.row 133 (by decide) (by decide)).2, J_row, updL_s]; exact ⟨_, hw2, rfl, rfl⟩
            · rw [(s5e 35 (by omega) (by omega)).2 (by omega)]; exact q5d
            · rw [(s5e 39 (by omega) (by omega)).1]; exact q5g
            · rw [(s5e 40 (by omega) (by omega)).1]; exact q5h
            · rw [(s5e 38 (by omega) (by omega)).1]; exact q5f
          · rw [if_neg q33, if_pos (by decide)]
            obtain ⟨w3, f1, f2, f3, f4⟩ := fails_e (w := puJ w2 133 (20 * t + D) (-1)) (k := 2) (MT.c o3 (fun j _ _ => by rw [J_I])) (by rw [J_I, c97 41 (by omega)]; exact h41)
            rw [show (2 : Int32) = nI 2 from rfl, f1]
            simp only [Option.bind_some]
            rw [gb0]
            refine ok_i (Or.inr (FPkk hn (st := st + 1 + 1) (O1 := 0) (S1 := 0) (kK.iw hW) (kK.by hB) (by omega) ue3 r4 (by omega) (by omega) (by rw [q1, r1]) kK (kC.rJ (by omega) (by omega) (Nat.le_refl _)) (fun e he hT h0 => ⟨e, (t_strk (w := e) (x := lN (p5 (tw c n p2))) (f5.drf he r5a) (by rw [(he 65 (by decide) 11 (by decide)).1]; exact r5b) hT.1 (by omega) hT.2.2.2.2).1 q33, Kg.rf⟩) f2 f3 f4))
        · rw [if_neg q100, if_pos (rfl : (0 : Int32) = 0)]
          exact fin (st + 1) p1 e1 w1 1 q1 q6 q7 kB b97 b124 b132 (Or.inr ⟨q5e, b133⟩) q5d (by omega) (by omega) te3 q4 q5b (Or.inl rfl) (fun _ => q100) q5a q5c q5g q5h q5f n3
  · rw [if_neg q3] at hlab
    obtain ⟨w2, f1, f2, f3, f4⟩ := fails_e hMT h41 (k := 2)
    have hj : X12_rule w0m = some (nI 0, w2) := by
      unfold X12_rule
      rw [hlab]
      simp only [Option.bind_some]
      rw [if_pos (by decide), show (2 : Int32) = nI 2 from rfl, f1]
      simp only [Option.bind_some]
      rw [gb0]
    rw [hj]
    exact ok_i (Or.inr (FPkk hn (st := st) (O1 := 0) (S1 := 0) hW hB hst hp h6 (by omega) (by omega) rfl Kg.rf KU.rf (fun e he hT h0 => ⟨e, (tr e he hT).1 h1 q3, Kg.rf⟩) f2 f3 f4))
end
