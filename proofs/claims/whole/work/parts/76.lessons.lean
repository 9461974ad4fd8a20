/-! LESSONS -/
def ILs (w : Wd) : Prop := (∀ k, k < 15 → isN w 70 k 61 ∧ 1 ≤ nn w 70 k ∧ isN w 71 k (2 ^ k) ∧ isN w 72 k 67108864) ∧ (w.1 147 = w.1 70 ∧ w.1 148 = w.1 71 ∧ w.1 149 = w.1 72) ∧ isN w 69 3 21 ∧ 1 ≤ nn w 69 3 ∧ w.1 97 83 = w.1 69 3
def sR_Ls : List Nat := [70, 71, 72, 147, 148, 149]
def sF_Ls : List (Nat × Nat) := [(69, 3), (97, 83)]
theorem ILs.sm {w w' : Wd} (h : ILs w) (e : Sm sR_Ls sF_Ls w w') : ILs w' := by
  have r70 := (e.1 70 (by decide)).1
  have r71 := (e.1 71 (by decide)).1
  have r72 := (e.1 72 (by decide)).1
  have r147 := (e.1 147 (by decide)).1
  have r148 := (e.1 148 (by decide)).1
  have r149 := (e.1 149 (by decide)).1
  have f1 : w'.1 69 3 = w.1 69 3 := (e.2 (69, 3) (by decide)).1
  have f2 : w'.1 97 83 = w.1 97 83 := (e.2 (97, 83) (by decide)).1
  unfold ILs isN nn at h ⊢
  simp only [r70, r71, r72, r147, r148, r149, f1, f2]
  exact h
theorem pow15 {l : Nat} (h : l < 15) : 2 ^ l ≤ 16384 := Nat.le_trans (Nat.pow_le_pow_right (by omega) (show l ≤ 14 by omega)) (by decide)
theorem o_lesson (a1 a2 a3 a4 : Int32) {w : Wd} (h : ILs w) : two (X11_lesson a1 a2 a3 a4) (X12_lesson a1 a2 a3 a4) w (fun w' => St w w' ∨ (IS w' ∧ ILs w' ∧ w'.1 73 4 = mnI (w.1 73 4) (nI 0))) := by
  by_cases hl : 0 ≤ a1.toInt ∧ a1.toInt < ((15 : Nat) : Int)
  · obtain ⟨l, hl15, rfl⟩ := of_t hl
    have hp := pow15 hl15
    have hp1 := Nat.two_pow_pos l
    by_cases hv : (((1 : Nat) : Int) ≤ a2.toInt ∧ a2.toInt < ((61 : Nat) : Int)) ∧ (0 ≤ a3.toInt ∧ a3.toInt < ((2 ^ l : Nat) : Int)) ∧ (0 ≤ a4.toInt ∧ a4.toInt < ((67108864 : Nat) : Int))
    · obtain ⟨h2, h3, h4⟩ := hv
      obtain ⟨nd, lnd, rfl⟩ := of_t (n := 61) (x := a2) (by omega)
      obtain ⟨ln, lln, rfl⟩ := of_t h3
      obtain ⟨lt, llt, rfl⟩ := of_t h4
      rw [tI (by omega)] at h2
      refine ⟨nI 1, puI (puI (puI (puI (puI w 70 l (nI nd)) 71 l (nI ln)) 72 l (nI lt)) 73 4 (mnI (w.1 73 4) (nI 0))) 0 10 (nI 0), puI (puI (puI (puI (puI (puI (puI (puI (puI w 70 l (nI nd)) 71 l (nI ln)) 72 l (nI lt)) 73 4 (mnI (w.1 73 4) (nI 0))) 0 10 (nI 0)) 147 l (nI nd)) 148 l (nI ln)) 149 l (nI lt)) 97 0 (nI 0), ?_, ?_, Or.inr ⟨rfl, ?_, rfl⟩⟩
      · unfold X11_lesson X3_set
        simp (disch := omega) only [gdn, gb0, gb1, ixn, nm1, nI_add, nI_mul, nsub, nI_ltI, nI_leI, nI_eq, eqNO, eqNO2, ltNO, NOlt, leNO, NOle, if_pos, if_neg, Option.bind_some, if_true, if_false, and_self, eq_self, l0, l1, l2, l3, l4, l5, l6, l7, l8, l9, l10, l11, l12, l13, l14, l15, l16, l17, l18, l19, l20, l24, l26, l30, l31, l32, l40, l41, l42, l43, l45, l47, l48, l57, l58, l59, l60, l61, l62, l63, l64, l97, l99, l100, l101, l102, l103, l104, l105, l106, l107, l108, l109, l110, l122, l160, l240, l255, l600, l1000, l3000, l10000, l10007, l10116, l67108863, l67108864, I_oth, I_J, J_oth, J_I, I_row, J_row, SI_row, SI_oth, SI_J, SJ_row, SJ_oth, SJ_I, upd_s, upd_n, updL_s, updL_n, ne_eq, not_false_eq_true, lt_t, le_t, tI, NO_t, flag0, flag1, ite_or2, ite_self, true_or, or_true, false_or, or_false, true_and, and_true, false_and, and_false, not_true_eq_false, lesson_e, win, shl1, relive_e, agree_e]
      · unfold X12_lesson
        simp (disch := omega) only [gdn, gb0, gb1, ixn, nm1, nI_add, nI_mul, nsub, nI_ltI, nI_leI, nI_eq, eqNO, eqNO2, ltNO, NOlt, leNO, NOle, if_pos, if_neg, Option.bind_some, if_true, if_false, and_self, eq_self, l0, l1, l2, l3, l4, l5, l6, l7, l8, l9, l10, l11, l12, l13, l14, l15, l16, l17, l18, l19, l20, l24, l26, l30, l31, l32, l40, l41, l42, l43, l45, l47, l48, l57, l58, l59, l60, l61, l62, l63, l64, l97, l99, l100, l101, l102, l103, l104, l105, l106, l107, l108, l109, l110, l122, l160, l240, l255, l600, l1000, l3000, l10000, l10007, l10116, l67108863, l67108864, I_oth, I_J, J_oth, J_I, I_row, J_row, SI_row, SI_oth, SI_J, SJ_row, SJ_oth, SJ_I, upd_s, upd_n, updL_s, updL_n, ne_eq, not_false_eq_true, lt_t, le_t, tI, NO_t, flag0, flag1, ite_or2, ite_self, true_or, or_true, false_or, or_false, true_and, and_true, false_and, and_false, not_true_eq_false, shl1, mis_e]
      · obtain ⟨ht, ⟨m1, m2, m3⟩, hf, hf1, mf⟩ := h
        refine ⟨fun k hk => ?_, ⟨?_, ?_, ?_⟩, hf, hf1, mf⟩
        · obtain ⟨a70, a701, a71, a72⟩ := ht k hk
          by_cases q : k = l
          · subst q
            refine ⟨isN.of (n := nd) (show upd (w.1 70) k (nI nd) k = _ from upd_s) lnd (by omega), ?_, isN.of (n := ln) (show upd (w.1 71) k (nI ln) k = _ from upd_s) lln (by omega), isN.of (n := lt) (show upd (w.1 72) k (nI lt) k = _ from upd_s) llt (by omega)⟩
            show 1 ≤ ix (upd (w.1 70) k (nI nd) k)
            rw [upd_s, ixn (by omega)]; omega
          · refine ⟨a70.eq (show upd (w.1 70) l (nI nd) k = _ from upd_n q), ?_, a71.eq (show upd (w.1 71) l (nI ln) k = _ from upd_n q), a72.eq (show upd (w.1 72) l (nI lt) k = _ from upd_n q)⟩
            show 1 ≤ ix (upd (w.1 70) l (nI nd) k)
            rw [upd_n q]; exact a701
        · show upd (w.1 147) l (nI nd) = upd (w.1 70) l (nI nd)
          rw [m1]
        · show upd (w.1 148) l (nI ln) = upd (w.1 71) l (nI ln)
          rw [m2]
        · show upd (w.1 149) l (nI lt) = upd (w.1 72) l (nI lt)
          rw [m3]
    · refine two_ref (nI 1) (r := nI 0) ?_ ?_ (fun w' z => Or.inl z)
      · unfold X11_lesson X11_lesson_j42
        simp (disch := omega) only [gdn, gb0, gb1, ixn, nm1, nI_add, nI_mul, nsub, nI_ltI, nI_leI, nI_eq, eqNO, eqNO2, ltNO, NOlt, leNO, NOle, if_pos, if_neg, Option.bind_some, if_true, if_false, and_self, eq_self, l0, l1, l2, l3, l4, l5, l6, l7, l8, l9, l10, l11, l12, l13, l14, l15, l16, l17, l18, l19, l20, l24, l26, l30, l31, l32, l40, l41, l42, l43, l45, l47, l48, l57, l58, l59, l60, l61, l62, l63, l64, l97, l99, l100, l101, l102, l103, l104, l105, l106, l107, l108, l109, l110, l122, l160, l240, l255, l600, l1000, l3000, l10000, l10007, l10116, l67108863, l67108864, I_oth, I_J, J_oth, J_I, I_row, J_row, SI_row, SI_oth, SI_J, SJ_row, SJ_oth, SJ_I, upd_s, upd_n, updL_s, updL_n, ne_eq, not_false_eq_true, lt_t, le_t, tI, NO_t, flag0, flag1, ite_or2, ite_self, true_or, or_true, false_or, or_false, true_and, and_true, false_and, and_false, not_true_eq_false, lesson_e, win, shl1, refuse_e]
      · unfold X12_lesson X12_lesson_j45
        simp (disch := omega) only [gdn, gb0, gb1, ixn, nm1, nI_add, nI_mul, nsub, nI_ltI, nI_leI, nI_eq, eqNO, eqNO2, ltNO, NOlt, leNO, NOle, if_pos, if_neg, Option.bind_some, if_true, if_false, and_self, eq_self, l0, l1, l2, l3, l4, l5, l6, l7, l8, l9, l10, l11, l12, l13, l14, l15, l16, l17, l18, l19, l20, l24, l26, l30, l31, l32, l40, l41, l42, l43, l45, l47, l48, l57, l58, l59, l60, l61, l62, l63, l64, l97, l99, l100, l101, l102, l103, l104, l105, l106, l107, l108, l109, l110, l122, l160, l240, l255, l600, l1000, l3000, l10000, l10007, l10116, l67108863, l67108864, I_oth, I_J, J_oth, J_I, I_row, J_row, SI_row, SI_oth, SI_J, SJ_row, SJ_oth, SJ_I, upd_s, upd_n, updL_s, updL_n, ne_eq, not_false_eq_true, lt_t, le_t, tI, NO_t, flag0, flag1, ite_or2, ite_self, true_or, or_true, false_or, or_false, true_and, and_true, false_and, and_false, not_true_eq_false, shl1, mis_e]
  · refine two_ref (nI 1) (r := nI 0) ?_ ?_ (fun w' z => Or.inl z)
    · unfold X11_lesson X11_lesson_j42
      simp (disch := omega) only [gdn, gb0, gb1, ixn, nm1, nI_add, nI_mul, nsub, nI_ltI, nI_leI, nI_eq, eqNO, eqNO2, ltNO, NOlt, leNO, NOle, if_pos, if_neg, Option.bind_some, if_true, if_false, and_self, eq_self, l0, l1, l2, l3, l4, l5, l6, l7, l8, l9, l10, l11, l12, l13, l14, l15, l16, l17, l18, l19, l20, l24, l26, l30, l31, l32, l40, l41, l42, l43, l45, l47, l48, l57, l58, l59, l60, l61, l62, l63, l64, l97, l99, l100, l101, l102, l103, l104, l105, l106, l107, l108, l109, l110, l122, l160, l240, l255, l600, l1000, l3000, l10000, l10007, l10116, l67108863, l67108864, I_oth, I_J, J_oth, J_I, I_row, J_row, SI_row, SI_oth, SI_J, SJ_row, SJ_oth, SJ_I, upd_s, upd_n, updL_s, updL_n, ne_eq, not_false_eq_true, lt_t, le_t, tI, NO_t, flag0, flag1, ite_or2, ite_self, true_or, or_true, false_or, or_false, true_and, and_true, false_and, and_false, not_true_eq_false, lesson_e, refuse_e]
    · unfold X12_lesson X12_lesson_j45
      simp (disch := omega) only [gdn, gb0, gb1, ixn, nm1, nI_add, nI_mul, nsub, nI_ltI, nI_leI, nI_eq, eqNO, eqNO2, ltNO, NOlt, leNO, NOle, if_pos, if_neg, Option.bind_some, if_true, if_false, and_self, eq_self, l0, l1, l2, l3, l4, l5, l6, l7, l8, l9, l10, l11, l12, l13, l14, l15, l16, l17, l18, l19, l20, l24, l26, l30, l31, l32, l40, l41, l42, l43, l45, l47, l48, l57, l58, l59, l60, l61, l62, l63, l64, l97, l99, l100, l101, l102, l103, l104, l105, l106, l107, l108, l109, l110, l122, l160, l240, l255, l600, l1000, l3000, l10000, l10007, l10116, l67108863, l67108864, I_oth, I_J, J_oth, J_I, I_row, J_row, SI_row, SI_oth, SI_J, SJ_row, SJ_oth, SJ_I, upd_s, upd_n, updL_s, updL_n, ne_eq, not_false_eq_true, lt_t, le_t, tI, NO_t, flag0, flag1, ite_or2, ite_self, true_or, or_true, false_or, or_false, true_and, and_true, false_and, and_false, not_true_eq_false, mis_e]
theorem o_fade (a1 : Int32) {w : Wd} (h : ILs w) : two (X11_fade a1) (X12_fade a1) w (fun w' => St w w' ∨ (IS w' ∧ ILs w' ∧ w'.1 73 4 = mnI (w.1 73 4) (nI 0))) := by
  by_cases hv : ((1 : Nat) : Int) ≤ a1.toInt ∧ a1.toInt < ((21 : Nat) : Int)
  · obtain ⟨f, lf, rfl⟩ := of_t (n := 21) (x := a1) (by omega)
    rw [tI (by omega)] at hv
    refine ⟨nI 1, puI (puI (puI w 69 3 (nI f)) 73 4 (mnI (w.1 73 4) (nI 0))) 0 10 (nI 0), puI (puI (puI (puI (puI w 69 3 (nI f)) 73 4 (mnI (w.1 73 4) (nI 0))) 0 10 (nI 0)) 97 83 (nI f)) 97 0 (nI 0), ?_, ?_, Or.inr ⟨rfl, ?_, rfl⟩⟩
    · unfold X11_fade
      simp (disch := omega) only [gdn, gb0, gb1, ixn, nm1, nI_add, nI_mul, nsub, nI_ltI, nI_leI, nI_eq, eqNO, eqNO2, ltNO, NOlt, leNO, NOle, if_pos, if_neg, Option.bind_some, if_true, if_false, and_self, eq_self, l0, l1, l2, l3, l4, l5, l6, l7, l8, l9, l10, l11, l12, l13, l14, l15, l16, l17, l18, l19, l20, l24, l26, l30, l31, l32, l40, l41, l42, l43, l45, l47, l48, l57, l58, l59, l60, l61, l62, l63, l64, l97, l99, l100, l101, l102, l103, l104, l105, l106, l107, l108, l109, l110, l122, l160, l240, l255, l600, l1000, l3000, l10000, l10007, l10116, l67108863, l67108864, I_oth, I_J, J_oth, J_I, I_row, J_row, SI_row, SI_oth, SI_J, SJ_row, SJ_oth, SJ_I, upd_s, upd_n, updL_s, updL_n, ne_eq, not_false_eq_true, lt_t, le_t, tI, NO_t, flag0, flag1, ite_or2, ite_self, true_or, or_true, false_or, or_false, true_and, and_true, false_and, and_false, not_true_eq_false, win, relive_e, agree_e]
    · unfold X12_fade
      simp (disch := omega) only [gdn, gb0, gb1, ixn, nm1, nI_add, nI_mul, nsub, nI_ltI, nI_leI, nI_eq, eqNO, eqNO2, ltNO, NOlt, leNO, NOle, if_pos, if_neg, Option.bind_some, if_true, if_false, and_self, eq_self, l0, l1, l2, l3, l4, l5, l6, l7, l8, l9, l10, l11, l12, l13, l14, l15, l16, l17, l18, l19, l20, l24, l26, l30, l31, l32, l40, l41, l42, l43, l45, l47, l48, l57, l58, l59, l60, l61, l62, l63, l64, l97, l99, l100, l101, l102, l103, l104, l105, l106, l107, l108, l109, l110, l122, l160, l240, l255, l600, l1000, l3000, l10000, l10007, l10116, l67108863, l67108864, I_oth, I_J, J_oth, J_I, I_row, J_row, SI_row, SI_oth, SI_J, SJ_row, SJ_oth, SJ_I, upd_s, upd_n, updL_s, updL_n, ne_eq, not_false_eq_true, lt_t, le_t, tI, NO_t, flag0, flag1, ite_or2, ite_self, true_or, or_true, false_or, or_false, true_and, and_true, false_and, and_false, not_true_eq_false, mis_e]
    · obtain ⟨ht, hm, -, -, -⟩ := h
      refine ⟨ht, hm, isN.of (n := f) rfl lf (by omega), ?_, rfl⟩
      show 1 ≤ ix (nI f)
      rw [ixn (by omega)]; omega
  · refine two_ref (nI 1) (r := nI 0) ?_ ?_ (fun w' z => Or.inl z)
    · unfold X11_fade
      simp (disch := omega) only [gdn, gb0, gb1, ixn, nm1, nI_add, nI_mul, nsub, nI_ltI, nI_leI, nI_eq, eqNO, eqNO2, ltNO, NOlt, leNO, NOle, if_pos, if_neg, Option.bind_some, if_true, if_false, and_self, eq_self, l0, l1, l2, l3, l4, l5, l6, l7, l8, l9, l10, l11, l12, l13, l14, l15, l16, l17, l18, l19, l20, l24, l26, l30, l31, l32, l40, l41, l42, l43, l45, l47, l48, l57, l58, l59, l60, l61, l62, l63, l64, l97, l99, l100, l101, l102, l103, l104, l105, l106, l107, l108, l109, l110, l122, l160, l240, l255, l600, l1000, l3000, l10000, l10007, l10116, l67108863, l67108864, I_oth, I_J, J_oth, J_I, I_row, J_row, SI_row, SI_oth, SI_J, SJ_row, SJ_oth, SJ_I, upd_s, upd_n, updL_s, updL_n, ne_eq, not_false_eq_true, lt_t, le_t, tI, NO_t, flag0, flag1, ite_or2, ite_self, true_or, or_true, false_or, or_false, true_and, and_true, false_and, and_false, not_true_eq_false, win, refuse_e]
    · unfold X12_fade X12_fade_j11
      simp (disch := omega) only [gdn, gb0, gb1, ixn, nm1, nI_add, nI_mul, nsub, nI_ltI, nI_leI, nI_eq, eqNO, eqNO2, ltNO, NOlt, leNO, NOle, if_pos, if_neg, Option.bind_some, if_true, if_false, and_self, eq_self, l0, l1, l2, l3, l4, l5, l6, l7, l8, l9, l10, l11, l12, l13, l14, l15, l16, l17, l18, l19, l20, l24, l26, l30, l31, l32, l40, l41, l42, l43, l45, l47, l48, l57, l58, l59, l60, l61, l62, l63, l64, l97, l99, l100, l101, l102, l103, l104, l105, l106, l107, l108, l109, l110, l122, l160, l240, l255, l600, l1000, l3000, l10000, l10007, l10116, l67108863, l67108864, I_oth, I_J, J_oth, J_I, I_row, J_row, SI_row, SI_oth, SI_J, SJ_row, SJ_oth, SJ_I, upd_s, upd_n, updL_s, updL_n, ne_eq, not_false_eq_true, lt_t, le_t, tI, NO_t, flag0, flag1, ite_or2, ite_self, true_or, or_true, false_or, or_false, true_and, and_true, false_and, and_false, not_true_eq_false, mis_e]
/-! sets -/
def mkS (p : Nat → Bool) : Nat → Nat
  | 0 => 0
  | n + 1 => if p n = true then mkS p n ||| 2 ^ n else mkS p n
theorem mkS_lt (p : Nat → Bool) : ∀ n, mkS p n < 2 ^ n
  | 0 => Nat.one_pos
  | n + 1 => by
    have h := mkS_lt p n
    unfold mkS
    have h2 : 2 ^ n < 2 ^ (n + 1) := by rw [Nat.pow_succ]; have := Nat.two_pow_pos n; omega
    split
    · exact Nat.or_lt_two_pow (by omega) h2
    · omega
theorem mkS_bit (p : Nat → Bool) (k : Nat) : ∀ n, (mkS p n).testBit k = (decide (k < n) && p k)
  | 0 => by rw [show mkS p 0 = 0 from rfl, Nat.zero_testBit]; simp
  | n + 1 => by
    unfold mkS
    by_cases h : p n = true
    · rw [if_pos h, Nat.testBit_or, mkS_bit p k n, Nat.testBit_two_pow]
      by_cases q : k = n
      · subst q; simp [h]
      · have : (decide (n = k)) = false := decide_eq_false (fun z => q z.symm)
        rw [this, Bool.or_false]
        congr 1
        simp only [decide_eq_decide]
        omega
    · rw [if_neg h, mkS_bit p k n]
      by_cases q : k = n
      · subst q; simp [h]
      · congr 1
        simp only [decide_eq_decide]
        omega
theorem mkS_congr {p q : Nat → Bool} : ∀ {n : Nat}, (∀ k, k < n → p k = q k) → mkS p n = mkS q n
  | 0, _ => rfl
  | n + 1, h => by unfold mkS; rw [mkS_congr (fun k hk => h k (by omega)), h n (by omega)]
def dnS (nd g : Nat → Nat) : Nat := mkS (fun k => decide (nd k ≤ g k)) 15
theorem dnS_lt (nd g : Nat → Nat) : dnS nd g < 32768 := mkS_lt _ 15
theorem dnS_bit {nd g : Nat → Nat} {k : Nat} (h : k < 15) : (dnS nd g).testBit k = decide (nd k ≤ g k) := by
  unfold dnS
  rw [mkS_bit, decide_eq_true h, Bool.true_and]
