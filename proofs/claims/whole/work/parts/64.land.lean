/-! PLACES, WAYS and who and what is there -/
def IL (w : Wd) : Prop :=
  (isN w 5 0 17 ∧ isN w 5 2 31 ∧ isN w 5 8 41 ∧ isN w 5 12 21 ∧ isN w 5 15 13) ∧
  (w.1 97 4 = w.1 5 0 ∧ w.1 97 5 = w.1 5 2 ∧ w.1 97 6 = w.1 5 8 ∧ w.1 97 7 = w.1 5 12 ∧ w.1 97 8 = w.1 5 15) ∧
  (w.1 101 = w.1 6 ∧ w.1 102 = w.1 7 ∧ w.1 103 = w.1 8 ∧ w.1 104 = w.1 9 ∧ w.1 105 = w.1 10 ∧ w.1 106 = w.1 11) ∧ (w.1 108 = w.1 12 ∧ w.1 109 = w.1 13 ∧ w.1 110 = w.1 14 ∧ w.1 111 = w.1 15 ∧ w.1 112 = w.1 16 ∧ w.1 113 = w.1 17) ∧
  (∀ i, i < nn w 5 0 → isN w 6 i 4) ∧
  (∀ i, i < nn w 5 2 → isN w 7 i (nn w 5 0) ∧ isN w 8 i (nn w 5 0) ∧ isN w 9 i 10 ∧ 1 ≤ nn w 9 i ∧ ((w.1 10 i = NO ∧ w.1 11 i = NO) ∨ (isN w 10 i 60 ∧ isN w 11 i 60))) ∧
  (∀ i, i < nn w 5 8 → isN w 12 i (nn w 5 0) ∧ isN w 13 i 100 ∧ isN w 14 i 5) ∧
  (∀ i, i < nn w 5 12 → isN w 15 i 32 ∧ isN w 16 i (nn w 5 0)) ∧
  (∀ i, i < nn w 5 15 → isN w 17 i (nn w 5 0))
def sR_L : List Nat := [6, 7, 8, 9, 10, 11, 12, 13, 14, 15, 16, 17, 101, 102, 103, 104, 105, 106, 108, 109, 110, 111, 112, 113]
def sF_L : List (Nat × Nat) := [(5, 0), (5, 2), (5, 8), (5, 12), (5, 15), (97, 4), (97, 5), (97, 6), (97, 7), (97, 8)]
theorem IL.sm {w w' : Wd} (h : IL w) (e : Sm sR_L sF_L w w') : IL w' := by
  have r := fun k hk => (e.1 k hk).1
  have f := fun q hq => (e.2 q hq).1
  have r6 := r 6 (by decide)
  have r7 := r 7 (by decide)
  have r8 := r 8 (by decide)
  have r9 := r 9 (by decide)
  have r10 := r 10 (by decide)
  have r11 := r 11 (by decide)
  have r12 := r 12 (by decide)
  have r13 := r 13 (by decide)
  have r14 := r 14 (by decide)
  have r15 := r 15 (by decide)
  have r16 := r 16 (by decide)
  have r17 := r 17 (by decide)
  have r101 := r 101 (by decide)
  have r102 := r 102 (by decide)
  have r103 := r 103 (by decide)
  have r104 := r 104 (by decide)
  have r105 := r 105 (by decide)
  have r106 := r 106 (by decide)
  have r108 := r 108 (by decide)
  have r109 := r 109 (by decide)
  have r110 := r 110 (by decide)
  have r111 := r 111 (by decide)
  have r112 := r 112 (by decide)
  have r113 := r 113 (by decide)
  have f1 := f (5, 0) (by decide)
  have f2 := f (5, 2) (by decide)
  have f3 := f (5, 8) (by decide)
  have f4 := f (5, 12) (by decide)
  have f5 := f (5, 15) (by decide)
  have f6 := f (97, 4) (by decide)
  have f7 := f (97, 5) (by decide)
  have f8 := f (97, 6) (by decide)
  have f9 := f (97, 7) (by decide)
  have f10 := f (97, 8) (by decide)
  unfold IL isN nn at h ⊢
  simp only [r6, r7, r8, r9, r10, r11, r12, r13, r14, r15, r16, r17, r101, r102, r103, r104, r105, r106, r108, r109, r110, r111, r112, r113, f1, f2, f3, f4, f5, f6, f7, f8, f9, f10]
  exact h
/-! a flag -/
noncomputable def fg (p : Prop) : Int32 := @ite _ p (Classical.propDecidable p) (nI 1) (nI 0)
theorem fg_t {p : Prop} (h : p) : fg p = nI 1 := if_pos h
theorem fg_f {p : Prop} (h : ¬ p) : fg p = nI 0 := if_neg h
theorem fg_c {p q : Prop} (h : p ↔ q) : fg p = fg q := by rw [show p = q from propext h]
theorem fg_or (p q : Prop) : fg p ||| fg q = fg (p ∨ q) := by
  by_cases hp : p
  · by_cases hq : q
    · rw [fg_t hp, fg_t hq, fg_t (Or.inl hp)]; decide
    · rw [fg_t hp, fg_f hq, fg_t (Or.inl hp)]; decide
  · by_cases hq : q
    · rw [fg_f hp, fg_t hq, fg_t (Or.inr hq)]; decide
    · rw [fg_f hp, fg_f hq, fg_f (fun z => z.elim hp hq)]; decide
theorem fg_0 (p : Prop) : (fg p = nI 0) = ¬ p := by
  by_cases hp : p
  · rw [fg_t hp]; simp only [hp, not_true_eq_false]; rw [nI_eq (by omega) (by omega)]; simp
  · rw [fg_f hp]; simp only [hp, not_false_eq_true]
/-! travel -/
noncomputable def tgo (w : Wd) (i x : Nat) : Nat := if w.1 10 i ≠ NO ∧ nn w 10 i ≤ x ∧ x ≤ nn w 11 i then nn w 11 i + 1 else x
noncomputable def tg (w : Wd) (e x : Nat) : Nat := tgo w (e / 2) x + max 1 (nn w 9 (e / 2))
def tsr (w : Wd) (e : Nat) : Nat := if e % 2 = 0 then nn w 7 (e / 2) else nn w 8 (e / 2)
def tds (w : Wd) (e : Nat) : Nat := if e % 2 = 0 then nn w 8 (e / 2) else nn w 7 (e / 2)
theorem tgo_ge (w : Wd) (i x : Nat) : x ≤ tgo w i x := by unfold tgo; split <;> omega
theorem tgo_mono (w : Wd) (i x y : Nat) (h : x ≤ y) : tgo w i x ≤ tgo w i y := by
  unfold tgo
  by_cases h1 : w.1 10 i ≠ NO ∧ nn w 10 i ≤ x ∧ x ≤ nn w 11 i
  · rw [if_pos h1]
    by_cases h2 : w.1 10 i ≠ NO ∧ nn w 10 i ≤ y ∧ y ≤ nn w 11 i
    · rw [if_pos h2]; exact Nat.le_refl _
    · rw [if_neg h2]
      have : ¬ y ≤ nn w 11 i := fun q => h2 ⟨h1.1, by omega, q⟩
      omega
  · rw [if_neg h1]
    split <;> omega
theorem tg_mono (w : Wd) (e x y : Nat) (h : x ≤ y) : tg w e x ≤ tg w e y := by
  unfold tg; have := tgo_mono w (e / 2) x y h; omega
theorem tg_gt (w : Wd) (e x : Nat) : x < tg w e x := by
  unfold tg; have := tgo_ge w (e / 2) x; have : 1 ≤ max 1 (nn w 9 (e / 2)) := Nat.le_max_left _ _; omega
theorem shut_e {w : Wd} (h : IL w) {i x : Nat} (hi : i < nn w 5 2) (hx : x < 2 ^ 31) : X2_isShut (nI i) (nI x) w = some (if w.1 10 i ≠ NO ∧ nn w 10 i ≤ x ∧ x ≤ nn w 11 i then nI 1 else nI 0) := by
  obtain ⟨⟨-, c2, -⟩, -, -, -, -, hw, -⟩ := h
  have hi30 : i < 30 := by have := c2.2; omega
  obtain ⟨-, -, -, -, h5⟩ := hw i hi
  unfold X2_isShut
  rcases h5 with ⟨e1, e2⟩ | ⟨⟨e1, b1⟩, e2, b2⟩
  · simp (disch := omega) only [gdn, gb0, gb1, ixn, nm1, nI_add, nI_mul, nsub, nI_ltI, nI_leI, nI_eq, eqNO, eqNO2, ltNO, NOlt, leNO, NOle, if_pos, if_neg, Option.bind_some, if_true, if_false, and_self, eq_self, l0, l1, l2, l3, l4, l5, l6, l7, l8, l9, l10, l11, l12, l13, l14, l15, l16, l17, l18, l19, l20, l24, l26, l30, l31, l32, l40, l41, l42, l43, l45, l47, l48, l57, l58, l59, l60, l61, l62, l63, l64, l97, l99, l100, l101, l102, l103, l104, l105, l106, l107, l108, l109, l110, l122, l160, l240, l255, l600, l1000, l3000, l10000, l10007, l10116, l67108863, l67108864, e1, e2, ne_eq, not_true_eq_false, false_and]
  · have hne : w.1 10 i ≠ NO := by rw [e1]; intro q; rw [eqNO (by omega)] at q; exact q
    by_cases q1 : nn w 10 i ≤ x
    · by_cases q2 : x ≤ nn w 11 i
      · rw [if_pos (show w.1 10 i ≠ NO ∧ nn w 10 i ≤ x ∧ x ≤ nn w 11 i from ⟨hne, q1, q2⟩)]
        simp (disch := omega) only [gdn, gb0, gb1, ixn, nm1, nI_add, nI_mul, nsub, nI_ltI, nI_leI, nI_eq, eqNO, eqNO2, ltNO, NOlt, leNO, NOle, if_pos, if_neg, Option.bind_some, if_true, if_false, and_self, eq_self, l0, l1, l2, l3, l4, l5, l6, l7, l8, l9, l10, l11, l12, l13, l14, l15, l16, l17, l18, l19, l20, l24, l26, l30, l31, l32, l40, l41, l42, l43, l45, l47, l48, l57, l58, l59, l60, l61, l62, l63, l64, l97, l99, l100, l101, l102, l103, l104, l105, l106, l107, l108, l109, l110, l122, l160, l240, l255, l600, l1000, l3000, l10000, l10007, l10116, l67108863, l67108864, e1, e2]
      · rw [if_neg (show ¬ (w.1 10 i ≠ NO ∧ nn w 10 i ≤ x ∧ x ≤ nn w 11 i) from fun z => q2 z.2.2)]
        simp (disch := omega) only [gdn, gb0, gb1, ixn, nm1, nI_add, nI_mul, nsub, nI_ltI, nI_leI, nI_eq, eqNO, eqNO2, ltNO, NOlt, leNO, NOle, if_pos, if_neg, Option.bind_some, if_true, if_false, and_self, eq_self, l0, l1, l2, l3, l4, l5, l6, l7, l8, l9, l10, l11, l12, l13, l14, l15, l16, l17, l18, l19, l20, l24, l26, l30, l31, l32, l40, l41, l42, l43, l45, l47, l48, l57, l58, l59, l60, l61, l62, l63, l64, l97, l99, l100, l101, l102, l103, l104, l105, l106, l107, l108, l109, l110, l122, l160, l240, l255, l600, l1000, l3000, l10000, l10007, l10116, l67108863, l67108864, e1, e2]
    · rw [if_neg (show ¬ (w.1 10 i ≠ NO ∧ nn w 10 i ≤ x ∧ x ≤ nn w 11 i) from fun z => q1 z.2.1)]
      simp (disch := omega) only [gdn, gb0, gb1, ixn, nm1, nI_add, nI_mul, nsub, nI_ltI, nI_leI, nI_eq, eqNO, eqNO2, ltNO, NOlt, leNO, NOle, if_pos, if_neg, Option.bind_some, if_true, if_false, and_self, eq_self, l0, l1, l2, l3, l4, l5, l6, l7, l8, l9, l10, l11, l12, l13, l14, l15, l16, l17, l18, l19, l20, l24, l26, l30, l31, l32, l40, l41, l42, l43, l45, l47, l48, l57, l58, l59, l60, l61, l62, l63, l64, l97, l99, l100, l101, l102, l103, l104, l105, l106, l107, l108, l109, l110, l122, l160, l240, l255, l600, l1000, l3000, l10000, l10007, l10116, l67108863, l67108864, e1, e2]
theorem mshut_e {w : Wd} (h : IL w) {i x : Nat} (hi : i < nn w 5 2) (hx : x < 2 ^ 31) : X12_isShut (nI i) (nI x) w = some (if w.1 10 i ≠ NO ∧ nn w 10 i ≤ x ∧ x ≤ nn w 11 i then nI 1 else nI 0) := by
  obtain ⟨⟨-, c2, -⟩, -, ⟨-, -, -, -, m1, m2⟩, -, -, hw, -⟩ := h
  have hi30 : i < 30 := by have := c2.2; omega
  obtain ⟨-, -, -, -, h5⟩ := hw i hi
  unfold X12_isShut
  rw [m1, m2]
  rcases h5 with ⟨e1, e2⟩ | ⟨⟨e1, b1⟩, e2, b2⟩
  · simp (disch := omega) only [gdn, gb0, gb1, ixn, nm1, nI_add, nI_mul, nsub, nI_ltI, nI_leI, nI_eq, eqNO, eqNO2, ltNO, NOlt, leNO, NOle, if_pos, if_neg, Option.bind_some, if_true, if_false, and_self, eq_self, l0, l1, l2, l3, l4, l5, l6, l7, l8, l9, l10, l11, l12, l13, l14, l15, l16, l17, l18, l19, l20, l24, l26, l30, l31, l32, l40, l41, l42, l43, l45, l47, l48, l57, l58, l59, l60, l61, l62, l63, l64, l97, l99, l100, l101, l102, l103, l104, l105, l106, l107, l108, l109, l110, l122, l160, l240, l255, l600, l1000, l3000, l10000, l10007, l10116, l67108863, l67108864, e1, e2, ne_eq, not_true_eq_false, false_and]
  · have hne : w.1 10 i ≠ NO := by rw [e1]; intro q; rw [eqNO (by omega)] at q; exact q
    by_cases q1 : nn w 10 i ≤ x
    · by_cases q2 : x ≤ nn w 11 i
      · rw [if_pos (show w.1 10 i ≠ NO ∧ nn w 10 i ≤ x ∧ x ≤ nn w 11 i from ⟨hne, q1, q2⟩)]
        simp (disch := omega) only [gdn, gb0, gb1, ixn, nm1, nI_add, nI_mul, nsub, nI_ltI, nI_leI, nI_eq, eqNO, eqNO2, ltNO, NOlt, leNO, NOle, if_pos, if_neg, Option.bind_some, if_true, if_false, and_self, eq_self, l0, l1, l2, l3, l4, l5, l6, l7, l8, l9, l10, l11, l12, l13, l14, l15, l16, l17, l18, l19, l20, l24, l26, l30, l31, l32, l40, l41, l42, l43, l45, l47, l48, l57, l58, l59, l60, l61, l62, l63, l64, l97, l99, l100, l101, l102, l103, l104, l105, l106, l107, l108, l109, l110, l122, l160, l240, l255, l600, l1000, l3000, l10000, l10007, l10116, l67108863, l67108864, e1, e2]
      · rw [if_neg (show ¬ (w.1 10 i ≠ NO ∧ nn w 10 i ≤ x ∧ x ≤ nn w 11 i) from fun z => q2 z.2.2)]
        simp (disch := omega) only [gdn, gb0, gb1, ixn, nm1, nI_add, nI_mul, nsub, nI_ltI, nI_leI, nI_eq, eqNO, eqNO2, ltNO, NOlt, leNO, NOle, if_pos, if_neg, Option.bind_some, if_true, if_false, and_self, eq_self, l0, l1, l2, l3, l4, l5, l6, l7, l8, l9, l10, l11, l12, l13, l14, l15, l16, l17, l18, l19, l20, l24, l26, l30, l31, l32, l40, l41, l42, l43, l45, l47, l48, l57, l58, l59, l60, l61, l62, l63, l64, l97, l99, l100, l101, l102, l103, l104, l105, l106, l107, l108, l109, l110, l122, l160, l240, l255, l600, l1000, l3000, l10000, l10007, l10116, l67108863, l67108864, e1, e2]
    · rw [if_neg (show ¬ (w.1 10 i ≠ NO ∧ nn w 10 i ≤ x ∧ x ≤ nn w 11 i) from fun z => q1 z.2.1)]
      simp (disch := omega) only [gdn, gb0, gb1, ixn, nm1, nI_add, nI_mul, nsub, nI_ltI, nI_leI, nI_eq, eqNO, eqNO2, ltNO, NOlt, leNO, NOle, if_pos, if_neg, Option.bind_some, if_true, if_false, and_self, eq_self, l0, l1, l2, l3, l4, l5, l6, l7, l8, l9, l10, l11, l12, l13, l14, l15, l16, l17, l18, l19, l20, l24, l26, l30, l31, l32, l40, l41, l42, l43, l45, l47, l48, l57, l58, l59, l60, l61, l62, l63, l64, l97, l99, l100, l101, l102, l103, l104, l105, l106, l107, l108, l109, l110, l122, l160, l240, l255, l600, l1000, l3000, l10000, l10007, l10116, l67108863, l67108864, e1, e2]
theorem walk_e {w : Wd} (h : IL w) {e : Nat} (he : e / 2 < nn w 5 2) {A : Nat → Nat} {z : Nat → Int32} (hA : ∀ j, A j ≤ 60) : X2_walk (nI (e / 2)) (nI (tsr w e)) (nI (tds w e)) (seI w 18 (rwN 16 A z)) = some (fg (tch (tg w) (tsr w) (tds w) e A), seI w 18 (rwN 16 (trl (tg w) (tsr w) (tds w) e A) z)) := by
  have hL : IL (seI w 18 (rwN 16 A z)) := h
  have hsh := fun x hx => shut_e hL (i := e / 2) (x := x) he hx
  obtain ⟨⟨c1, c2, -⟩, -, -, -, -, hw, -⟩ := h
  obtain ⟨⟨e7, b7⟩, ⟨e8, b8⟩, ⟨e9, b9⟩, b9', h5⟩ := hw (e / 2) he
  have c1' := c1.2
  have c2' := c2.2
  have hs16 : tsr w e < 16 := by unfold tsr; split <;> omega
  have hd16 : tds w e < 16 := by unfold tds; split <;> omega
  have hAs := hA (tsr w e)
  have hAd := hA (tds w e)
  have hj : ∀ s, s ≤ 60 → X2_walk_j31 (nI (e / 2)) (nI (tds w e)) (nI s) (seI w 18 (rwN 16 A z)) = some (fg (s + nn w 9 (e / 2) < 60 ∧ s + nn w 9 (e / 2) < A (tds w e)), seI w 18 (rwN 16 (if s + nn w 9 (e / 2) < 60 ∧ s + nn w 9 (e / 2) < A (tds w e) then (fun j => if j = tds w e then s + nn w 9 (e / 2) else A j) else A) z)) := by
    intro s hs
    unfold X2_walk_j31
    by_cases q1 : s + nn w 9 (e / 2) < 60
    · by_cases q2 : s + nn w 9 (e / 2) < A (tds w e)
      · rw [fg_t ⟨q1, q2⟩, if_pos (show s + nn w 9 (e / 2) < 60 ∧ s + nn w 9 (e / 2) < A (tds w e) from ⟨q1, q2⟩)]
        simp (disch := omega) only [gdn, gb0, gb1, ixn, nm1, nI_add, nI_mul, nsub, nI_ltI, nI_leI, nI_eq, eqNO, eqNO2, ltNO, NOlt, leNO, NOle, if_pos, if_neg, Option.bind_some, if_true, if_false, and_self, eq_self, l0, l1, l2, l3, l4, l5, l6, l7, l8, l9, l10, l11, l12, l13, l14, l15, l16, l17, l18, l19, l20, l24, l26, l30, l31, l32, l40, l41, l42, l43, l45, l47, l48, l57, l58, l59, l60, l61, l62, l63, l64, l97, l99, l100, l101, l102, l103, l104, l105, l106, l107, l108, l109, l110, l122, l160, l240, l255, l600, l1000, l3000, l10000, l10007, l10116, l67108863, l67108864, I_oth, I_J, J_oth, J_I, I_row, J_row, SI_row, SI_oth, SI_J, SJ_row, SJ_oth, SJ_I, upd_s, upd_n, updL_s, updL_n, ne_eq, not_false_eq_true, e9, rwN_lt, pu_seI, upd_rwN]
      · rw [fg_f (fun q => q2 q.2), if_neg (show ¬ (s + nn w 9 (e / 2) < 60 ∧ s + nn w 9 (e / 2) < A (tds w e)) from fun q => q2 q.2)]
        simp (disch := omega) only [gdn, gb0, gb1, ixn, nm1, nI_add, nI_mul, nsub, nI_ltI, nI_leI, nI_eq, eqNO, eqNO2, ltNO, NOlt, leNO, NOle, if_pos, if_neg, Option.bind_some, if_true, if_false, and_self, eq_self, l0, l1, l2, l3, l4, l5, l6, l7, l8, l9, l10, l11, l12, l13, l14, l15, l16, l17, l18, l19, l20, l24, l26, l30, l31, l32, l40, l41, l42, l43, l45, l47, l48, l57, l58, l59, l60, l61, l62, l63, l64, l97, l99, l100, l101, l102, l103, l104, l105, l106, l107, l108, l109, l110, l122, l160, l240, l255, l600, l1000, l3000, l10000, l10007, l10116, l67108863, l67108864, I_oth, I_J, J_oth, J_I, I_row, J_row, SI_row, SI_oth, SI_J, SJ_row, SJ_oth, SJ_I, upd_s, upd_n, updL_s, updL_n, ne_eq, not_false_eq_true, e9, rwN_lt]
    · rw [fg_f (fun q => q1 q.1), if_neg (show ¬ (s + nn w 9 (e / 2) < 60 ∧ s + nn w 9 (e / 2) < A (tds w e)) from fun q => q1 q.1)]
      simp (disch := omega) only [gdn, gb0, gb1, ixn, nm1, nI_add, nI_mul, nsub, nI_ltI, nI_leI, nI_eq, eqNO, eqNO2, ltNO, NOlt, leNO, NOle, if_pos, if_neg, Option.bind_some, if_true, if_false, and_self, eq_self, l0, l1, l2, l3, l4, l5, l6, l7, l8, l9, l10, l11, l12, l13, l14, l15, l16, l17, l18, l19, l20, l24, l26, l30, l31, l32, l40, l41, l42, l43, l45, l47, l48, l57, l58, l59, l60, l61, l62, l63, l64, l97, l99, l100, l101, l102, l103, l104, l105, l106, l107, l108, l109, l110, l122, l160, l240, l255, l600, l1000, l3000, l10000, l10007, l10116, l67108863, l67108864, I_oth, I_J, J_oth, J_I, I_row, J_row, SI_row, SI_oth, SI_J, SJ_row, SJ_oth, SJ_I, upd_s, upd_n, updL_s, updL_n, ne_eq, not_false_eq_true, e9, rwN_lt]
  have hmax : max 1 (nn w 9 (e / 2)) = nn w 9 (e / 2) := Nat.max_eq_right b9'
  have hg : tg w e (A (tsr w e)) = tgo w (e / 2) (A (tsr w e)) + nn w 9 (e / 2) := by unfold tg; rw [hmax]
  have key : X2_walk (nI (e / 2)) (nI (tsr w e)) (nI (tds w e)) (seI w 18 (rwN 16 A z)) = X2_walk_j31 (nI (e / 2)) (nI (tds w e)) (nI (tgo w (e / 2) (A (tsr w e)))) (seI w 18 (rwN 16 A z)) ∧ tgo w (e / 2) (A (tsr w e)) ≤ 60 := by
    unfold X2_walk
    by_cases q : w.1 10 (e / 2) ≠ NO ∧ nn w 10 (e / 2) ≤ A (tsr w e) ∧ A (tsr w e) ≤ nn w 11 (e / 2)
    · have ht : tgo w (e / 2) (A (tsr w e)) = nn w 11 (e / 2) + 1 := if_pos q
      rw [ht]
      rcases h5 with z | ⟨-, e11, b11⟩
      · exact (q.1 z.1).elim
      · refine ⟨?_, by omega⟩
        have hq := hsh (A (tsr w e)) (by omega)
        rw [if_pos (show (seI w 18 (rwN 16 A z)).1 10 (e / 2) ≠ NO ∧ nn (seI w 18 (rwN 16 A z)) 10 (e / 2) ≤ A (tsr w e) ∧ A (tsr w e) ≤ nn (seI w 18 (rwN 16 A z)) 11 (e / 2) from q)] at hq
        simp (disch := omega) only [gdn, gb0, gb1, ixn, nm1, nI_add, nI_mul, nsub, nI_ltI, nI_leI, nI_eq, eqNO, eqNO2, ltNO, NOlt, leNO, NOle, if_pos, if_neg, Option.bind_some, if_true, if_false, and_self, eq_self, l0, l1, l2, l3, l4, l5, l6, l7, l8, l9, l10, l11, l12, l13, l14, l15, l16, l17, l18, l19, l20, l24, l26, l30, l31, l32, l40, l41, l42, l43, l45, l47, l48, l57, l58, l59, l60, l61, l62, l63, l64, l97, l99, l100, l101, l102, l103, l104, l105, l106, l107, l108, l109, l110, l122, l160, l240, l255, l600, l1000, l3000, l10000, l10007, l10116, l67108863, l67108864, I_oth, I_J, J_oth, J_I, I_row, J_row, SI_row, SI_oth, SI_J, SJ_row, SJ_oth, SJ_I, upd_s, upd_n, updL_s, updL_n, ne_eq, not_false_eq_true, rwN_lt, hq, e11]
    · have ht : tgo w (e / 2) (A (tsr w e)) = A (tsr w e) := if_neg q
      rw [ht]
      refine ⟨?_, hAs⟩
      have hq := hsh (A (tsr w e)) (by omega)
      rw [if_neg (show ¬ ((seI w 18 (rwN 16 A z)).1 10 (e / 2) ≠ NO ∧ nn (seI w 18 (rwN 16 A z)) 10 (e / 2) ≤ A (tsr w e) ∧ A (tsr w e) ≤ nn (seI w 18 (rwN 16 A z)) 11 (e / 2)) from q)] at hq
      simp (disch := omega) only [gdn, gb0, gb1, ixn, nm1, nI_add, nI_mul, nsub, nI_ltI, nI_leI, nI_eq, eqNO, eqNO2, ltNO, NOlt, leNO, NOle, if_pos, if_neg, Option.bind_some, if_true, if_false, and_self, eq_self, l0, l1, l2, l3, l4, l5, l6, l7, l8, l9, l10, l11, l12, l13, l14, l15, l16, l17, l18, l19, l20, l24, l26, l30, l31, l32, l40, l41, l42, l43, l45, l47, l48, l57, l58, l59, l60, l61, l62, l63, l64, l97, l99, l100, l101, l102, l103, l104, l105, l106, l107, l108, l109, l110, l122, l160, l240, l255, l600, l1000, l3000, l10000, l10007, l10116, l67108863, l67108864, I_oth, I_J, J_oth, J_I, I_row, J_row, SI_row, SI_oth, SI_J, SJ_row, SJ_oth, SJ_I, upd_s, upd_n, updL_s, updL_n, ne_eq, not_false_eq_true, rwN_lt, hq]
  rw [key.1, hj _ key.2]
  by_cases q : tch (tg w) (tsr w) (tds w) e A
  · have q' := q
    unfold tch at q'
    rw [hg] at q'
    rw [fg_t q', fg_t q, if_pos q', trl_t q, hg]
  · have q' := q
    unfold tch at q'
    rw [hg] at q'
    rw [fg_f q', fg_f q, if_neg q', trl_f q]
