/-! NOTES -/
theorem cnt_s {p : Nat → Bool} {n : Nat} : cnt p (n + 1) = cnt p n + if p n = true then 1 else 0 := rfl
def IN (w : Wd) : Prop :=
  (isN w 19 0 161 ∧ isN w 19 7 60) ∧
  (w.1 97 9 = w.1 19 0 ∧ w.1 97 11 = w.1 19 7 ∧ w.1 97 10 = if nn w 19 0 = 0 then nI 0 else w.1 25 (nn w 19 0 - 1)) ∧
  (w.1 114 = w.1 20 ∧ w.1 115 = w.1 21 ∧ w.1 116 = w.1 22 ∧ w.1 117 = w.1 23 ∧ w.1 118 = w.1 24 ∧ w.1 119 = w.1 25) ∧
  (∀ i, i < nn w 19 0 → isN w 20 i 4 ∧ isN w 21 i 40 ∧ isN w 23 i 60 ∧ isN w 24 i 60 ∧ isN w 25 i 60 ∧
    (nn w 20 i = 0 ∨ nn w 20 i = 3 → nn w 21 i < nn w 5 12) ∧ (nn w 20 i = 1 ∨ nn w 20 i = 2 → nn w 21 i < nn w 5 8) ∧ (nn w 20 i = 0 ∨ nn w 20 i = 1 → isN w 22 i (nn w 5 15)))
/-- a NOTE of a sort that has a WEEK, of somebody -/
def hitB (w : Wd) (s who week i : Nat) : Bool := decide (nn w 23 i ≤ week ∧ week ≤ nn w 24 i ∧ nn w 25 i ≤ nn w 19 7 ∧ nn w 20 i = s ∧ nn w 21 i = who)
def lat (w : Wd) (s who week : Nat) : Nat → Int32
  | 0 => NO
  | n + 1 => if hitB w s who week n = true then w.1 22 n else lat w s who week n
def exP (w : Wd) (s who week n : Nat) : Prop := ∃ i, i < n ∧ hitB w s who week i = true
noncomputable def cutS (p : Prop) (v : Int32) : Int32 := @ite _ p (Classical.propDecidable p) NO v
theorem cutS_t {p : Prop} {v : Int32} (h : p) : cutS p v = NO := if_pos h
theorem cutS_f {p : Prop} {v : Int32} (h : ¬ p) : cutS p v = v := if_neg h
noncomputable def lampS (w : Wd) (s who week : Nat) : Int32 := cutS (exP w (3 - s) who week (nn w 19 0)) (lat w s who week (nn w 19 0))
theorem exP_s {w : Wd} {s who week n : Nat} : exP w s who week (n + 1) ↔ exP w s who week n ∨ hitB w s who week n = true := by
  constructor
  · rintro ⟨i, hi, h⟩
    by_cases q : i = n
    · subst q; exact Or.inr h
    · exact Or.inl ⟨i, by omega, h⟩
  · rintro (⟨i, hi, h⟩ | h)
    · exact ⟨i, by omega, h⟩
    · exact ⟨n, by omega, h⟩
theorem lat_in {w : Wd} (h : IN w) {s who week : Nat} (hs : s < 2) : ∀ n, n ≤ nn w 19 0 → lat w s who week n = NO ∨ ∃ l, l < nn w 5 15 ∧ lat w s who week n = nI l
  | 0, _ => Or.inl rfl
  | n + 1, hn => by
    unfold lat
    by_cases q : hitB w s who week n = true
    · rw [if_pos q]
      have h1 := of_decide_eq_true q
      obtain ⟨-, -, -, -, -, -, -, h22⟩ := h.2.2.2 n (by omega)
      have h3 := h22 (by omega)
      exact Or.inr ⟨nn w 22 n, h3.2, h3.1⟩
    · rw [if_neg q]; exact lat_in h hs n (by omega)
theorem lampS_in {w : Wd} (h : IN w) {s who week : Nat} (hs : s < 2) : lampS w s who week = NO ∨ ∃ l, l < nn w 5 15 ∧ lampS w s who week = nI l := by
  unfold lampS
  by_cases q : exP w (3 - s) who week (nn w 19 0)
  · rw [cutS_t q]; exact Or.inl rfl
  · rw [cutS_f q]; exact lat_in h hs _ (Nat.le_refl _)
/-- of nobody -/
theorem lat_no {w : Wd} {s who week : Nat} : ∀ n, (∀ i, i < n → hitB w s who week i = false) → lat w s who week n = NO
  | 0, _ => rfl
  | n + 1, h => by
    unfold lat
    rw [if_neg (by rw [h n (by omega)]; decide)]
    exact lat_no n (fun i hi => h i (by omega))
theorem lampS_no {w : Wd} (h : IN w) {s who week : Nat} (hs : s < 2) (hw : (if s = 0 then nn w 5 12 else nn w 5 8) ≤ who) : lampS w s who week = NO := by
  unfold lampS
  by_cases q : exP w (3 - s) who week (nn w 19 0)
  · rw [cutS_t q]
  · rw [cutS_f q]
    refine lat_no _ (fun i hi => decide_eq_false ?_)
    obtain ⟨-, -, -, -, -, h1, h2, -⟩ := h.2.2.2 i hi
    intro z
    by_cases q : s = 0
    · rw [if_pos q] at hw
      have := h1 (by omega)
      omega
    · rw [if_neg q] at hw
      have := h2 (by omega)
      omega
/-! the model -/
theorem lo_step {w : Wd} (h : IN w) {s who week : Nat} (hs : s < 2) (hwh : who < 40) (hwk : week < 60) {i : Nat} (hi : i < nn w 19 0) (hx : hitB w (3 - s) who week i = false) (a : Int32) : X12_lampOf_b6 (nI s) (nI who) (nI week) w (a, nI i) = some (.inl (if hitB w s who week i = true then w.1 22 i else a, nI (i + 1))) := by
  obtain ⟨⟨c0, c7⟩, ⟨m9, m11, -⟩, ⟨m20, m21, m22, m23, m24, m25⟩, ht⟩ := h
  obtain ⟨e20, e21, e23, e24, e25, -⟩ := ht i hi
  have b0 := c0.2
  have b7 := c7.2
  have b20 := e20.2
  have b21 := e21.2
  have b23 := e23.2
  have b24 := e24.2
  have b25 := e25.2
  have hx' := of_decide_eq_false hx
  unfold X12_lampOf_b6 X12_lampOf_j100
  rw [m9, m11, m20, m21, m22, m23, m24, m25]
  by_cases q1 : nn w 21 i = who
  · by_cases q2 : nn w 23 i ≤ week
    · by_cases q3 : week ≤ nn w 24 i
      · by_cases q4 : nn w 25 i ≤ nn w 19 7
        · by_cases q5 : nn w 20 i = s
          · rw [if_pos (show hitB w s who week i = true from decide_eq_true (by omega))]
            simp (disch := omega) only [gdn, gb0, gb1, ixn, nm1, nI_add, nI_mul, nsub, nI_ltI, nI_leI, nI_eq, eqNO, eqNO2, ltNO, NOlt, leNO, NOle, if_pos, if_neg, Option.bind_some, if_true, if_false, and_self, eq_self, l0, l1, l2, l3, l4, l5, l6, l7, l8, l9, l10, l11, l12, l13, l14, l15, l16, l17, l18, l19, l20, l24, l26, l30, l31, l32, l40, l41, l42, l43, l45, l47, l48, l57, l58, l59, l60, l61, l62, l63, l64, l97, l99, l100, l101, l102, l103, l104, l105, l106, l107, l108, l109, l110, l122, l160, l240, l255, l600, l1000, l3000, l10000, l10007, l10116, l67108863, l67108864, c0.1, c7.1, e20.1, e21.1, e23.1, e24.1, e25.1]
          · rw [if_neg (show ¬ hitB w s who week i = true from by unfold hitB; rw [decide_eq_true_eq]; omega)]
            simp (disch := omega) only [gdn, gb0, gb1, ixn, nm1, nI_add, nI_mul, nsub, nI_ltI, nI_leI, nI_eq, eqNO, eqNO2, ltNO, NOlt, leNO, NOle, if_pos, if_neg, Option.bind_some, if_true, if_false, and_self, eq_self, l0, l1, l2, l3, l4, l5, l6, l7, l8, l9, l10, l11, l12, l13, l14, l15, l16, l17, l18, l19, l20, l24, l26, l30, l31, l32, l40, l41, l42, l43, l45, l47, l48, l57, l58, l59, l60, l61, l62, l63, l64, l97, l99, l100, l101, l102, l103, l104, l105, l106, l107, l108, l109, l110, l122, l160, l240, l255, l600, l1000, l3000, l10000, l10007, l10116, l67108863, l67108864, c0.1, c7.1, e20.1, e21.1, e23.1, e24.1, e25.1]
        · rw [if_neg (show ¬ hitB w s who week i = true from by unfold hitB; rw [decide_eq_true_eq]; omega)]
          simp (disch := omega) only [gdn, gb0, gb1, ixn, nm1, nI_add, nI_mul, nsub, nI_ltI, nI_leI, nI_eq, eqNO, eqNO2, ltNO, NOlt, leNO, NOle, if_pos, if_neg, Option.bind_some, if_true, if_false, and_self, eq_self, l0, l1, l2, l3, l4, l5, l6, l7, l8, l9, l10, l11, l12, l13, l14, l15, l16, l17, l18, l19, l20, l24, l26, l30, l31, l32, l40, l41, l42, l43, l45, l47, l48, l57, l58, l59, l60, l61, l62, l63, l64, l97, l99, l100, l101, l102, l103, l104, l105, l106, l107, l108, l109, l110, l122, l160, l240, l255, l600, l1000, l3000, l10000, l10007, l10116, l67108863, l67108864, c0.1, c7.1, e20.1, e21.1, e23.1, e24.1, e25.1]
      · rw [if_neg (show ¬ hitB w s who week i = true from by unfold hitB; rw [decide_eq_true_eq]; omega)]
        simp (disch := omega) only [gdn, gb0, gb1, ixn, nm1, nI_add, nI_mul, nsub, nI_ltI, nI_leI, nI_eq, eqNO, eqNO2, ltNO, NOlt, leNO, NOle, if_pos, if_neg, Option.bind_some, if_true, if_false, and_self, eq_self, l0, l1, l2, l3, l4, l5, l6, l7, l8, l9, l10, l11, l12, l13, l14, l15, l16, l17, l18, l19, l20, l24, l26, l30, l31, l32, l40, l41, l42, l43, l45, l47, l48, l57, l58, l59, l60, l61, l62, l63, l64, l97, l99, l100, l101, l102, l103, l104, l105, l106, l107, l108, l109, l110, l122, l160, l240, l255, l600, l1000, l3000, l10000, l10007, l10116, l67108863, l67108864, c0.1, c7.1, e20.1, e21.1, e23.1, e24.1, e25.1]
    · rw [if_neg (show ¬ hitB w s who week i = true from by unfold hitB; rw [decide_eq_true_eq]; omega)]
      simp (disch := omega) only [gdn, gb0, gb1, ixn, nm1, nI_add, nI_mul, nsub, nI_ltI, nI_leI, nI_eq, eqNO, eqNO2, ltNO, NOlt, leNO, NOle, if_pos, if_neg, Option.bind_some, if_true, if_false, and_self, eq_self, l0, l1, l2, l3, l4, l5, l6, l7, l8, l9, l10, l11, l12, l13, l14, l15, l16, l17, l18, l19, l20, l24, l26, l30, l31, l32, l40, l41, l42, l43, l45, l47, l48, l57, l58, l59, l60, l61, l62, l63, l64, l97, l99, l100, l101, l102, l103, l104, l105, l106, l107, l108, l109, l110, l122, l160, l240, l255, l600, l1000, l3000, l10000, l10007, l10116, l67108863, l67108864, c0.1, c7.1, e20.1, e21.1, e23.1, e24.1, e25.1]
  · rw [if_neg (show ¬ hitB w s who week i = true from by unfold hitB; rw [decide_eq_true_eq]; omega)]
    simp (disch := omega) only [gdn, gb0, gb1, ixn, nm1, nI_add, nI_mul, nsub, nI_ltI, nI_leI, nI_eq, eqNO, eqNO2, ltNO, NOlt, leNO, NOle, if_pos, if_neg, Option.bind_some, if_true, if_false, and_self, eq_self, l0, l1, l2, l3, l4, l5, l6, l7, l8, l9, l10, l11, l12, l13, l14, l15, l16, l17, l18, l19, l20, l24, l26, l30, l31, l32, l40, l41, l42, l43, l45, l47, l48, l57, l58, l59, l60, l61, l62, l63, l64, l97, l99, l100, l101, l102, l103, l104, l105, l106, l107, l108, l109, l110, l122, l160, l240, l255, l600, l1000, l3000, l10000, l10007, l10116, l67108863, l67108864, c0.1, c7.1, e20.1, e21.1, e23.1, e24.1, e25.1]
theorem lo_hit {w : Wd} (h : IN w) {s who week : Nat} (hs : s < 2) (hwh : who < 40) (hwk : week < 60) {i : Nat} (hi : i < nn w 19 0) (hx : hitB w (3 - s) who week i = true) (a : Int32) : X12_lampOf_b6 (nI s) (nI who) (nI week) w (a, nI i) = some (.inr (.inl ())) := by
  obtain ⟨⟨c0, c7⟩, ⟨m9, m11, -⟩, ⟨m20, m21, m22, m23, m24, m25⟩, ht⟩ := h
  obtain ⟨e20, e21, e23, e24, e25, -⟩ := ht i hi
  have b0 := c0.2
  have b7 := c7.2
  have b20 := e20.2
  have b21 := e21.2
  have b23 := e23.2
  have b24 := e24.2
  have b25 := e25.2
  have hx' := of_decide_eq_true hx
  unfold X12_lampOf_b6 X12_lampOf_j100
  rw [m9, m11, m20, m21, m22, m23, m24, m25]
  simp (disch := omega) only [gdn, gb0, gb1, ixn, nm1, nI_add, nI_mul, nsub, nI_ltI, nI_leI, nI_eq, eqNO, eqNO2, ltNO, NOlt, leNO, NOle, if_pos, if_neg, Option.bind_some, if_true, if_false, and_self, eq_self, l0, l1, l2, l3, l4, l5, l6, l7, l8, l9, l10, l11, l12, l13, l14, l15, l16, l17, l18, l19, l20, l24, l26, l30, l31, l32, l40, l41, l42, l43, l45, l47, l48, l57, l58, l59, l60, l61, l62, l63, l64, l97, l99, l100, l101, l102, l103, l104, l105, l106, l107, l108, l109, l110, l122, l160, l240, l255, l600, l1000, l3000, l10000, l10007, l10116, l67108863, l67108864, c0.1, c7.1, e20.1, e21.1, e23.1, e24.1, e25.1]
theorem mlampOf_e {w : Wd} (h : IN w) {s who week : Nat} (hs : s < 2) (hwh : who < 40) (hwk : week < 60) : X12_lampOf (nI s) (nI who) (nI week) w = some (lampS w s who week) := by
  have b0 := h.1.1.2
  have hm : w.1 97 9 = nI (nn w 19 0) := by rw [h.2.1.1]; exact h.1.1.1
  unfold X12_lampOf lampS
  rw [show ((-1 : Int32), (0 : Int32)) = (lat w s who week 0, nI 0) from rfl]
  by_cases q : exP w (3 - s) who week (nn w 19 0)
  · rw [cutS_t q]
    obtain ⟨k, hk, hp, hmin⟩ := least_of q
    rw [lp_for (b := X12_lampOf_b6 (nI s) (nI who) (nI week) w) (fun i => (lat w s who week i, nI i)) k (fun i hi => lo_step h hs hwh hwk (by omega) (by simpa using hmin i hi) _) (lo_hit h hs hwh hwk hk hp _) 0 (Nat.zero_le _)]
    rfl
  · rw [cutS_f q]
    rw [lp_for (b := X12_lampOf_b6 (nI s) (nI who) (nI week) w) (fun i => (lat w s who week i, nI i)) (nn w 19 0) (fun i hi => lo_step h hs hwh hwk (by omega) (by
      by_cases z : hitB w (3 - s) who week i = true
      · exact (q ⟨i, hi, z⟩).elim
      · simpa using z) _) (e := .inr (lat w s who week (nn w 19 0))) (by unfold X12_lampOf_b6; simp (disch := omega) only [gdn, gb0, gb1, ixn, nm1, nI_add, nI_mul, nsub, nI_ltI, nI_leI, nI_eq, eqNO, eqNO2, ltNO, NOlt, leNO, NOle, if_pos, if_neg, Option.bind_some, if_true, if_false, and_self, eq_self, l0, l1, l2, l3, l4, l5, l6, l7, l8, l9, l10, l11, l12, l13, l14, l15, l16, l17, l18, l19, l20, l24, l26, l30, l31, l32, l40, l41, l42, l43, l45, l47, l48, l57, l58, l59, l60, l61, l62, l63, l64, l97, l99, l100, l101, l102, l103, l104, l105, l106, l107, l108, l109, l110, l122, l160, l240, l255, l600, l1000, l3000, l10000, l10007, l10116, l67108863, l67108864, hm]) 0 (Nat.zero_le _)]
    rfl
/-- the least TEACHER whose LAMP it is -/
noncomputable def tchS (w : Wd) (lamp week : Nat) : Int32 := @dite _ (∃ t, t < 20 ∧ lampS w 0 t week = nI lamp ∧ ∀ j, j < t → ¬ lampS w 0 j week = nI lamp) (Classical.propDecidable _) (fun h => nI (Classical.choose h)) (fun _ => NO)
theorem tchS_t {w : Wd} {lamp week t : Nat} (ht : t < 20) (h : lampS w 0 t week = nI lamp) (hm : ∀ j, j < t → ¬ lampS w 0 j week = nI lamp) : tchS w lamp week = nI t := by
  have he : ∃ t, t < 20 ∧ lampS w 0 t week = nI lamp ∧ ∀ j, j < t → ¬ lampS w 0 j week = nI lamp := ⟨t, ht, h, hm⟩
  have h1 : tchS w lamp week = nI (Classical.choose he) := dif_pos he
  rw [h1]
  obtain ⟨a1, a2, a3⟩ := Classical.choose_spec he
  have : Classical.choose he = t := by
    by_cases q : Classical.choose he < t
    · exact (hm _ q a2).elim
    · by_cases q2 : t < Classical.choose he
      · exact (a3 _ q2 h).elim
      · omega
  rw [this]
theorem tchS_n {w : Wd} {lamp week : Nat} (h : ∀ t, t < 20 → ¬ lampS w 0 t week = nI lamp) : tchS w lamp week = NO := dif_neg (fun ⟨t, ht, a, _⟩ => h t ht a)
theorem mteacherAt_e {w : Wd} (hL : IL w) (h : IN w) {lamp week : Nat} (hl : lamp < 12) (hwk : week < 60) : X12_teacherAt (nI lamp) (nI week) w = some (tchS w lamp week) := by
  have hT := hL.1.2.2.2.1
  have bT := hT.2
  have hm : w.1 97 7 = nI (nn w 5 12) := by rw [hL.2.1.2.2.2.1]; exact hT.1
  have hb : ∀ t, t < nn w 5 12 → X12_teacherAt_b2 (nI lamp) (nI week) w (nI t) = if lampS w 0 t week = nI lamp then some (.inr (.inl (nI t))) else some (.inl (nI (t + 1))) := by
    intro t ht
    unfold X12_teacherAt_b2
    have hlo := mlampOf_e h (s := 0) (who := t) (by omega) (by omega) hwk
    simp (disch := omega) only [gdn, gb0, gb1, ixn, nm1, nI_add, nI_mul, nsub, nI_ltI, nI_leI, nI_eq, eqNO, eqNO2, ltNO, NOlt, leNO, NOle, if_pos, if_neg, Option.bind_some, if_true, if_false, and_self, eq_self, l0, l1, l2, l3, l4, l5, l6, l7, l8, l9, l10, l11, l12, l13, l14, l15, l16, l17, l18, l19, l20, l24, l26, l30, l31, l32, l40, l41, l42, l43, l45, l47, l48, l57, l58, l59, l60, l61, l62, l63, l64, l97, l99, l100, l101, l102, l103, l104, l105, l106, l107, l108, l109, l110, l122, l160, l240, l255, l600, l1000, l3000, l10000, l10007, l10116, l67108863, l67108864, hm, hlo]
  unfold X12_teacherAt
  rw [show (0 : Int32) = nI 0 from rfl]
  by_cases q : ∃ t, t < nn w 5 12 ∧ lampS w 0 t week = nI lamp
  · obtain ⟨t, ht, a1, a2⟩ := least_of q
    rw [lp_for (b := X12_teacherAt_b2 (nI lamp) (nI week) w) (fun i => nI i) t (fun i hi => by rw [hb i (by omega), if_neg (a2 i hi)]) (by rw [hb t ht, if_pos a1]) 0 (Nat.zero_le _), tchS_t (by omega) a1 a2]
    rfl
  · rw [lp_for (b := X12_teacherAt_b2 (nI lamp) (nI week) w) (fun i => nI i) (nn w 5 12) (e := .inr ()) (fun i hi => by rw [hb i hi, if_neg (fun z => q ⟨i, hi, z⟩)]) (by unfold X12_teacherAt_b2; simp (disch := omega) only [gdn, gb0, gb1, ixn, nm1, nI_add, nI_mul, nsub, nI_ltI, nI_leI, nI_eq, eqNO, eqNO2, ltNO, NOlt, leNO, NOle, if_pos, if_neg, Option.bind_some, if_true, if_false, and_self, eq_self, l0, l1, l2, l3, l4, l5, l6, l7, l8, l9, l10, l11, l12, l13, l14, l15, l16, l17, l18, l19, l20, l24, l26, l30, l31, l32, l40, l41, l42, l43, l45, l47, l48, l57, l58, l59, l60, l61, l62, l63, l64, l97, l99, l100, l101, l102, l103, l104, l105, l106, l107, l108, l109, l110, l122, l160, l240, l255, l600, l1000, l3000, l10000, l10007, l10116, l67108863, l67108864, hm]) 0 (Nat.zero_le _), tchS_n (fun t ht z => by
      by_cases y : t < nn w 5 12
      · exact q ⟨t, y, z⟩
      · rw [lampS_no h (by omega) (by rw [if_pos rfl]; omega), eqNO2 (by omega)] at z
        exact z)]
    rfl
/-- how many LEARNERS' LAMP it is -/
noncomputable def crwS (w : Wd) (lamp week : Nat) : Nat := cnt (fun l => decide (lampS w 1 l week = nI lamp)) 40
theorem crwS_e {w : Wd} (h : IN w) {lamp week : Nat} (hl : lamp < 12) {L : Nat} (hL : nn w 5 8 = L) (h40 : L ≤ 40) : crwS w lamp week = cnt (fun l => decide (lampS w 1 l week = nI lamp)) L := by
  unfold crwS
  have : ∀ n, L ≤ n → cnt (fun l => decide (lampS w 1 l week = nI lamp)) n = cnt (fun l => decide (lampS w 1 l week = nI lamp)) L := by
    intro n hn
    induction n with
    | zero => have : L = 0 := by omega
              rw [this]
    | succ n ih =>
      by_cases q : L = n + 1
      · rw [q]
      · rw [cnt_s, ih (by omega), lampS_no h (by omega) (by rw [if_neg (by omega)]; omega)]
        rw [if_neg (by rw [decide_eq_true_eq, eqNO2 (by omega)]; exact id), Nat.add_zero]
  exact this 40 h40
