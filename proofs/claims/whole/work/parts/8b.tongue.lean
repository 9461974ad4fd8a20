/-! the TONGUE of a LAMP -/
noncomputable def tgC (w : Wd) (lamp week t n : Nat) : Nat := cnt (fun l => decide (lampS w 1 l week = nI lamp ∧ nn w 14 l = t)) n
noncomputable def btS (w : Wd) (lamp week : Nat) : Nat → Int32 × Nat
  | 0 => (NO, 0)
  | t + 1 => if (btS w lamp week t).2 < tgC w lamp week t (nn w 5 8) then (nI t, tgC w lamp week t (nn w 5 8)) else btS w lamp week t
theorem btS_s (w : Wd) (lamp week : Nat) : ∀ t, (btS w lamp week t).2 ≤ nn w 5 8 ∧ ((btS w lamp week t).1 = NO ∨ ∃ b, b < t ∧ (btS w lamp week t).1 = nI b)
  | 0 => ⟨Nat.zero_le _, Or.inl rfl⟩
  | t + 1 => by
    have ih := btS_s w lamp week t
    unfold btS
    split
    · exact ⟨cnt_le, Or.inr ⟨t, by omega, rfl⟩⟩
    · refine ⟨ih.1, ?_⟩
      rcases ih.2 with h | ⟨b, hb, h⟩
      · exact Or.inl h
      · exact Or.inr ⟨b, by omega, h⟩
/-- a TEACHER can go to a LAMP -/
noncomputable def canT (w : Wd) (who lamp week : Nat) : Prop := (btS w lamp week 5).1 = NO ∨ ∃ b, b < 5 ∧ (btS w lamp week 5).1 = nI b ∧ (nn w 15 who).testBit b = true
theorem speaks_e {w : Wd} (hL : IL w) {week : Nat} (hC : CU w week) {who lamp : Nat} (hw : who < nn w 5 12) (hl : lamp < 12) : X7_speaks (nI who) (nI lamp) w = some (fg (canT w who lamp week)) := by
  have h8 := hL.1.2.2.1
  have b8 := h8.2
  have b12 := hL.1.2.2.2.1.2
  have hin : ∀ (a4 a5 : Int32) (t : Nat), t < 5 → lp (X7_speaks_b21 (nI who) (nI lamp) a4 a5 (nI t) w) (nI 0, nI 0) = some (nI (tgC w lamp week t (nn w 5 8))) := by
    intro a4 a5 t ht
    refine lp_for (b := X7_speaks_b21 (nI who) (nI lamp) a4 a5 (nI t) w) (fun l => (nI (tgC w lamp week t l), nI l)) (nn w 5 8) (fun l hl2 => ?_) ?_ 0 (Nat.zero_le _)
    · have e27 := hC.2.1 l (by omega)
      obtain ⟨-, -, e14, b14⟩ := hL.2.2.2.2.2.2.1 l hl2
      have hcs1 : (lampS w 1 l week = nI lamp ∧ nn w 14 l = t) → tgC w lamp week t (l + 1) = tgC w lamp week t l + 1 := fun z => by
        show tgC w lamp week t l + (if decide (lampS w 1 l week = nI lamp ∧ nn w 14 l = t) = true then 1 else 0) = _
        rw [if_pos (decide_eq_true z)]
      have hcs0 : ¬ (lampS w 1 l week = nI lamp ∧ nn w 14 l = t) → tgC w lamp week t (l + 1) = tgC w lamp week t l := fun z => by
        show tgC w lamp week t l + (if decide (lampS w 1 l week = nI lamp ∧ nn w 14 l = t) = true then 1 else 0) = _
        rw [if_neg (by rw [decide_eq_true_eq]; exact z), Nat.add_zero]
      unfold X7_speaks_b21 X7_speaks_j56
      by_cases q1 : lampS w 1 l week = nI lamp
      · by_cases q2 : nn w 14 l = t
        · rw [hcs1 ⟨q1, q2⟩]
          simp (disch := omega) only [gdn, gb0, gb1, ixn, nm1, nI_add, nI_mul, nsub, nI_ltI, nI_leI, nI_eq, eqNO, eqNO2, ltNO, NOlt, leNO, NOle, if_pos, if_neg, Option.bind_some, if_true, if_false, and_self, eq_self, l0, l1, l2, l3, l4, l5, l6, l7, l8, l9, l10, l11, l12, l13, l14, l15, l16, l17, l18, l19, l20, l24, l26, l30, l31, l32, l40, l41, l42, l43, l45, l47, l48, l57, l58, l59, l60, l61, l62, l63, l64, l97, l99, l100, l101, l102, l103, l104, l105, l106, l107, l108, l109, l110, l122, l160, l240, l255, l600, l1000, l3000, l10000, l10007, l10116, l67108863, l67108864, h8.1, e27, q1, e14]
        · rw [hcs0 (fun z => q2 z.2)]
          simp (disch := omega) only [gdn, gb0, gb1, ixn, nm1, nI_add, nI_mul, nsub, nI_ltI, nI_leI, nI_eq, eqNO, eqNO2, ltNO, NOlt, leNO, NOle, if_pos, if_neg, Option.bind_some, if_true, if_false, and_self, eq_self, l0, l1, l2, l3, l4, l5, l6, l7, l8, l9, l10, l11, l12, l13, l14, l15, l16, l17, l18, l19, l20, l24, l26, l30, l31, l32, l40, l41, l42, l43, l45, l47, l48, l57, l58, l59, l60, l61, l62, l63, l64, l97, l99, l100, l101, l102, l103, l104, l105, l106, l107, l108, l109, l110, l122, l160, l240, l255, l600, l1000, l3000, l10000, l10007, l10116, l67108863, l67108864, h8.1, e27, q1, e14]
      · rw [hcs0 (fun z => q1 z.1)]
        have q1' := eq_false q1
        simp (disch := omega) only [gdn, gb0, gb1, ixn, nm1, nI_add, nI_mul, nsub, nI_ltI, nI_leI, nI_eq, eqNO, eqNO2, ltNO, NOlt, leNO, NOle, if_pos, if_neg, Option.bind_some, if_true, if_false, and_self, eq_self, l0, l1, l2, l3, l4, l5, l6, l7, l8, l9, l10, l11, l12, l13, l14, l15, l16, l17, l18, l19, l20, l24, l26, l30, l31, l32, l40, l41, l42, l43, l45, l47, l48, l57, l58, l59, l60, l61, l62, l63, l64, l97, l99, l100, l101, l102, l103, l104, l105, l106, l107, l108, l109, l110, l122, l160, l240, l255, l600, l1000, l3000, l10000, l10007, l10116, l67108863, l67108864, h8.1, e27, q1']
    · unfold X7_speaks_b21
      simp (disch := omega) only [gdn, gb0, gb1, ixn, nm1, nI_add, nI_mul, nsub, nI_ltI, nI_leI, nI_eq, eqNO, eqNO2, ltNO, NOlt, leNO, NOle, if_pos, if_neg, Option.bind_some, if_true, if_false, and_self, eq_self, l0, l1, l2, l3, l4, l5, l6, l7, l8, l9, l10, l11, l12, l13, l14, l15, l16, l17, l18, l19, l20, l24, l26, l30, l31, l32, l40, l41, l42, l43, l45, l47, l48, l57, l58, l59, l60, l61, l62, l63, l64, l97, l99, l100, l101, l102, l103, l104, l105, l106, l107, l108, l109, l110, l122, l160, l240, l255, l600, l1000, l3000, l10000, l10007, l10116, l67108863, l67108864, h8.1]
  have hlp := lp_for (b := X7_speaks_b9 (nI who) (nI lamp) w) (fun t => ((btS w lamp week t).1, nI (btS w lamp week t).2, nI t)) 5 (e := (btS w lamp week 5).1) (fun t ht => ?_) ?_ 0 (Nat.zero_le _)
  · unfold X7_speaks
    rw [show ((-1 : Int32), (0 : Int32), (0 : Int32)) = ((btS w lamp week 0).1, nI (btS w lamp week 0).2, nI 0) from rfl, hlp]
    simp only [Option.bind_some]
    rcases (btS_s w lamp week 5).2 with h | ⟨b, hb, h⟩
    · rw [if_pos (show (btS w lamp week 5).1 = -1 from h), fg_t (show canT w who lamp week from Or.inl h)]; rfl
    · have hne : ¬ (btS w lamp week 5).1 = NO := by rw [h, eqNO (by omega)]; exact id
      rw [if_neg (show ¬ (btS w lamp week 5).1 = -1 from hne), h]
      obtain ⟨⟨e15, b15⟩, -⟩ := hL.2.2.2.2.2.2.2.1 who hw
      have hbit := bit_e (D := nn w 15 who) (k := b) (by omega) (by omega)
      by_cases q : (nn w 15 who).testBit b = true
      · rw [if_pos q] at hbit
        rw [fg_t (show canT w who lamp week from Or.inr ⟨b, hb, h, q⟩)]
        simp (disch := omega) only [gdn, gb0, gb1, ixn, nm1, nI_add, nI_mul, nsub, nI_ltI, nI_leI, nI_eq, eqNO, eqNO2, ltNO, NOlt, leNO, NOle, if_pos, if_neg, Option.bind_some, if_true, if_false, and_self, eq_self, l0, l1, l2, l3, l4, l5, l6, l7, l8, l9, l10, l11, l12, l13, l14, l15, l16, l17, l18, l19, l20, l24, l26, l30, l31, l32, l40, l41, l42, l43, l45, l47, l48, l57, l58, l59, l60, l61, l62, l63, l64, l97, l99, l100, l101, l102, l103, l104, l105, l106, l107, l108, l109, l110, l122, l160, l240, l255, l600, l1000, l3000, l10000, l10007, l10116, l67108863, l67108864, e15, hbit]
      · rw [if_neg q] at hbit
        rw [fg_f (by
          rintro (z | ⟨c, hc, z, y⟩)
          · exact hne z
          · rw [h, nI_eq (by omega) (by omega)] at z
            rw [← z] at y; exact q y)]
        simp (disch := omega) only [gdn, gb0, gb1, ixn, nm1, nI_add, nI_mul, nsub, nI_ltI, nI_leI, nI_eq, eqNO, eqNO2, ltNO, NOlt, leNO, NOle, if_pos, if_neg, Option.bind_some, if_true, if_false, and_self, eq_self, l0, l1, l2, l3, l4, l5, l6, l7, l8, l9, l10, l11, l12, l13, l14, l15, l16, l17, l18, l19, l20, l24, l26, l30, l31, l32, l40, l41, l42, l43, l45, l47, l48, l57, l58, l59, l60, l61, l62, l63, l64, l97, l99, l100, l101, l102, l103, l104, l105, l106, l107, l108, l109, l110, l122, l160, l240, l255, l600, l1000, l3000, l10000, l10007, l10116, l67108863, l67108864, e15, hbit]
  · have hs := btS_s w lamp week t
    have hc : tgC w lamp week t (nn w 5 8) ≤ nn w 5 8 := cnt_le
    have hi := fun a4 a5 => hin a4 a5 t ht
    unfold X7_speaks_b9 X7_speaks_j77
    by_cases q : (btS w lamp week t).2 < tgC w lamp week t (nn w 5 8)
    · rw [show btS w lamp week (t + 1) = (nI t, tgC w lamp week t (nn w 5 8)) from by rw [btS, if_pos q]]
      simp (disch := omega) only [gdn, gb0, gb1, ixn, nm1, nI_add, nI_mul, nsub, nI_ltI, nI_leI, nI_eq, eqNO, eqNO2, ltNO, NOlt, leNO, NOle, if_pos, if_neg, Option.bind_some, if_true, if_false, and_self, eq_self, l0, l1, l2, l3, l4, l5, l6, l7, l8, l9, l10, l11, l12, l13, l14, l15, l16, l17, l18, l19, l20, l24, l26, l30, l31, l32, l40, l41, l42, l43, l45, l47, l48, l57, l58, l59, l60, l61, l62, l63, l64, l97, l99, l100, l101, l102, l103, l104, l105, l106, l107, l108, l109, l110, l122, l160, l240, l255, l600, l1000, l3000, l10000, l10007, l10116, l67108863, l67108864, hi]
    · rw [show btS w lamp week (t + 1) = btS w lamp week t from by rw [btS, if_neg q]]
      simp (disch := omega) only [gdn, gb0, gb1, ixn, nm1, nI_add, nI_mul, nsub, nI_ltI, nI_leI, nI_eq, eqNO, eqNO2, ltNO, NOlt, leNO, NOle, if_pos, if_neg, Option.bind_some, if_true, if_false, and_self, eq_self, l0, l1, l2, l3, l4, l5, l6, l7, l8, l9, l10, l11, l12, l13, l14, l15, l16, l17, l18, l19, l20, l24, l26, l30, l31, l32, l40, l41, l42, l43, l45, l47, l48, l57, l58, l59, l60, l61, l62, l63, l64, l97, l99, l100, l101, l102, l103, l104, l105, l106, l107, l108, l109, l110, l122, l160, l240, l255, l600, l1000, l3000, l10000, l10007, l10116, l67108863, l67108864, hi]
  · unfold X7_speaks_b9
    simp (disch := omega) only [gdn, gb0, gb1, ixn, nm1, nI_add, nI_mul, nsub, nI_ltI, nI_leI, nI_eq, eqNO, eqNO2, ltNO, NOlt, leNO, NOle, if_pos, if_neg, Option.bind_some, if_true, if_false, and_self, eq_self, l0, l1, l2, l3, l4, l5, l6, l7, l8, l9, l10, l11, l12, l13, l14, l15, l16, l17, l18, l19, l20, l24, l26, l30, l31, l32, l40, l41, l42, l43, l45, l47, l48, l57, l58, l59, l60, l61, l62, l63, l64, l97, l99, l100, l101, l102, l103, l104, l105, l106, l107, l108, l109, l110, l122, l160, l240, l255, l600, l1000, l3000, l10000, l10007, l10116, l67108863, l67108864]
theorem tongueOf_e {w : Wd} (hL : IL w) (h : IN w) {week : Nat} (hwk : week < 60) {lamp : Nat} (hl : lamp < 12) : X12_tongueOf (nI lamp) (nI week) w = some (btS w lamp week 5).1 := by
  have h8 := hL.1.2.2.1
  have b8 := h8.2
  have m8 : w.1 97 6 = nI (nn w 5 8) := by rw [hL.2.1.2.2.1]; exact h8.1
  have m14 := hL.2.2.2.1.2.2.1
  have hin : ∀ (a4 a5 : Int32) (t : Nat), t < 5 → lp (X12_tongueOf_b20 (nI lamp) (nI week) a4 a5 (nI t) w) (nI 0, nI 0) = some (nI (tgC w lamp week t (nn w 5 8))) := by
    intro a4 a5 t ht
    refine lp_for (b := X12_tongueOf_b20 (nI lamp) (nI week) a4 a5 (nI t) w) (fun l => (nI (tgC w lamp week t l), nI l)) (nn w 5 8) (fun l hl2 => ?_) ?_ 0 (Nat.zero_le _)
    · have hlo := mlampOf_e h (s := 1) (who := l) (by omega) (by omega) hwk
      obtain ⟨-, -, e14, b14⟩ := hL.2.2.2.2.2.2.1 l hl2
      have hcs1 : (lampS w 1 l week = nI lamp ∧ nn w 14 l = t) → tgC w lamp week t (l + 1) = tgC w lamp week t l + 1 := fun z => by
        show tgC w lamp week t l + (if decide (lampS w 1 l week = nI lamp ∧ nn w 14 l = t) = true then 1 else 0) = _
        rw [if_pos (decide_eq_true z)]
      have hcs0 : ¬ (lampS w 1 l week = nI lamp ∧ nn w 14 l = t) → tgC w lamp week t (l + 1) = tgC w lamp week t l := fun z => by
        show tgC w lamp week t l + (if decide (lampS w 1 l week = nI lamp ∧ nn w 14 l = t) = true then 1 else 0) = _
        rw [if_neg (by rw [decide_eq_true_eq]; exact z), Nat.add_zero]
      unfold X12_tongueOf_b20 X12_tongueOf_j59 X12_tongueOf_j60
      rw [m14]
      by_cases q2 : nn w 14 l = t
      · by_cases q1 : lampS w 1 l week = nI lamp
        · rw [hcs1 ⟨q1, q2⟩]
          simp (disch := omega) only [gdn, gb0, gb1, ixn, nm1, nI_add, nI_mul, nsub, nI_ltI, nI_leI, nI_eq, eqNO, eqNO2, ltNO, NOlt, leNO, NOle, if_pos, if_neg, Option.bind_some, if_true, if_false, and_self, eq_self, l0, l1, l2, l3, l4, l5, l6, l7, l8, l9, l10, l11, l12, l13, l14, l15, l16, l17, l18, l19, l20, l24, l26, l30, l31, l32, l40, l41, l42, l43, l45, l47, l48, l57, l58, l59, l60, l61, l62, l63, l64, l97, l99, l100, l101, l102, l103, l104, l105, l106, l107, l108, l109, l110, l122, l160, l240, l255, l600, l1000, l3000, l10000, l10007, l10116, l67108863, l67108864, m8, q1, e14, hlo]
        · rw [hcs0 (fun z => q1 z.1)]
          have q1' := eq_false q1
          simp (disch := omega) only [gdn, gb0, gb1, ixn, nm1, nI_add, nI_mul, nsub, nI_ltI, nI_leI, nI_eq, eqNO, eqNO2, ltNO, NOlt, leNO, NOle, if_pos, if_neg, Option.bind_some, if_true, if_false, and_self, eq_self, l0, l1, l2, l3, l4, l5, l6, l7, l8, l9, l10, l11, l12, l13, l14, l15, l16, l17, l18, l19, l20, l24, l26, l30, l31, l32, l40, l41, l42, l43, l45, l47, l48, l57, l58, l59, l60, l61, l62, l63, l64, l97, l99, l100, l101, l102, l103, l104, l105, l106, l107, l108, l109, l110, l122, l160, l240, l255, l600, l1000, l3000, l10000, l10007, l10116, l67108863, l67108864, m8, e14, hlo, q1', Nat.add_zero]
      · rw [hcs0 (fun z => q2 z.2)]
        simp (disch := omega) only [gdn, gb0, gb1, ixn, nm1, nI_add, nI_mul, nsub, nI_ltI, nI_leI, nI_eq, eqNO, eqNO2, ltNO, NOlt, leNO, NOle, if_pos, if_neg, Option.bind_some, if_true, if_false, and_self, eq_self, l0, l1, l2, l3, l4, l5, l6, l7, l8, l9, l10, l11, l12, l13, l14, l15, l16, l17, l18, l19, l20, l24, l26, l30, l31, l32, l40, l41, l42, l43, l45, l47, l48, l57, l58, l59, l60, l61, l62, l63, l64, l97, l99, l100, l101, l102, l103, l104, l105, l106, l107, l108, l109, l110, l122, l160, l240, l255, l600, l1000, l3000, l10000, l10007, l10116, l67108863, l67108864, m8, e14, Nat.add_zero]
    · unfold X12_tongueOf_b20
      simp (disch := omega) only [gdn, gb0, gb1, ixn, nm1, nI_add, nI_mul, nsub, nI_ltI, nI_leI, nI_eq, eqNO, eqNO2, ltNO, NOlt, leNO, NOle, if_pos, if_neg, Option.bind_some, if_true, if_false, and_self, eq_self, l0, l1, l2, l3, l4, l5, l6, l7, l8, l9, l10, l11, l12, l13, l14, l15, l16, l17, l18, l19, l20, l24, l26, l30, l31, l32, l40, l41, l42, l43, l45, l47, l48, l57, l58, l59, l60, l61, l62, l63, l64, l97, l99, l100, l101, l102, l103, l104, l105, l106, l107, l108, l109, l110, l122, l160, l240, l255, l600, l1000, l3000, l10000, l10007, l10116, l67108863, l67108864, m8]
  have hlp := lp_for (b := X12_tongueOf_b8 (nI lamp) (nI week) w) (fun t => ((btS w lamp week t).1, nI (btS w lamp week t).2, nI t)) 5 (e := (btS w lamp week 5).1) (fun t ht => ?_) ?_ 0 (Nat.zero_le _)
  · unfold X12_tongueOf
    rw [show ((-1 : Int32), (0 : Int32), (0 : Int32)) = ((btS w lamp week 0).1, nI (btS w lamp week 0).2, nI 0) from rfl, hlp]
    rfl
  · have hs := btS_s w lamp week t
    have hc : tgC w lamp week t (nn w 5 8) ≤ nn w 5 8 := cnt_le
    have hi := fun a4 a5 => hin a4 a5 t ht
    unfold X12_tongueOf_b8 X12_tongueOf_j86
    by_cases q : (btS w lamp week t).2 < tgC w lamp week t (nn w 5 8)
    · rw [show btS w lamp week (t + 1) = (nI t, tgC w lamp week t (nn w 5 8)) from by rw [btS, if_pos q]]
      simp (disch := omega) only [gdn, gb0, gb1, ixn, nm1, nI_add, nI_mul, nsub, nI_ltI, nI_leI, nI_eq, eqNO, eqNO2, ltNO, NOlt, leNO, NOle, if_pos, if_neg, Option.bind_some, if_true, if_false, and_self, eq_self, l0, l1, l2, l3, l4, l5, l6, l7, l8, l9, l10, l11, l12, l13, l14, l15, l16, l17, l18, l19, l20, l24, l26, l30, l31, l32, l40, l41, l42, l43, l45, l47, l48, l57, l58, l59, l60, l61, l62, l63, l64, l97, l99, l100, l101, l102, l103, l104, l105, l106, l107, l108, l109, l110, l122, l160, l240, l255, l600, l1000, l3000, l10000, l10007, l10116, l67108863, l67108864, hi]
    · rw [show btS w lamp week (t + 1) = btS w lamp week t from by rw [btS, if_neg q]]
      simp (disch := omega) only [gdn, gb0, gb1, ixn, nm1, nI_add, nI_mul, nsub, nI_ltI, nI_leI, nI_eq, eqNO, eqNO2, ltNO, NOlt, leNO, NOle, if_pos, if_neg, Option.bind_some, if_true, if_false, and_self, eq_self, l0, l1, l2, l3, l4, l5, l6, l7, l8, l9, l10, l11, l12, l13, l14, l15, l16, l17, l18, l19, l20, l24, l26, l30, l31, l32, l40, l41, l42, l43, l45, l47, l48, l57, l58, l59, l60, l61, l62, l63, l64, l97, l99, l100, l101, l102, l103, l104, l105, l106, l107, l108, l109, l110, l122, l160, l240, l255, l600, l1000, l3000, l10000, l10007, l10116, l67108863, l67108864, hi]
  · unfold X12_tongueOf_b8
    simp (disch := omega) only [gdn, gb0, gb1, ixn, nm1, nI_add, nI_mul, nsub, nI_ltI, nI_leI, nI_eq, eqNO, eqNO2, ltNO, NOlt, leNO, NOle, if_pos, if_neg, Option.bind_some, if_true, if_false, and_self, eq_self, l0, l1, l2, l3, l4, l5, l6, l7, l8, l9, l10, l11, l12, l13, l14, l15, l16, l17, l18, l19, l20, l24, l26, l30, l31, l32, l40, l41, l42, l43, l45, l47, l48, l57, l58, l59, l60, l61, l62, l63, l64, l97, l99, l100, l101, l102, l103, l104, l105, l106, l107, l108, l109, l110, l122, l160, l240, l255, l600, l1000, l3000, l10000, l10007, l10116, l67108863, l67108864]
/-! ARRIVALS of TEACHERS at LAMPS -/
noncomputable def arrT (w : Wd) (week : Nat) (lm tn : Nat → Nat) (k t : Nat) : Nat := @ite _ (canT w (tn t) (lm k) week) (Classical.propDecidable _) (cv (arr w (nn w 16 (tn t)) week) (nn w 17 (lm k))) 1000
theorem arrT_6 {w : Wd} {week : Nat} (hwk : week < 60) {lm tn : Nat → Nat} (k t : Nat) : arrT w week lm tn k t < 60 ∨ arrT w week lm tn k t = 1000 := by
  unfold arrT
  split
  · unfold cv
    have := arr_le (w := w) (s := nn w 16 (tn t)) hwk (nn w 17 (lm k))
    split <;> omega
  · exact Or.inr rfl
theorem meas_k {w : Wd} (hL : IL w) {week M : Nat} (hwk : week < 60) (hC : CU w week) {lm tn : Nat → Nat} (hM : M ≤ 7) (h88 : w.1 88 0 = nI M) (hlm : ∀ k, k < M → w.1 89 k = nI (lm k) ∧ lm k < nn w 5 15) (htn : ∀ t, t < M → w.1 90 t = nI (tn t) ∧ tn t < nn w 5 12) : ∃ z f, X7_measure (nI week) w = some (seI (seI w 18 z) 91 f) ∧ ∀ k t, k < M → t < M → f (7 * k + t) = nI (arrT w week lm tn k t) := by
  have b15 := hL.1.2.2.2.2.2
  have b12 := hL.1.2.2.2.1.2
  have bP := hL.1.1.2
  have key := lp_up (b := X7_measure_b3 (nI week)) (Q := fun e => ∃ z f, e = seI (seI w 18 z) 91 f ∧ ∀ k t, k < M → t < M → f (7 * k + t) = nI (arrT w week lm tn k t)) (fun t st => ∃ z f, st = (nI t, seI (seI w 18 z) 91 f) ∧ ∀ k t', k < M → t' < t → t' < M → f (7 * k + t') = nI (arrT w week lm tn k t')) M ?_ ?_ 0 (nI 0, w) (Nat.zero_le _) ⟨w.1 18, w.1 91, by rw [seI_same (k := 18) rfl, seI_same rfl], fun k t' _ h _ => by omega⟩
  · obtain ⟨e, he, z, f, rfl, hf⟩ := key
    refine ⟨z, f, ?_, hf⟩
    unfold X7_measure
    rw [show (0 : Int32) = nI 0 from rfl, he]
    rfl
  · rintro t st ht ⟨z, f, rfl, hf⟩
    obtain ⟨e90, b90⟩ := htn t ht
    obtain ⟨-, e16, b16⟩ := hL.2.2.2.2.2.2.2.1 (tn t) b90
    have hLW : IL (seI (seI w 18 z) 91 f) := hL
    have htr := travel_e hLW (s := nn w 16 (tn t)) (week := week) b16 hwk
    have r88 : (seI (seI w 18 z) 91 f).1 88 0 = nI M := h88
    have r90 : (seI (seI w 18 z) 91 f).1 90 t = nI (tn t) := e90
    have r16 : (seI (seI w 18 z) 91 f).1 16 (tn t) = nI (nn w 16 (tn t)) := e16
    have hw1 : seI (seI (seI w 18 z) 91 f) 18 (rwN 16 (arr (seI (seI w 18 z) 91 f) (nn w 16 (tn t)) week) ((seI (seI w 18 z) 91 f).1 18)) = seI (seI w 18 (rwN 16 (arr w (nn w 16 (tn t)) week) z)) 91 f := by
      rw [se3 (by decide)]
      rfl
    rw [hw1] at htr
    -- the LAMPS
    have key2 := lp_up (b := X7_measure_b32 (nI week) (nI t)) (Q := fun e => ∃ f', e = seI (seI w 18 (rwN 16 (arr w (nn w 16 (tn t)) week) z)) 91 f' ∧ ∀ k t', k < M → t' < t + 1 → t' < M → f' (7 * k + t') = nI (arrT w week lm tn k t')) (fun k st => ∃ f', st = (nI k, seI (seI w 18 (rwN 16 (arr w (nn w 16 (tn t)) week) z)) 91 f') ∧ ∀ k' t', k' < M → (t' < t ∨ (t' = t ∧ k' < k)) → t' < M → f' (7 * k' + t') = nI (arrT w week lm tn k' t')) M ?_ ?_ 0 (nI 0, seI (seI w 18 (rwN 16 (arr w (nn w 16 (tn t)) week) z)) 91 f) (Nat.zero_le _) ⟨f, rfl, fun k' t' h1 h2 h3 => hf k' t' h1 (by omega) h3⟩
    · obtain ⟨e, he, f', rfl, hf'⟩ := key2
      refine ⟨.inl (nI (t + 1), seI (seI w 18 (rwN 16 (arr w (nn w 16 (tn t)) week) z)) 91 f'), ?_, _, f', rfl, hf'⟩
      unfold X7_measure_b3
      simp (disch := omega) only [gdn, gb0, gb1, ixn, nm1, nI_add, nI_mul, nsub, nI_ltI, nI_leI, nI_eq, eqNO, eqNO2, ltNO, NOlt, leNO, NOle, if_pos, if_neg, Option.bind_some, if_true, if_false, and_self, eq_self, l0, l1, l2, l3, l4, l5, l6, l7, l8, l9, l10, l11, l12, l13, l14, l15, l16, l17, l18, l19, l20, l24, l26, l30, l31, l32, l40, l41, l42, l43, l45, l47, l48, l57, l58, l59, l60, l61, l62, l63, l64, l97, l99, l100, l101, l102, l103, l104, l105, l106, l107, l108, l109, l110, l122, l160, l240, l255, l600, l1000, l3000, l10000, l10007, l10116, l67108863, l67108864, r88, r90, r16, htr, he]
    · rintro k st hk ⟨f', rfl, hf'⟩
      generalize hW : seI (seI w 18 (rwN 16 (arr w (nn w 16 (tn t)) week) z)) 91 f' = W
      obtain ⟨e89, b89⟩ := hlm k hk
      obtain ⟨e17, b17⟩ := hL.2.2.2.2.2.2.2.2 (lm k) b89
      have s88 : W.1 88 0 = nI M := by rw [← hW]; exact h88
      have s89 : W.1 89 k = nI (lm k) := by rw [← hW]; exact e89
      have s90 : W.1 90 t = nI (tn t) := by rw [← hW]; exact e90
      have s17 : W.1 17 (lm k) = nI (nn w 17 (lm k)) := by rw [← hW]; exact e17
      have s18 : W.1 18 (nn w 17 (lm k)) = nI (arr w (nn w 16 (tn t)) week (nn w 17 (lm k))) := by rw [← hW]; exact rwN_lt (by omega)
      have hLw : IL W := by rw [← hW]; exact hL
      have efr : Fr [18, 91] [] w W := by rw [← hW]; exact Fr.seI (Fr.seI Fr.rf (by decide)) (by decide)
      have hCw : CU W week := hC.c (fun s t' _ => lampS_sm (efr.sm (by decide)) s t' week) (by rw [← hW]; rfl) (by rw [← hW]; rfl) (by rw [← hW]; rfl) (by rw [← hW]; rfl)
      have hbt : ∀ x, btS W (lm k) week x = btS w (lm k) week x := by
        intro x
        have hcc : ∀ y n, tgC W (lm k) week y n = tgC w (lm k) week y n := fun y n => cnt_congr (fun l _ => by rw [lampS_sm (efr.sm (by decide)), show nn W 14 l = nn w 14 l from nn_eq (by rw [← hW]; rfl)])
        induction x with
        | zero => rfl
        | succ x ih => unfold btS; rw [ih, hcc, show nn W 5 8 = nn w 5 8 from nn_eq (by rw [← hW]; rfl)]
      have hcan : canT W (tn t) (lm k) week ↔ canT w (tn t) (lm k) week := by
        unfold canT
        rw [hbt, show nn W 15 (tn t) = nn w 15 (tn t) from nn_eq (by rw [← hW]; rfl)]
      have hsp := speaks_e hLw hCw (who := tn t) (lamp := lm k) (by rw [show nn W 5 12 = nn w 5 12 from nn_eq (by rw [← hW]; rfl)]; exact b90) (by omega)
      rw [fg_c hcan] at hsp
      have hle := arr_le (w := w) (s := nn w 16 (tn t)) hwk (nn w 17 (lm k))
      have hput : ∀ v, X7_measure_j119 (nI week) (nI t) (nI k) (nI v) (nI k * nI 7 + nI t) W = some (.inl (nI (k + 1), seI (seI w 18 (rwN 16 (arr w (nn w 16 (tn t)) week) z)) 91 (upd f' (7 * k + t) (nI v)))) := by
        intro v
        unfold X7_measure_j119
        rw [← hW, show nI k * nI 7 + nI t = nI (7 * k + t) from by rw [nI_mul, nI_add, Nat.mul_comm]]
        simp (disch := omega) only [gdn, gb0, gb1, ixn, nm1, nI_add, nI_mul, nsub, nI_ltI, nI_leI, nI_eq, eqNO, eqNO2, ltNO, NOlt, leNO, NOle, if_pos, if_neg, Option.bind_some, if_true, if_false, and_self, eq_self, l0, l1, l2, l3, l4, l5, l6, l7, l8, l9, l10, l11, l12, l13, l14, l15, l16, l17, l18, l19, l20, l24, l26, l30, l31, l32, l40, l41, l42, l43, l45, l47, l48, l57, l58, l59, l60, l61, l62, l63, l64, l97, l99, l100, l101, l102, l103, l104, l105, l106, l107, l108, l109, l110, l122, l160, l240, l255, l600, l1000, l3000, l10000, l10007, l10116, l67108863, l67108864, pu_seI]
      refine ⟨.inl (nI (k + 1), seI (seI w 18 (rwN 16 (arr w (nn w 16 (tn t)) week) z)) 91 (upd f' (7 * k + t) (nI (arrT w week lm tn k t)))), ?_, upd f' (7 * k + t) (nI (arrT w week lm tn k t)), rfl, fun k' t' h1 h2 h3 => ?_⟩
      · unfold X7_measure_b32 X7_measure_j91 X7_measure_j92 X2_reached
        by_cases q6 : arr w (nn w 16 (tn t)) week (nn w 17 (lm k)) = 60
        · have hv : arrT w week lm tn k t = 1000 := by
            unfold arrT cv
            rw [if_pos q6]
            split <;> rfl
          rw [hv]
          have := hput 1000
          rw [nI_mul, nI_add] at this
          simp (disch := omega) only [gdn, gb0, gb1, ixn, nm1, nI_add, nI_mul, nsub, nI_ltI, nI_leI, nI_eq, eqNO, eqNO2, ltNO, NOlt, leNO, NOle, if_pos, if_neg, Option.bind_some, if_true, if_false, and_self, eq_self, l0, l1, l2, l3, l4, l5, l6, l7, l8, l9, l10, l11, l12, l13, l14, l15, l16, l17, l18, l19, l20, l24, l26, l30, l31, l32, l40, l41, l42, l43, l45, l47, l48, l57, l58, l59, l60, l61, l62, l63, l64, l97, l99, l100, l101, l102, l103, l104, l105, l106, l107, l108, l109, l110, l122, l160, l240, l255, l600, l1000, l3000, l10000, l10007, l10116, l67108863, l67108864, s88, s89, s17, s18, this]
        · by_cases qc : canT w (tn t) (lm k) week
          · have hv : arrT w week lm tn k t = arr w (nn w 16 (tn t)) week (nn w 17 (lm k)) := by
              unfold arrT cv
              rw [if_pos qc, if_neg q6]
            rw [hv]
            rw [fg_t qc] at hsp
            have := hput (arr w (nn w 16 (tn t)) week (nn w 17 (lm k)))
            rw [nI_mul, nI_add] at this
            simp (disch := omega) only [gdn, gb0, gb1, ixn, nm1, nI_add, nI_mul, nsub, nI_ltI, nI_leI, nI_eq, eqNO, eqNO2, ltNO, NOlt, leNO, NOle, if_pos, if_neg, Option.bind_some, if_true, if_false, and_self, eq_self, l0, l1, l2, l3, l4, l5, l6, l7, l8, l9, l10, l11, l12, l13, l14, l15, l16, l17, l18, l19, l20, l24, l26, l30, l31, l32, l40, l41, l42, l43, l45, l47, l48, l57, l58, l59, l60, l61, l62, l63, l64, l97, l99, l100, l101, l102, l103, l104, l105, l106, l107, l108, l109, l110, l122, l160, l240, l255, l600, l1000, l3000, l10000, l10007, l10116, l67108863, l67108864, s88, s89, s90, s17, s18, hsp, this]
          · have hv : arrT w week lm tn k t = 1000 := by
              unfold arrT
              rw [if_neg qc]
            rw [hv]
            rw [fg_f qc] at hsp
            have := hput 1000
            rw [nI_mul, nI_add] at this
            simp (disch := omega) only [gdn, gb0, gb1, ixn, nm1, nI_add, nI_mul, nsub, nI_ltI, nI_leI, nI_eq, eqNO, eqNO2, ltNO, NOlt, leNO, NOle, if_pos, if_neg, Option.bind_some, if_true, if_false, and_self, eq_self, l0, l1, l2, l3, l4, l5, l6, l7, l8, l9, l10, l11, l12, l13, l14, l15, l16, l17, l18, l19, l20, l24, l26, l30, l31, l32, l40, l41, l42, l43, l45, l47, l48, l57, l58, l59, l60, l61, l62, l63, l64, l97, l99, l100, l101, l102, l103, l104, l105, l106, l107, l108, l109, l110, l122, l160, l240, l255, l600, l1000, l3000, l10000, l10007, l10116, l67108863, l67108864, s88, s89, s90, s17, s18, hsp, this]
      · by_cases q : k' = k ∧ t' = t
        · rw [q.1, q.2, upd_s]
        · rw [upd_n (by omega)]; exact hf' k' t' h1 (by omega) h3
    · rintro st ⟨f', rfl, hf'⟩
      refine ⟨.inr (seI (seI w 18 (rwN 16 (arr w (nn w 16 (tn t)) week) z)) 91 f'), ?_, f', rfl, fun k' t' h1 h2 h3 => hf' k' t' h1 (by omega) h3⟩
      have r : (seI (seI w 18 (rwN 16 (arr w (nn w 16 (tn t)) week) z)) 91 f').1 88 0 = nI M := h88
      unfold X7_measure_b32
      simp (disch := omega) only [gdn, gb0, gb1, ixn, nm1, nI_add, nI_mul, nsub, nI_ltI, nI_leI, nI_eq, eqNO, eqNO2, ltNO, NOlt, leNO, NOle, if_pos, if_neg, Option.bind_some, if_true, if_false, and_self, eq_self, l0, l1, l2, l3, l4, l5, l6, l7, l8, l9, l10, l11, l12, l13, l14, l15, l16, l17, l18, l19, l20, l24, l26, l30, l31, l32, l40, l41, l42, l43, l45, l47, l48, l57, l58, l59, l60, l61, l62, l63, l64, l97, l99, l100, l101, l102, l103, l104, l105, l106, l107, l108, l109, l110, l122, l160, l240, l255, l600, l1000, l3000, l10000, l10007, l10116, l67108863, l67108864, r]
  · rintro st ⟨z, f, rfl, hf⟩
    refine ⟨.inr (seI (seI w 18 z) 91 f), ?_, z, f, rfl, fun k t h1 h2 => hf k t h1 h2 h2⟩
    have r : (seI (seI w 18 z) 91 f).1 88 0 = nI M := h88
    unfold X7_measure_b3
    simp (disch := omega) only [gdn, gb0, gb1, ixn, nm1, nI_add, nI_mul, nsub, nI_ltI, nI_leI, nI_eq, eqNO, eqNO2, ltNO, NOlt, leNO, NOle, if_pos, if_neg, Option.bind_some, if_true, if_false, and_self, eq_self, l0, l1, l2, l3, l4, l5, l6, l7, l8, l9, l10, l11, l12, l13, l14, l15, l16, l17, l18, l19, l20, l24, l26, l30, l31, l32, l40, l41, l42, l43, l45, l47, l48, l57, l58, l59, l60, l61, l62, l63, l64, l97, l99, l100, l101, l102, l103, l104, l105, l106, l107, l108, l109, l110, l122, l160, l240, l255, l600, l1000, l3000, l10000, l10007, l10116, l67108863, l67108864, r]
