/-! who reads -/
def ltS (w : Wd) (l week : Nat) : Nat → Int32
  | 0 => NO
  | p + 1 => if nn w 81 p = l ∧ nn w 82 p ≤ week ∧ (ltS w l week p = NO ∨ nn w 82 (ix (ltS w l week p)) ≤ nn w 82 p) then nI p else ltS w l week p
theorem ltS_t {w : Wd} {l week p : Nat} (h : nn w 81 p = l ∧ nn w 82 p ≤ week ∧ (ltS w l week p = NO ∨ nn w 82 (ix (ltS w l week p)) ≤ nn w 82 p)) : ltS w l week (p + 1) = nI p := by
  show (if _ then _ else _) = _
  rw [if_pos h]
theorem ltS_f {w : Wd} {l week p : Nat} (h : ¬ (nn w 81 p = l ∧ nn w 82 p ≤ week ∧ (ltS w l week p = NO ∨ nn w 82 (ix (ltS w l week p)) ≤ nn w 82 p))) : ltS w l week (p + 1) = ltS w l week p := by
  show (if _ then _ else _) = _
  rw [if_neg h]
theorem ltS_in {w : Wd} {l week : Nat} : ∀ n, ltS w l week n = NO ∨ ∃ p, p < n ∧ ltS w l week n = nI p
  | 0 => Or.inl rfl
  | n + 1 => by
    unfold ltS
    split
    · exact Or.inr ⟨n, by omega, rfl⟩
    · rcases ltS_in (w := w) (l := l) (week := week) n with z | ⟨p, hp, z⟩
      · exact Or.inl z
      · exact Or.inr ⟨p, by omega, z⟩
def rdP (w : Wd) (l week : Nat) : Prop := ∃ p, p < nn w 80 0 ∧ ltS w l week (nn w 80 0) = nI p ∧ psP w p
theorem latest_e {w : Wd} (hP : IP w) {l week : Nat} (hl : l < 40) (hw : week < 60) {b8 : nn w 5 8 < 41} : X5_latestBy (nI l) (nI week) w = some (ltS w l week (nn w 80 0)) := by
  have b80 := hP.1.2
  have e80 := hP.1.1
  have hlp := lp_for (b := X5_latestBy_b5 (nI l) (nI week) w) (e := ltS w l week (nn w 80 0)) (fun i => (ltS w l week i, nI i)) (nn w 80 0) (fun i hi => ?_) ?_ 0 (Nat.zero_le _)
  · unfold X5_latestBy
    rw [show ((-1 : Int32), (0 : Int32)) = (ltS w l week 0, nI 0) from rfl, hlp]; rfl
  · obtain ⟨⟨e81, b81⟩, ⟨e82, b82⟩, -⟩ := hP.2.2 i hi
    unfold X5_latestBy_b5 X5_latestBy_j40 X5_latestBy_j41 X5_latestBy_j69 X5_latestBy_j72
    rw [show (-1 : Int32) = NO from rfl]
    by_cases q1 : nn w 81 i = l
    · by_cases q2 : nn w 82 i ≤ week
      · rcases ltS_in (w := w) (l := l) (week := week) i with z | ⟨p, hp, z⟩
        · rw [ltS_t ⟨q1, q2, Or.inl z⟩, z]
          simp (disch := omega) only [gdn, gb0, gb1, ixn, nm1, nI_add, nI_mul, nsub, nI_ltI, nI_leI, nI_eq, eqNO, eqNO2, ltNO, NOlt, leNO, NOle, if_pos, if_neg, Option.bind_some, if_true, if_false, and_self, eq_self, l0, l1, l2, l3, l4, l5, l6, l7, l8, l9, l10, l11, l12, l13, l14, l15, l16, l17, l18, l19, l20, l24, l26, l30, l31, l32, l40, l41, l42, l43, l45, l47, l48, l57, l58, l59, l60, l61, l62, l63, l64, l97, l99, l100, l101, l102, l103, l104, l105, l106, l107, l108, l109, l110, l122, l160, l240, l255, l600, l1000, l3000, l10000, l10007, l10116, l67108863, l67108864, e80, e81, e82, q1]
        · obtain ⟨-, ⟨f82, g82⟩, -⟩ := hP.2.2 p (by omega)
          by_cases q3 : nn w 82 p ≤ nn w 82 i
          · rw [ltS_t ⟨q1, q2, Or.inr (by rw [z, ixn (by omega)]; exact q3)⟩, z]
            simp (disch := omega) only [gdn, gb0, gb1, ixn, nm1, nI_add, nI_mul, nsub, nI_ltI, nI_leI, nI_eq, eqNO, eqNO2, ltNO, NOlt, leNO, NOle, if_pos, if_neg, Option.bind_some, if_true, if_false, and_self, eq_self, l0, l1, l2, l3, l4, l5, l6, l7, l8, l9, l10, l11, l12, l13, l14, l15, l16, l17, l18, l19, l20, l24, l26, l30, l31, l32, l40, l41, l42, l43, l45, l47, l48, l57, l58, l59, l60, l61, l62, l63, l64, l97, l99, l100, l101, l102, l103, l104, l105, l106, l107, l108, l109, l110, l122, l160, l240, l255, l600, l1000, l3000, l10000, l10007, l10116, l67108863, l67108864, e80, e81, e82, q1, f82]
          · rw [ltS_f (by rw [z, eqNO (by omega), ixn (by omega)]; rintro ⟨-, -, y | y⟩; exact y; exact q3 y), z]
            simp (disch := omega) only [gdn, gb0, gb1, ixn, nm1, nI_add, nI_mul, nsub, nI_ltI, nI_leI, nI_eq, eqNO, eqNO2, ltNO, NOlt, leNO, NOle, if_pos, if_neg, Option.bind_some, if_true, if_false, and_self, eq_self, l0, l1, l2, l3, l4, l5, l6, l7, l8, l9, l10, l11, l12, l13, l14, l15, l16, l17, l18, l19, l20, l24, l26, l30, l31, l32, l40, l41, l42, l43, l45, l47, l48, l57, l58, l59, l60, l61, l62, l63, l64, l97, l99, l100, l101, l102, l103, l104, l105, l106, l107, l108, l109, l110, l122, l160, l240, l255, l600, l1000, l3000, l10000, l10007, l10116, l67108863, l67108864, e80, e81, e82, q1, f82]
      · rw [ltS_f (fun y => q2 y.2.1)]
        simp (disch := omega) only [gdn, gb0, gb1, ixn, nm1, nI_add, nI_mul, nsub, nI_ltI, nI_leI, nI_eq, eqNO, eqNO2, ltNO, NOlt, leNO, NOle, if_pos, if_neg, Option.bind_some, if_true, if_false, and_self, eq_self, l0, l1, l2, l3, l4, l5, l6, l7, l8, l9, l10, l11, l12, l13, l14, l15, l16, l17, l18, l19, l20, l24, l26, l30, l31, l32, l40, l41, l42, l43, l45, l47, l48, l57, l58, l59, l60, l61, l62, l63, l64, l97, l99, l100, l101, l102, l103, l104, l105, l106, l107, l108, l109, l110, l122, l160, l240, l255, l600, l1000, l3000, l10000, l10007, l10116, l67108863, l67108864, e80, e81, e82, q1]
    · rw [ltS_f (fun y => q1 y.1)]
      simp (disch := omega) only [gdn, gb0, gb1, ixn, nm1, nI_add, nI_mul, nsub, nI_ltI, nI_leI, nI_eq, eqNO, eqNO2, ltNO, NOlt, leNO, NOle, if_pos, if_neg, Option.bind_some, if_true, if_false, and_self, eq_self, l0, l1, l2, l3, l4, l5, l6, l7, l8, l9, l10, l11, l12, l13, l14, l15, l16, l17, l18, l19, l20, l24, l26, l30, l31, l32, l40, l41, l42, l43, l45, l47, l48, l57, l58, l59, l60, l61, l62, l63, l64, l97, l99, l100, l101, l102, l103, l104, l105, l106, l107, l108, l109, l110, l122, l160, l240, l255, l600, l1000, l3000, l10000, l10007, l10116, l67108863, l67108864, e80, e81, e82, q1]
  · unfold X5_latestBy_b5
    simp (disch := omega) only [gdn, gb0, gb1, ixn, nm1, nI_add, nI_mul, nsub, nI_ltI, nI_leI, nI_eq, eqNO, eqNO2, ltNO, NOlt, leNO, NOle, if_pos, if_neg, Option.bind_some, if_true, if_false, and_self, eq_self, l0, l1, l2, l3, l4, l5, l6, l7, l8, l9, l10, l11, l12, l13, l14, l15, l16, l17, l18, l19, l20, l24, l26, l30, l31, l32, l40, l41, l42, l43, l45, l47, l48, l57, l58, l59, l60, l61, l62, l63, l64, l97, l99, l100, l101, l102, l103, l104, l105, l106, l107, l108, l109, l110, l122, l160, l240, l255, l600, l1000, l3000, l10000, l10007, l10116, l67108863, l67108864, e80]
theorem canRead_e {w : Wd} (h : YI w) (hP : IP w) {l week : Nat} (hl : l < nn w 5 8) (hw : week < 60) : ∃ v, X11_canRead (nI l) (nI week) w = some (fg (rdP w l week), v) ∧ OPC w v := by
  have b8 := h.1.1.2.2.1.2
  have b80 := hP.1.2
  unfold X11_canRead
  rw [latest_e hP (by omega) hw (b8 := b8)]
  simp only [Option.bind_some]
  rw [show (-1 : Int32) = NO from rfl]
  rcases ltS_in (w := w) (l := l) (week := week) (nn w 80 0) with z | ⟨p, hp, z⟩
  · rw [z, if_pos rfl, fg_f]
    · exact ⟨w, rfl, OPC.rf h⟩
    · rintro ⟨p, hp, y, -⟩
      rw [z] at y
      exact (eqNO2 (show p < 2 ^ 31 by omega)).mp y
  · have hne : ¬ nI p = NO := fun y => (eqNO (show p < 2 ^ 31 by omega)).mp y
    obtain ⟨v, k1, k2⟩ := passed_e h hP hp
    rw [z, if_neg hne, k1]
    have e : rdP w l week ↔ psP w p := by
      constructor
      · rintro ⟨p', hp', y, y2⟩
        rw [z] at y
        have := (nI_eq (a := p) (b := p') (by omega) (by omega)).mp y
        rw [this]; exact y2
      · exact fun y => ⟨p, hp, z, y⟩
    rw [fg_c e]
    refine ⟨v, ?_, k2⟩
    simp only [Option.bind_some]
    by_cases y : psP w p
    · rw [fg_t y]; rfl
    · rw [fg_f y]; rfl
theorem doesRead_e {w u : Wd} (h : YI w) (hP : IP w) {l week : Nat} (hl : l < nn w 5 8) (hw : week < 60) {S : List Nat} {T : List (Nat × Nat)} (hu : Fr S T w u) (hcB : smc S T sR_B sF_B = true) (hcY : smc S T sR_Y sF_Y = true) (hcL : smc S T sR_L sF_L = true) (hcP : smc S T sR_P sF_P = true) : ∃ v, X12_doesRead (nI l) (nI week) u = some (fg (rdP w l week), v) ∧ Fr sS_M sF_M u v := by
  have b8 := h.1.1.2.2.1.2
  have b80 := hP.1.2
  have eP : Sm sR_P sF_P w u := hu.sm hcP
  have e86 : u.1 97 86 = nI (nn w 80 0) := by rw [(eP.2 (97, 86) (by decide)).1, hP.2.1]; exact hP.1.1
  have hlp := lp_for (b := X12_doesRead_b5 (nI l) (nI week) u) (e := ltS w l week (nn w 80 0)) (fun i => (ltS w l week i, nI i)) (nn w 80 0) (fun i hi => ?_) ?_ 0 (Nat.zero_le _)
  · unfold X12_doesRead
    rw [show ((-1 : Int32), (0 : Int32)) = (ltS w l week 0, nI 0) from rfl, hlp]
    simp only [Option.bind_some]
    rw [show (-1 : Int32) = NO from rfl]
    rcases ltS_in (w := w) (l := l) (week := week) (nn w 80 0) with z | ⟨p, hp, z⟩
    · rw [z, if_pos rfl, fg_f]
      · exact ⟨u, rfl, Fr.rf⟩
      · rintro ⟨p, hp, y, -⟩
        rw [z] at y
        exact (eqNO2 (show p < 2 ^ 31 by omega)).mp y
    · have hne : ¬ nI p = NO := fun y => (eqNO (show p < 2 ^ 31 by omega)).mp y
      obtain ⟨v, k1, k2⟩ := mpassed_e h hP hp hu hcB hcY hcL hcP
      rw [z, if_neg hne, k1]
      have e : rdP w l week ↔ psP w p := by
        constructor
        · rintro ⟨p', hp', y, y2⟩
          rw [z] at y
          have := (nI_eq (a := p) (b := p') (by omega) (by omega)).mp y
          rw [this]; exact y2
        · exact fun y => ⟨p, hp, z, y⟩
      rw [fg_c e]
      refine ⟨v, ?_, k2⟩
      simp only [Option.bind_some]
      by_cases y : psP w p
      · rw [fg_t y]; rfl
      · rw [fg_f y]; rfl
  · obtain ⟨⟨e81, b81⟩, ⟨e82, b82⟩, r161, r162, -⟩ := hP.2.2 i hi
    have g161 : u.1 161 i = nI (nn w 81 i) := by rw [(eP.1 161 (by decide)).1, r161]; exact e81
    have g162 : u.1 162 i = nI (nn w 82 i) := by rw [(eP.1 162 (by decide)).1, r162]; exact e82
    unfold X12_doesRead_b5 X12_doesRead_j57 X12_doesRead_j60
    rw [show (-1 : Int32) = NO from rfl]
    by_cases q1 : nn w 81 i = l
    · by_cases q2 : nn w 82 i ≤ week
      · rcases ltS_in (w := w) (l := l) (week := week) i with z | ⟨p, hp, z⟩
        · rw [ltS_t ⟨q1, q2, Or.inl z⟩, z]
          simp (disch := omega) only [gdn, gb0, gb1, ixn, nm1, nI_add, nI_mul, nsub, nI_ltI, nI_leI, nI_eq, eqNO, eqNO2, ltNO, NOlt, leNO, NOle, if_pos, if_neg, Option.bind_some, if_true, if_false, and_self, eq_self, l0, l1, l2, l3, l4, l5, l6, l7, l8, l9, l10, l11, l12, l13, l14, l15, l16, l17, l18, l19, l20, l24, l26, l30, l31, l32, l40, l41, l42, l43, l45, l47, l48, l57, l58, l59, l60, l61, l62, l63, l64, l97, l99, l100, l101, l102, l103, l104, l105, l106, l107, l108, l109, l110, l122, l160, l240, l255, l600, l1000, l3000, l10000, l10007, l10116, l67108863, l67108864, e86, g161, g162, q1]
        · obtain ⟨-, ⟨f82, g82⟩, -, s162, -⟩ := hP.2.2 p (by omega)
          have h162 : u.1 162 p = nI (nn w 82 p) := by rw [(eP.1 162 (by decide)).1, s162]; exact f82
          by_cases q3 : nn w 82 p ≤ nn w 82 i
          · rw [ltS_t ⟨q1, q2, Or.inr (by rw [z, ixn (by omega)]; exact q3)⟩, z]
            simp (disch := omega) only [gdn, gb0, gb1, ixn, nm1, nI_add, nI_mul, nsub, nI_ltI, nI_leI, nI_eq, eqNO, eqNO2, ltNO, NOlt, leNO, NOle, if_pos, if_neg, Option.bind_some, if_true, if_false, and_self, eq_self, l0, l1, l2, l3, l4, l5, l6, l7, l8, l9, l10, l11, l12, l13, l14, l15, l16, l17, l18, l19, l20, l24, l26, l30, l31, l32, l40, l41, l42, l43, l45, l47, l48, l57, l58, l59, l60, l61, l62, l63, l64, l97, l99, l100, l101, l102, l103, l104, l105, l106, l107, l108, l109, l110, l122, l160, l240, l255, l600, l1000, l3000, l10000, l10007, l10116, l67108863, l67108864, e86, g161, g162, q1, h162]
          · rw [ltS_f (by rw [z, eqNO (by omega), ixn (by omega)]; rintro ⟨-, -, y | y⟩; exact y; exact q3 y), z]
            simp (disch := omega) only [gdn, gb0, gb1, ixn, nm1, nI_add, nI_mul, nsub, nI_ltI, nI_leI, nI_eq, eqNO, eqNO2, ltNO, NOlt, leNO, NOle, if_pos, if_neg, Option.bind_some, if_true, if_false, and_self, eq_self, l0, l1, l2, l3, l4, l5, l6, l7, l8, l9, l10, l11, l12, l13, l14, l15, l16, l17, l18, l19, l20, l24, l26, l30, l31, l32, l40, l41, l42, l43, l45, l47, l48, l57, l58, l59, l60, l61, l62, l63, l64, l97, l99, l100, l101, l102, l103, l104, l105, l106, l107, l108, l109, l110, l122, l160, l240, l255, l600, l1000, l3000, l10000, l10007, l10116, l67108863, l67108864, e86, g161, g162, q1, h162]
      · rw [ltS_f (fun y => q2 y.2.1)]
        simp (disch := omega) only [gdn, gb0, gb1, ixn, nm1, nI_add, nI_mul, nsub, nI_ltI, nI_leI, nI_eq, eqNO, eqNO2, ltNO, NOlt, leNO, NOle, if_pos, if_neg, Option.bind_some, if_true, if_false, and_self, eq_self, l0, l1, l2, l3, l4, l5, l6, l7, l8, l9, l10, l11, l12, l13, l14, l15, l16, l17, l18, l19, l20, l24, l26, l30, l31, l32, l40, l41, l42, l43, l45, l47, l48, l57, l58, l59, l60, l61, l62, l63, l64, l97, l99, l100, l101, l102, l103, l104, l105, l106, l107, l108, l109, l110, l122, l160, l240, l255, l600, l1000, l3000, l10000, l10007, l10116, l67108863, l67108864, e86, g161, g162, q1]
    · rw [ltS_f (fun y => q1 y.1)]
      simp (disch := omega) only [gdn, gb0, gb1, ixn, nm1, nI_add, nI_mul, nsub, nI_ltI, nI_leI, nI_eq, eqNO, eqNO2, ltNO, NOlt, leNO, NOle, if_pos, if_neg, Option.bind_some, if_true, if_false, and_self, eq_self, l0, l1, l2, l3, l4, l5, l6, l7, l8, l9, l10, l11, l12, l13, l14, l15, l16, l17, l18, l19, l20, l24, l26, l30, l31, l32, l40, l41, l42, l43, l45, l47, l48, l57, l58, l59, l60, l61, l62, l63, l64, l97, l99, l100, l101, l102, l103, l104, l105, l106, l107, l108, l109, l110, l122, l160, l240, l255, l600, l1000, l3000, l10000, l10007, l10116, l67108863, l67108864, e86, g161, g162, q1]
  · unfold X12_doesRead_b5
    simp (disch := omega) only [gdn, gb0, gb1, ixn, nm1, nI_add, nI_mul, nsub, nI_ltI, nI_leI, nI_eq, eqNO, eqNO2, ltNO, NOlt, leNO, NOle, if_pos, if_neg, Option.bind_some, if_true, if_false, and_self, eq_self, l0, l1, l2, l3, l4, l5, l6, l7, l8, l9, l10, l11, l12, l13, l14, l15, l16, l17, l18, l19, l20, l24, l26, l30, l31, l32, l40, l41, l42, l43, l45, l47, l48, l57, l58, l59, l60, l61, l62, l63, l64, l97, l99, l100, l101, l102, l103, l104, l105, l106, l107, l108, l109, l110, l122, l160, l240, l255, l600, l1000, l3000, l10000, l10007, l10116, l67108863, l67108864, e86]
theorem o_reads (a1 a2 : Int32) {w : Wd} (h : YI w) (hP : IP w) : two (X11_reads a1 a2) (X12_reads a1 a2) w OPY := by
  have hL := h.1
  have b8 := hL.1.2.2.1.2
  by_cases hv : (0 ≤ a1.toInt ∧ a1.toInt < (nn w 5 8 : Int)) ∧ (0 ≤ a2.toInt ∧ a2.toInt < ((60 : Nat) : Int))
  · obtain ⟨v1, v2⟩ := hv
    obtain ⟨l, hl, rfl⟩ := of_t v1
    obtain ⟨week, hwk, rfl⟩ := of_t v2
    obtain ⟨w1, k1, k2⟩ := canRead_e h hP hl hwk
    obtain ⟨v, m1, m2⟩ := doesRead_e h hP hl hwk (fr_ans (x := nI 0) k2) (by decide) (by decide) (by decide) (by decide)
    have e6 : (puI w1 0 10 (nI 0)).1 97 6 = nI (nn w 5 8) := by rw [((fr_ans (x := nI 0) k2).row 97 (by decide) (by decide)).1, hL.2.1.2.2.1]; exact hL.1.2.2.1.1
    refine two_y (r := fg (rdP w l week)) (x := nI 0) h k2 ?_ ⟨v, ?_, m2⟩
    · unfold X11_reads
      by_cases z : rdP w l week
      · rw [fg_t z] at k1 ⊢
        simp (disch := omega) only [gdn, gb0, gb1, ixn, nm1, nI_add, nI_mul, nsub, nI_ltI, nI_leI, nI_eq, eqNO, eqNO2, ltNO, NOlt, leNO, NOle, if_pos, if_neg, Option.bind_some, if_true, if_false, and_self, eq_self, l0, l1, l2, l3, l4, l5, l6, l7, l8, l9, l10, l11, l12, l13, l14, l15, l16, l17, l18, l19, l20, l24, l26, l30, l31, l32, l40, l41, l42, l43, l45, l47, l48, l57, l58, l59, l60, l61, l62, l63, l64, l97, l99, l100, l101, l102, l103, l104, l105, l106, l107, l108, l109, l110, l122, l160, l240, l255, l600, l1000, l3000, l10000, l10007, l10116, l67108863, l67108864, I_oth, I_J, J_oth, J_I, I_row, J_row, SI_row, SI_oth, SI_J, SJ_row, SJ_oth, SJ_I, upd_s, upd_n, updL_s, updL_n, ne_eq, not_false_eq_true, lt_t, le_t, tI, NO_t, flag0, flag1, ite_or2, ite_self, true_or, or_true, false_or, or_false, true_and, and_true, false_and, and_false, not_true_eq_false, lrn_e hL, week_e, k1, ansW_e]
      · rw [fg_f z] at k1 ⊢
        simp (disch := omega) only [gdn, gb0, gb1, ixn, nm1, nI_add, nI_mul, nsub, nI_ltI, nI_leI, nI_eq, eqNO, eqNO2, ltNO, NOlt, leNO, NOle, if_pos, if_neg, Option.bind_some, if_true, if_false, and_self, eq_self, l0, l1, l2, l3, l4, l5, l6, l7, l8, l9, l10, l11, l12, l13, l14, l15, l16, l17, l18, l19, l20, l24, l26, l30, l31, l32, l40, l41, l42, l43, l45, l47, l48, l57, l58, l59, l60, l61, l62, l63, l64, l97, l99, l100, l101, l102, l103, l104, l105, l106, l107, l108, l109, l110, l122, l160, l240, l255, l600, l1000, l3000, l10000, l10007, l10116, l67108863, l67108864, I_oth, I_J, J_oth, J_I, I_row, J_row, SI_row, SI_oth, SI_J, SJ_row, SJ_oth, SJ_I, upd_s, upd_n, updL_s, updL_n, ne_eq, not_false_eq_true, lt_t, le_t, tI, NO_t, flag0, flag1, ite_or2, ite_self, true_or, or_true, false_or, or_false, true_and, and_true, false_and, and_false, not_true_eq_false, lrn_e hL, week_e, k1, ansW_e]
    · unfold X12_reads X12_reads_j30
      rw [mlr _ e6 (by omega), mweek_e]
      by_cases z : rdP w l week
      · rw [fg_t z] at m1 ⊢
        simp (disch := omega) only [gdn, gb0, gb1, ixn, nm1, nI_add, nI_mul, nsub, nI_ltI, nI_leI, nI_eq, eqNO, eqNO2, ltNO, NOlt, leNO, NOle, if_pos, if_neg, Option.bind_some, if_true, if_false, and_self, eq_self, l0, l1, l2, l3, l4, l5, l6, l7, l8, l9, l10, l11, l12, l13, l14, l15, l16, l17, l18, l19, l20, l24, l26, l30, l31, l32, l40, l41, l42, l43, l45, l47, l48, l57, l58, l59, l60, l61, l62, l63, l64, l97, l99, l100, l101, l102, l103, l104, l105, l106, l107, l108, l109, l110, l122, l160, l240, l255, l600, l1000, l3000, l10000, l10007, l10116, l67108863, l67108864, I_oth, I_J, J_oth, J_I, I_row, J_row, SI_row, SI_oth, SI_J, SJ_row, SJ_oth, SJ_I, upd_s, upd_n, updL_s, updL_n, ne_eq, not_false_eq_true, lt_t, le_t, tI, NO_t, flag0, flag1, ite_or2, ite_self, true_or, or_true, false_or, or_false, true_and, and_true, false_and, and_false, not_true_eq_false, m1, mgiv_e]
      · rw [fg_f z] at m1 ⊢
        simp (disch := omega) only [gdn, gb0, gb1, ixn, nm1, nI_add, nI_mul, nsub, nI_ltI, nI_leI, nI_eq, eqNO, eqNO2, ltNO, NOlt, leNO, NOle, if_pos, if_neg, Option.bind_some, if_true, if_false, and_self, eq_self, l0, l1, l2, l3, l4, l5, l6, l7, l8, l9, l10, l11, l12, l13, l14, l15, l16, l17, l18, l19, l20, l24, l26, l30, l31, l32, l40, l41, l42, l43, l45, l47, l48, l57, l58, l59, l60, l61, l62, l63, l64, l97, l99, l100, l101, l102, l103, l104, l105, l106, l107, l108, l109, l110, l122, l160, l240, l255, l600, l1000, l3000, l10000, l10007, l10116, l67108863, l67108864, I_oth, I_J, J_oth, J_I, I_row, J_row, SI_row, SI_oth, SI_J, SJ_row, SJ_oth, SJ_I, upd_s, upd_n, updL_s, updL_n, ne_eq, not_false_eq_true, lt_t, le_t, tI, NO_t, flag0, flag1, ite_or2, ite_self, true_or, or_true, false_or, or_false, true_and, and_true, false_and, and_false, not_true_eq_false, m1, mgiv_e]
  · refine two_ref (nI 1) (r := NO) ?_ ?_ (fun w' z => OPY.st h z)
    · unfold X11_reads X11_reads_j18
      simp (disch := omega) only [gdn, gb0, gb1, ixn, nm1, nI_add, nI_mul, nsub, nI_ltI, nI_leI, nI_eq, eqNO, eqNO2, ltNO, NOlt, leNO, NOle, if_pos, if_neg, Option.bind_some, if_true, if_false, and_self, eq_self, l0, l1, l2, l3, l4, l5, l6, l7, l8, l9, l10, l11, l12, l13, l14, l15, l16, l17, l18, l19, l20, l24, l26, l30, l31, l32, l40, l41, l42, l43, l45, l47, l48, l57, l58, l59, l60, l61, l62, l63, l64, l97, l99, l100, l101, l102, l103, l104, l105, l106, l107, l108, l109, l110, l122, l160, l240, l255, l600, l1000, l3000, l10000, l10007, l10116, l67108863, l67108864, I_oth, I_J, J_oth, J_I, I_row, J_row, SI_row, SI_oth, SI_J, SJ_row, SJ_oth, SJ_I, upd_s, upd_n, updL_s, updL_n, ne_eq, not_false_eq_true, lt_t, le_t, tI, NO_t, flag0, flag1, ite_or2, ite_self, true_or, or_true, false_or, or_false, true_and, and_true, false_and, and_false, not_true_eq_false, lrn_e hL, week_e, deny_e]
    · unfold X12_reads X12_reads_j36
      have e6 : (puI w 0 10 (nI 1)).1 97 6 = nI (nn w 5 8) := by rw [I_oth (by decide), hL.2.1.2.2.1]; exact hL.1.2.2.1.1
      rw [mlr _ e6 (by omega), mweek_e]
      simp (disch := omega) only [gdn, gb0, gb1, ixn, nm1, nI_add, nI_mul, nsub, nI_ltI, nI_leI, nI_eq, eqNO, eqNO2, ltNO, NOlt, leNO, NOle, if_pos, if_neg, Option.bind_some, if_true, if_false, and_self, eq_self, l0, l1, l2, l3, l4, l5, l6, l7, l8, l9, l10, l11, l12, l13, l14, l15, l16, l17, l18, l19, l20, l24, l26, l30, l31, l32, l40, l41, l42, l43, l45, l47, l48, l57, l58, l59, l60, l61, l62, l63, l64, l97, l99, l100, l101, l102, l103, l104, l105, l106, l107, l108, l109, l110, l122, l160, l240, l255, l600, l1000, l3000, l10000, l10007, l10116, l67108863, l67108864, I_oth, I_J, J_oth, J_I, I_row, J_row, SI_row, SI_oth, SI_J, SJ_row, SJ_oth, SJ_I, upd_s, upd_n, updL_s, updL_n, ne_eq, not_false_eq_true, lt_t, le_t, tI, NO_t, flag0, flag1, ite_or2, ite_self, true_or, or_true, false_or, or_false, true_and, and_true, false_and, and_false, not_true_eq_false, mref_e]
/-! flag -/
theorem psP_y {w v : Wd} (e : Sm sR_Y sF_Y w v) (r81 : v.1 81 = w.1 81) (r82 : v.1 82 = w.1 82) (r83 : v.1 83 = w.1 83) (r12 : v.1 12 = w.1 12) : psP v = psP w := by
  funext p
  have h6 := nn_y e (k := 6) (by decide)
  have h12 : nn v 12 = nn w 12 := by funext i; exact nn_row r12
  have h81 : nn v 81 = nn w 81 := by funext i; exact nn_row r81
  have h82 : nn v 82 = nn w 82 := by funext i; exact nn_row r82
  have h83 : nn v 83 = nn w 83 := by funext i; exact nn_row r83
  have hs : shP v = shP w := by funext p; unfold shP; rw [h6, h12, h81]
  unfold psP
  rw [h83, h82, hs, lst_y e, RS_y e]
theorem rdP_y {w v : Wd} (e : Sm sR_Y sF_Y w v) (r81 : v.1 81 = w.1 81) (r82 : v.1 82 = w.1 82) (r83 : v.1 83 = w.1 83) (r12 : v.1 12 = w.1 12) (r80 : v.1 80 0 = w.1 80 0) : rdP v = rdP w := by
  have h81 : nn v 81 = nn w 81 := by funext i; exact nn_row r81
  have h82 : nn v 82 = nn w 82 := by funext i; exact nn_row r82
  have hlt : ∀ l week n, ltS v l week n = ltS w l week n := by
    intro l week n
    induction n with
    | zero => rfl
    | succ n ih => unfold ltS; rw [ih, h81, h82]
  funext l week
  unfold rdP
  rw [nn_eq r80, psP_y e r81 r82 r83 r12]
  simp only [hlt]
noncomputable def pB (p : Prop) : Bool := @decide p (Classical.propDecidable p)
theorem pB_t {p : Prop} : pB p = true ↔ p := by unfold pB; simp
theorem o_flag (a1 a2 : Int32) {w : Wd} (h : YI w) (hP : IP w) : two (X11_flag a1 a2) (X12_flag a1 a2) w OPY := by
  have hL := h.1
  have b8 := hL.1.2.2.1.2
  have b0 := hL.1.1.2
  have e6 : w.1 97 6 = nI (nn w 5 8) := by rw [hL.2.1.2.2.1]; exact hL.1.2.2.1.1
  by_cases hv : (0 ≤ a1.toInt ∧ a1.toInt < (nn w 5 0 : Int)) ∧ (0 ≤ a2.toInt ∧ a2.toInt < ((60 : Nat) : Int))
  · obtain ⟨v1, v2⟩ := hv
    obtain ⟨a, ha, rfl⟩ := of_t v1
    obtain ⟨week, hwk, rfl⟩ := of_t v2
    obtain ⟨es, bs⟩ := hL.2.2.2.2.1 a ha
    -- counts
    have hcA : ∀ i, cnt (fun l => pB (nn w 12 l = a)) i ≤ i := fun i => cnt_le
    have hcR : ∀ i, cnt (fun l => pB (nn w 12 l = a ∧ rdP w l week)) i ≤ i := fun i => cnt_le
    have k1 : ok (lp (X11_flag_b32 (nI a) (nI week)) (nI 0, nI 0, nI 0, w)) (fun e => e.1 = nI (cnt (fun l => pB (nn w 12 l = a)) (nn w 5 8)) ∧ e.2.1 = nI (cnt (fun l => pB (nn w 12 l = a ∧ rdP w l week)) (nn w 5 8)) ∧ OPC w e.2.2) := by
      refine lp_up (fun i s => s.1 = nI (cnt (fun l => pB (nn w 12 l = a)) i) ∧ s.2.1 = nI (cnt (fun l => pB (nn w 12 l = a ∧ rdP w l week)) i) ∧ s.2.2.1 = nI i ∧ OPC w s.2.2.2) (nn w 5 8) ?_ ?_ 0 _ (Nat.zero_le _) ⟨rfl, rfl, rfl, OPC.rf h⟩
      · rintro i ⟨s1, s2, s3, v⟩ hi ⟨h1, h2, h3, h4⟩
        simp only at h1 h2 h3 h4
        subst h1 h2 h3
        obtain ⟨⟨e12, b12⟩, -⟩ := hL.2.2.2.2.2.2.1 i hi
        have f12 : v.1 12 i = nI (nn w 12 i) := by rw [(h4.1.row 12 (by decide) (by decide)).1]; exact e12
        have f58 : v.1 5 8 = nI (nn w 5 8) := by rw [(h4.1.row 5 (by decide) (by decide)).1]; exact hL.1.2.2.1.1
        have hvY := h.to h4
        have hA := hcA i
        have hR := hcR i
        unfold X11_flag_b32 X11_flag_j78 X11_flag_j81
        by_cases q : nn w 12 i = a
        · obtain ⟨v', c1, c2⟩ := canRead_e hvY (hP.sm (h4.1.sm (by decide))) (l := i) (week := week) (by rw [nn_row (h4.1.row 5 (by decide) (by decide)).1]; exact hi) hwk
          rw [rdP_y (h4.1.sm (by decide)) (h4.1.row 81 (by decide) (by decide)).1 (h4.1.row 82 (by decide) (by decide)).1 (h4.1.row 83 (by decide) (by decide)).1 (h4.1.row 12 (by decide) (by decide)).1 (h4.1 80 (by decide) 0 (by decide)).1] at c1
          have n1 : cnt (fun l => pB (nn w 12 l = a)) (i + 1) = cnt (fun l => pB (nn w 12 l = a)) i + 1 := by rw [cnt_one, if_pos (pB_t.mpr q)]
          by_cases z : rdP w i week
          · have n2 : cnt (fun l => pB (nn w 12 l = a ∧ rdP w l week)) (i + 1) = cnt (fun l => pB (nn w 12 l = a ∧ rdP w l week)) i + 1 := by rw [cnt_one, if_pos (pB_t.mpr ⟨q, z⟩)]
            rw [fg_t z] at c1
            simp (disch := omega) only [gdn, gb0, gb1, ixn, nm1, nI_add, nI_mul, nsub, nI_ltI, nI_leI, nI_eq, eqNO, eqNO2, ltNO, NOlt, leNO, NOle, if_pos, if_neg, Option.bind_some, if_true, if_false, and_self, eq_self, l0, l1, l2, l3, l4, l5, l6, l7, l8, l9, l10, l11, l12, l13, l14, l15, l16, l17, l18, l19, l20, l24, l26, l30, l31, l32, l40, l41, l42, l43, l45, l47, l48, l57, l58, l59, l60, l61, l62, l63, l64, l97, l99, l100, l101, l102, l103, l104, l105, l106, l107, l108, l109, l110, l122, l160, l240, l255, l600, l1000, l3000, l10000, l10007, l10116, l67108863, l67108864, f58, f12, q, c1]
            exact ok_i ⟨by rw [n1], by rw [n2], rfl, h4.tr c2⟩
          · have n2 : cnt (fun l => pB (nn w 12 l = a ∧ rdP w l week)) (i + 1) = cnt (fun l => pB (nn w 12 l = a ∧ rdP w l week)) i := by rw [cnt_one, if_neg (fun y => z (pB_t.mp y).2)]; rfl
            rw [fg_f z] at c1
            simp (disch := omega) only [gdn, gb0, gb1, ixn, nm1, nI_add, nI_mul, nsub, nI_ltI, nI_leI, nI_eq, eqNO, eqNO2, ltNO, NOlt, leNO, NOle, if_pos, if_neg, Option.bind_some, if_true, if_false, and_self, eq_self, l0, l1, l2, l3, l4, l5, l6, l7, l8, l9, l10, l11, l12, l13, l14, l15, l16, l17, l18, l19, l20, l24, l26, l30, l31, l32, l40, l41, l42, l43, l45, l47, l48, l57, l58, l59, l60, l61, l62, l63, l64, l97, l99, l100, l101, l102, l103, l104, l105, l106, l107, l108, l109, l110, l122, l160, l240, l255, l600, l1000, l3000, l10000, l10007, l10116, l67108863, l67108864, f58, f12, q, c1]
            exact ok_i ⟨by rw [n1], by rw [n2]; rfl, rfl, h4.tr c2⟩
        · have n1 : cnt (fun l => pB (nn w 12 l = a)) (i + 1) = cnt (fun l => pB (nn w 12 l = a)) i := by rw [cnt_one, if_neg (fun y => q (pB_t.mp y))]; rfl
          have n2 : cnt (fun l => pB (nn w 12 l = a ∧ rdP w l week)) (i + 1) = cnt (fun l => pB (nn w 12 l = a ∧ rdP w l week)) i := by rw [cnt_one, if_neg (fun y => q (pB_t.mp y).1)]; rfl
          simp (disch := omega) only [gdn, gb0, gb1, ixn, nm1, nI_add, nI_mul, nsub, nI_ltI, nI_leI, nI_eq, eqNO, eqNO2, ltNO, NOlt, leNO, NOle, if_pos, if_neg, Option.bind_some, if_true, if_false, and_self, eq_self, l0, l1, l2, l3, l4, l5, l6, l7, l8, l9, l10, l11, l12, l13, l14, l15, l16, l17, l18, l19, l20, l24, l26, l30, l31, l32, l40, l41, l42, l43, l45, l47, l48, l57, l58, l59, l60, l61, l62, l63, l64, l97, l99, l100, l101, l102, l103, l104, l105, l106, l107, l108, l109, l110, l122, l160, l240, l255, l600, l1000, l3000, l10000, l10007, l10116, l67108863, l67108864, f58, f12, q]
          exact ok_i ⟨by rw [n1], by rw [n2], rfl, h4⟩
      · rintro ⟨s1, s2, s3, v⟩ ⟨h1, h2, h3, h4⟩
        simp only at h1 h2 h3 h4
        subst h1 h2 h3
        have f58 : v.1 5 8 = nI (nn w 5 8) := by rw [(h4.1.row 5 (by decide) (by decide)).1]; exact hL.1.2.2.1.1
        unfold X11_flag_b32
        simp (disch := omega) only [gdn, gb0, gb1, ixn, nm1, nI_add, nI_mul, nsub, nI_ltI, nI_leI, nI_eq, eqNO, eqNO2, ltNO, NOlt, leNO, NOle, if_pos, if_neg, Option.bind_some, if_true, if_false, and_self, eq_self, l0, l1, l2, l3, l4, l5, l6, l7, l8, l9, l10, l11, l12, l13, l14, l15, l16, l17, l18, l19, l20, l24, l26, l30, l31, l32, l40, l41, l42, l43, l45, l47, l48, l57, l58, l59, l60, l61, l62, l63, l64, l97, l99, l100, l101, l102, l103, l104, l105, l106, l107, l108, l109, l110, l122, l160, l240, l255, l600, l1000, l3000, l10000, l10007, l10116, l67108863, l67108864, f58]
        exact ok_i ⟨rfl, rfl, h4⟩
    obtain ⟨⟨x1, x2, w1⟩, c1, c2, c3, c4⟩ := k1
    simp only at c2 c3 c4
    subst c2 c3
    have hw1 := h.to c4
    have hc : stc (nn w 6 a) = 45 + 5 * nn w 6 a := rfl
    obtain ⟨w2, d1, d2, d3, d4, d5, d6, d7⟩ := standing_e hw1.2.2.2.1 hw1.2.2.2.2.1 bs hwk
    have hy1 : Sm sR_Y sF_Y w w1 := c4.1.sm (by decide)
    have hy2 : Sm sR_Y sF_Y w1 w2 := d2.sm (by omega) (by omega) (by decide) (by decide)
    have f6 : w1.1 6 a = nI (nn w 6 a) := by rw [(c4.1.row 6 (by decide) (by decide)).1]; exact es
    have e10 := d7.2.2.2.2
    rw [RS_y hy1, lst_y hy2, lst_y hy1] at e10
    have c4' : OPC w w2 := c4.tr (opc_stand hw1 bs d2 d4)
    have hlt : lst w (RS w (nn w 6 a) week) 106 100 (RS w (nn w 6 a) week).length < 101 := lst_le (by omega) (fun j hj => ((okRl_tl h.2.2.2.1 (p := inF w (nn w 6 a) week)).at h.2.2.2.1 hj).2.2.2.2.2.2.1.2) _ (Nat.le_refl _)
    have hA := hcA (nn w 5 8)
    have hR := hcR (nn w 5 8)
    -- the model
    have k2 : ok (lp (X12_flag_b29 (nI a) (nI week)) (nI 0, nI 0, nI 0, puI w2 0 10 (nI 0))) (fun e => e.1 = nI (cnt (fun l => pB (nn w 12 l = a)) (nn w 5 8)) ∧ e.2.1 = nI (cnt (fun l => pB (nn w 12 l = a ∧ rdP w l week)) (nn w 5 8)) ∧ Fr sS_M sF_M (puI w2 0 10 (nI 0)) e.2.2) := by
      refine lp_up (fun i s => s.1 = nI (cnt (fun l => pB (nn w 12 l = a)) i) ∧ s.2.1 = nI (cnt (fun l => pB (nn w 12 l = a ∧ rdP w l week)) i) ∧ s.2.2.1 = nI i ∧ Fr sS_M sF_M (puI w2 0 10 (nI 0)) s.2.2.2) (nn w 5 8) ?_ ?_ 0 _ (Nat.zero_le _) ⟨rfl, rfl, rfl, Fr.rf⟩
      · rintro i ⟨s1, s2, s3, v⟩ hi ⟨h1, h2, h3, h4⟩
        simp only at h1 h2 h3 h4
        subst h1 h2 h3
        have fv : Fr (sS_Z ++ sS_M) (sF_Z ++ sF_M) w v := ((fr_ans (x := nI 0) c4').wk (by decide) (by decide)).next h4 (by decide) (by decide)
        obtain ⟨⟨e12, b12⟩, -⟩ := hL.2.2.2.2.2.2.1 i hi
        have f108 : v.1 108 i = nI (nn w 12 i) := by rw [(fv.row 108 (by decide) (by decide)).1, hL.2.2.2.1.1]; exact e12
        have f976 : v.1 97 6 = nI (nn w 5 8) := by rw [(fv 97 (by decide) 6 (by decide)).1]; exact e6
        have hA := hcA i
        have hR := hcR i
        unfold X12_flag_b29 X12_flag_j72 X12_flag_j75
        by_cases q : nn w 12 i = a
        · obtain ⟨v', c1, c2⟩ := doesRead_e h hP hi hwk fv (by decide) (by decide) (by decide) (by decide)
          have n1 : cnt (fun l => pB (nn w 12 l = a)) (i + 1) = cnt (fun l => pB (nn w 12 l = a)) i + 1 := by rw [cnt_one, if_pos (pB_t.mpr q)]
          by_cases z : rdP w i week
          · have n2 : cnt (fun l => pB (nn w 12 l = a ∧ rdP w l week)) (i + 1) = cnt (fun l => pB (nn w 12 l = a ∧ rdP w l week)) i + 1 := by rw [cnt_one, if_pos (pB_t.mpr ⟨q, z⟩)]
            rw [fg_t z] at c1
            simp (disch := omega) only [gdn, gb0, gb1, ixn, nm1, nI_add, nI_mul, nsub, nI_ltI, nI_leI, nI_eq, eqNO, eqNO2, ltNO, NOlt, leNO, NOle, if_pos, if_neg, Option.bind_some, if_true, if_false, and_self, eq_self, l0, l1, l2, l3, l4, l5, l6, l7, l8, l9, l10, l11, l12, l13, l14, l15, l16, l17, l18, l19, l20, l24, l26, l30, l31, l32, l40, l41, l42, l43, l45, l47, l48, l57, l58, l59, l60, l61, l62, l63, l64, l97, l99, l100, l101, l102, l103, l104, l105, l106, l107, l108, l109, l110, l122, l160, l240, l255, l600, l1000, l3000, l10000, l10007, l10116, l67108863, l67108864, f976, f108, q, c1]
            exact ok_i ⟨by rw [n1], by rw [n2], rfl, h4.tr c2⟩
          · have n2 : cnt (fun l => pB (nn w 12 l = a ∧ rdP w l week)) (i + 1) = cnt (fun l => pB (nn w 12 l = a ∧ rdP w l week)) i := by rw [cnt_one, if_neg (fun y => z (pB_t.mp y).2)]; rfl
            rw [fg_f z] at c1
            simp (disch := omega) only [gdn, gb0, gb1, ixn, nm1, nI_add, nI_mul, nsub, nI_ltI, nI_leI, nI_eq, eqNO, eqNO2, ltNO, NOlt, leNO, NOle, if_pos, if_neg, Option.bind_some, if_true, if_false, and_self, eq_self, l0, l1, l2, l3, l4, l5, l6, l7, l8, l9, l10, l11, l12, l13, l14, l15, l16, l17, l18, l19, l20, l24, l26, l30, l31, l32, l40, l41, l42, l43, l45, l47, l48, l57, l58, l59, l60, l61, l62, l63, l64, l97, l99, l100, l101, l102, l103, l104, l105, l106, l107, l108, l109, l110, l122, l160, l240, l255, l600, l1000, l3000, l10000, l10007, l10116, l67108863, l67108864, f976, f108, q, c1]
            exact ok_i ⟨by rw [n1], by rw [n2]; rfl, rfl, h4.tr c2⟩
        · have n1 : cnt (fun l => pB (nn w 12 l = a)) (i + 1) = cnt (fun l => pB (nn w 12 l = a)) i := by rw [cnt_one, if_neg (fun y => q (pB_t.mp y))]; rfl
          have n2 : cnt (fun l => pB (nn w 12 l = a ∧ rdP w l week)) (i + 1) = cnt (fun l => pB (nn w 12 l = a ∧ rdP w l week)) i := by rw [cnt_one, if_neg (fun y => q (pB_t.mp y).1)]; rfl
          simp (disch := omega) only [gdn, gb0, gb1, ixn, nm1, nI_add, nI_mul, nsub, nI_ltI, nI_leI, nI_eq, eqNO, eqNO2, ltNO, NOlt, leNO, NOle, if_pos, if_neg, Option.bind_some, if_true, if_false, and_self, eq_self, l0, l1, l2, l3, l4, l5, l6, l7, l8, l9, l10, l11, l12, l13, l14, l15, l16, l17, l18, l19, l20, l24, l26, l30, l31, l32, l40, l41, l42, l43, l45, l47, l48, l57, l58, l59, l60, l61, l62, l63, l64, l97, l99, l100, l101, l102, l103, l104, l105, l106, l107, l108, l109, l110, l122, l160, l240, l255, l600, l1000, l3000, l10000, l10007, l10116, l67108863, l67108864, f976, f108, q]
          exact ok_i ⟨by rw [n1], by rw [n2], rfl, h4⟩
      · rintro ⟨s1, s2, s3, v⟩ ⟨h1, h2, h3, h4⟩
        simp only at h1 h2 h3 h4
        subst h1 h2 h3
        have fv : Fr (sS_Z ++ sS_M) (sF_Z ++ sF_M) w v := ((fr_ans (x := nI 0) c4').wk (by decide) (by decide)).next h4 (by decide) (by decide)
        have f976 : v.1 97 6 = nI (nn w 5 8) := by rw [(fv 97 (by decide) 6 (by decide)).1]; exact e6
        unfold X12_flag_b29
        simp (disch := omega) only [gdn, gb0, gb1, ixn, nm1, nI_add, nI_mul, nsub, nI_ltI, nI_leI, nI_eq, eqNO, eqNO2, ltNO, NOlt, leNO, NOle, if_pos, if_neg, Option.bind_some, if_true, if_false, and_self, eq_self, l0, l1, l2, l3, l4, l5, l6, l7, l8, l9, l10, l11, l12, l13, l14, l15, l16, l17, l18, l19, l20, l24, l26, l30, l31, l32, l40, l41, l42, l43, l45, l47, l48, l57, l58, l59, l60, l61, l62, l63, l64, l97, l99, l100, l101, l102, l103, l104, l105, l106, l107, l108, l109, l110, l122, l160, l240, l255, l600, l1000, l3000, l10000, l10007, l10116, l67108863, l67108864, f976]
        exact ok_i ⟨rfl, rfl, h4⟩
    obtain ⟨⟨y1, y2, v1⟩, m1, m2, m3, m4⟩ := k2
    simp only at m2 m3 m4
    subst m2 m3
    have fv : Fr (sS_Z ++ sS_M) (sF_Z ++ sF_M) w v1 := ((fr_ans (x := nI 0) c4').wk (by decide) (by decide)).next m4 (by decide) (by decide)
    have hyv : Sm sR_Y sF_Y w v1 := fv.sm (by decide)
    have hBv : IBo v1 := h.2.2.2.1.sm (fv.sm (by decide))
    obtain ⟨v2, n1, n2, n3⟩ := stand_e hBv (s := nn w 6 a) (week := week) bs hwk
    rw [RS_y hyv] at n3
    have hRk : okRl v1 (RS w (nn w 6 a) week) := by
      have := okRl_tl hBv (p := inF v1 (nn w 6 a) week)
      rw [show RS w (nn w 6 a) week = RS v1 (nn w 6 a) week by rw [RS_y hyv]]; exact this
    have hlo := lastOf_e hBv hRk n2 n3 (d := 106) (z := 100) (by omega) (by omega) (by omega)
    rw [show dm 106 = 5 from rfl, lst_y hyv] at hlo
    have f101 : v1.1 101 a = nI (nn w 6 a) := by rw [(fv.row 101 (by decide) (by decide)).1, hL.2.2.1.1]; exact es
    have e4 : (puI w2 0 10 (nI 0)).1 97 4 = nI (nn w 5 0) := by rw [((fr_ans (x := nI 0) c4').row 97 (by decide) (by decide)).1, hL.2.1.1]; exact hL.1.1.1
    generalize hAe : cnt (fun l => pB (nn w 12 l = a)) (nn w 5 8) = A at *
    generalize hRe : cnt (fun l => pB (nn w 12 l = a ∧ rdP w l week)) (nn w 5 8) = R at *
    generalize hFe : lst w (RS w (nn w 6 a) week) 106 100 (RS w (nn w 6 a) week).length = F at *
    have hFA : F * A ≤ 100 * 40 := Nat.mul_le_mul (by omega) (by omega)
    have ec : R * 100 = 100 * R := Nat.mul_comm _ _
    refine two_y (r := fg (0 < A ∧ F * A ≤ 100 * R)) (x := nI 0) h c4' ?_ ⟨v2, ?_, m4.next (n2 : Fr [144, 145, 146] [(97, 70)] v1 v2) (by decide) (by decide)⟩
    · have hx : X11_flag (nI a) (nI week) w = if A ≤ 0 then some (nI 0, puI w2 0 10 (nI 0)) else if R * 100 < F * A then some (nI 0, puI w2 0 10 (nI 0)) else some (nI 1, puI w2 0 10 (nI 0)) := by
        unfold X11_flag X11_flag_j130 X11_flag_j131
        simp (disch := omega) only [gdn, gb0, gb1, ixn, nm1, nI_add, nI_mul, nsub, nI_ltI, nI_leI, nI_eq, eqNO, eqNO2, ltNO, NOlt, leNO, NOle, if_pos, if_neg, Option.bind_some, if_true, if_false, and_self, eq_self, l0, l1, l2, l3, l4, l5, l6, l7, l8, l9, l10, l11, l12, l13, l14, l15, l16, l17, l18, l19, l20, l24, l26, l30, l31, l32, l40, l41, l42, l43, l45, l47, l48, l57, l58, l59, l60, l61, l62, l63, l64, l97, l99, l100, l101, l102, l103, l104, l105, l106, l107, l108, l109, l110, l122, l160, l240, l255, l600, l1000, l3000, l10000, l10007, l10116, l67108863, l67108864, I_oth, I_J, J_oth, J_I, I_row, J_row, SI_row, SI_oth, SI_J, SJ_row, SJ_oth, SJ_I, upd_s, upd_n, updL_s, updL_n, ne_eq, not_false_eq_true, lt_t, le_t, tI, NO_t, flag0, flag1, ite_or2, ite_self, true_or, or_true, false_or, or_false, true_and, and_true, false_and, and_false, not_true_eq_false, place_e hL, week_e, c1, f6, d1, gd_t bs, e10, ansW_e]
        simp only [Int.ofNat_le, Int.ofNat_lt]
      rw [hx]
      by_cases z1 : A ≤ 0
      · rw [if_pos z1, fg_f (fun y => by omega)]
      · rw [if_neg z1]
        by_cases z2 : R * 100 < F * A
        · rw [if_pos z2, fg_f (fun y => by omega)]
        · rw [if_neg z2, fg_t ⟨by omega, by omega⟩]
    · have hx : X12_flag (nI a) (nI week) (puI w2 0 10 (nI 0)) = if A ≤ 0 then some (nI 0, puI v2 97 0 (nI 0)) else if 100 * R < F * A then some (nI 0, puI v2 97 0 (nI 0)) else some (nI 1, puI v2 97 0 (nI 0)) := by
        unfold X12_flag X12_flag_j118 X12_flag_j119
        rw [mpl _ e4 (by omega), mweek_e]
        simp (disch := omega) only [gdn, gb0, gb1, ixn, nm1, nI_add, nI_mul, nsub, nI_ltI, nI_leI, nI_eq, eqNO, eqNO2, ltNO, NOlt, leNO, NOle, if_pos, if_neg, Option.bind_some, if_true, if_false, and_self, eq_self, l0, l1, l2, l3, l4, l5, l6, l7, l8, l9, l10, l11, l12, l13, l14, l15, l16, l17, l18, l19, l20, l24, l26, l30, l31, l32, l40, l41, l42, l43, l45, l47, l48, l57, l58, l59, l60, l61, l62, l63, l64, l97, l99, l100, l101, l102, l103, l104, l105, l106, l107, l108, l109, l110, l122, l160, l240, l255, l600, l1000, l3000, l10000, l10007, l10116, l67108863, l67108864, I_oth, I_J, J_oth, J_I, I_row, J_row, SI_row, SI_oth, SI_J, SJ_row, SJ_oth, SJ_I, upd_s, upd_n, updL_s, updL_n, ne_eq, not_false_eq_true, lt_t, le_t, tI, NO_t, flag0, flag1, ite_or2, ite_self, true_or, or_true, false_or, or_false, true_and, and_true, false_and, and_false, not_true_eq_false, m1, f101, n1, hlo, mgiv_e]
        simp only [Int.ofNat_le, Int.ofNat_lt]
      rw [hx]
      by_cases z1 : A ≤ 0
      · rw [if_pos z1, fg_f (fun y => by omega)]
      · rw [if_neg z1]
        by_cases z2 : 100 * R < F * A
        · rw [if_pos z2, fg_f (fun y => by omega)]
        · rw [if_neg z2, fg_t ⟨by omega, by omega⟩]
  · refine two_ref (nI 1) (r := NO) ?_ ?_ (fun w' z => OPY.st h z)
    · unfold X11_flag X11_flag_j18
      simp (disch := omega) only [gdn, gb0, gb1, ixn, nm1, nI_add, nI_mul, nsub, nI_ltI, nI_leI, nI_eq, eqNO, eqNO2, ltNO, NOlt, leNO, NOle, if_pos, if_neg, Option.bind_some, if_true, if_false, and_self, eq_self, l0, l1, l2, l3, l4, l5, l6, l7, l8, l9, l10, l11, l12, l13, l14, l15, l16, l17, l18, l19, l20, l24, l26, l30, l31, l32, l40, l41, l42, l43, l45, l47, l48, l57, l58, l59, l60, l61, l62, l63, l64, l97, l99, l100, l101, l102, l103, l104, l105, l106, l107, l108, l109, l110, l122, l160, l240, l255, l600, l1000, l3000, l10000, l10007, l10116, l67108863, l67108864, I_oth, I_J, J_oth, J_I, I_row, J_row, SI_row, SI_oth, SI_J, SJ_row, SJ_oth, SJ_I, upd_s, upd_n, updL_s, updL_n, ne_eq, not_false_eq_true, lt_t, le_t, tI, NO_t, flag0, flag1, ite_or2, ite_self, true_or, or_true, false_or, or_false, true_and, and_true, false_and, and_false, not_true_eq_false, place_e hL, week_e, deny_e]
    · unfold X12_flag X12_flag_j15
      have e4 : (puI w 0 10 (nI 1)).1 97 4 = nI (nn w 5 0) := by rw [I_oth (by decide), hL.2.1.1]; exact hL.1.1.1
      rw [mpl _ e4 (by omega), mweek_e]
      simp (disch := omega) only [gdn, gb0, gb1, ixn, nm1, nI_add, nI_mul, nsub, nI_ltI, nI_leI, nI_eq, eqNO, eqNO2, ltNO, NOlt, leNO, NOle, if_pos, if_neg, Option.bind_some, if_true, if_false, and_self, eq_self, l0, l1, l2, l3, l4, l5, l6, l7, l8, l9, l10, l11, l12, l13, l14, l15, l16, l17, l18, l19, l20, l24, l26, l30, l31, l32, l40, l41, l42, l43, l45, l47, l48, l57, l58, l59, l60, l61, l62, l63, l64, l97, l99, l100, l101, l102, l103, l104, l105, l106, l107, l108, l109, l110, l122, l160, l240, l255, l600, l1000, l3000, l10000, l10007, l10116, l67108863, l67108864, I_oth, I_J, J_oth, J_I, I_row, J_row, SI_row, SI_oth, SI_J, SJ_row, SJ_oth, SJ_I, upd_s, upd_n, updL_s, updL_n, ne_eq, not_false_eq_true, lt_t, le_t, tI, NO_t, flag0, flag1, ite_or2, ite_self, true_or, or_true, false_or, or_false, true_and, and_true, false_and, and_false, not_true_eq_false, mref_e]
