section
variable {T U : Nat → Nat} {m n : Nat} {w : Wd}
noncomputable def wkM (w : Wd) (G : Nat → Nat) (c : Nat) : Wd := puI (seI w 166 (rwS 0 c G (w.1 166))) 97 98 (nI c)
theorem mslip_e {G : Nat → Nat} {c : Nat} (hc : c < 16) : X12_slips0 (nI (G c)) (wkM w G c) = some (wkM w G (c + 1)) := by
  have r : (wkM w G c).1 97 98 = nI c := rfl
  have r' : ∀ v, (puI (wkM w G c) 166 c v).1 97 98 = nI c := fun v => rfl
  unfold X12_slips0
  simp (disch := omega) only [gdn, gb0, gb1, ixn, nm1, nI_add, nI_mul, nsub, nI_ltI, nI_leI, nI_eq, eqNO, eqNO2, ltNO, NOlt, leNO, NOle, if_pos, if_neg, Option.bind_some, if_true, if_false, and_self, eq_self, l0, l1, l2, l3, l4, l5, l6, l7, l8, l9, l10, l11, l12, l13, l14, l15, l16, l17, l18, l19, l20, l24, l26, l30, l31, l32, l40, l41, l42, l43, l45, l47, l48, l57, l58, l59, l60, l61, l62, l63, l64, l97, l99, l100, l101, l102, l103, l104, l105, l106, l107, l108, l109, l110, l122, l160, l240, l255, l600, l1000, l3000, l10000, l10007, l10116, l67108863, l67108864, r, r']
  congr 1
  unfold wkM
  rw [pp2 (by decide)]
  have := rwS_app (a := 0) (n := c) (v := G c) (A := G) (z := w.1 166) rfl
  rw [Nat.zero_add] at this
  rw [this]
theorem mwalk_e (hm : m ≤ 8) (hn : n ≤ 8) (h96 : w.1 97 96 = nI m) (h97 : w.1 97 97 = nI n) (hT : ∀ i, i < m → w.1 163 i = nI (T i) ∧ T i < 32) (hU : ∀ j, j < n → w.1 164 j = nI (U j) ∧ U j < 32) (ht : tabOk T U m n (w.1 165) (fun _ _ => True)) : lp X12_spellOut_b211 (nI 0, nI 0, puI w 97 98 (nI 0)) = some (wkM w (fun k => (pth T U m n 16 0 0).getD k 0) (Fw T U m n 0 0)) := by
  have hF8 := Fw_le (T := T) (U := U) (m := m) (n := n) 0 0
  generalize hG : (fun k => (pth T U m n 16 0 0).getD k 0) = G
  generalize htot : Fw T U m n 0 0 = tot at hF8
  have hw0 : puI w 97 98 (nI 0) = wkM w G 0 := by
    unfold wkM
    rw [show rwS 0 0 G (w.1 166) = w.1 166 from rwS_id (fun k hk => by omega), seI_same rfl]
  have key := lp_up (b := X12_spellOut_b211) (Q := fun e => e = wkM w G tot) (fun k s => ∃ (i j c f : Nat), s = (nI i, nI j, wkM w G c) ∧ i ≤ m ∧ j ≤ n ∧ k ≤ i + j ∧ m - i + (n - j) ≤ f ∧ c + Fw T U m n i j = tot ∧ ∀ x, (pth T U m n f i j).getD x 0 = G (c + x)) 16 ?_ ?_ 0 (nI 0, nI 0, puI w 97 98 (nI 0)) (Nat.zero_le _) ⟨0, 0, 0, 16, by rw [← hw0], by omega, by omega, by omega, by omega, by omega, fun x => by rw [← hG, Nat.zero_add]⟩
  · obtain ⟨e, he, hq⟩ := key
    rw [he, hq]
  · rintro k s hk ⟨i, j, c, f, rfl, hi, hj, hkij, hf, hc, hp⟩
    have r96 : (wkM w G c).1 97 96 = nI m := h96
    have r97 : (wkM w G c).1 97 97 = nI n := h97
    have fa : ∀ a b, a ≤ m → b ≤ n → (wkM w G c).1 165 (9 * a + b) = nI (Fw T U m n a b) := fun a b ha hb => ht a b ha hb trivial
    have fle : ∀ a b, Fw T U m n a b ≤ 8 := fun a b => Nat.le_trans (Fw_le a b) (by omega)
    have hF1 := fle i j
    have hF2 := fle (i + 1) (j + 1)
    have hF3 := fle (i + 1) j
    by_cases hgo : i < m ∨ j < n
    · obtain ⟨f, rfl⟩ : ∃ f', f = f' + 1 := ⟨f - 1, by omega⟩
      have hb8 : X12_spellOut_b211 (nI i, nI j, wkM w G c) = X12_spellOut_j227 (nI i) (nI j) (wkM w G c) := by
        unfold X12_spellOut_b211
        by_cases z : i < m
        · simp (disch := omega) only [gdn, gb0, gb1, ixn, nm1, nI_add, nI_mul, nsub, nI_ltI, nI_leI, nI_eq, eqNO, eqNO2, ltNO, NOlt, leNO, NOle, if_pos, if_neg, Option.bind_some, if_true, if_false, and_self, eq_self, l0, l1, l2, l3, l4, l5, l6, l7, l8, l9, l10, l11, l12, l13, l14, l15, l16, l17, l18, l19, l20, l24, l26, l30, l31, l32, l40, l41, l42, l43, l45, l47, l48, l57, l58, l59, l60, l61, l62, l63, l64, l97, l99, l100, l101, l102, l103, l104, l105, l106, l107, l108, l109, l110, l122, l160, l240, l255, l600, l1000, l3000, l10000, l10007, l10116, l67108863, l67108864, r96, r97]
        · simp (disch := omega) only [gdn, gb0, gb1, ixn, nm1, nI_add, nI_mul, nsub, nI_ltI, nI_leI, nI_eq, eqNO, eqNO2, ltNO, NOlt, leNO, NOle, if_pos, if_neg, Option.bind_some, if_true, if_false, and_self, eq_self, l0, l1, l2, l3, l4, l5, l6, l7, l8, l9, l10, l11, l12, l13, l14, l15, l16, l17, l18, l19, l20, l24, l26, l30, l31, l32, l40, l41, l42, l43, l45, l47, l48, l57, l58, l59, l60, l61, l62, l63, l64, l97, l99, l100, l101, l102, l103, l104, l105, l106, l107, l108, l109, l110, l122, l160, l240, l255, l600, l1000, l3000, l10000, l10007, l10116, l67108863, l67108864, r96, r97]
      have hpx := hp
      unfold pth at hpx
      rw [if_pos hgo] at hpx
      have f1 := fa i j hi hj
      by_cases h1 : i < m ∧ j < n ∧ Fw T U m n i j = slN T U i j + Fw T U m n (i + 1) (j + 1)
      · rw [if_pos h1] at hpx
        obtain ⟨him, hjn, hFe⟩ := h1
        have f2 : (wkM w G c).1 165 (9 * (i + 1) + j + 1) = nI (Fw T U m n (i + 1) (j + 1)) := fa (i + 1) (j + 1) (by omega) (by omega)
        obtain ⟨eT, bT⟩ := hT i him
        obtain ⟨eU, bU⟩ := hU j hjn
        have rT : (wkM w G c).1 163 i = nI (T i) := eT
        have hsl := mpairs_e (w := wkM w G c) (T := T) (U := U) (i := i) (j := j) (by omega) (by omega) eT bT eU bU
        have lsl := sl_le (T := T) (U := U) i j
        by_cases h2 : slN T U i j = 1
        · rw [if_pos h2] at hpx
          have hx : G c = T i := by have := hpx 0; rw [Nat.add_zero] at this; exact this.symm
          have hs := mslip_e (w := w) (G := G) (c := c) (by omega)
          rw [hx] at hs
          refine ⟨.inl (nI (i + 1), nI (j + 1), wkM w G (c + 1)), ?_, i + 1, j + 1, c + 1, f, rfl, by omega, by omega, by omega, by omega, by omega, fun x => ?_⟩
          · rw [hb8]
            unfold X12_spellOut_j227 X12_spellOut_j303 X12_spellOut_j369
            simp (disch := omega) only [gdn, gb0, gb1, ixn, nm1, nI_add, nI_mul, nsub, nI_ltI, nI_leI, nI_eq, eqNO, eqNO2, ltNO, NOlt, leNO, NOle, if_pos, if_neg, Option.bind_some, if_true, if_false, and_self, eq_self, l0, l1, l2, l3, l4, l5, l6, l7, l8, l9, l10, l11, l12, l13, l14, l15, l16, l17, l18, l19, l20, l24, l26, l30, l31, l32, l40, l41, l42, l43, l45, l47, l48, l57, l58, l59, l60, l61, l62, l63, l64, l97, l99, l100, l101, l102, l103, l104, l105, l106, l107, l108, l109, l110, l122, l160, l240, l255, l600, l1000, l3000, l10000, l10007, l10116, l67108863, l67108864, r96, r97, f1, hsl, f2, rT, hs]
          · have := hpx (x + 1)
            rw [show c + 1 + x = c + (x + 1) by omega]
            exact this
        · rw [if_neg h2] at hpx
          refine ⟨.inl (nI (i + 1), nI (j + 1), wkM w G c), ?_, i + 1, j + 1, c, f, rfl, by omega, by omega, by omega, by omega, by omega, hpx⟩
          rw [hb8]
          unfold X12_spellOut_j227 X12_spellOut_j303 X12_spellOut_j369
          simp (disch := omega) only [gdn, gb0, gb1, ixn, nm1, nI_add, nI_mul, nsub, nI_ltI, nI_leI, nI_eq, eqNO, eqNO2, ltNO, NOlt, leNO, NOle, if_pos, if_neg, Option.bind_some, if_true, if_false, and_self, eq_self, l0, l1, l2, l3, l4, l5, l6, l7, l8, l9, l10, l11, l12, l13, l14, l15, l16, l17, l18, l19, l20, l24, l26, l30, l31, l32, l40, l41, l42, l43, l45, l47, l48, l57, l58, l59, l60, l61, l62, l63, l64, l97, l99, l100, l101, l102, l103, l104, l105, l106, l107, l108, l109, l110, l122, l160, l240, l255, l600, l1000, l3000, l10000, l10007, l10116, l67108863, l67108864, r96, r97, f1, hsl, f2]
      · rw [if_neg h1] at hpx
        have hj312 : X12_spellOut_b211 (nI i, nI j, wkM w G c) = X12_spellOut_j312 (nI i) (nI j) (nI (Fw T U m n i j)) (wkM w G c) := by
          rw [hb8]
          unfold X12_spellOut_j227
          by_cases him : i < m
          · by_cases hjn : j < n
            · have f2 : (wkM w G c).1 165 (9 * (i + 1) + j + 1) = nI (Fw T U m n (i + 1) (j + 1)) := fa (i + 1) (j + 1) (by omega) (by omega)
              obtain ⟨eT, bT⟩ := hT i him
              obtain ⟨eU, bU⟩ := hU j hjn
              have hsl := mpairs_e (w := wkM w G c) (T := T) (U := U) (i := i) (j := j) (by omega) (by omega) eT bT eU bU
              have lsl := sl_le (T := T) (U := U) i j
              have hne : ¬ Fw T U m n i j = slN T U i j + Fw T U m n (i + 1) (j + 1) := fun z => h1 ⟨him, hjn, z⟩
              simp (disch := omega) only [gdn, gb0, gb1, ixn, nm1, nI_add, nI_mul, nsub, nI_ltI, nI_leI, nI_eq, eqNO, eqNO2, ltNO, NOlt, leNO, NOle, if_pos, if_neg, Option.bind_some, if_true, if_false, and_self, eq_self, l0, l1, l2, l3, l4, l5, l6, l7, l8, l9, l10, l11, l12, l13, l14, l15, l16, l17, l18, l19, l20, l24, l26, l30, l31, l32, l40, l41, l42, l43, l45, l47, l48, l57, l58, l59, l60, l61, l62, l63, l64, l97, l99, l100, l101, l102, l103, l104, l105, l106, l107, l108, l109, l110, l122, l160, l240, l255, l600, l1000, l3000, l10000, l10007, l10116, l67108863, l67108864, r96, r97, f1, hsl, f2]
            · simp (disch := omega) only [gdn, gb0, gb1, ixn, nm1, nI_add, nI_mul, nsub, nI_ltI, nI_leI, nI_eq, eqNO, eqNO2, ltNO, NOlt, leNO, NOle, if_pos, if_neg, Option.bind_some, if_true, if_false, and_self, eq_self, l0, l1, l2, l3, l4, l5, l6, l7, l8, l9, l10, l11, l12, l13, l14, l15, l16, l17, l18, l19, l20, l24, l26, l30, l31, l32, l40, l41, l42, l43, l45, l47, l48, l57, l58, l59, l60, l61, l62, l63, l64, l97, l99, l100, l101, l102, l103, l104, l105, l106, l107, l108, l109, l110, l122, l160, l240, l255, l600, l1000, l3000, l10000, l10007, l10116, l67108863, l67108864, r96, r97, f1]
          · simp (disch := omega) only [gdn, gb0, gb1, ixn, nm1, nI_add, nI_mul, nsub, nI_ltI, nI_leI, nI_eq, eqNO, eqNO2, ltNO, NOlt, leNO, NOle, if_pos, if_neg, Option.bind_some, if_true, if_false, and_self, eq_self, l0, l1, l2, l3, l4, l5, l6, l7, l8, l9, l10, l11, l12, l13, l14, l15, l16, l17, l18, l19, l20, l24, l26, l30, l31, l32, l40, l41, l42, l43, l45, l47, l48, l57, l58, l59, l60, l61, l62, l63, l64, l97, l99, l100, l101, l102, l103, l104, l105, l106, l107, l108, l109, l110, l122, l160, l240, l255, l600, l1000, l3000, l10000, l10007, l10116, l67108863, l67108864, r96, r97, f1]
        by_cases h2 : i < m ∧ Fw T U m n i j = 1 + Fw T U m n (i + 1) j
        · rw [if_pos h2] at hpx
          obtain ⟨him, hFe⟩ := h2
          have f3 := fa (i + 1) j (by omega) hj
          obtain ⟨eT, bT⟩ := hT i him
          have rT : (wkM w G c).1 163 i = nI (T i) := eT
          have hx : G c = T i := by have := hpx 0; rw [Nat.add_zero] at this; exact this.symm
          have hs := mslip_e (w := w) (G := G) (c := c) (by omega)
          rw [hx] at hs
          refine ⟨.inl (nI (i + 1), nI j, wkM w G (c + 1)), ?_, i + 1, j, c + 1, f, rfl, by omega, by omega, by omega, by omega, by omega, fun x => ?_⟩
          · rw [hj312]
            unfold X12_spellOut_j312 X12_spellOut_j369
            simp (disch := omega) only [gdn, gb0, gb1, ixn, nm1, nI_add, nI_mul, nsub, nI_ltI, nI_leI, nI_eq, eqNO, eqNO2, ltNO, NOlt, leNO, NOle, if_pos, if_neg, Option.bind_some, if_true, if_false, and_self, eq_self, l0, l1, l2, l3, l4, l5, l6, l7, l8, l9, l10, l11, l12, l13, l14, l15, l16, l17, l18, l19, l20, l24, l26, l30, l31, l32, l40, l41, l42, l43, l45, l47, l48, l57, l58, l59, l60, l61, l62, l63, l64, l97, l99, l100, l101, l102, l103, l104, l105, l106, l107, l108, l109, l110, l122, l160, l240, l255, l600, l1000, l3000, l10000, l10007, l10116, l67108863, l67108864, r96, f3, rT, hs]
          · have := hpx (x + 1)
            rw [show c + 1 + x = c + (x + 1) by omega]
            exact this
        · rw [if_neg h2] at hpx
          have hjn := third hi hj hgo h2
          obtain ⟨eU, bU⟩ := hU j hjn
          have rU : (wkM w G c).1 164 j = nI (U j) := eU
          have hx : G c = U j := by have := hpx 0; rw [Nat.add_zero] at this; exact this.symm
          have hFj : Fw T U m n i j = 1 + Fw T U m n i (j + 1) := by
            by_cases him : i < m
            · have h3 := Fw_in (T := T) (U := U) him hjn
              have h4 : Fw T U m n i j ≠ slN T U i j + Fw T U m n (i + 1) (j + 1) := fun z => h1 ⟨him, hjn, z⟩
              have h5 : Fw T U m n i j ≠ 1 + Fw T U m n (i + 1) j := fun z => h2 ⟨him, z⟩
              omega
            · rw [Fw_end hi hj (Or.inl (by omega)), Fw_end hi (by omega) (Or.inl (by omega))]; omega
          have hs := mslip_e (w := w) (G := G) (c := c) (by omega)
          rw [hx] at hs
          refine ⟨.inl (nI i, nI (j + 1), wkM w G (c + 1)), ?_, i, j + 1, c + 1, f, rfl, by omega, by omega, by omega, by omega, by omega, fun x => ?_⟩
          · rw [hj312]
            unfold X12_spellOut_j312 X12_spellOut_j356 X12_spellOut_j369
            by_cases him : i < m
            · have f3 := fa (i + 1) j (by omega) hj
              have hne : ¬ Fw T U m n i j = 1 + Fw T U m n (i + 1) j := fun z => h2 ⟨him, z⟩
              simp (disch := omega) only [gdn, gb0, gb1, ixn, nm1, nI_add, nI_mul, nsub, nI_ltI, nI_leI, nI_eq, eqNO, eqNO2, ltNO, NOlt, leNO, NOle, if_pos, if_neg, Option.bind_some, if_true, if_false, and_self, eq_self, l0, l1, l2, l3, l4, l5, l6, l7, l8, l9, l10, l11, l12, l13, l14, l15, l16, l17, l18, l19, l20, l24, l26, l30, l31, l32, l40, l41, l42, l43, l45, l47, l48, l57, l58, l59, l60, l61, l62, l63, l64, l97, l99, l100, l101, l102, l103, l104, l105, l106, l107, l108, l109, l110, l122, l160, l240, l255, l600, l1000, l3000, l10000, l10007, l10116, l67108863, l67108864, r96, f3, rU, hs]
            · simp (disch := omega) only [gdn, gb0, gb1, ixn, nm1, nI_add, nI_mul, nsub, nI_ltI, nI_leI, nI_eq, eqNO, eqNO2, ltNO, NOlt, leNO, NOle, if_pos, if_neg, Option.bind_some, if_true, if_false, and_self, eq_self, l0, l1, l2, l3, l4, l5, l6, l7, l8, l9, l10, l11, l12, l13, l14, l15, l16, l17, l18, l19, l20, l24, l26, l30, l31, l32, l40, l41, l42, l43, l45, l47, l48, l57, l58, l59, l60, l61, l62, l63, l64, l97, l99, l100, l101, l102, l103, l104, l105, l106, l107, l108, l109, l110, l122, l160, l240, l255, l600, l1000, l3000, l10000, l10007, l10116, l67108863, l67108864, r96, rU, hs]
          · have := hpx (x + 1)
            rw [show c + 1 + x = c + (x + 1) by omega]
            exact this
    · have e0 : Fw T U m n i j = 0 := by rw [Fw_end hi hj (Or.inl (by omega))]; omega
      refine ⟨.inr (wkM w G c), ?_, ?_⟩
      · unfold X12_spellOut_b211
        simp (disch := omega) only [gdn, gb0, gb1, ixn, nm1, nI_add, nI_mul, nsub, nI_ltI, nI_leI, nI_eq, eqNO, eqNO2, ltNO, NOlt, leNO, NOle, if_pos, if_neg, Option.bind_some, if_true, if_false, and_self, eq_self, l0, l1, l2, l3, l4, l5, l6, l7, l8, l9, l10, l11, l12, l13, l14, l15, l16, l17, l18, l19, l20, l24, l26, l30, l31, l32, l40, l41, l42, l43, l45, l47, l48, l57, l58, l59, l60, l61, l62, l63, l64, l97, l99, l100, l101, l102, l103, l104, l105, l106, l107, l108, l109, l110, l122, l160, l240, l255, l600, l1000, l3000, l10000, l10007, l10116, l67108863, l67108864, r96, r97]
      · show _ = _
        rw [show c = tot by omega]
  · rintro s ⟨i, j, c, f, rfl, hi, hj, hkij, hf, hc, hp⟩
    have r96 : (wkM w G c).1 97 96 = nI m := h96
    have r97 : (wkM w G c).1 97 97 = nI n := h97
    have e0 : Fw T U m n i j = 0 := by rw [Fw_end hi hj (Or.inl (by omega))]; omega
    refine ⟨.inr (wkM w G c), ?_, ?_⟩
    · unfold X12_spellOut_b211
      simp (disch := omega) only [gdn, gb0, gb1, ixn, nm1, nI_add, nI_mul, nsub, nI_ltI, nI_leI, nI_eq, eqNO, eqNO2, ltNO, NOlt, leNO, NOle, if_pos, if_neg, Option.bind_some, if_true, if_false, and_self, eq_self, l0, l1, l2, l3, l4, l5, l6, l7, l8, l9, l10, l11, l12, l13, l14, l15, l16, l17, l18, l19, l20, l24, l26, l30, l31, l32, l40, l41, l42, l43, l45, l47, l48, l57, l58, l59, l60, l61, l62, l63, l64, l97, l99, l100, l101, l102, l103, l104, l105, l106, l107, l108, l109, l110, l122, l160, l240, l255, l600, l1000, l3000, l10000, l10007, l10116, l67108863, l67108864, r96, r97]
    · show _ = _
      rw [show c = tot by omega]
end
/-- SLIPS of two words: how many, and of which letters -/
noncomputable def slM (V U : Nat) : Nat := Fw (ltr V) (ltr U) (lW V) (lW U) 0 0
noncomputable def slL (V U k : Nat) : Nat := (pth (ltr V) (ltr U) (lW V) (lW U) 16 0 0).getD k 0
theorem slM_le {V U : Nat} (hV : okW V) (hU : okW U) : slM V U ≤ 8 := by
  have h1 := Fw_le (T := ltr V) (U := ltr U) (m := lW V) (n := lW U) 0 0
  have h2 := (lW_s hV.2.1).1
  have h3 := (lW_s hU.2.1).1
  unfold slM
  omega
theorem pth_26 {T U : Nat → Nat} {m n : Nat} (hT : ∀ i, i < m → T i < 26) (hU : ∀ j, j < n → U j < 26) : ∀ f i j, i ≤ m → j ≤ n → m - i + (n - j) ≤ f → ∀ x, (pth T U m n f i j).getD x 0 < 26
  | 0, i, j, _, _, _, x => by show (List.getD [] x 0) < 26; simp
  | f + 1, i, j, hi, hj, hf, x => by
    have cons : ∀ (a : Nat) (l : List Nat), a < 26 → (∀ x, l.getD x 0 < 26) → ∀ x, (a :: l).getD x 0 < 26 := by
      intro a l ha hl x
      cases x with
      | zero => exact ha
      | succ x => exact hl x
    unfold pth
    by_cases h : i < m ∨ j < n
    · rw [if_pos h]
      by_cases h1 : i < m ∧ j < n ∧ Fw T U m n i j = slN T U i j + Fw T U m n (i + 1) (j + 1)
      · rw [if_pos h1]
        have ih := pth_26 hT hU f (i + 1) (j + 1) (by omega) (by omega) (by omega)
        by_cases h2 : slN T U i j = 1
        · rw [if_pos h2]; exact cons _ _ (hT i h1.1) ih x
        · rw [if_neg h2]; exact ih x
      · rw [if_neg h1]
        by_cases h2 : i < m ∧ Fw T U m n i j = 1 + Fw T U m n (i + 1) j
        · rw [if_pos h2]; exact cons _ _ (hT i h2.1) (pth_26 hT hU f (i + 1) j (by omega) hj (by omega)) x
        · rw [if_neg h2]
          have hjn := third hi hj h h2
          exact cons _ _ (hU j hjn) (pth_26 hT hU f i (j + 1) hi (by omega) (by omega)) x
    · rw [if_neg h]; simp
theorem slL_26 {V U : Nat} (hV : okW V) (hU : okW U) (k : Nat) : slL V U k < 26 := by
  have h2 := (lW_s hV.2.1).1
  have h3 := (lW_s hU.2.1).1
  exact pth_26 (fun i hi => ltr_26 hV hi) (fun j hj => ltr_26 hU hj) 16 0 0 (by omega) (by omega) (by omega) k
theorem spellOut_e {w : Wd} {p V U : Nat} (hp : p < 60) (hV : okW V) (hU : okW U) (e168 : w.2 168 p = lN V) (e169 : w.2 169 p = lN U) : ∃ w', X12_spellOut (nI p) w = some w' ∧ w'.1 97 98 = nI (slM V U) ∧ ∀ k, k < slM V U → w'.1 166 k = nI (slL V U k) := by
  have h2 := (lW_s hV.2.1).1
  have h3 := (lW_s hU.2.1).1
  generalize hw3 : puI (seI w 163 (rwN (lW V) (ltr V) (w.1 163))) 97 96 (nI (lW V)) = w3
  generalize hw6 : puI (seI w3 164 (rwN (lW U) (ltr U) (w3.1 164))) 97 97 (nI (lW U)) = w6
  have r96 : w6.1 97 96 = nI (lW V) := by rw [← hw6, ← hw3]; rfl
  have r97 : w6.1 97 97 = nI (lW U) := by rw [← hw6]; rfl
  have hT : ∀ i, i < lW V → w6.1 163 i = nI (ltr V i) ∧ ltr V i < 32 := fun i hi => ⟨by rw [← hw6, ← hw3]; exact rwN_lt hi, ltr_lt i⟩
  have hUr : ∀ i, i < lW U → w6.1 164 i = nI (ltr U i) ∧ ltr U i < 32 := fun i hi => ⟨by rw [← hw6]; exact rwN_lt hi, ltr_lt i⟩
  obtain ⟨f, hf, ht⟩ := mmeas_e (w := w6) (by omega) (by omega) r96 r97 hT hUr
  have hwk := mwalk_e (w := seI w6 165 f) (T := ltr V) (U := ltr U) (by omega) (by omega) r96 r97 hT hUr ht
  refine ⟨wkM (seI w6 165 f) (fun k => (pth (ltr V) (ltr U) (lW V) (lW U) 16 0 0).getD k 0) (Fw (ltr V) (ltr U) (lW V) (lW U) 0 0), ?_, ?_, fun k hk => ?_⟩
  · have r169 : w3.2 169 p = lN U := by rw [← hw3]; exact e169
    unfold X12_spellOut
    rw [gdn hp (by omega), ixn (by omega), e168, mspell_e hV rfl]
    simp only [Option.bind_some]
    rw [hw3, gdn hp (by omega), r169, mspell_e hU rfl]
    simp only [Option.bind_some]
    rw [hw6, r96, hf]
    simp only [Option.bind_some]
    rw [show (0 : Int32) = nI 0 from rfl, hwk]
    rfl
  · rfl
  · show rwS 0 (Fw (ltr V) (ltr U) (lW V) (lW U) 0 0) (fun k => (pth (ltr V) (ltr U) (lW V) (lW U) 16 0 0).getD k 0) _ k = _
    have := rwS_in (a := 0) (n := Fw (ltr V) (ltr U) (lW V) (lW U) 0 0) (k := k) (A := fun k => (pth (ltr V) (ltr U) (lW V) (lW U) 16 0 0).getD k 0) (z := (seI w6 165 f).1 166) hk
    rw [Nat.zero_add] at this
    exact this
/-! PROOFS -/
def IP (w : Wd) : Prop := isN w 80 0 61 ∧ w.1 97 86 = w.1 80 0 ∧ ∀ p, p < nn w 80 0 → isN w 81 p (nn w 5 8) ∧ isN w 82 p 60 ∧ w.1 161 p = w.1 81 p ∧ w.1 162 p = w.1 82 p ∧ ∃ V U, okW V ∧ okW U ∧ w.2 168 p = lN V ∧ w.2 169 p = lN U ∧ w.1 83 p = nI (slM V U) ∧ ∀ k, k < slM V U → w.1 84 (8 * p + k) = nI (slL V U k)
def sR_P : List Nat := [81, 82, 83, 84, 161, 162, 168, 169]
def sF_P : List (Nat × Nat) := [(80, 0), (97, 86), (5, 8)]
theorem IP.sm {w w' : Wd} (h : IP w) (e : Sm sR_P sF_P w w') : IP w' := by
  have r81 := (e.1 81 (by decide)).1
  have r82 := (e.1 82 (by decide)).1
  have r83 := (e.1 83 (by decide)).1
  have r84 := (e.1 84 (by decide)).1
  have r161 := (e.1 161 (by decide)).1
  have r162 := (e.1 162 (by decide)).1
  have r168 := (e.1 168 (by decide)).2
  have r169 := (e.1 169 (by decide)).2
  have f1 : w'.1 80 0 = w.1 80 0 := (e.2 (80, 0) (by decide)).1
  have f2 : w'.1 97 86 = w.1 97 86 := (e.2 (97, 86) (by decide)).1
  have f3 : w'.1 5 8 = w.1 5 8 := (e.2 (5, 8) (by decide)).1
  unfold IP isN nn at h ⊢
  simp only [r81, r82, r83, r84, r161, r162, r168, r169, f1, f2, f3]
  exact h
theorem padd_e {w : Wd} {l wk V U N : Nat} (hN : w.1 80 0 = nI N) (hN60 : N < 60) (hV : okW V) (hU : okW U) : ∃ w1, X5_add (nI l) (nI wk) (lN V) (lN U) w = some (nI N, w1) ∧ w1.1 80 0 = nI (N + 1) ∧ w1.1 81 = upd (w.1 81) N (nI l) ∧ w1.1 82 = upd (w.1 82) N (nI wk) ∧ w1.1 83 = upd (w.1 83) N (nI (slM V U)) ∧ w1.1 84 = rwS (8 * N) (slM V U) (slL V U) (w.1 84) ∧ (∀ j, w1.1 97 j = w.1 97 j) ∧ w1.2 = w.2 ∧ w1.1 161 = w.1 161 ∧ w1.1 162 = w.1 162 ∧ w1.1 5 = w.1 5 := by
  have h2 := (lW_s hV.2.1).1
  have h3 := (lW_s hU.2.1).1
  generalize hw2 : seI (seI w 85 (rwN (lW V) (ltr V) (w.1 85))) 86 (rwN (lW U) (ltr U) ((seI w 85 (rwN (lW V) (ltr V) (w.1 85))).1 86)) = w2
  generalize hw7 : puI (puI (puI w2 81 N (nI l)) 82 N (nI wk)) 83 N (nI 0) = w7
  have r80 : w2.1 80 0 = nI N := by rw [← hw2]; exact hN
  have r80a : (puI w2 81 N (nI l)).1 80 0 = nI N := r80
  have r80b : (puI (puI w2 81 N (nI l)) 82 N (nI wk)).1 80 0 = nI N := r80
  have r80c : w7.1 80 0 = nI N := by rw [← hw7]; exact r80
  have hT : ∀ i, i < lW V → w7.1 85 i = nI (ltr V i) ∧ ltr V i < 32 := fun i hi => ⟨by rw [← hw7, ← hw2]; exact rwN_lt hi, ltr_lt i⟩
  have hUr : ∀ i, i < lW U → w7.1 86 i = nI (ltr U i) ∧ ltr U i < 32 := fun i hi => ⟨by rw [← hw7, ← hw2]; exact rwN_lt hi, ltr_lt i⟩
  obtain ⟨f, hf, ht⟩ := meas_e (w := w7) (m := lW V) (n := lW U) (by omega) (by omega) hT hUr
  have h83 : w7.1 83 N = nI 0 := by rw [← hw7]; exact upd_s
  have hwk := walk_c (w := seI w7 87 f) (T := ltr V) (U := ltr U) (by omega) (by omega) r80c hN60 hT hUr ht h83
  generalize hw10 : wkC (seI w7 87 f) N (fun k => (pth (ltr V) (ltr U) (lW V) (lW U) 16 0 0).getD k 0) (Fw (ltr V) (ltr U) (lW V) (lW U) 0 0) = w10 at hwk
  have r80d : w10.1 80 0 = nI N := by rw [← hw10]; exact r80c
  refine ⟨puI w10 80 0 (nI (N + 1)), ?_, rfl, ?_, ?_, ?_, ?_, ?_, ?_, ?_, ?_, ?_⟩
  · unfold X5_add
    rw [spell_e hV rfl]
    simp only [Option.bind_some]
    rw [spell_e hU rfl]
    simp only [Option.bind_some]
    rw [hw2]
    simp (disch := omega) only [gdn, gb0, gb1, ixn, nm1, nI_add, nI_mul, nsub, nI_ltI, nI_leI, nI_eq, eqNO, eqNO2, ltNO, NOlt, leNO, NOle, if_pos, if_neg, Option.bind_some, if_true, if_false, and_self, eq_self, l0, l1, l2, l3, l4, l5, l6, l7, l8, l9, l10, l11, l12, l13, l14, l15, l16, l17, l18, l19, l20, l24, l26, l30, l31, l32, l40, l41, l42, l43, l45, l47, l48, l57, l58, l59, l60, l61, l62, l63, l64, l97, l99, l100, l101, l102, l103, l104, l105, l106, l107, l108, l109, l110, l122, l160, l240, l255, l600, l1000, l3000, l10000, l10007, l10116, l67108863, l67108864, r80, r80a, r80b, hw7, hf, hwk, r80d]
  · rw [← hw10, ← hw7, ← hw2]; rfl
  · rw [← hw10, ← hw7, ← hw2]; rfl
  · rw [← hw10, ← hw7, ← hw2]
    show upd (upd (w.1 83) N (nI 0)) N (nI _) = _
    rw [upd_upd]; rfl
  · rw [← hw10, ← hw7, ← hw2]; rfl
  · intro j; rw [← hw10, ← hw7, ← hw2]; rfl
  · rw [← hw10, ← hw7, ← hw2]; rfl
  · rw [← hw10, ← hw7, ← hw2]; rfl
  · rw [← hw10, ← hw7, ← hw2]; rfl
  · rw [← hw10, ← hw7, ← hw2]; rfl
theorem o_proof (a1 a2 : Int32) (a3 a5 : Int64) {w : Wd} (hL : IL w) (h : IP w) : two (X11_proof a1 a2 a3 a5) (X12_proof a1 a2 a3 a5) w (fun w' => St w w' ∨ (IS w' ∧ IP w')) := by
  have bL := hL.1.2.2.1.2
  have mLr : w.1 97 6 = nI (nn w 5 8) := by rw [hL.2.1.2.2.1]; exact hL.1.2.2.1.1
  have c0 := h.1.1
  have b0 := h.1.2
  have m0 : w.1 97 86 = nI (nn w 80 0) := by rw [h.2.1]; exact c0
  have hw3 := length_e a3 w
  have hw5 := length_e a5 w
  have l3 : lenS a3 < 9 := by
    by_cases q : ∃ V, okW V ∧ a3 = lN V
    · obtain ⟨V, hV, rfl⟩ := q
      rw [lenS_t hV]; exact (lW_s hV.2.1).1
    · rw [lenS_n q]; omega
  have l5 : lenS a5 < 9 := by
    by_cases q : ∃ V, okW V ∧ a5 = lN V
    · obtain ⟨V, hV, rfl⟩ := q
      rw [lenS_t hV]; exact (lW_s hV.2.1).1
    · rw [lenS_n q]; omega
  by_cases hv : ((0 ≤ a1.toInt ∧ a1.toInt < (nn w 5 8 : Int)) ∧ (0 ≤ a2.toInt ∧ a2.toInt < ((60 : Nat) : Int))) ∧ ¬ lenS a3 = 0 ∧ ¬ lenS a5 = 0
  · obtain ⟨⟨h1, h2⟩, h3, h5⟩ := hv
    obtain ⟨l, ll, rfl⟩ := of_t h1
    obtain ⟨wk, lwk, rfl⟩ := of_t h2
    obtain ⟨V, hV, rfl⟩ : ∃ V, okW V ∧ a3 = lN V := Classical.byContradiction (fun z => h3 (lenS_n z))
    obtain ⟨U, hU, rfl⟩ : ∃ V, okW V ∧ a5 = lN V := Classical.byContradiction (fun z => h5 (lenS_n z))
    by_cases hc : nn w 80 0 < 60
    · obtain ⟨w1, hadd, r80, r81, r82, r83, r84, r97, rJ, r161, r162, r5⟩ := padd_e (l := l) (wk := wk) c0 hc hV hU
      refine ⟨nI (nn w 80 0), puI w1 0 10 (nI 0), puI (puI (puJ (puJ (puI (puI (puI w1 0 10 (nI 0)) 161 (nn w 80 0) (nI l)) 162 (nn w 80 0) (nI wk)) 168 (nn w 80 0) (lN V)) 169 (nn w 80 0) (lN U)) 97 86 (nI (nn w 80 0 + 1))) 97 0 (nI 0), ?_, ?_, Or.inr ⟨rfl, ?_⟩⟩
      · unfold X11_proof
        rw [hw3, hw5, hadd]
        simp (disch := omega) only [gdn, gb0, gb1, ixn, nm1, nI_add, nI_mul, nsub, nI_ltI, nI_leI, nI_eq, eqNO, eqNO2, ltNO, NOlt, leNO, NOle, if_pos, if_neg, Option.bind_some, if_true, if_false, and_self, eq_self, l0, l1, l2, l3, l4, l5, l6, l7, l8, l9, l10, l11, l12, l13, l14, l15, l16, l17, l18, l19, l20, l24, l26, l30, l31, l32, l40, l41, l42, l43, l45, l47, l48, l57, l58, l59, l60, l61, l62, l63, l64, l97, l99, l100, l101, l102, l103, l104, l105, l106, l107, l108, l109, l110, l122, l160, l240, l255, l600, l1000, l3000, l10000, l10007, l10116, l67108863, l67108864, I_oth, I_J, J_oth, J_I, I_row, J_row, SI_row, SI_oth, SI_J, SJ_row, SJ_oth, SJ_I, upd_s, upd_n, updL_s, updL_n, ne_eq, not_false_eq_true, lt_t, le_t, tI, NO_t, flag0, flag1, ite_or2, ite_self, true_or, or_true, false_or, or_false, true_and, and_true, false_and, and_false, not_true_eq_false, lrn_e hL, week_e, c0, answer_e]
      · unfold X12_proof
        have m86 : w1.1 97 86 = nI (nn w 80 0) := (r97 86).trans m0
        rw [isword_e, isword_e, mlr (n := nn w 5 8) _ (show (puI w1 0 10 (nI 0)).1 97 6 = _ from (r97 6).trans mLr) (by omega)]
        simp (disch := omega) only [gdn, gb0, gb1, ixn, nm1, nI_add, nI_mul, nsub, nI_ltI, nI_leI, nI_eq, eqNO, eqNO2, ltNO, NOlt, leNO, NOle, if_pos, if_neg, Option.bind_some, if_true, if_false, and_self, eq_self, l0, l1, l2, l3, l4, l5, l6, l7, l8, l9, l10, l11, l12, l13, l14, l15, l16, l17, l18, l19, l20, l24, l26, l30, l31, l32, l40, l41, l42, l43, l45, l47, l48, l57, l58, l59, l60, l61, l62, l63, l64, l97, l99, l100, l101, l102, l103, l104, l105, l106, l107, l108, l109, l110, l122, l160, l240, l255, l600, l1000, l3000, l10000, l10007, l10116, l67108863, l67108864, I_oth, I_J, J_oth, J_I, I_row, J_row, SI_row, SI_oth, SI_J, SJ_row, SJ_oth, SJ_I, upd_s, upd_n, updL_s, updL_n, ne_eq, not_false_eq_true, lt_t, le_t, tI, NO_t, flag0, flag1, ite_or2, ite_self, true_or, or_true, false_or, or_false, true_and, and_true, false_and, and_false, not_true_eq_false, mweek_e, m86, mgiv_e]
        rw [show nn w 80 0 + 1 - 1 = nn w 80 0 by omega]
      · generalize hw2 : puI (puI (puJ (puJ (puI (puI (puI w1 0 10 (nI 0)) 161 (nn w 80 0) (nI l)) 162 (nn w 80 0) (nI wk)) 168 (nn w 80 0) (lN V)) 169 (nn w 80 0) (lN U)) 97 86 (nI (nn w 80 0 + 1))) 97 0 (nI 0) = w2
        have g80 : w2.1 80 0 = nI (nn w 80 0 + 1) := by rw [← hw2]; exact r80
        have n80 : nn w2 80 0 = nn w 80 0 + 1 := nn_of g80 (by omega)
        have n8 : nn w2 5 8 = nn w 5 8 := nn_eq (by rw [← hw2]; show w1.1 5 8 = _; rw [r5])
        have g81 : w2.1 81 = upd (w.1 81) (nn w 80 0) (nI l) := by rw [← hw2]; exact r81
        have g82 : w2.1 82 = upd (w.1 82) (nn w 80 0) (nI wk) := by rw [← hw2]; exact r82
        have g83 : w2.1 83 = upd (w.1 83) (nn w 80 0) (nI (slM V U)) := by rw [← hw2]; exact r83
        have g84 : w2.1 84 = rwS (8 * nn w 80 0) (slM V U) (slL V U) (w.1 84) := by rw [← hw2]; exact r84
        have g161 : w2.1 161 = upd (w.1 161) (nn w 80 0) (nI l) := by rw [← hw2]; show upd (w1.1 161) _ _ = _; rw [r161]
        have g162 : w2.1 162 = upd (w.1 162) (nn w 80 0) (nI wk) := by rw [← hw2]; show upd (w1.1 162) _ _ = _; rw [r162]
        have g168 : w2.2 168 = vp_updL (w.2 168) (nn w 80 0) (lN V) := by rw [← hw2]; show vp_updL (w1.2 168) _ _ = _; rw [rJ]
        have g169 : w2.2 169 = vp_updL (w.2 169) (nn w 80 0) (lN U) := by rw [← hw2]; show vp_updL (w1.2 169) _ _ = _; rw [rJ]
        refine ⟨isN.of g80 (by omega) (by omega), by rw [g80, ← hw2]; rfl, fun p hp => ?_⟩
        rw [n80] at hp
        rw [n8]
        have hs8 := slM_le hV hU
        by_cases q : p = nn w 80 0
        · subst q
          refine ⟨isN.of (n := l) (by rw [g81]; exact upd_s) ll (by omega), isN.of (n := wk) (by rw [g82]; exact upd_s) lwk (by omega), by rw [g161, g81, upd_s, upd_s], by rw [g162, g82, upd_s, upd_s], V, U, hV, hU, by rw [g168]; exact updL_s, by rw [g169]; exact updL_s, by rw [g83]; exact upd_s, fun k hk => by rw [g84]; exact rwS_in hk⟩
        · obtain ⟨q81, q82, q161, q162, V', U', hV', hU', q168, q169, q83, q84⟩ := h.2.2 p (by omega)
          have hs8' := slM_le hV' hU'
          refine ⟨q81.eq (by rw [g81]; exact upd_n q), q82.eq (by rw [g82]; exact upd_n q), by rw [g161, g81, upd_n q, upd_n q]; exact q161, by rw [g162, g82, upd_n q, upd_n q]; exact q162, V', U', hV', hU', by rw [g168]; exact (updL_n q).trans q168, by rw [g169]; exact (updL_n q).trans q169, by rw [g83]; exact (upd_n q).trans q83, fun k hk => by
            rw [g84]
            unfold rwS
            rw [if_neg (by omega)]
            exact q84 k hk⟩
    · have : nn w 80 0 = 60 := by omega
      refine two_ref (nI 4) (r := NO) ?_ ?_ (fun w' z => Or.inl z)
      · unfold X11_proof
        rw [hw3, hw5]
        simp (disch := omega) only [gdn, gb0, gb1, ixn, nm1, nI_add, nI_mul, nsub, nI_ltI, nI_leI, nI_eq, eqNO, eqNO2, ltNO, NOlt, leNO, NOle, if_pos, if_neg, Option.bind_some, if_true, if_false, and_self, eq_self, l0, l1, l2, l3, l4, l5, l6, l7, l8, l9, l10, l11, l12, l13, l14, l15, l16, l17, l18, l19, l20, l24, l26, l30, l31, l32, l40, l41, l42, l43, l45, l47, l48, l57, l58, l59, l60, l61, l62, l63, l64, l97, l99, l100, l101, l102, l103, l104, l105, l106, l107, l108, l109, l110, l122, l160, l240, l255, l600, l1000, l3000, l10000, l10007, l10116, l67108863, l67108864, I_oth, I_J, J_oth, J_I, I_row, J_row, SI_row, SI_oth, SI_J, SJ_row, SJ_oth, SJ_I, upd_s, upd_n, updL_s, updL_n, ne_eq, not_false_eq_true, lt_t, le_t, tI, NO_t, flag0, flag1, ite_or2, ite_self, true_or, or_true, false_or, or_false, true_and, and_true, false_and, and_false, not_true_eq_false, lrn_e hL, week_e, c0, deny_e]
      · unfold X12_proof
        rw [isword_e, isword_e, mlr (n := nn w 5 8) _ (show (puI w 0 10 (nI 4)).1 97 6 = _ from mLr) (by omega)]
        simp (disch := omega) only [gdn, gb0, gb1, ixn, nm1, nI_add, nI_mul, nsub, nI_ltI, nI_leI, nI_eq, eqNO, eqNO2, ltNO, NOlt, leNO, NOle, if_pos, if_neg, Option.bind_some, if_true, if_false, and_self, eq_self, l0, l1, l2, l3, l4, l5, l6, l7, l8, l9, l10, l11, l12, l13, l14, l15, l16, l17, l18, l19, l20, l24, l26, l30, l31, l32, l40, l41, l42, l43, l45, l47, l48, l57, l58, l59, l60, l61, l62, l63, l64, l97, l99, l100, l101, l102, l103, l104, l105, l106, l107, l108, l109, l110, l122, l160, l240, l255, l600, l1000, l3000, l10000, l10007, l10116, l67108863, l67108864, I_oth, I_J, J_oth, J_I, I_row, J_row, SI_row, SI_oth, SI_J, SJ_row, SJ_oth, SJ_I, upd_s, upd_n, updL_s, updL_n, ne_eq, not_false_eq_true, lt_t, le_t, tI, NO_t, flag0, flag1, ite_or2, ite_self, true_or, or_true, false_or, or_false, true_and, and_true, false_and, and_false, not_true_eq_false, mweek_e, m0, mref_e]
  · refine two_ref (nI 1) (r := NO) ?_ ?_ (fun w' z => Or.inl z)
    · unfold X11_proof X11_proof_j33
      rw [hw3, hw5]
      by_cases q3 : lenS a3 = 0
      · simp (disch := omega) only [gdn, gb0, gb1, ixn, nm1, nI_add, nI_mul, nsub, nI_ltI, nI_leI, nI_eq, eqNO, eqNO2, ltNO, NOlt, leNO, NOle, if_pos, if_neg, Option.bind_some, if_true, if_false, and_self, eq_self, l0, l1, l2, l3, l4, l5, l6, l7, l8, l9, l10, l11, l12, l13, l14, l15, l16, l17, l18, l19, l20, l24, l26, l30, l31, l32, l40, l41, l42, l43, l45, l47, l48, l57, l58, l59, l60, l61, l62, l63, l64, l97, l99, l100, l101, l102, l103, l104, l105, l106, l107, l108, l109, l110, l122, l160, l240, l255, l600, l1000, l3000, l10000, l10007, l10116, l67108863, l67108864, I_oth, I_J, J_oth, J_I, I_row, J_row, SI_row, SI_oth, SI_J, SJ_row, SJ_oth, SJ_I, upd_s, upd_n, updL_s, updL_n, ne_eq, not_false_eq_true, lt_t, le_t, tI, NO_t, flag0, flag1, ite_or2, ite_self, true_or, or_true, false_or, or_false, true_and, and_true, false_and, and_false, not_true_eq_false, lrn_e hL, week_e, deny_e]
      · by_cases q5 : lenS a5 = 0
        · simp (disch := omega) only [gdn, gb0, gb1, ixn, nm1, nI_add, nI_mul, nsub, nI_ltI, nI_leI, nI_eq, eqNO, eqNO2, ltNO, NOlt, leNO, NOle, if_pos, if_neg, Option.bind_some, if_true, if_false, and_self, eq_self, l0, l1, l2, l3, l4, l5, l6, l7, l8, l9, l10, l11, l12, l13, l14, l15, l16, l17, l18, l19, l20, l24, l26, l30, l31, l32, l40, l41, l42, l43, l45, l47, l48, l57, l58, l59, l60, l61, l62, l63, l64, l97, l99, l100, l101, l102, l103, l104, l105, l106, l107, l108, l109, l110, l122, l160, l240, l255, l600, l1000, l3000, l10000, l10007, l10116, l67108863, l67108864, I_oth, I_J, J_oth, J_I, I_row, J_row, SI_row, SI_oth, SI_J, SJ_row, SJ_oth, SJ_I, upd_s, upd_n, updL_s, updL_n, ne_eq, not_false_eq_true, lt_t, le_t, tI, NO_t, flag0, flag1, ite_or2, ite_self, true_or, or_true, false_or, or_false, true_and, and_true, false_and, and_false, not_true_eq_false, lrn_e hL, week_e, deny_e]
        · simp (disch := omega) only [gdn, gb0, gb1, ixn, nm1, nI_add, nI_mul, nsub, nI_ltI, nI_leI, nI_eq, eqNO, eqNO2, ltNO, NOlt, leNO, NOle, if_pos, if_neg, Option.bind_some, if_true, if_false, and_self, eq_self, l0, l1, l2, l3, l4, l5, l6, l7, l8, l9, l10, l11, l12, l13, l14, l15, l16, l17, l18, l19, l20, l24, l26, l30, l31, l32, l40, l41, l42, l43, l45, l47, l48, l57, l58, l59, l60, l61, l62, l63, l64, l97, l99, l100, l101, l102, l103, l104, l105, l106, l107, l108, l109, l110, l122, l160, l240, l255, l600, l1000, l3000, l10000, l10007, l10116, l67108863, l67108864, I_oth, I_J, J_oth, J_I, I_row, J_row, SI_row, SI_oth, SI_J, SJ_row, SJ_oth, SJ_I, upd_s, upd_n, updL_s, updL_n, ne_eq, not_false_eq_true, lt_t, le_t, tI, NO_t, flag0, flag1, ite_or2, ite_self, true_or, or_true, false_or, or_false, true_and, and_true, false_and, and_false, not_true_eq_false, lrn_e hL, week_e, deny_e]
    · unfold X12_proof X12_proof_j30
      rw [isword_e, isword_e, mlr (n := nn w 5 8) _ (show (puI w 0 10 (nI 1)).1 97 6 = _ from mLr) (by omega)]
      by_cases q3 : lenS a3 = 0
      · simp (disch := omega) only [gdn, gb0, gb1, ixn, nm1, nI_add, nI_mul, nsub, nI_ltI, nI_leI, nI_eq, eqNO, eqNO2, ltNO, NOlt, leNO, NOle, if_pos, if_neg, Option.bind_some, if_true, if_false, and_self, eq_self, l0, l1, l2, l3, l4, l5, l6, l7, l8, l9, l10, l11, l12, l13, l14, l15, l16, l17, l18, l19, l20, l24, l26, l30, l31, l32, l40, l41, l42, l43, l45, l47, l48, l57, l58, l59, l60, l61, l62, l63, l64, l97, l99, l100, l101, l102, l103, l104, l105, l106, l107, l108, l109, l110, l122, l160, l240, l255, l600, l1000, l3000, l10000, l10007, l10116, l67108863, l67108864, I_oth, I_J, J_oth, J_I, I_row, J_row, SI_row, SI_oth, SI_J, SJ_row, SJ_oth, SJ_I, upd_s, upd_n, updL_s, updL_n, ne_eq, not_false_eq_true, lt_t, le_t, tI, NO_t, flag0, flag1, ite_or2, ite_self, true_or, or_true, false_or, or_false, true_and, and_true, false_and, and_false, not_true_eq_false, mweek_e, mref_e]
      · by_cases q5 : lenS a5 = 0
        · simp (disch := omega) only [gdn, gb0, gb1, ixn, nm1, nI_add, nI_mul, nsub, nI_ltI, nI_leI, nI_eq, eqNO, eqNO2, ltNO, NOlt, leNO, NOle, if_pos, if_neg, Option.bind_some, if_true, if_false, and_self, eq_self, l0, l1, l2, l3, l4, l5, l6, l7, l8, l9, l10, l11, l12, l13, l14, l15, l16, l17, l18, l19, l20, l24, l26, l30, l31, l32, l40, l41, l42, l43, l45, l47, l48, l57, l58, l59, l60, l61, l62, l63, l64, l97, l99, l100, l101, l102, l103, l104, l105, l106, l107, l108, l109, l110, l122, l160, l240, l255, l600, l1000, l3000, l10000, l10007, l10116, l67108863, l67108864, I_oth, I_J, J_oth, J_I, I_row, J_row, SI_row, SI_oth, SI_J, SJ_row, SJ_oth, SJ_I, upd_s, upd_n, updL_s, updL_n, ne_eq, not_false_eq_true, lt_t, le_t, tI, NO_t, flag0, flag1, ite_or2, ite_self, true_or, or_true, false_or, or_false, true_and, and_true, false_and, and_false, not_true_eq_false, mweek_e, mref_e]
        · simp (disch := omega) only [gdn, gb0, gb1, ixn, nm1, nI_add, nI_mul, nsub, nI_ltI, nI_leI, nI_eq, eqNO, eqNO2, ltNO, NOlt, leNO, NOle, if_pos, if_neg, Option.bind_some, if_true, if_false, and_self, eq_self, l0, l1, l2, l3, l4, l5, l6, l7, l8, l9, l10, l11, l12, l13, l14, l15, l16, l17, l18, l19, l20, l24, l26, l30, l31, l32, l40, l41, l42, l43, l45, l47, l48, l57, l58, l59, l60, l61, l62, l63, l64, l97, l99, l100, l101, l102, l103, l104, l105, l106, l107, l108, l109, l110, l122, l160, l240, l255, l600, l1000, l3000, l10000, l10007, l10116, l67108863, l67108864, I_oth, I_J, J_oth, J_I, I_row, J_row, SI_row, SI_oth, SI_J, SJ_row, SJ_oth, SJ_I, upd_s, upd_n, updL_s, updL_n, ne_eq, not_false_eq_true, lt_t, le_t, tI, NO_t, flag0, flag1, ite_or2, ite_self, true_or, or_true, false_or, or_false, true_and, and_true, false_and, and_false, not_true_eq_false, mweek_e, mref_e]
