theorem mmisses_e {w : Wd} (h : ILs w) {l gp : Nat} (hl : l < 40) {g : Nat → Nat} (hg : ∀ k, k < 15 → w.1 150 (15 * l + k) = nI (g k) ∧ g k ≤ 60) (hgp : w.1 151 l = nI gp) (hgp2 : gp < 1000) : X12_misses (nI l) w = some (if nn w 69 3 ≤ gp then seI (puI w 151 l (nI (gp + 1))) 150 (rwS (15 * l) 15 (mfg (ndF w) g) (w.1 150)) else puI w 151 l (nI (gp + 1))) := by
  have hf := h.2.2.1.1
  have bf := h.2.2.1.2
  have mf : w.1 97 83 = nI (nn w 69 3) := by rw [h.2.2.2.2]; exact hf
  have hD := dnS_lt (ndF w) g
  by_cases q : nn w 69 3 ≤ gp
  · rw [if_pos q]
    generalize hu : puI w 151 l (nI (gp + 1)) = u
    have hU : ILs u := by rw [← hu]; exact h
    have hgu : ∀ k, k < 15 → u.1 150 (15 * l + k) = nI (g k) ∧ g k ≤ 60 := fun k hk => by rw [← hu]; exact hg k hk
    have e150 : u.1 150 = w.1 150 := by rw [← hu]; rfl
    have ndu : ndF u = ndF w := by rw [← hu]; rfl
    have hdn := mdone_e hU hl hgu
    rw [ndu] at hdn
    have m71 : u.1 148 = w.1 71 := by rw [← hu]; exact h.2.1.2.1
    have in1 : ∀ (a1 : Int32) (k : Nat), lp (X12_misses_b55 a1 (nI (dnS (ndF w) g)) (nI k) u) (nI 1, nI 0) = some (nI 1) := by
      intro a1 k
      refine lp_for (b := X12_misses_b55 a1 (nI (dnS (ndF w) g)) (nI k) u) (fun i => (nI 1, nI i)) 15 (fun i hi => ?_) ?_ 0 (Nat.zero_le _)
      · unfold X12_misses_b55 X12_misses_j92 X12_misses_j97
        simp (disch := omega) only [gdn, gb0, gb1, ixn, nm1, nI_add, nI_mul, nsub, nI_ltI, nI_leI, nI_eq, eqNO, eqNO2, ltNO, NOlt, leNO, NOle, if_pos, if_neg, Option.bind_some, if_true, if_false, and_self, eq_self, l0, l1, l2, l3, l4, l5, l6, l7, l8, l9, l10, l11, l12, l13, l14, l15, l16, l17, l18, l19, l20, l24, l26, l30, l31, l32, l40, l41, l42, l43, l45, l47, l48, l57, l58, l59, l60, l61, l62, l63, l64, l97, l99, l100, l101, l102, l103, l104, l105, l106, l107, l108, l109, l110, l122, l160, l240, l255, l600, l1000, l3000, l10000, l10007, l10116, l67108863, l67108864]
      · unfold X12_misses_b55
        simp (disch := omega) only [gdn, gb0, gb1, ixn, nm1, nI_add, nI_mul, nsub, nI_ltI, nI_leI, nI_eq, eqNO, eqNO2, ltNO, NOlt, leNO, NOle, if_pos, if_neg, Option.bind_some, if_true, if_false, and_self, eq_self, l0, l1, l2, l3, l4, l5, l6, l7, l8, l9, l10, l11, l12, l13, l14, l15, l16, l17, l18, l19, l20, l24, l26, l30, l31, l32, l40, l41, l42, l43, l45, l47, l48, l57, l58, l59, l60, l61, l62, l63, l64, l97, l99, l100, l101, l102, l103, l104, l105, l106, l107, l108, l109, l110, l122, l160, l240, l255, l600, l1000, l3000, l10000, l10007, l10116, l67108863, l67108864]
    have in0 : ∀ (a1 : Int32) (k : Nat), k < 15 → (∀ j, k < j → j < 15 → ¬ nn w 70 j ≤ g j) → lp (X12_misses_b55 a1 (nI (dnS (ndF w) g)) (nI k) u) (nI 0, nI 0) = some (nI 0) := by
      intro a1 k hk hm
      refine lp_for (b := X12_misses_b55 a1 (nI (dnS (ndF w) g)) (nI k) u) (fun i => (nI 0, nI i)) 15 (fun i hi => ?_) ?_ 0 (Nat.zero_le _)
      · obtain ⟨-, -, ⟨e71, b71⟩, -⟩ := h.1 i hi
        have hpw := pow15 hi
        have hbit := bit_e (D := dnS (ndF w) g) (k := i) (by omega) (by omega)
        rw [dnS_bit hi] at hbit
        unfold X12_misses_b55 X12_misses_j96 X12_misses_j97
        rw [m71]
        by_cases qd : nn w 70 i ≤ g i
        · rw [if_pos (by simpa using qd)] at hbit
          have hb2 := bit_e (D := nn w 71 i) (k := k) (by omega) (by omega)
          have hik : i ≤ k := by
            by_cases z : i ≤ k
            · exact z
            · exact (hm i (by omega) hi qd).elim
          rw [Nat.testBit_lt_two_pow (Nat.lt_of_lt_of_le b71 (Nat.pow_le_pow_right (by omega) hik)), if_neg (by decide)] at hb2
          simp (disch := omega) only [gdn, gb0, gb1, ixn, nm1, nI_add, nI_mul, nsub, nI_ltI, nI_leI, nI_eq, eqNO, eqNO2, ltNO, NOlt, leNO, NOle, if_pos, if_neg, Option.bind_some, if_true, if_false, and_self, eq_self, l0, l1, l2, l3, l4, l5, l6, l7, l8, l9, l10, l11, l12, l13, l14, l15, l16, l17, l18, l19, l20, l24, l26, l30, l31, l32, l40, l41, l42, l43, l45, l47, l48, l57, l58, l59, l60, l61, l62, l63, l64, l97, l99, l100, l101, l102, l103, l104, l105, l106, l107, l108, l109, l110, l122, l160, l240, l255, l600, l1000, l3000, l10000, l10007, l10116, l67108863, l67108864, hbit, e71, hb2]
        · rw [if_neg (by simpa using qd)] at hbit
          simp (disch := omega) only [gdn, gb0, gb1, ixn, nm1, nI_add, nI_mul, nsub, nI_ltI, nI_leI, nI_eq, eqNO, eqNO2, ltNO, NOlt, leNO, NOle, if_pos, if_neg, Option.bind_some, if_true, if_false, and_self, eq_self, l0, l1, l2, l3, l4, l5, l6, l7, l8, l9, l10, l11, l12, l13, l14, l15, l16, l17, l18, l19, l20, l24, l26, l30, l31, l32, l40, l41, l42, l43, l45, l47, l48, l57, l58, l59, l60, l61, l62, l63, l64, l97, l99, l100, l101, l102, l103, l104, l105, l106, l107, l108, l109, l110, l122, l160, l240, l255, l600, l1000, l3000, l10000, l10007, l10116, l67108863, l67108864, hbit]
      · unfold X12_misses_b55
        simp (disch := omega) only [gdn, gb0, gb1, ixn, nm1, nI_add, nI_mul, nsub, nI_ltI, nI_leI, nI_eq, eqNO, eqNO2, ltNO, NOlt, leNO, NOle, if_pos, if_neg, Option.bind_some, if_true, if_false, and_self, eq_self, l0, l1, l2, l3, l4, l5, l6, l7, l8, l9, l10, l11, l12, l13, l14, l15, l16, l17, l18, l19, l20, l24, l26, l30, l31, l32, l40, l41, l42, l43, l45, l47, l48, l57, l58, l59, l60, l61, l62, l63, l64, l97, l99, l100, l101, l102, l103, l104, l105, l106, l107, l108, l109, l110, l122, l160, l240, l255, l600, l1000, l3000, l10000, l10007, l10116, l67108863, l67108864]
    have hs : ∀ k, k < 15 → (∀ j, k < j → j < 15 → ¬ nn w 70 j ≤ g j) → X12_misses_b33 (nI l) (nI (dnS (ndF w) g)) u (nI k) = if nn w 70 k ≤ g k then some (.inr (.inl (nI k))) else some (.inl (nI k + NO)) := by
      intro k hk hm
      have hbit := bit_e (D := dnS (ndF w) g) (k := k) (by omega) (by omega)
      rw [dnS_bit hk] at hbit
      unfold X12_misses_b33 X12_misses_j50
      by_cases qd : nn w 70 k ≤ g k
      · rw [if_pos (by simpa using qd)] at hbit
        rw [if_pos qd]
        have := in0 (nI l) k hk hm
        simp (disch := omega) only [gdn, gb0, gb1, ixn, nm1, nI_add, nI_mul, nsub, nI_ltI, nI_leI, nI_eq, eqNO, eqNO2, ltNO, NOlt, leNO, NOle, if_pos, if_neg, Option.bind_some, if_true, if_false, and_self, eq_self, l0, l1, l2, l3, l4, l5, l6, l7, l8, l9, l10, l11, l12, l13, l14, l15, l16, l17, l18, l19, l20, l24, l26, l30, l31, l32, l40, l41, l42, l43, l45, l47, l48, l57, l58, l59, l60, l61, l62, l63, l64, l97, l99, l100, l101, l102, l103, l104, l105, l106, l107, l108, l109, l110, l122, l160, l240, l255, l600, l1000, l3000, l10000, l10007, l10116, l67108863, l67108864, hbit, this]
      · rw [if_neg (by simpa using qd)] at hbit
        rw [if_neg qd]
        have := in1 (nI l) k
        simp (disch := omega) only [gdn, gb0, gb1, ixn, nm1, nI_add, nI_mul, nsub, nI_ltI, nI_leI, nI_eq, eqNO, eqNO2, ltNO, NOlt, leNO, NOle, if_pos, if_neg, Option.bind_some, if_true, if_false, and_self, eq_self, l0, l1, l2, l3, l4, l5, l6, l7, l8, l9, l10, l11, l12, l13, l14, l15, l16, l17, l18, l19, l20, l24, l26, l30, l31, l32, l40, l41, l42, l43, l45, l47, l48, l57, l58, l59, l60, l61, l62, l63, l64, l97, l99, l100, l101, l102, l103, l104, l105, l106, l107, l108, l109, l110, l122, l160, l240, l255, l600, l1000, l3000, l10000, l10007, l10116, l67108863, l67108864, hbit, this]
    have r151 : u.1 151 l = nI (gp + 1) := by rw [← hu]; exact upd_s
    have r83 : u.1 97 83 = nI (nn w 69 3) := by rw [← hu]; exact mf
    have hgo : X12_misses (nI l) w = (lp (X12_misses_b33 (nI l) (nI (dnS (ndF w) g)) u) (nI 14)).bind fun e5 => match e5 with
        | (.inl e6) => (gd (vp_in (((15 : Int32) * nI l) + e6) 600) <| (some (puI u 150 (ix (((15 : Int32) * nI l) + e6)) (0 : Int32))).bind fun w7 => some w7)
        | (.inr e8) => (some u) := by
      unfold X12_misses
      simp (disch := omega) only [gdn, gb0, gb1, ixn, nm1, nI_add, nI_mul, nsub, nI_ltI, nI_leI, nI_eq, eqNO, eqNO2, ltNO, NOlt, leNO, NOle, if_pos, if_neg, Option.bind_some, if_true, if_false, and_self, eq_self, l0, l1, l2, l3, l4, l5, l6, l7, l8, l9, l10, l11, l12, l13, l14, l15, l16, l17, l18, l19, l20, l24, l26, l30, l31, l32, l40, l41, l42, l43, l45, l47, l48, l57, l58, l59, l60, l61, l62, l63, l64, l97, l99, l100, l101, l102, l103, l104, l105, l106, l107, l108, l109, l110, l122, l160, l240, l255, l600, l1000, l3000, l10000, l10007, l10116, l67108863, l67108864, hgp, hu, r151, r83, hdn]
      rfl
    rw [hgo]
    by_cases e : ∃ k, k ≤ 14 ∧ nn w 70 k ≤ g k
    · obtain ⟨k, hk, a1, a2⟩ := max_of e
      have hlp := lp_for (b := X12_misses_b33 (nI l) (nI (dnS (ndF w) g)) u) (fun i => nI (14 - i)) (14 - k) (e := .inl (nI k)) (fun i hi => by
        rw [hs (14 - i) (by omega) (fun j h1 h2 => a2 j (by omega) (by omega)), if_neg (a2 (14 - i) (by omega) (by omega)), addNO (by omega), show 14 - i - 1 = 14 - (i + 1) by omega]) (by rw [show 14 - (14 - k) = k by omega, hs k (by omega) (fun j h1 h2 => a2 j (by omega) (by omega)), if_pos a1]) 0 (Nat.zero_le _)
      rw [Nat.sub_zero] at hlp
      rw [hlp, mfg_t (nd := ndF w) (by omega) a1 (fun j h1 h2 => a2 j h1 (by omega))]
      have hup := upd_rwS (a := 15 * l) (n := 15) (k := k) (v := 0) (A := g) (z := w.1 150) (by omega)
      rw [rwS_id (fun k hk => (hg k hk).1)] at hup
      simp (disch := omega) only [gdn, gb0, gb1, ixn, nm1, nI_add, nI_mul, nsub, nI_ltI, nI_leI, nI_eq, eqNO, eqNO2, ltNO, NOlt, leNO, NOle, if_pos, if_neg, Option.bind_some, if_true, if_false, and_self, eq_self, l0, l1, l2, l3, l4, l5, l6, l7, l8, l9, l10, l11, l12, l13, l14, l15, l16, l17, l18, l19, l20, l24, l26, l30, l31, l32, l40, l41, l42, l43, l45, l47, l48, l57, l58, l59, l60, l61, l62, l63, l64, l97, l99, l100, l101, l102, l103, l104, l105, l106, l107, l108, l109, l110, l122, l160, l240, l255, l600, l1000, l3000, l10000, l10007, l10116, l67108863, l67108864]
      unfold puI
      rw [e150, hup]
    · have hlp := lp_for (b := X12_misses_b33 (nI l) (nI (dnS (ndF w) g)) u) (fun i => if i = 15 then NO else nI (14 - i)) 15 (e := .inr ()) (fun i hi => by
        rw [if_neg (by omega), hs (14 - i) (by omega) (fun j h1 h2 z => e ⟨j, by omega, z⟩), if_neg (fun z => e ⟨14 - i, by omega, z⟩)]
        by_cases q : i = 14
        · subst q; rfl
        · rw [if_neg (by omega), addNO (by omega), show 14 - i - 1 = 14 - (i + 1) by omega]) (by unfold X12_misses_b33; simp (disch := omega) only [gdn, gb0, gb1, ixn, nm1, nI_add, nI_mul, nsub, nI_ltI, nI_leI, nI_eq, eqNO, eqNO2, ltNO, NOlt, leNO, NOle, if_pos, if_neg, Option.bind_some, if_true, if_false, and_self, eq_self, l0, l1, l2, l3, l4, l5, l6, l7, l8, l9, l10, l11, l12, l13, l14, l15, l16, l17, l18, l19, l20, l24, l26, l30, l31, l32, l40, l41, l42, l43, l45, l47, l48, l57, l58, l59, l60, l61, l62, l63, l64, l97, l99, l100, l101, l102, l103, l104, l105, l106, l107, l108, l109, l110, l122, l160, l240, l255, l600, l1000, l3000, l10000, l10007, l10116, l67108863, l67108864]) 0 (Nat.zero_le _)
      rw [if_neg (by omega)] at hlp
      rw [show nI 14 = nI (14 - 0) from rfl, hlp, mfg_n (nd := ndF w) (fun k hk z => e ⟨k, by omega, z⟩), ← e150, seI_same (rwS_id (fun k hk => (hgu k hk).1))]
      rfl
  · rw [if_neg q]
    unfold X12_misses
    simp (disch := omega) only [gdn, gb0, gb1, ixn, nm1, nI_add, nI_mul, nsub, nI_ltI, nI_leI, nI_eq, eqNO, eqNO2, ltNO, NOlt, leNO, NOle, if_pos, if_neg, Option.bind_some, if_true, if_false, and_self, eq_self, l0, l1, l2, l3, l4, l5, l6, l7, l8, l9, l10, l11, l12, l13, l14, l15, l16, l17, l18, l19, l20, l24, l26, l30, l31, l32, l40, l41, l42, l43, l45, l47, l48, l57, l58, l59, l60, l61, l62, l63, l64, l97, l99, l100, l101, l102, l103, l104, l105, l106, l107, l108, l109, l110, l122, l160, l240, l255, l600, l1000, l3000, l10000, l10007, l10116, l67108863, l67108864, I_oth, I_J, J_oth, J_I, I_row, J_row, SI_row, SI_oth, SI_J, SJ_row, SJ_oth, SJ_I, upd_s, upd_n, updL_s, updL_n, ne_eq, not_false_eq_true, hgp, mf]
