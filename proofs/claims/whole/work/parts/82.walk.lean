theorem upd_upd {f : Nat → Int32} {k : Nat} {a b : Int32} : upd (upd f k a) k b = upd f k b := by
  funext j
  unfold upd
  split <;> rfl
/-! the class walks along both words -/
section
variable {T U : Nat → Nat} {m n N : Nat} {w : Wd}
noncomputable def wkC (w : Wd) (N : Nat) (G : Nat → Nat) (c : Nat) : Wd := seI (seI w 83 (upd (w.1 83) N (nI c))) 84 (rwS (8 * N) c G (w.1 84))
theorem slip_e {G : Nat → Nat} {c : Nat} (hN : w.1 80 0 = nI N) (hN60 : N < 60) (hc : c < 8) (hx : G c < 128) : X5_slip (nI (G c)) (wkC w N G c) = some (wkC w N G (c + 1)) := by
  have r80 : (wkC w N G c).1 80 0 = nI N := hN
  have r83 : (wkC w N G c).1 83 N = nI c := by
    show upd (w.1 83) N (nI c) N = nI c
    exact upd_s
  unfold X5_slip
  have r80' : ∀ v, (puI (wkC w N G c) 84 (N * 8 + c) v).1 80 0 = nI N := fun v => hN
  have r83' : ∀ v, (puI (wkC w N G c) 84 (N * 8 + c) v).1 83 N = nI c := fun v => r83
  simp (disch := omega) only [gdn, gb0, gb1, ixn, nm1, nI_add, nI_mul, nsub, nI_ltI, nI_leI, nI_eq, eqNO, eqNO2, ltNO, NOlt, leNO, NOle, if_pos, if_neg, Option.bind_some, if_true, if_false, and_self, eq_self, l0, l1, l2, l3, l4, l5, l6, l7, l8, l9, l10, l11, l12, l13, l14, l15, l16, l17, l18, l19, l20, l24, l26, l30, l31, l32, l40, l41, l42, l43, l45, l47, l48, l57, l58, l59, l60, l61, l62, l63, l64, l97, l99, l100, l101, l102, l103, l104, l105, l106, l107, l108, l109, l110, l122, l160, l240, l255, l600, l1000, l3000, l10000, l10007, l10116, l67108863, l67108864, r80, r83, r80', r83', nar_byte, byte_n]
  congr 1
  unfold wkC
  rw [pu_seI, pu_se2 (by decide), upd_upd, show N * 8 + c = 8 * N + c by omega, rwS_app rfl]
theorem walk_c (hm : m ≤ 8) (hn : n ≤ 8) (hN : w.1 80 0 = nI N) (hN60 : N < 60) (hT : ∀ i, i < m → w.1 85 i = nI (T i) ∧ T i < 32) (hU : ∀ j, j < n → w.1 86 j = nI (U j) ∧ U j < 32) (ht : tabOk T U m n (w.1 87) (fun _ _ => True)) (h83 : w.1 83 N = nI 0) : X5_walk (nI m) (nI n) w = some (wkC w N (fun k => (pth T U m n 16 0 0).getD k 0) (Fw T U m n 0 0)) := by
  have hF8 := Fw_le (T := T) (U := U) (m := m) (n := n) 0 0
  generalize hG : (fun k => (pth T U m n 16 0 0).getD k 0) = G
  generalize htot : Fw T U m n 0 0 = tot at hF8
  have hw0 : w = wkC w N G 0 := by
    unfold wkC
    rw [show rwS (8 * N) 0 G (w.1 84) = w.1 84 from rwS_id (fun k hk => by omega), show upd (w.1 83) N (nI 0) = w.1 83 from by
      funext j
      unfold upd
      by_cases q : j = N
      · rw [if_pos q, q, h83]
      · rw [if_neg q]]
    rw [seI_same (k := 83) rfl, seI_same rfl]
  have key := lp_up (b := X5_walk_b8 (nI m) (nI n)) (Q := fun e => e = wkC w N G tot) (fun k s => ∃ (i j c f : Nat), s = (nI i, nI j, nI k, wkC w N G c) ∧ i ≤ m ∧ j ≤ n ∧ k ≤ i + j ∧ m - i + (n - j) ≤ f ∧ c + Fw T U m n i j = tot ∧ ∀ x, (pth T U m n f i j).getD x 0 = G (c + x)) 16 ?_ ?_ 0 (nI 0, nI 0, nI 0, w) (Nat.zero_le _) ⟨0, 0, 0, 16, by rw [← hw0], by omega, by omega, by omega, by omega, by omega, fun x => by rw [← hG, Nat.zero_add]⟩
  · obtain ⟨e, he, hq⟩ := key
    unfold X5_walk
    rw [show ((0 : Int32), (0 : Int32), (0 : Int32), w) = (nI 0, nI 0, nI 0, w) from rfl, he, hq]
    rfl
  · rintro k s hk ⟨i, j, c, f, rfl, hi, hj, hkij, hf, hc, hp⟩
    have fa : ∀ a b, a ≤ m → b ≤ n → X5_fewestAt (nI a) (nI b) (wkC w N G c) = some (nI (Fw T U m n a b)) := by
      intro a b ha hb
      have t := ht a b ha hb trivial
      have r : (wkC w N G c).1 87 (a * 9 + b) = nI (Fw T U m n a b) := by
        rw [show a * 9 + b = 9 * a + b by omega]; exact t
      unfold X5_fewestAt
      simp (disch := omega) only [gdn, gb0, gb1, ixn, nm1, nI_add, nI_mul, nsub, nI_ltI, nI_leI, nI_eq, eqNO, eqNO2, ltNO, NOlt, leNO, NOle, if_pos, if_neg, Option.bind_some, if_true, if_false, and_self, eq_self, l0, l1, l2, l3, l4, l5, l6, l7, l8, l9, l10, l11, l12, l13, l14, l15, l16, l17, l18, l19, l20, l24, l26, l30, l31, l32, l40, l41, l42, l43, l45, l47, l48, l57, l58, l59, l60, l61, l62, l63, l64, l97, l99, l100, l101, l102, l103, l104, l105, l106, l107, l108, l109, l110, l122, l160, l240, l255, l600, l1000, l3000, l10000, l10007, l10116, l67108863, l67108864, r]
    have fle : ∀ a b, Fw T U m n a b ≤ 8 := fun a b => Nat.le_trans (Fw_le a b) (by omega)
    have hF1 := fle i j
    have hF2 := fle (i + 1) (j + 1)
    have hF3 := fle (i + 1) j
    by_cases hgo : i < m ∨ j < n
    · obtain ⟨f, rfl⟩ : ∃ f', f = f' + 1 := ⟨f - 1, by omega⟩
      have hb8 : X5_walk_b8 (nI m) (nI n) (nI i, nI j, nI k, wkC w N G c) = X5_walk_j26 (nI m) (nI n) (nI i) (nI j) (nI k) (wkC w N G c) := by
        unfold X5_walk_b8
        by_cases z : i < m
        · simp (disch := omega) only [gdn, gb0, gb1, ixn, nm1, nI_add, nI_mul, nsub, nI_ltI, nI_leI, nI_eq, eqNO, eqNO2, ltNO, NOlt, leNO, NOle, if_pos, if_neg, Option.bind_some, if_true, if_false, and_self, eq_self, l0, l1, l2, l3, l4, l5, l6, l7, l8, l9, l10, l11, l12, l13, l14, l15, l16, l17, l18, l19, l20, l24, l26, l30, l31, l32, l40, l41, l42, l43, l45, l47, l48, l57, l58, l59, l60, l61, l62, l63, l64, l97, l99, l100, l101, l102, l103, l104, l105, l106, l107, l108, l109, l110, l122, l160, l240, l255, l600, l1000, l3000, l10000, l10007, l10116, l67108863, l67108864]
        · simp (disch := omega) only [gdn, gb0, gb1, ixn, nm1, nI_add, nI_mul, nsub, nI_ltI, nI_leI, nI_eq, eqNO, eqNO2, ltNO, NOlt, leNO, NOle, if_pos, if_neg, Option.bind_some, if_true, if_false, and_self, eq_self, l0, l1, l2, l3, l4, l5, l6, l7, l8, l9, l10, l11, l12, l13, l14, l15, l16, l17, l18, l19, l20, l24, l26, l30, l31, l32, l40, l41, l42, l43, l45, l47, l48, l57, l58, l59, l60, l61, l62, l63, l64, l97, l99, l100, l101, l102, l103, l104, l105, l106, l107, l108, l109, l110, l122, l160, l240, l255, l600, l1000, l3000, l10000, l10007, l10116, l67108863, l67108864]
      have hpx := hp
      unfold pth at hpx
      rw [if_pos hgo] at hpx
      by_cases h1 : i < m ∧ j < n ∧ Fw T U m n i j = slN T U i j + Fw T U m n (i + 1) (j + 1)
      · rw [if_pos h1] at hpx
        obtain ⟨him, hjn, hFe⟩ := h1
        have f1 := fa i j hi hj
        have f2 := fa (i + 1) (j + 1) (by omega) (by omega)
        obtain ⟨eT, bT⟩ := hT i him
        obtain ⟨eU, bU⟩ := hU j hjn
        have rT : (wkC w N G c).1 85 i = nI (T i) := eT
        have hsl : X5_slipOf (nI i) (nI j) (wkC w N G c) = some (nI (slN T U i j)) := by
          have rU : (wkC w N G c).1 86 j = nI (U j) := eU
          unfold X5_slipOf slN
          by_cases z : T i = U j
          · simp (disch := omega) only [gdn, gb0, gb1, ixn, nm1, nI_add, nI_mul, nsub, nI_ltI, nI_leI, nI_eq, eqNO, eqNO2, ltNO, NOlt, leNO, NOle, if_pos, if_neg, Option.bind_some, if_true, if_false, and_self, eq_self, l0, l1, l2, l3, l4, l5, l6, l7, l8, l9, l10, l11, l12, l13, l14, l15, l16, l17, l18, l19, l20, l24, l26, l30, l31, l32, l40, l41, l42, l43, l45, l47, l48, l57, l58, l59, l60, l61, l62, l63, l64, l97, l99, l100, l101, l102, l103, l104, l105, l106, l107, l108, l109, l110, l122, l160, l240, l255, l600, l1000, l3000, l10000, l10007, l10116, l67108863, l67108864, rT, rU]
          · simp (disch := omega) only [gdn, gb0, gb1, ixn, nm1, nI_add, nI_mul, nsub, nI_ltI, nI_leI, nI_eq, eqNO, eqNO2, ltNO, NOlt, leNO, NOle, if_pos, if_neg, Option.bind_some, if_true, if_false, and_self, eq_self, l0, l1, l2, l3, l4, l5, l6, l7, l8, l9, l10, l11, l12, l13, l14, l15, l16, l17, l18, l19, l20, l24, l26, l30, l31, l32, l40, l41, l42, l43, l45, l47, l48, l57, l58, l59, l60, l61, l62, l63, l64, l97, l99, l100, l101, l102, l103, l104, l105, l106, l107, l108, l109, l110, l122, l160, l240, l255, l600, l1000, l3000, l10000, l10007, l10116, l67108863, l67108864, rT, rU]
        have lsl := sl_le (T := T) (U := U) i j
        by_cases h2 : slN T U i j = 1
        · rw [if_pos h2] at hpx
          have hx : G c = T i := by have := hpx 0; rw [Nat.add_zero] at this; exact this.symm
          have hs := slip_e (w := w) (N := N) (G := G) (c := c) hN hN60 (by omega) (by omega)
          rw [hx] at hs
          refine ⟨.inl (nI (i + 1), nI (j + 1), nI (k + 1), wkC w N G (c + 1)), ?_, i + 1, j + 1, c + 1, f, rfl, by omega, by omega, by omega, by omega, by omega, fun x => ?_⟩
          · rw [hb8]
            unfold X5_walk_j26 X5_walk_j91 X5_walk_j157
            simp (disch := omega) only [gdn, gb0, gb1, ixn, nm1, nI_add, nI_mul, nsub, nI_ltI, nI_leI, nI_eq, eqNO, eqNO2, ltNO, NOlt, leNO, NOle, if_pos, if_neg, Option.bind_some, if_true, if_false, and_self, eq_self, l0, l1, l2, l3, l4, l5, l6, l7, l8, l9, l10, l11, l12, l13, l14, l15, l16, l17, l18, l19, l20, l24, l26, l30, l31, l32, l40, l41, l42, l43, l45, l47, l48, l57, l58, l59, l60, l61, l62, l63, l64, l97, l99, l100, l101, l102, l103, l104, l105, l106, l107, l108, l109, l110, l122, l160, l240, l255, l600, l1000, l3000, l10000, l10007, l10116, l67108863, l67108864, f1, hsl, f2, rT, hs]
          · have := hpx (x + 1)
            rw [show c + 1 + x = c + (x + 1) by omega]
            exact this
        · rw [if_neg h2] at hpx
          refine ⟨.inl (nI (i + 1), nI (j + 1), nI (k + 1), wkC w N G c), ?_, i + 1, j + 1, c, f, rfl, by omega, by omega, by omega, by omega, by omega, hpx⟩
          rw [hb8]
          unfold X5_walk_j26 X5_walk_j91 X5_walk_j157
          simp (disch := omega) only [gdn, gb0, gb1, ixn, nm1, nI_add, nI_mul, nsub, nI_ltI, nI_leI, nI_eq, eqNO, eqNO2, ltNO, NOlt, leNO, NOle, if_pos, if_neg, Option.bind_some, if_true, if_false, and_self, eq_self, l0, l1, l2, l3, l4, l5, l6, l7, l8, l9, l10, l11, l12, l13, l14, l15, l16, l17, l18, l19, l20, l24, l26, l30, l31, l32, l40, l41, l42, l43, l45, l47, l48, l57, l58, l59, l60, l61, l62, l63, l64, l97, l99, l100, l101, l102, l103, l104, l105, l106, l107, l108, l109, l110, l122, l160, l240, l255, l600, l1000, l3000, l10000, l10007, l10116, l67108863, l67108864, f1, hsl, f2]
      · rw [if_neg h1] at hpx
        have f1 := fa i j hi hj
        -- not a pair: on to the second way
        have hj100 : X5_walk_b8 (nI m) (nI n) (nI i, nI j, nI k, wkC w N G c) = X5_walk_j100 (nI m) (nI n) (nI i) (nI j) (nI k) (nI (Fw T U m n i j)) (wkC w N G c) := by
          rw [hb8]
          unfold X5_walk_j26
          by_cases him : i < m
          · by_cases hjn : j < n
            · have f2 := fa (i + 1) (j + 1) (by omega) (by omega)
              obtain ⟨eT, bT⟩ := hT i him
              obtain ⟨eU, bU⟩ := hU j hjn
              have hsl : X5_slipOf (nI i) (nI j) (wkC w N G c) = some (nI (slN T U i j)) := by
                have rT : (wkC w N G c).1 85 i = nI (T i) := eT
                have rU : (wkC w N G c).1 86 j = nI (U j) := eU
                unfold X5_slipOf slN
                by_cases z : T i = U j
                · simp (disch := omega) only [gdn, gb0, gb1, ixn, nm1, nI_add, nI_mul, nsub, nI_ltI, nI_leI, nI_eq, eqNO, eqNO2, ltNO, NOlt, leNO, NOle, if_pos, if_neg, Option.bind_some, if_true, if_false, and_self, eq_self, l0, l1, l2, l3, l4, l5, l6, l7, l8, l9, l10, l11, l12, l13, l14, l15, l16, l17, l18, l19, l20, l24, l26, l30, l31, l32, l40, l41, l42, l43, l45, l47, l48, l57, l58, l59, l60, l61, l62, l63, l64, l97, l99, l100, l101, l102, l103, l104, l105, l106, l107, l108, l109, l110, l122, l160, l240, l255, l600, l1000, l3000, l10000, l10007, l10116, l67108863, l67108864, rT, rU]
                · simp (disch := omega) only [gdn, gb0, gb1, ixn, nm1, nI_add, nI_mul, nsub, nI_ltI, nI_leI, nI_eq, eqNO, eqNO2, ltNO, NOlt, leNO, NOle, if_pos, if_neg, Option.bind_some, if_true, if_false, and_self, eq_self, l0, l1, l2, l3, l4, l5, l6, l7, l8, l9, l10, l11, l12, l13, l14, l15, l16, l17, l18, l19, l20, l24, l26, l30, l31, l32, l40, l41, l42, l43, l45, l47, l48, l57, l58, l59, l60, l61, l62, l63, l64, l97, l99, l100, l101, l102, l103, l104, l105, l106, l107, l108, l109, l110, l122, l160, l240, l255, l600, l1000, l3000, l10000, l10007, l10116, l67108863, l67108864, rT, rU]
              have lsl := sl_le (T := T) (U := U) i j
              have hne : ¬ Fw T U m n i j = slN T U i j + Fw T U m n (i + 1) (j + 1) := fun z => h1 ⟨him, hjn, z⟩
              simp (disch := omega) only [gdn, gb0, gb1, ixn, nm1, nI_add, nI_mul, nsub, nI_ltI, nI_leI, nI_eq, eqNO, eqNO2, ltNO, NOlt, leNO, NOle, if_pos, if_neg, Option.bind_some, if_true, if_false, and_self, eq_self, l0, l1, l2, l3, l4, l5, l6, l7, l8, l9, l10, l11, l12, l13, l14, l15, l16, l17, l18, l19, l20, l24, l26, l30, l31, l32, l40, l41, l42, l43, l45, l47, l48, l57, l58, l59, l60, l61, l62, l63, l64, l97, l99, l100, l101, l102, l103, l104, l105, l106, l107, l108, l109, l110, l122, l160, l240, l255, l600, l1000, l3000, l10000, l10007, l10116, l67108863, l67108864, f1, hsl, f2]
            · simp (disch := omega) only [gdn, gb0, gb1, ixn, nm1, nI_add, nI_mul, nsub, nI_ltI, nI_leI, nI_eq, eqNO, eqNO2, ltNO, NOlt, leNO, NOle, if_pos, if_neg, Option.bind_some, if_true, if_false, and_self, eq_self, l0, l1, l2, l3, l4, l5, l6, l7, l8, l9, l10, l11, l12, l13, l14, l15, l16, l17, l18, l19, l20, l24, l26, l30, l31, l32, l40, l41, l42, l43, l45, l47, l48, l57, l58, l59, l60, l61, l62, l63, l64, l97, l99, l100, l101, l102, l103, l104, l105, l106, l107, l108, l109, l110, l122, l160, l240, l255, l600, l1000, l3000, l10000, l10007, l10116, l67108863, l67108864, f1]
          · simp (disch := omega) only [gdn, gb0, gb1, ixn, nm1, nI_add, nI_mul, nsub, nI_ltI, nI_leI, nI_eq, eqNO, eqNO2, ltNO, NOlt, leNO, NOle, if_pos, if_neg, Option.bind_some, if_true, if_false, and_self, eq_self, l0, l1, l2, l3, l4, l5, l6, l7, l8, l9, l10, l11, l12, l13, l14, l15, l16, l17, l18, l19, l20, l24, l26, l30, l31, l32, l40, l41, l42, l43, l45, l47, l48, l57, l58, l59, l60, l61, l62, l63, l64, l97, l99, l100, l101, l102, l103, l104, l105, l106, l107, l108, l109, l110, l122, l160, l240, l255, l600, l1000, l3000, l10000, l10007, l10116, l67108863, l67108864, f1]
        by_cases h2 : i < m ∧ Fw T U m n i j = 1 + Fw T U m n (i + 1) j
        · rw [if_pos h2] at hpx
          obtain ⟨him, hFe⟩ := h2
          have f3 := fa (i + 1) j (by omega) hj
          obtain ⟨eT, bT⟩ := hT i him
          have rT : (wkC w N G c).1 85 i = nI (T i) := eT
          have hx : G c = T i := by have := hpx 0; rw [Nat.add_zero] at this; exact this.symm
          have hs := slip_e (w := w) (N := N) (G := G) (c := c) hN hN60 (by omega) (by omega)
          rw [hx] at hs
          refine ⟨.inl (nI (i + 1), nI j, nI (k + 1), wkC w N G (c + 1)), ?_, i + 1, j, c + 1, f, rfl, by omega, by omega, by omega, by omega, by omega, fun x => ?_⟩
          · rw [hj100]
            unfold X5_walk_j100 X5_walk_j157
            simp (disch := omega) only [gdn, gb0, gb1, ixn, nm1, nI_add, nI_mul, nsub, nI_ltI, nI_leI, nI_eq, eqNO, eqNO2, ltNO, NOlt, leNO, NOle, if_pos, if_neg, Option.bind_some, if_true, if_false, and_self, eq_self, l0, l1, l2, l3, l4, l5, l6, l7, l8, l9, l10, l11, l12, l13, l14, l15, l16, l17, l18, l19, l20, l24, l26, l30, l31, l32, l40, l41, l42, l43, l45, l47, l48, l57, l58, l59, l60, l61, l62, l63, l64, l97, l99, l100, l101, l102, l103, l104, l105, l106, l107, l108, l109, l110, l122, l160, l240, l255, l600, l1000, l3000, l10000, l10007, l10116, l67108863, l67108864, f3, rT, hs]
          · have := hpx (x + 1)
            rw [show c + 1 + x = c + (x + 1) by omega]
            exact this
        · rw [if_neg h2] at hpx
          have hjn := third hi hj hgo h2
          obtain ⟨eU, bU⟩ := hU j hjn
          have rU : (wkC w N G c).1 86 j = nI (U j) := eU
          have hx : G c = U j := by have := hpx 0; rw [Nat.add_zero] at this; exact this.symm
          have hFj : Fw T U m n i j = 1 + Fw T U m n i (j + 1) := by
            by_cases him : i < m
            · have h3 := Fw_in (T := T) (U := U) him hjn
              have h4 : Fw T U m n i j ≠ slN T U i j + Fw T U m n (i + 1) (j + 1) := fun z => h1 ⟨him, hjn, z⟩
              have h5 : Fw T U m n i j ≠ 1 + Fw T U m n (i + 1) j := fun z => h2 ⟨him, z⟩
              omega
            · rw [Fw_end hi hj (Or.inl (by omega)), Fw_end hi (by omega) (Or.inl (by omega))]; omega
          have hs := slip_e (w := w) (N := N) (G := G) (c := c) hN hN60 (by omega) (by omega)
          rw [hx] at hs
          refine ⟨.inl (nI i, nI (j + 1), nI (k + 1), wkC w N G (c + 1)), ?_, i, j + 1, c + 1, f, rfl, by omega, by omega, by omega, by omega, by omega, fun x => ?_⟩
          · rw [hj100]
            unfold X5_walk_j100 X5_walk_j137 X5_walk_j157
            by_cases him : i < m
            · have f3 := fa (i + 1) j (by omega) hj
              have hne : ¬ Fw T U m n i j = 1 + Fw T U m n (i + 1) j := fun z => h2 ⟨him, z⟩
              simp (disch := omega) only [gdn, gb0, gb1, ixn, nm1, nI_add, nI_mul, nsub, nI_ltI, nI_leI, nI_eq, eqNO, eqNO2, ltNO, NOlt, leNO, NOle, if_pos, if_neg, Option.bind_some, if_true, if_false, and_self, eq_self, l0, l1, l2, l3, l4, l5, l6, l7, l8, l9, l10, l11, l12, l13, l14, l15, l16, l17, l18, l19, l20, l24, l26, l30, l31, l32, l40, l41, l42, l43, l45, l47, l48, l57, l58, l59, l60, l61, l62, l63, l64, l97, l99, l100, l101, l102, l103, l104, l105, l106, l107, l108, l109, l110, l122, l160, l240, l255, l600, l1000, l3000, l10000, l10007, l10116, l67108863, l67108864, f3, rU, hs]
            · simp (disch := omega) only [gdn, gb0, gb1, ixn, nm1, nI_add, nI_mul, nsub, nI_ltI, nI_leI, nI_eq, eqNO, eqNO2, ltNO, NOlt, leNO, NOle, if_pos, if_neg, Option.bind_some, if_true, if_false, and_self, eq_self, l0, l1, l2, l3, l4, l5, l6, l7, l8, l9, l10, l11, l12, l13, l14, l15, l16, l17, l18, l19, l20, l24, l26, l30, l31, l32, l40, l41, l42, l43, l45, l47, l48, l57, l58, l59, l60, l61, l62, l63, l64, l97, l99, l100, l101, l102, l103, l104, l105, l106, l107, l108, l109, l110, l122, l160, l240, l255, l600, l1000, l3000, l10000, l10007, l10116, l67108863, l67108864, rU, hs]
          · have := hpx (x + 1)
            rw [show c + 1 + x = c + (x + 1) by omega]
            exact this
    · have e0 : Fw T U m n i j = 0 := by rw [Fw_end hi hj (Or.inl (by omega))]; omega
      refine ⟨.inr (wkC w N G c), ?_, ?_⟩
      · unfold X5_walk_b8
        simp (disch := omega) only [gdn, gb0, gb1, ixn, nm1, nI_add, nI_mul, nsub, nI_ltI, nI_leI, nI_eq, eqNO, eqNO2, ltNO, NOlt, leNO, NOle, if_pos, if_neg, Option.bind_some, if_true, if_false, and_self, eq_self, l0, l1, l2, l3, l4, l5, l6, l7, l8, l9, l10, l11, l12, l13, l14, l15, l16, l17, l18, l19, l20, l24, l26, l30, l31, l32, l40, l41, l42, l43, l45, l47, l48, l57, l58, l59, l60, l61, l62, l63, l64, l97, l99, l100, l101, l102, l103, l104, l105, l106, l107, l108, l109, l110, l122, l160, l240, l255, l600, l1000, l3000, l10000, l10007, l10116, l67108863, l67108864]
      · show _ = _
        rw [show c = tot by omega]
  · rintro s ⟨i, j, c, f, rfl, hi, hj, hkij, hf, hc, hp⟩
    have e0 : Fw T U m n i j = 0 := by rw [Fw_end hi hj (Or.inl (by omega))]; omega
    refine ⟨.inr (wkC w N G c), ?_, ?_⟩
    · unfold X5_walk_b8
      simp (disch := omega) only [gdn, gb0, gb1, ixn, nm1, nI_add, nI_mul, nsub, nI_ltI, nI_leI, nI_eq, eqNO, eqNO2, ltNO, NOlt, leNO, NOle, if_pos, if_neg, Option.bind_some, if_true, if_false, and_self, eq_self, l0, l1, l2, l3, l4, l5, l6, l7, l8, l9, l10, l11, l12, l13, l14, l15, l16, l17, l18, l19, l20, l24, l26, l30, l31, l32, l40, l41, l42, l43, l45, l47, l48, l57, l58, l59, l60, l61, l62, l63, l64, l97, l99, l100, l101, l102, l103, l104, l105, l106, l107, l108, l109, l110, l122, l160, l240, l255, l600, l1000, l3000, l10000, l10007, l10116, l67108863, l67108864]
    · show _ = _
      rw [show c = tot by omega]
end
