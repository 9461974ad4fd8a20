/-! the class judges -/
def sR_R : List Nat := [33, 37, 38, 39, 40, 41, 42, 124, 127, 128, 129, 130, 131, 134, 135, 136, 137, 138, 139, 140, 141]
def sF_R : List (Nat × Nat) := [(30, 0), (30, 13), (97, 43), (97, 44)]
theorem IR.sm {w w' : Wd} (h : IR w) (e : Sm sR_R sF_R w w') : IR w' := by
  obtain ⟨A, S, O, ⟨h1, h2, h3⟩, h4, h5⟩ := h
  have n0 : nn w' 30 0 = nn w 30 0 := nn_eq (e.2 (30, 0) (by decide)).1
  have q : ∀ k, k ∈ sR_R → w'.1 k = w.1 k := fun k hk => (e.1 k hk).1
  have c3 : ∀ k, 37 ≤ k → k ≤ 41 → w'.1 k = w.1 k := fun k k1 k2 => q k (by unfold sR_R; simp only [List.mem_cons, List.not_mem_nil, or_false]; omega)
  refine ⟨A, S, O, ⟨by rw [(e.2 (30, 13) (by decide)).1]; exact h1, by rw [(e.2 (97, 43) (by decide)).1]; exact h2, by rw [(e.2 (97, 44) (by decide)).1]; exact h3⟩, by rw [n0]; exact h4, fun t ht k hk => ?_⟩
  rw [n0] at ht
  rw [nn_row (q 124 (by decide))] at hk
  rw [nn_eq (show w'.1 33 t = w.1 33 t by rw [q 33 (by decide)]), nn_eq (show w'.1 37 (nn w 33 t + k) = w.1 37 (nn w 33 t + k) by rw [q 37 (by decide)])]
  intro z
  exact (h5 t ht k hk z).c (fun k k1 k2 => by rw [c3 k k1 k2]) (fun i _ => by rw [q 42 (by decide)]) (fun k k1 k2 => by rw [q k (by unfold sR_R; simp only [List.mem_cons, List.not_mem_nil, or_false]; omega)]) (fun i _ => by rw [q 140 (by decide), q 141 (by decide)]; exact ⟨rfl, rfl⟩) (fun i _ k k1 k2 => by rw [q k (by unfold sR_R; simp only [List.mem_cons, List.not_mem_nil, or_false]; omega)]) (Nat.le_refl _) (Nat.le_refl _) (Nat.le_refl _)
theorem fg_J {p : Prop} : (fg p).toInt64 = pL p := by
  unfold pL
  by_cases h : p
  · rw [fg_t h, if_pos h]; rfl
  · rw [fg_f h, if_neg h]; rfl
theorem bit_J {x s : Nat} (hx : x < 2 ^ 31) (hs : s < 31) : Int32.toInt64 ((nI x >>> (nI s &&& nI 31)) &&& nI 1) = pL (x.testBit s = true) := by
  rw [bit_e hx hs]
  unfold pL
  by_cases h : x.testBit s = true
  · rw [if_pos h, if_pos h]; rfl
  · rw [if_neg h, if_neg h]; rfl
theorem dnS_0 {nd g : Nat → Nat} (h : ∀ k, k < 15 → 1 ≤ nd k) (hg : ∀ k, k < 15 → g k = 0) : dnS nd g = 0 := by
  unfold dnS
  rw [mkS_congr (q := fun _ => false) (fun k hk => ?_)]
  · decide
  · rw [hg k hk]
    have := h k hk
    exact decide_eq_false (by omega)
theorem cell_e {l week : Nat} {w : Wd} : X10_cell (nI l) (nI week) w = nI (40 * week + l) := by
  unfold X10_cell X10_cellO
  rw [show (40 : Int32) = nI 40 from rfl, nI_mul, nI_add, Nat.mul_comm]; rfl
theorem doneB_e {w : Wd} (h : ILs w) {l week : Nat} (hl : l < 40) (hw : week < 60) {g : Nat → Nat} (hg : ∀ k, k < 15 → w.1 75 (15 * (40 * week + l) + k) = nI (g k) ∧ g k ≤ 60) : X10_doneBehind (nI l) (nI week) w = some (nI (dnS (ndF w) g)) := by
  unfold X10_doneBehind
  rw [cell_e, show (15 : Int32) = nI 15 from rfl, nI_mul, Nat.mul_comm, done_e h hg (by omega) (by omega)]
  rfl
/-- a LEARNER at a LAMP that is lit -/
theorem lit_get {w : Wd} (hL : IL w) (hN : IN w) {week l : Nat} (h : litY w week l) : ∃ m t, m < nn w 5 15 ∧ m < 12 ∧ t < nn w 5 12 ∧ t < 20 ∧ lampS w 1 l week = nI m ∧ lmY w week l = m ∧ tchS w m week = nI t ∧ isN w 17 m (nn w 5 0) ∧ nn w 17 m < 16 ∧ isN w 6 (nn w 17 m) 4 := by
  obtain ⟨h1, h2⟩ := h
  have b15 := hL.1.2.2.2.2.2
  have b12 := hL.1.2.2.2.1.2
  have b0 := hL.1.1.2
  rcases lampS_in hN (s := 1) (who := l) (week := week) (by omega) with z | ⟨m, hm, z⟩
  · exact (h1 z).elim
  · have em : lmY w week l = m := by unfold lmY; rw [z, ixn (by omega)]
    rw [em] at h2
    rcases tchS_NO (w := w) (lamp := m) (week := week) with y | ⟨t, ht, y, y2⟩
    · exact (h2 y).elim
    · have ht2 : t < nn w 5 12 := by
        by_cases q : t < nn w 5 12
        · exact q
        · have := lampS_no hN (s := 0) (who := t) (week := week) (by omega) (by rw [if_pos rfl]; omega)
          rw [this] at y2
          exact ((eqNO2 (by omega)).mp y2).elim
      have k17 := hL.2.2.2.2.2.2.2.2 m hm
      have := k17.2
      exact ⟨m, t, hm, by omega, ht2, ht, z, em, y, k17, by omega, hL.2.2.2.2.1 _ this⟩
theorem facts_e {w : Wd} (hL : IL w) (hN : IN w) (hS : ILs w) {week l m t : Nat} (hw : week < 60) (hl : l < nn w 5 8) (hm : m < nn w 5 15) (ht : t < nn w 5 12) (e28 : w.1 28 m = nI t) (e29 : w.1 29 m = nI (crwS w m week)) (et : tchS w m week = nI t) {g : Nat → Nat} (hg0 : week = 0 → ∀ k, k < 15 → g k = 0) (hg1 : 0 < week → ∀ k, k < 15 → w.1 75 (15 * (40 * (week - 1) + l) + k) = nI (g k) ∧ g k ≤ 60) : ∃ v, X10_gatherFacts (nI l) (nI m) (nI week) w = some v ∧ Fr [77] [] w v ∧ ∀ i, i < 7 → v.2 77 i = fct w week l m g i := by
  have b8 := hL.1.2.2.1.2
  have b15 := hL.1.2.2.2.2.2
  have b12 := hL.1.2.2.2.1.2
  have b0 := hL.1.1.2
  obtain ⟨-, ⟨e13, b13⟩, ⟨e14, b14⟩⟩ := hL.2.2.2.2.2.2.1 l hl
  obtain ⟨⟨e15, b15'⟩, -⟩ := hL.2.2.2.2.2.2.2.1 t ht
  obtain ⟨e17, b17⟩ := hL.2.2.2.2.2.2.2.2 m hm
  obtain ⟨e6, b6⟩ := hL.2.2.2.2.1 _ b17
  have hcr : crwS w m week ≤ 40 := cnt_le
  have fw : ∀ i, fct w week l m g i = if i = 0 then lN (nn w 13 l) else if i = 1 then pL ((nn w 15 t).testBit (nn w 14 l) = true) else if i = 2 then lN (crwS w m week) else if i = 3 then lN week else if i = 4 then lN (pcN 15 (dnS (ndF w) g)) else if i = 5 then pL (rainP w (nn w 17 m) week) else lN (nn w 6 (nn w 17 m)) := fun i => by
    unfold fct shY
    rw [et, ixn (by omega)]
  have hpc := pcN_le 15 (dnS (ndF w) g)
  have hpl : pL (rainP w (nn w 17 m) week) = if fg (rainP w (nn w 17 m) week) = nI 0 then lN 0 else lN 1 := by
    rw [← fg_J]
    by_cases z : rainP w (nn w 17 m) week
    · rw [fg_t z]; rfl
    · rw [fg_f z]; rfl
  generalize hu : puJ (puJ (puJ (puJ w 77 0 (lN (nn w 13 l))) 77 1 (pL ((nn w 15 t).testBit (nn w 14 l) = true))) 77 2 (lN (crwS w m week))) 77 3 (lN week) = u
  have u1 : u.1 = w.1 := by rw [← hu]; rfl
  have fu : Fr [77] [] w u := by rw [← hu]; exact Fr.puJ (Fr.puJ (Fr.puJ (Fr.puJ Fr.rf (by decide)) (by decide)) (by decide)) (by decide)
  have hA : X10_gatherFacts (nI l) (nI m) (nI week) w = X10_gatherFacts_j116 (nI week) (nI (nn w 17 m)) (lN (pcN 15 (dnS (ndF w) g))) (nI 4) u := by
    unfold X10_gatherFacts
    have hb := bit_J (x := nn w 15 t) (s := nn w 14 l) (by omega) (by omega)
    simp (disch := omega) only [gdn, gb0, gb1, ixn, nm1, nI_add, nI_mul, nsub, nI_ltI, nI_leI, nI_eq, eqNO, eqNO2, ltNO, NOlt, leNO, NOle, if_pos, if_neg, Option.bind_some, if_true, if_false, and_self, eq_self, l0, l1, l2, l3, l4, l5, l6, l7, l8, l9, l10, l11, l12, l13, l14, l15, l16, l17, l18, l19, l20, l24, l26, l30, l31, l32, l40, l41, l42, l43, l45, l47, l48, l57, l58, l59, l60, l61, l62, l63, l64, l97, l99, l100, l101, l102, l103, l104, l105, l106, l107, l108, l109, l110, l122, l160, l240, l255, l600, l1000, l3000, l10000, l10007, l10116, l67108863, l67108864, I_oth, I_J, J_oth, J_I, I_row, J_row, SI_row, SI_oth, SI_J, SJ_row, SJ_oth, SJ_I, upd_s, upd_n, updL_s, updL_n, ne_eq, not_false_eq_true, e28, e15, e13, e14, e29, e17, toJ, hb, hu]
    by_cases z : week = 0
    · rw [if_pos z, dnS_0 (fun k hk => (hS.1 k hk).2.1) (hg0 z)]
      rfl
    · rw [if_neg z]
      have hSu : ILs u := hS.sm (fu.sm (by decide))
      have hd := doneB_e hSu (l := l) (week := week - 1) (by omega) (by omega) (g := g) (fun k hk => by rw [u1]; exact hg1 (by omega) k hk)
      have en : ndF u = ndF w := by funext k; exact nn_row (congrFun u1 70)
      rw [en] at hd
      simp (disch := omega) only [gdn, gb0, gb1, ixn, nm1, nI_add, nI_mul, nsub, nI_ltI, nI_leI, nI_eq, eqNO, eqNO2, ltNO, NOlt, leNO, NOle, if_pos, if_neg, Option.bind_some, if_true, if_false, and_self, eq_self, l0, l1, l2, l3, l4, l5, l6, l7, l8, l9, l10, l11, l12, l13, l14, l15, l16, l17, l18, l19, l20, l24, l26, l30, l31, l32, l40, l41, l42, l43, l45, l47, l48, l57, l58, l59, l60, l61, l62, l63, l64, l97, l99, l100, l101, l102, l103, l104, l105, l106, l107, l108, l109, l110, l122, l160, l240, l255, l600, l1000, l3000, l10000, l10007, l10116, l67108863, l67108864, hd, bitCount_e (dnS_lt (ndF w) g), toJ]
  have hLu : ∀ y, IL (puJ u 77 4 y) := fun y => hL.sm ((Fr.puJ fu (by decide) : Fr [77] [] w (puJ u 77 4 y)).sm (by decide))
  have hr := rains_e (hLu (lN (pcN 15 (dnS (ndF w) g)))) (p := nn w 17 m) (week := week) (by omega) hw
  have er : rainP (puJ u 77 4 (lN (pcN 15 (dnS (ndF w) g)))) = rainP w := rain_y ((Fr.puJ fu (by decide) : Fr [77] [] w _).sm (by decide))
  rw [er] at hr
  refine ⟨puJ (puJ (puJ u 77 4 (lN (pcN 15 (dnS (ndF w) g)))) 77 5 (pL (rainP w (nn w 17 m) week))) 77 6 (lN (nn w 6 (nn w 17 m))), ?_, Fr.puJ (Fr.puJ (Fr.puJ fu (by decide)) (by decide)) (by decide), fun i hi => ?_⟩
  · rw [hA, hpl]
    unfold X10_gatherFacts_j116 X10_gatherFacts_j140
    have u6 : u.1 6 (nn w 17 m) = nI (nn w 6 (nn w 17 m)) := by rw [u1]; exact e6
    rw [show (0 : Int64) = lN 0 from rfl, show (1 : Int64) = lN 1 from rfl]
    simp (disch := omega) only [gdn, gb0, gb1, ixn, nm1, nI_add, nI_mul, nsub, nI_ltI, nI_leI, nI_eq, eqNO, eqNO2, ltNO, NOlt, leNO, NOle, if_pos, if_neg, Option.bind_some, if_true, if_false, and_self, eq_self, l0, l1, l2, l3, l4, l5, l6, l7, l8, l9, l10, l11, l12, l13, l14, l15, l16, l17, l18, l19, l20, l24, l26, l30, l31, l32, l40, l41, l42, l43, l45, l47, l48, l57, l58, l59, l60, l61, l62, l63, l64, l97, l99, l100, l101, l102, l103, l104, l105, l106, l107, l108, l109, l110, l122, l160, l240, l255, l600, l1000, l3000, l10000, l10007, l10116, l67108863, l67108864, hr]
    by_cases z : rainP w (nn w 17 m) week
    · rw [fg_t z, if_neg (by decide), if_neg (by decide)]
      simp (disch := omega) only [gdn, gb0, gb1, ixn, nm1, nI_add, nI_mul, nsub, nI_ltI, nI_leI, nI_eq, eqNO, eqNO2, ltNO, NOlt, leNO, NOle, if_pos, if_neg, Option.bind_some, if_true, if_false, and_self, eq_self, l0, l1, l2, l3, l4, l5, l6, l7, l8, l9, l10, l11, l12, l13, l14, l15, l16, l17, l18, l19, l20, l24, l26, l30, l31, l32, l40, l41, l42, l43, l45, l47, l48, l57, l58, l59, l60, l61, l62, l63, l64, l97, l99, l100, l101, l102, l103, l104, l105, l106, l107, l108, l109, l110, l122, l160, l240, l255, l600, l1000, l3000, l10000, l10007, l10116, l67108863, l67108864, I_oth, I_J, J_oth, J_I, I_row, J_row, SI_row, SI_oth, SI_J, SJ_row, SJ_oth, SJ_I, upd_s, upd_n, updL_s, updL_n, ne_eq, not_false_eq_true, u6, toJ]
    · rw [fg_f z, if_pos rfl, if_pos rfl]
      simp (disch := omega) only [gdn, gb0, gb1, ixn, nm1, nI_add, nI_mul, nsub, nI_ltI, nI_leI, nI_eq, eqNO, eqNO2, ltNO, NOlt, leNO, NOle, if_pos, if_neg, Option.bind_some, if_true, if_false, and_self, eq_self, l0, l1, l2, l3, l4, l5, l6, l7, l8, l9, l10, l11, l12, l13, l14, l15, l16, l17, l18, l19, l20, l24, l26, l30, l31, l32, l40, l41, l42, l43, l45, l47, l48, l57, l58, l59, l60, l61, l62, l63, l64, l97, l99, l100, l101, l102, l103, l104, l105, l106, l107, l108, l109, l110, l122, l160, l240, l255, l600, l1000, l3000, l10000, l10007, l10116, l67108863, l67108864, I_oth, I_J, J_oth, J_I, I_row, J_row, SI_row, SI_oth, SI_J, SJ_row, SJ_oth, SJ_I, upd_s, upd_n, updL_s, updL_n, ne_eq, not_false_eq_true, u6, toJ]
  · rw [fw, ← hu]
    have hi7 : i = 0 ∨ i = 1 ∨ i = 2 ∨ i = 3 ∨ i = 4 ∨ i = 5 ∨ i = 6 := by omega
    rcases hi7 with rfl | rfl | rfl | rfl | rfl | rfl | rfl <;> simp (disch := omega) only [gdn, gb0, gb1, ixn, nm1, nI_add, nI_mul, nsub, nI_ltI, nI_leI, nI_eq, eqNO, eqNO2, ltNO, NOlt, leNO, NOle, if_pos, if_neg, Option.bind_some, if_true, if_false, and_self, eq_self, l0, l1, l2, l3, l4, l5, l6, l7, l8, l9, l10, l11, l12, l13, l14, l15, l16, l17, l18, l19, l20, l24, l26, l30, l31, l32, l40, l41, l42, l43, l45, l47, l48, l57, l58, l59, l60, l61, l62, l63, l64, l97, l99, l100, l101, l102, l103, l104, l105, l106, l107, l108, l109, l110, l122, l160, l240, l255, l600, l1000, l3000, l10000, l10007, l10116, l67108863, l67108864, I_oth, I_J, J_oth, J_I, I_row, J_row, SI_row, SI_oth, SI_J, SJ_row, SJ_oth, SJ_I, upd_s, upd_n, updL_s, updL_n, ne_eq, not_false_eq_true]
def sS_J : List Nat := [44, 45, 46, 47, 48, 49, 50, 51, 52, 53, 54, 55, 56, 57, 58, 59, 60, 61, 62, 63, 64, 77, 78]
theorem FG.fr {s : Nat} {w w' : Wd} (hs : s < 4) (h : FG (stc s) w w') {S : List Nat} {T : List (Nat × Nat)} (hS : ∀ k, 45 ≤ k → k < 65 → k ∈ S) : Fr S T w w' := fun k hk j _ => by
  have hc : stc s = 45 + 5 * s := rfl
  by_cases q : k < stc s ∨ stc s + 5 ≤ k
  · rw [(h k q).1, (h k q).2]; exact ⟨rfl, rfl⟩
  · exact (hk (hS k (by omega) (by omega))).elim
theorem sS_J45 : ∀ k, 45 ≤ k → k < 65 → k ∈ sS_J := by
  intro k h1 h2
  have h : (List.range 20).all (fun q => sS_J.contains (45 + q)) = true := by decide
  have h3 := List.all_eq_true.mp h (k - 45) (List.mem_range.mpr (by omega))
  rw [show 45 + (k - 45) = k by omega] at h3
  exact List.contains_iff_mem.mp h3
theorem judge_e {w : Wd} (hL : IL w) (hN : IN w) (hB : IBo w) (hG : IG w) (hI : IR w) (hS : ILs w) {week l : Nat} (hw : week < 60) (hl : l < nn w 5 8) (hU : CU w week) {g : Nat → Nat} (hg0 : week = 0 → ∀ k, k < 15 → g k = 0) (hg1 : 0 < week → ∀ k, k < 15 → w.1 75 (15 * (40 * (week - 1) + l) + k) = nI (g k) ∧ g k ≤ 60) {t : Nat} (ht : litY w week l → w.1 78 (lmY w week l) = nI t) (ht2 : t < 1000) : ∃ v, X10_judge (nI l) (nI week) w = some (nI (jd w week l g t), v) ∧ Fr sS_J [] w v ∧ IG v ∧ v.1 78 = if 3 ≤ jd w week l g t then upd (w.1 78) (lmY w week l) (nI (t + 1)) else w.1 78 := by
  have b8 := hL.1.2.2.1.2
  have e27 : w.1 27 l = lampS w 1 l week := hU.2.1 l (by omega)
  by_cases hq : litY w week l
  · obtain ⟨m, u, hm, hm12, hu, hu20, e1, e2, e3, ⟨e17, b17⟩, b16, ⟨e6, b6⟩⟩ := lit_get hL hN hq
    have ht := ht hq
    rw [e2] at ht
    have e28 : w.1 28 m = nI u := by rw [hU.2.2.1 m hm12]; exact e3
    have e29 : w.1 29 m = nI (crwS w m week) := hU.2.2.2 m hm12
    rw [e1] at e27
    generalize hs : nn w 6 (nn w 17 m) = s at *
    have hc : stc s = 45 + 5 * s := rfl
    obtain ⟨w1, c1, c2, c3, c4, c5, c6, c7⟩ := standing_e hB hG b6 hw
    have hy : Sm sR_Y sF_Y w w1 := c2.sm (by omega) (by omega) (by decide) (by decide)
    have hshl : shY w m = s := hs
    have eR : rsY w week l = RS w s week := by unfold rsY; rw [e2, hshl]
    have eRm : rmY w week m = lst w (RS w s week) 104 40 (RS w s week).length := by unfold rmY; rw [hshl]
    have hRk : okRl w1 (RS w s week) := by
      have := okRl_tl c3 (p := inF w1 s week)
      rw [show RS w s week = RS w1 s week by rw [RS_y hy]]; exact this
    have hI1 : IR w1 := hI.sm (c2.sm (by omega) (by omega) (by decide) (by decide))
    have hL1 : IL w1 := hL.sm (c2.sm (by omega) (by omega) (by decide) (by decide))
    have hN1 : IN w1 := hN.sm (c2.sm (by omega) (by omega) (by decide) (by decide))
    have hS1 : ILs w1 := hS.sm (c2.sm (by omega) (by omega) (by decide) (by decide))
    have hj : jd w week l g t = if mayS w (RS w s week) (fct w week l m g) = false then 1 else if lst w (RS w s week) 104 40 (RS w s week).length ≤ t then 2 else 3 + hrsS w (RS w s week) (fct w week l m g) := by
      rw [jd_t hq]
      unfold myY hrY
      rw [eR, e2, eRm]
    -- facts, if they are asked for
    have step : ∃ w2, X10_judge (nI l) (nI week) w = X10_judge_j76 (nI m) s w2 ∧ Fr [77] [] w1 w2 ∧ (slc w1 (RS w s week) 101 (RS w s week).length ≠ [] → ∀ i, i < 7 → w2.2 77 i = fct w week l m g i) ∧ (slc w1 (RS w s week) 103 (RS w s week).length ≠ [] → ∀ i, i < 7 → w2.2 77 i = fct w week l m g i) := by
      have hl1 : (slc w1 (RS w s week) 101 (RS w s week).length).length ≤ 100 := Nat.le_trans slc_len hRk.2
      have hl3 : (slc w1 (RS w s week) 103 (RS w s week).length).length ≤ 100 := Nat.le_trans slc_len hRk.2
      have hask : X8_asksForFacts s w1 = if (slc w1 (RS w s week) 101 (RS w s week).length).length + (slc w1 (RS w s week) 103 (RS w s week).length).length = 0 then nI 0 else nI 1 := by
        unfold X8_asksForFacts X8_asksForFactsO
        rw [c7.1.1, c7.2.1.1, nI_add, show (0 : Int32) = nI 0 from rfl]
        by_cases z : (slc w1 (RS w s week) 101 (RS w s week).length).length + (slc w1 (RS w s week) 103 (RS w s week).length).length = 0
        · rw [if_pos z, if_pos (by rw [nI_leI (by omega) (by omega)]; omega)]; rfl
        · rw [if_neg z, if_neg (by rw [nI_leI (by omega) (by omega)]; omega)]; rfl
      by_cases z : (slc w1 (RS w s week) 101 (RS w s week).length).length + (slc w1 (RS w s week) 103 (RS w s week).length).length = 0
      · rw [if_pos z] at hask
        refine ⟨w1, ?_, Fr.rf, fun y => (y (List.length_eq_zero_iff.mp (by omega))).elim, fun y => (y (List.length_eq_zero_iff.mp (by omega))).elim⟩
        unfold X10_judge
        simp (disch := omega) only [gdn, gb0, gb1, ixn, nm1, nI_add, nI_mul, nsub, nI_ltI, nI_leI, nI_eq, eqNO, eqNO2, ltNO, NOlt, leNO, NOle, if_pos, if_neg, Option.bind_some, if_true, if_false, and_self, eq_self, l0, l1, l2, l3, l4, l5, l6, l7, l8, l9, l10, l11, l12, l13, l14, l15, l16, l17, l18, l19, l20, l24, l26, l30, l31, l32, l40, l41, l42, l43, l45, l47, l48, l57, l58, l59, l60, l61, l62, l63, l64, l97, l99, l100, l101, l102, l103, l104, l105, l106, l107, l108, l109, l110, l122, l160, l240, l255, l600, l1000, l3000, l10000, l10007, l10116, l67108863, l67108864, I_oth, I_J, J_oth, J_I, I_row, J_row, SI_row, SI_oth, SI_J, SJ_row, SJ_oth, SJ_I, upd_s, upd_n, updL_s, updL_n, ne_eq, not_false_eq_true, e27, e28, e17, e6, c1, gd_t b6, hask]
      · rw [if_neg z] at hask
        have r1 : ∀ k, k < 45 ∨ 65 ≤ k → w1.1 k = w.1 k := fun k hk => (c2 k (by omega)).1
        obtain ⟨w2, f1, f2, f3⟩ := facts_e hL1 hN1 hS1 hw (by rw [nn_row (r1 5 (by omega))]; exact hl) (m := m) (t := u) (by rw [nn_row (r1 5 (by omega))]; exact hm) (by rw [nn_row (r1 5 (by omega))]; exact hu) (by rw [r1 28 (by omega)]; exact e28) (by rw [r1 29 (by omega), crwS_y hy]; exact e29) (by rw [tchS_y hy]; exact e3) hg0 (fun y k hk => by rw [r1 75 (by omega)]; exact hg1 y k hk)
        rw [fct_y hy] at f3
        refine ⟨w2, ?_, f2, fun _ => f3, fun _ => f3⟩
        unfold X10_judge
        simp (disch := omega) only [gdn, gb0, gb1, ixn, nm1, nI_add, nI_mul, nsub, nI_ltI, nI_leI, nI_eq, eqNO, eqNO2, ltNO, NOlt, leNO, NOle, if_pos, if_neg, Option.bind_some, if_true, if_false, and_self, eq_self, l0, l1, l2, l3, l4, l5, l6, l7, l8, l9, l10, l11, l12, l13, l14, l15, l16, l17, l18, l19, l20, l24, l26, l30, l31, l32, l40, l41, l42, l43, l45, l47, l48, l57, l58, l59, l60, l61, l62, l63, l64, l97, l99, l100, l101, l102, l103, l104, l105, l106, l107, l108, l109, l110, l122, l160, l240, l255, l600, l1000, l3000, l10000, l10007, l10116, l67108863, l67108864, I_oth, I_J, J_oth, J_I, I_row, J_row, SI_row, SI_oth, SI_J, SJ_row, SJ_oth, SJ_I, upd_s, upd_n, updL_s, updL_n, ne_eq, not_false_eq_true, e27, e28, e17, e6, c1, gd_t b6, hask, f1]
    obtain ⟨w2, s1, s2, s3, s4⟩ := step
    have r2 : ∀ k, k ≠ 77 → w2.1 k = w1.1 k := fun k hk => (s2.row k (by simpa using hk) (by simp)).1
    have hy2 : Sm sR_Y sF_Y w1 w2 := s2.sm (by decide)
    have hB2 : IBo w2 := c3.sm (s2.sm (by decide))
    have hI2 : IR w2 := hI1.sm (s2.sm (by decide))
    have hG2 : IG w2 := IG.sm c3 c4 (s2.sm (by decide))
    have hRk2 : okRl w2 (RS w s week) := by
      have := okRl_tl hB2 (p := inF w2 s week)
      rw [show RS w s week = RS w2 s week by rw [RS_y hy2, RS_y hy]]; exact this
    have gl : ∀ v : Wd, v.1 (stc s) = w1.1 (stc s) → v.1 (stc s + 3) = w1.1 (stc s + 3) → v.1 (stc s + 4) = w1.1 (stc s + 4) → Sm sR_Y sF_Y w1 v → GAl v v (stc s) (RS w s week) (RS w s week).length := fun v v1 v2 v3 v4 => by
      unfold GAl
      rw [v1, v2, v3, slc_y v4, lst_y v4]; exact c7
    obtain ⟨w3, x1, x2⟩ := admits_e hB2 hI2 hRk2 b6 (gl w2 (r2 _ (by omega)) (r2 _ (by omega)) (r2 _ (by omega)) hy2) (F := fct w week l m g) (by rw [slc_y hy2]; exact s3)
    rw [mayS_y hy2, mayS_y hy] at x1
    have r3 : ∀ k, k ≠ 44 → k ≠ 77 → w3.1 k = w1.1 k := fun k hk hk2 => by rw [(x2.row k (by simpa using hk) (by simp)).1]; exact r2 k hk2
    have hy3 : Sm sR_Y sF_Y w2 w3 := x2.sm (by decide)
    have hB3 : IBo w3 := hB2.sm (x2.sm (by decide))
    have hI3 : IR w3 := hI2.sm (x2.sm (by decide))
    have hG3 : IG w3 := IG.sm hB2 hG2 (x2.sm (by decide))
    have fr1 : Fr sS_J [] w w1 := FG.fr b6 c2 sS_J45
    have fr2 : Fr sS_J [] w w2 := fr1.next s2 (by decide) (by simp)
    have fr3 : Fr sS_J [] w w3 := fr2.next x2 (by decide) (by simp)
    have e78 : w3.1 78 = w.1 78 := by rw [r3 78 (by omega) (by omega)]; exact (c2 78 (by omega)).1
    have e8 : w3.1 (stc s) 8 = nI (lst w (RS w s week) 104 40 (RS w s week).length) := by
      rw [r3 _ (by omega) (by omega), c7.2.2.1, lst_y hy]
    have hlst : lst w (RS w s week) 104 40 (RS w s week).length < 101 := lst_le (by omega) (fun j hj => ((okRl_tl hB (p := inF w s week)).at hB hj).2.2.2.2.2.2.1.2) _ (Nat.le_refl _)
    rw [hj]
    by_cases q1 : mayS w (RS w s week) (fct w week l m g) = false
    · rw [q1] at x1 ⊢
      rw [if_pos rfl]
      refine ⟨w3, ?_, fr3, hG3, by rw [if_neg (by omega)]; exact e78⟩
      rw [s1]
      unfold X10_judge_j76
      rw [x1]; rfl
    · have q1t : mayS w (RS w s week) (fct w week l m g) = true := by simpa using q1
      rw [if_neg q1]
      rw [q1t] at x1
      have ht3 : w3.1 78 m = nI t := by rw [e78]; exact ht
      by_cases q2 : lst w (RS w s week) 104 40 (RS w s week).length ≤ t
      · rw [if_pos q2]
        refine ⟨w3, ?_, fr3, hG3, by rw [if_neg (by omega)]; exact e78⟩
        rw [s1]
        unfold X10_judge_j76
        simp (disch := omega) only [gdn, gb0, gb1, ixn, nm1, nI_add, nI_mul, nsub, nI_ltI, nI_leI, nI_eq, eqNO, eqNO2, ltNO, NOlt, leNO, NOle, if_pos, if_neg, Option.bind_some, if_true, if_false, and_self, eq_self, l0, l1, l2, l3, l4, l5, l6, l7, l8, l9, l10, l11, l12, l13, l14, l15, l16, l17, l18, l19, l20, l24, l26, l30, l31, l32, l40, l41, l42, l43, l45, l47, l48, l57, l58, l59, l60, l61, l62, l63, l64, l97, l99, l100, l101, l102, l103, l104, l105, l106, l107, l108, l109, l110, l122, l160, l240, l255, l600, l1000, l3000, l10000, l10007, l10116, l67108863, l67108864, I_oth, I_J, J_oth, J_I, I_row, J_row, SI_row, SI_oth, SI_J, SJ_row, SJ_oth, SJ_I, upd_s, upd_n, updL_s, updL_n, ne_eq, not_false_eq_true, x1, bI, ht3, e8]
      · rw [if_neg q2]
        have fr4 : Fr [78] [] w3 (puI w3 78 m (nI (t + 1))) := Fr.puI Fr.rf (by decide)
        have hy4 : Sm sR_Y sF_Y w3 (puI w3 78 m (nI (t + 1))) := fr4.sm (by decide)
        have hyy : Sm sR_Y sF_Y w1 (puI w3 78 m (nI (t + 1))) := ((s2.wk (S' := [44, 77, 78]) (T' := []) (by decide) (by simp)).next x2 (by decide) (by simp) |>.next fr4 (by decide) (by simp)).sm (by decide)
        have hB4 : IBo (puI w3 78 m (nI (t + 1))) := hB3.sm (fr4.sm (by decide))
        have hRk4 : okRl (puI w3 78 m (nI (t + 1))) (RS w s week) := by
          have := okRl_tl hB4 (p := inF (puI w3 78 m (nI (t + 1))) s week)
          rw [show RS w s week = RS (puI w3 78 m (nI (t + 1))) s week by rw [RS_y hyy, RS_y hy]]; exact this
        obtain ⟨w4, y1, y2⟩ := hoursFor_e hB4 (hI3.sm (fr4.sm (by decide))) hRk4 b6 (gl _ (by rw [I_oth (by omega)]; exact r3 _ (by omega) (by omega)) (by rw [I_oth (by omega)]; exact r3 _ (by omega) (by omega)) (by rw [I_oth (by omega)]; exact r3 _ (by omega) (by omega)) hyy) (F := fct w week l m g) (by
          rw [slc_y hyy]
          intro y i hi
          rw [I_J, (x2 77 (by decide) i (by simp)).2]
          exact s4 y i hi)
        rw [hrsS_y hyy, hrsS_y hy] at y1
        have hle : hrsS w (RS w s week) (fct w week l m g) ≤ 60 := hrV_le
        refine ⟨w4, ?_, (fr3.next fr4 (by decide) (by simp)).next y2 (by decide) (by simp), IG.sm hB4 (IG.sm hB3 hG3 (fr4.sm (by decide))) (y2.sm (by decide)), ?_⟩
        · rw [s1]
          unfold X10_judge_j76
          simp (disch := omega) only [gdn, gb0, gb1, ixn, nm1, nI_add, nI_mul, nsub, nI_ltI, nI_leI, nI_eq, eqNO, eqNO2, ltNO, NOlt, leNO, NOle, if_pos, if_neg, Option.bind_some, if_true, if_false, and_self, eq_self, l0, l1, l2, l3, l4, l5, l6, l7, l8, l9, l10, l11, l12, l13, l14, l15, l16, l17, l18, l19, l20, l24, l26, l30, l31, l32, l40, l41, l42, l43, l45, l47, l48, l57, l58, l59, l60, l61, l62, l63, l64, l97, l99, l100, l101, l102, l103, l104, l105, l106, l107, l108, l109, l110, l122, l160, l240, l255, l600, l1000, l3000, l10000, l10007, l10116, l67108863, l67108864, I_oth, I_J, J_oth, J_I, I_row, J_row, SI_row, SI_oth, SI_J, SJ_row, SJ_oth, SJ_I, upd_s, upd_n, updL_s, updL_n, ne_eq, not_false_eq_true, x1, bI, ht3, e8, y1]
        · rw [if_pos (by omega), (y2.row 78 (by decide) (by simp)).1, I_row, e78, e2]
  · rw [jd_n hq]
    refine ⟨w, ?_, Fr.rf, hG, by rw [if_neg (by omega)]⟩
    unfold X10_judge
    by_cases q1 : lampS w 1 l week = NO
    · rw [q1] at e27
      rw [show (-1 : Int32) = NO from rfl]
      simp (disch := omega) only [gdn, gb0, gb1, ixn, nm1, nI_add, nI_mul, nsub, nI_ltI, nI_leI, nI_eq, eqNO, eqNO2, ltNO, NOlt, leNO, NOle, if_pos, if_neg, Option.bind_some, if_true, if_false, and_self, eq_self, l0, l1, l2, l3, l4, l5, l6, l7, l8, l9, l10, l11, l12, l13, l14, l15, l16, l17, l18, l19, l20, l24, l26, l30, l31, l32, l40, l41, l42, l43, l45, l47, l48, l57, l58, l59, l60, l61, l62, l63, l64, l97, l99, l100, l101, l102, l103, l104, l105, l106, l107, l108, l109, l110, l122, l160, l240, l255, l600, l1000, l3000, l10000, l10007, l10116, l67108863, l67108864, I_oth, I_J, J_oth, J_I, I_row, J_row, SI_row, SI_oth, SI_J, SJ_row, SJ_oth, SJ_I, upd_s, upd_n, updL_s, updL_n, ne_eq, not_false_eq_true, e27]
    · rcases lampS_in hN (s := 1) (who := l) (week := week) (by omega) with z | ⟨m, hm, z⟩
      · exact (q1 z).elim
      · have b15 := hL.1.2.2.2.2.2
        have em : lmY w week l = m := by unfold lmY; rw [z, ixn (by omega)]
        have e28 : w.1 28 m = NO := by
          rw [hU.2.2.1 m (by omega)]
          rcases tchS_NO (w := w) (lamp := m) (week := week) with y | ⟨t', _, y, _⟩
          · exact y
          · exact (hq ⟨q1, by rw [em, y]; exact fun x => (eqNO (show t' < 2 ^ 31 by omega)).mp x⟩).elim
        rw [z] at e27
        rw [show (-1 : Int32) = NO from rfl]
        simp (disch := omega) only [gdn, gb0, gb1, ixn, nm1, nI_add, nI_mul, nsub, nI_ltI, nI_leI, nI_eq, eqNO, eqNO2, ltNO, NOlt, leNO, NOle, if_pos, if_neg, Option.bind_some, if_true, if_false, and_self, eq_self, l0, l1, l2, l3, l4, l5, l6, l7, l8, l9, l10, l11, l12, l13, l14, l15, l16, l17, l18, l19, l20, l24, l26, l30, l31, l32, l40, l41, l42, l43, l45, l47, l48, l57, l58, l59, l60, l61, l62, l63, l64, l97, l99, l100, l101, l102, l103, l104, l105, l106, l107, l108, l109, l110, l122, l160, l240, l255, l600, l1000, l3000, l10000, l10007, l10116, l67108863, l67108864, I_oth, I_J, J_oth, J_I, I_row, J_row, SI_row, SI_oth, SI_J, SJ_row, SJ_oth, SJ_I, upd_s, upd_n, updL_s, updL_n, ne_eq, not_false_eq_true, e27, e28]
