theorem pLat_u {A : Nat → Nat → Nat} {M s u v : Nat} (h1 : pLat A M s u) (h2 : pLat A M s v) : u = v := by
  obtain ⟨l1, a1, b1⟩ := h1.2.2
  obtain ⟨l2, a2, b2⟩ := h2.2.2
  have := h1.2.1 l2 a2
  have := h2.2.1 l1 a1
  omega
theorem pSum_u {A : Nat → Nat → Nat} {M B s u v : Nat} (h1 : pSum A M B s u) (h2 : pSum A M B s v) : u = v := by
  have a1 := h1.1
  have a2 := h2.1
  by_cases q1 : u < 1000
  · obtain ⟨l1, x1, y1, z1⟩ := h1.2.2 q1
    have b1 := h2.2.1 l1 x1 y1
    obtain ⟨l2, x2, y2, z2⟩ := h2.2.2 (by omega)
    have := h1.2.1 l2 x2 y2
    omega
  · by_cases q2 : v < 1000
    · obtain ⟨l2, x2, y2, z2⟩ := h2.2.2 q2
      have := h1.2.1 l2 x2 y2
      omega
    · omega
noncomputable def latF (A : Nat → Nat → Nat) (M s : Nat) : Nat := @dite _ (∃ v, pLat A M s v) (Classical.propDecidable _) (fun h => Classical.choose h) (fun _ => 0)
theorem latF_e {A : Nat → Nat → Nat} {M s v : Nat} (h : pLat A M s v) : latF A M s = v := by
  have e : ∃ v, pLat A M s v := ⟨v, h⟩
  have h1 : latF A M s = Classical.choose e := dif_pos e
  rw [h1]
  exact pLat_u (Classical.choose_spec e) h
theorem latF_s {A : Nat → Nat → Nat} {M : Nat} (hA : ∀ k t, A k t ≤ 1000) (hM : M ≤ 7) : ∀ s, s < 2 ^ M → pLat A M s (latF A M s) := by
  intro s
  induction s using Nat.strongRecOn with
  | _ s ih =>
    intro hs
    by_cases h0 : s = 0
    · subst h0; rw [latF_e pLat_0]; exact pLat_0
    · have h1 := pLat_s (A := A) hA hM hs h0 (V := fun t => latF A M (s - 2 ^ t)) (fun t ht hb => ih _ (Nat.sub_lt (by omega) (Nat.two_pow_pos t)) (Nat.lt_of_le_of_lt (Nat.sub_le _ _) hs))
      rw [latF_e h1]; exact h1
theorem latF_r {A : Nat → Nat → Nat} {M : Nat} (hA : ∀ k t, A k t ≤ 1000) (hM : M ≤ 7) {s : Nat} (hs : s < 2 ^ M) (h0 : s ≠ 0) : latF A M s = mnF (fun t => s.testBit t) (fun t => max (A (M - pcN 15 s) t) (latF A M (s - 2 ^ t))) M :=
  latF_e (pLat_s hA hM hs h0 (fun t ht hb => latF_s hA hM _ (Nat.lt_of_le_of_lt (Nat.sub_le _ _) hs)))
noncomputable def sumF (A : Nat → Nat → Nat) (M B s : Nat) : Nat := @dite _ (∃ v, pSum A M B s v) (Classical.propDecidable _) (fun h => Classical.choose h) (fun _ => 0)
theorem sumF_e {A : Nat → Nat → Nat} {M B s v : Nat} (h : pSum A M B s v) : sumF A M B s = v := by
  have e : ∃ v, pSum A M B s v := ⟨v, h⟩
  have h1 : sumF A M B s = Classical.choose e := dif_pos e
  rw [h1]
  exact pSum_u (Classical.choose_spec e) h
theorem sumF_s {A : Nat → Nat → Nat} {M B : Nat} (hM : M ≤ 7) : ∀ s, s < 2 ^ M → pSum A M B s (sumF A M B s) := by
  intro s
  induction s using Nat.strongRecOn with
  | _ s ih =>
    intro hs
    by_cases h0 : s = 0
    · subst h0; rw [sumF_e pSum_0]; exact pSum_0
    · have h1 := pSum_s (A := A) (B := B) hM hs h0 (V := fun t => sumF A M B (s - 2 ^ t)) (fun t ht hb => ih _ (Nat.sub_lt (by omega) (Nat.two_pow_pos t)) (Nat.lt_of_le_of_lt (Nat.sub_le _ _) hs))
      rw [sumF_e h1]; exact h1
theorem sumF_r {A : Nat → Nat → Nat} {M B : Nat} (hM : M ≤ 7) {s : Nat} (hs : s < 2 ^ M) (h0 : s ≠ 0) : sumF A M B s = mnF (fun t => s.testBit t && decide (A (M - pcN 15 s) t ≤ B)) (fun t => A (M - pcN 15 s) t + sumF A M B (s - 2 ^ t)) M :=
  sumF_e (pSum_s hM hs h0 (fun t ht hb => sumF_s hM _ (Nat.lt_of_le_of_lt (Nat.sub_le _ _) hs)))
theorem clr_e {s t : Nat} (hs : s < 128) (ht : t < 7) (hb : s.testBit t = true) : nI s &&& (nI (2 ^ t) ^^^ NO) = nI (s - 2 ^ t) := by
  have : ∀ s : Fin 128, ∀ t : Fin 7, s.1.testBit t.1 = true → nI s.1 &&& (nI (2 ^ t.1) ^^^ NO) = nI (s.1 - 2 ^ t.1) := by decide +kernel
  exact this ⟨s, hs⟩ ⟨t, ht⟩ hb
theorem pow7 {M : Nat} (h : M ≤ 7) : 2 ^ M ≤ 128 := Nat.le_trans (Nat.pow_le_pow_right (by omega) h) (by decide)
section
variable {A : Nat → Nat → Nat} {M : Nat} {w : Wd}
theorem arrF_e (hM : M ≤ 7) (h88 : w.1 88 0 = nI M) (h91 : ∀ k t, k < M → t < M → w.1 91 (7 * k + t) = nI (A k t)) {s t : Nat} (hs : s < 2 ^ M) (ht : t < M) (hb : s.testBit t = true) : X7_arrivalFor (nI s) (nI t) w = some (nI (A (M - pcN 15 s) t)) := by
  have hp := pow7 hM
  have hpc := pc_le 15 M s hs
  have hp1 := pc_sub 15 s t (by omega) hb
  have r := h91 (M - pcN 15 s) t (by omega) ht
  rw [show 7 * (M - pcN 15 s) + t = (M - pcN 15 s) * 7 + t by omega] at r
  unfold X7_arrivalFor
  rw [bitCount_e (by omega)]
  simp (disch := omega) only [gdn, gb0, gb1, ixn, nm1, nI_add, nI_mul, nsub, nI_ltI, nI_leI, nI_eq, eqNO, eqNO2, ltNO, NOlt, leNO, NOle, if_pos, if_neg, Option.bind_some, if_true, if_false, and_self, eq_self, l0, l1, l2, l3, l4, l5, l6, l7, l8, l9, l10, l11, l12, l13, l14, l15, l16, l17, l18, l19, l20, l24, l26, l30, l31, l32, l40, l41, l42, l43, l45, l47, l48, l57, l58, l59, l60, l61, l62, l63, l64, l97, l99, l100, l101, l102, l103, l104, l105, l106, l107, l108, l109, l110, l122, l160, l240, l255, l600, l1000, l3000, l10000, l10007, l10116, l67108863, l67108864, h88, r]
theorem leastL_e (hA : ∀ k t, A k t ≤ 1000) (hM : M ≤ 7) (h88 : w.1 88 0 = nI M) (h91 : ∀ k t, k < M → t < M → w.1 91 (7 * k + t) = nI (A k t)) {s : Nat} (hs : s < 2 ^ M) (h0 : s ≠ 0) (h92 : ∀ j, j < s → w.1 92 j = nI (latF A M j)) : X7_leastLatest (nI s) w = some (nI (latF A M s)) := by
  have hp := pow7 hM
  rw [latF_r hA hM hs h0]
  unfold X7_leastLatest
  have hlp := lp_for (b := X7_leastLatest_b6 (nI s) w) (fun t => (nI (mnF (fun t => s.testBit t) (fun t => max (A (M - pcN 15 s) t) (latF A M (s - 2 ^ t))) t), nI t)) M (e := nI (mnF (fun t => s.testBit t) (fun t => max (A (M - pcN 15 s) t) (latF A M (s - 2 ^ t))) M)) (fun t ht => ?_) ?_ 0 (Nat.zero_le _)
  · rw [show ((1000 : Int32), (0 : Int32)) = (nI (mnF (fun t => s.testBit t) (fun t => max (A (M - pcN 15 s) t) (latF A M (s - 2 ^ t))) 0), nI 0) from rfl, hlp]
    rfl
  · have hbit := bit_e (D := s) (k := t) (by omega) (by omega)
    have hle := mnF_le (p := fun t => s.testBit t) (c := fun t => max (A (M - pcN 15 s) t) (latF A M (s - 2 ^ t))) t
    unfold X7_leastLatest_b6 X7_leastLatest_j48
    by_cases hb : s.testBit t = true
    · rw [if_pos hb] at hbit
      have ha := arrF_e hM h88 h91 hs ht hb
      have hc := clr_e (s := s) (t := t) (by omega) (by omega) hb
      have hlt : s - 2 ^ t < s := Nat.sub_lt (by omega) (Nat.two_pow_pos t)
      have r92 := h92 (s - 2 ^ t) hlt
      have hl := (latF_s hA hM (s - 2 ^ t) (Nat.lt_trans hlt hs)).1
      have hAt := hA (M - pcN 15 s) t
      have hsh := shl1 (k := t) (by omega)
      have hlt2 : s - 2 ^ t < 128 := by omega
      rw [show mnF (fun t => s.testBit t) (fun t => max (A (M - pcN 15 s) t) (latF A M (s - 2 ^ t))) (t + 1) = min (mnF (fun t => s.testBit t) (fun t => max (A (M - pcN 15 s) t) (latF A M (s - 2 ^ t))) t) (max (A (M - pcN 15 s) t) (latF A M (s - 2 ^ t))) from by rw [mnF, if_pos hb]]
      generalize s - 2 ^ t = q at hc r92 hl hlt2
      simp (disch := omega) only [gdn, gb0, gb1, ixn, nm1, nI_add, nI_mul, nsub, nI_ltI, nI_leI, nI_eq, eqNO, eqNO2, ltNO, NOlt, leNO, NOle, if_pos, if_neg, Option.bind_some, if_true, if_false, and_self, eq_self, l0, l1, l2, l3, l4, l5, l6, l7, l8, l9, l10, l11, l12, l13, l14, l15, l16, l17, l18, l19, l20, l24, l26, l30, l31, l32, l40, l41, l42, l43, l45, l47, l48, l57, l58, l59, l60, l61, l62, l63, l64, l97, l99, l100, l101, l102, l103, l104, l105, l106, l107, l108, l109, l110, l122, l160, l240, l255, l600, l1000, l3000, l10000, l10007, l10116, l67108863, l67108864, h88, hbit, ha, hsh, hc, r92, mx_nI, mn_nI]
    · rw [if_neg hb] at hbit
      rw [show mnF (fun t => s.testBit t) (fun t => max (A (M - pcN 15 s) t) (latF A M (s - 2 ^ t))) (t + 1) = mnF (fun t => s.testBit t) (fun t => max (A (M - pcN 15 s) t) (latF A M (s - 2 ^ t))) t from by rw [mnF, if_neg hb]]
      simp (disch := omega) only [gdn, gb0, gb1, ixn, nm1, nI_add, nI_mul, nsub, nI_ltI, nI_leI, nI_eq, eqNO, eqNO2, ltNO, NOlt, leNO, NOle, if_pos, if_neg, Option.bind_some, if_true, if_false, and_self, eq_self, l0, l1, l2, l3, l4, l5, l6, l7, l8, l9, l10, l11, l12, l13, l14, l15, l16, l17, l18, l19, l20, l24, l26, l30, l31, l32, l40, l41, l42, l43, l45, l47, l48, l57, l58, l59, l60, l61, l62, l63, l64, l97, l99, l100, l101, l102, l103, l104, l105, l106, l107, l108, l109, l110, l122, l160, l240, l255, l600, l1000, l3000, l10000, l10007, l10116, l67108863, l67108864, h88, hbit]
  · unfold X7_leastLatest_b6
    simp (disch := omega) only [gdn, gb0, gb1, ixn, nm1, nI_add, nI_mul, nsub, nI_ltI, nI_leI, nI_eq, eqNO, eqNO2, ltNO, NOlt, leNO, NOle, if_pos, if_neg, Option.bind_some, if_true, if_false, and_self, eq_self, l0, l1, l2, l3, l4, l5, l6, l7, l8, l9, l10, l11, l12, l13, l14, l15, l16, l17, l18, l19, l20, l24, l26, l30, l31, l32, l40, l41, l42, l43, l45, l47, l48, l57, l58, l59, l60, l61, l62, l63, l64, l97, l99, l100, l101, l102, l103, l104, l105, l106, l107, l108, l109, l110, l122, l160, l240, l255, l600, l1000, l3000, l10000, l10007, l10116, l67108863, l67108864, h88]
theorem leastS_e {B : Nat} (hA : ∀ k t, A k t ≤ 1000) (hM : M ≤ 7) (hB : B < 1000) (h88 : w.1 88 0 = nI M) (h91 : ∀ k t, k < M → t < M → w.1 91 (7 * k + t) = nI (A k t)) {s : Nat} (hs : s < 2 ^ M) (h0 : s ≠ 0) (h93 : ∀ j, j < s → w.1 93 j = nI (sumF A M B j)) : X7_leastSum (nI s) (nI B) w = some (nI (sumF A M B s)) := by
  have hp := pow7 hM
  rw [sumF_r hM hs h0]
  unfold X7_leastSum
  generalize hp0 : (fun t => s.testBit t && decide (A (M - pcN 15 s) t ≤ B)) = p
  generalize hc0 : (fun t => A (M - pcN 15 s) t + sumF A M B (s - 2 ^ t)) = c
  have hlp := lp_for (b := X7_leastSum_b7 (nI s) (nI B) w) (fun t => (nI (mnF p c t), nI t)) M (e := nI (mnF p c M)) (fun t ht => ?_) ?_ 0 (Nat.zero_le _)
  · rw [show ((1000 : Int32), (0 : Int32)) = (nI (mnF p c 0), nI 0) from rfl, hlp]
    rfl
  · have hbit := bit_e (D := s) (k := t) (by omega) (by omega)
    have hle := mnF_le (p := p) (c := c) t
    have hpt : p t = (s.testBit t && decide (A (M - pcN 15 s) t ≤ B)) := by rw [← hp0]
    have hct : c t = A (M - pcN 15 s) t + sumF A M B (s - 2 ^ t) := by rw [← hc0]
    unfold X7_leastSum_b7 X7_leastSum_j62
    by_cases hb : s.testBit t = true
    · rw [if_pos hb] at hbit
      have ha := arrF_e hM h88 h91 hs ht hb
      have hAt := hA (M - pcN 15 s) t
      by_cases hab : A (M - pcN 15 s) t ≤ B
      · have hc := clr_e (s := s) (t := t) (by omega) (by omega) hb
        have hlt : s - 2 ^ t < s := Nat.sub_lt (by omega) (Nat.two_pow_pos t)
        have r93 := h93 (s - 2 ^ t) hlt
        have hl := (sumF_s (A := A) (B := B) hM (s - 2 ^ t) (Nat.lt_trans hlt hs)).1
        have hsh := shl1 (k := t) (by omega)
        have hlt2 : s - 2 ^ t < 128 := by omega
        rw [show mnF p c (t + 1) = min (mnF p c t) (A (M - pcN 15 s) t + sumF A M B (s - 2 ^ t)) from by rw [mnF, if_pos (by rw [hpt, hb, Bool.true_and]; exact decide_eq_true hab), hct]]
        generalize s - 2 ^ t = q at hc r93 hl hlt2
        simp (disch := omega) only [gdn, gb0, gb1, ixn, nm1, nI_add, nI_mul, nsub, nI_ltI, nI_leI, nI_eq, eqNO, eqNO2, ltNO, NOlt, leNO, NOle, if_pos, if_neg, Option.bind_some, if_true, if_false, and_self, eq_self, l0, l1, l2, l3, l4, l5, l6, l7, l8, l9, l10, l11, l12, l13, l14, l15, l16, l17, l18, l19, l20, l24, l26, l30, l31, l32, l40, l41, l42, l43, l45, l47, l48, l57, l58, l59, l60, l61, l62, l63, l64, l97, l99, l100, l101, l102, l103, l104, l105, l106, l107, l108, l109, l110, l122, l160, l240, l255, l600, l1000, l3000, l10000, l10007, l10116, l67108863, l67108864, h88, hbit, ha, hsh, hc, r93, mn_nI]
      · rw [show mnF p c (t + 1) = mnF p c t from by rw [mnF, if_neg (by rw [hpt, hb, Bool.true_and, decide_eq_true_eq]; exact hab)]]
        simp (disch := omega) only [gdn, gb0, gb1, ixn, nm1, nI_add, nI_mul, nsub, nI_ltI, nI_leI, nI_eq, eqNO, eqNO2, ltNO, NOlt, leNO, NOle, if_pos, if_neg, Option.bind_some, if_true, if_false, and_self, eq_self, l0, l1, l2, l3, l4, l5, l6, l7, l8, l9, l10, l11, l12, l13, l14, l15, l16, l17, l18, l19, l20, l24, l26, l30, l31, l32, l40, l41, l42, l43, l45, l47, l48, l57, l58, l59, l60, l61, l62, l63, l64, l97, l99, l100, l101, l102, l103, l104, l105, l106, l107, l108, l109, l110, l122, l160, l240, l255, l600, l1000, l3000, l10000, l10007, l10116, l67108863, l67108864, h88, hbit, ha]
    · rw [if_neg hb] at hbit
      rw [show mnF p c (t + 1) = mnF p c t from by rw [mnF, if_neg (by rw [hpt, Bool.and_eq_true]; exact fun z => hb z.1)]]
      simp (disch := omega) only [gdn, gb0, gb1, ixn, nm1, nI_add, nI_mul, nsub, nI_ltI, nI_leI, nI_eq, eqNO, eqNO2, ltNO, NOlt, leNO, NOle, if_pos, if_neg, Option.bind_some, if_true, if_false, and_self, eq_self, l0, l1, l2, l3, l4, l5, l6, l7, l8, l9, l10, l11, l12, l13, l14, l15, l16, l17, l18, l19, l20, l24, l26, l30, l31, l32, l40, l41, l42, l43, l45, l47, l48, l57, l58, l59, l60, l61, l62, l63, l64, l97, l99, l100, l101, l102, l103, l104, l105, l106, l107, l108, l109, l110, l122, l160, l240, l255, l600, l1000, l3000, l10000, l10007, l10116, l67108863, l67108864, h88, hbit]
  · unfold X7_leastSum_b7
    simp (disch := omega) only [gdn, gb0, gb1, ixn, nm1, nI_add, nI_mul, nsub, nI_ltI, nI_leI, nI_eq, eqNO, eqNO2, ltNO, NOlt, leNO, NOle, if_pos, if_neg, Option.bind_some, if_true, if_false, and_self, eq_self, l0, l1, l2, l3, l4, l5, l6, l7, l8, l9, l10, l11, l12, l13, l14, l15, l16, l17, l18, l19, l20, l24, l26, l30, l31, l32, l40, l41, l42, l43, l45, l47, l48, l57, l58, l59, l60, l61, l62, l63, l64, l97, l99, l100, l101, l102, l103, l104, l105, l106, l107, l108, l109, l110, l122, l160, l240, l255, l600, l1000, l3000, l10000, l10007, l10116, l67108863, l67108864, h88]
theorem keepI_e {B : Nat} {tn : Nat → Nat} (hA : ∀ k t, A k t ≤ 1000) (hM : M ≤ 7) (hB : B < 1000) (h88 : w.1 88 0 = nI M) (h91 : ∀ k t, k < M → t < M → w.1 91 (7 * k + t) = nI (A k t)) (h90 : ∀ t, t < M → w.1 90 t = nI (tn t) ∧ tn t < 20) (h92 : w.1 92 (2 ^ M - 1) = nI B) (h93 : ∀ j, j < 2 ^ M → w.1 93 j = nI (sumF A M B j)) {s : Nat} (hs : s < 2 ^ M) {a3 : Int32} (hex : ∃ t, t < M ∧ cand A M B (sumF A M B) s t) : ∃ b, b < M ∧ lp (X7_keep_b18 (nI (2 ^ M - 1)) (nI s) a3 w) (NO, nI 0) = some (nI b) ∧ cand A M B (sumF A M B) s b ∧ ∀ u, u < M → cand A M B (sumF A M B) s u → tn b ≤ tn u := by
  have hp := pow7 hM
  have key := lp_up (b := X7_keep_b18 (nI (2 ^ M - 1)) (nI s) a3 w) (Q := fun e => ∃ b, b < M ∧ e = nI b ∧ cand A M B (sumF A M B) s b ∧ ∀ u, u < M → cand A M B (sumF A M B) s u → tn b ≤ tn u) (fun i st => (st = (NO, nI i) ∧ ∀ u, u < i → ¬ cand A M B (sumF A M B) s u) ∨ ∃ b, b < i ∧ st = (nI b, nI i) ∧ cand A M B (sumF A M B) s b ∧ ∀ u, u < i → cand A M B (sumF A M B) s u → tn b ≤ tn u) M ?_ ?_ 0 (NO, nI 0) (Nat.zero_le _) (Or.inl ⟨rfl, fun u hu => by omega⟩)
  · obtain ⟨e, he, b, hb, rfl, hc, hm⟩ := key
    exact ⟨b, hb, he, hc, hm⟩
  · intro t st ht hI
    -- what the step does
    have hstep : ∀ x : Int32, (cand A M B (sumF A M B) s t → X7_keep_b18 (nI (2 ^ M - 1)) (nI s) a3 w (x, nI t) = X7_keep_j87 (nI (2 ^ M - 1)) (nI s) a3 x (nI t) (nI 1) w) ∧ (¬ cand A M B (sumF A M B) s t → X7_keep_b18 (nI (2 ^ M - 1)) (nI s) a3 w (x, nI t) = some (.inl (x, nI (t + 1)))) := by
      intro x
      have hbit := bit_e (D := s) (k := t) (by omega) (by omega)
      unfold X7_keep_b18 X7_keep_j86
      by_cases hb : s.testBit t = true
      · rw [if_pos hb] at hbit
        have ha := arrF_e hM h88 h91 hs ht hb
        have hAt := hA (M - pcN 15 s) t
        have hc := clr_e (s := s) (t := t) (by omega) (by omega) hb
        have hlt : s - 2 ^ t < 2 ^ M := Nat.lt_of_le_of_lt (Nat.sub_le _ _) hs
        have r93 := h93 (s - 2 ^ t) hlt
        have r93s := h93 s hs
        have hl := (sumF_s (A := A) (B := B) hM (s - 2 ^ t) hlt).1
        have hls := (sumF_s (A := A) (B := B) hM s hs).1
        have hsh := shl1 (k := t) (by omega)
        have hlt2 : s - 2 ^ t < 128 := by omega
        have hs2 : 2 ^ M - 1 < 128 := by omega
        unfold cand
        generalize hq : s - 2 ^ t = q at hc r93 hl hlt2
        generalize hall : 2 ^ M - 1 = al at h92 hs2
        by_cases hab : A (M - pcN 15 s) t ≤ B
        · by_cases he : A (M - pcN 15 s) t + sumF A M B q = sumF A M B s
          · refine ⟨fun _ => ?_, fun z => (z ⟨hb, hab, he⟩).elim⟩
            simp (disch := omega) only [gdn, gb0, gb1, ixn, nm1, nI_add, nI_mul, nsub, nI_ltI, nI_leI, nI_eq, eqNO, eqNO2, ltNO, NOlt, leNO, NOle, if_pos, if_neg, Option.bind_some, if_true, if_false, and_self, eq_self, l0, l1, l2, l3, l4, l5, l6, l7, l8, l9, l10, l11, l12, l13, l14, l15, l16, l17, l18, l19, l20, l24, l26, l30, l31, l32, l40, l41, l42, l43, l45, l47, l48, l57, l58, l59, l60, l61, l62, l63, l64, l97, l99, l100, l101, l102, l103, l104, l105, l106, l107, l108, l109, l110, l122, l160, l240, l255, l600, l1000, l3000, l10000, l10007, l10116, l67108863, l67108864, h88, hbit, ha, hsh, hc, r93, r93s, h92]
          · refine ⟨fun z => (he z.2.2).elim, fun _ => ?_⟩
            unfold X7_keep_j87 X7_keep_j121
            simp (disch := omega) only [gdn, gb0, gb1, ixn, nm1, nI_add, nI_mul, nsub, nI_ltI, nI_leI, nI_eq, eqNO, eqNO2, ltNO, NOlt, leNO, NOle, if_pos, if_neg, Option.bind_some, if_true, if_false, and_self, eq_self, l0, l1, l2, l3, l4, l5, l6, l7, l8, l9, l10, l11, l12, l13, l14, l15, l16, l17, l18, l19, l20, l24, l26, l30, l31, l32, l40, l41, l42, l43, l45, l47, l48, l57, l58, l59, l60, l61, l62, l63, l64, l97, l99, l100, l101, l102, l103, l104, l105, l106, l107, l108, l109, l110, l122, l160, l240, l255, l600, l1000, l3000, l10000, l10007, l10116, l67108863, l67108864, h88, hbit, ha, hsh, hc, r93, r93s, h92]
        · refine ⟨fun z => (hab z.2.1).elim, fun _ => ?_⟩
          unfold X7_keep_j87 X7_keep_j121
          simp (disch := omega) only [gdn, gb0, gb1, ixn, nm1, nI_add, nI_mul, nsub, nI_ltI, nI_leI, nI_eq, eqNO, eqNO2, ltNO, NOlt, leNO, NOle, if_pos, if_neg, Option.bind_some, if_true, if_false, and_self, eq_self, l0, l1, l2, l3, l4, l5, l6, l7, l8, l9, l10, l11, l12, l13, l14, l15, l16, l17, l18, l19, l20, l24, l26, l30, l31, l32, l40, l41, l42, l43, l45, l47, l48, l57, l58, l59, l60, l61, l62, l63, l64, l97, l99, l100, l101, l102, l103, l104, l105, l106, l107, l108, l109, l110, l122, l160, l240, l255, l600, l1000, l3000, l10000, l10007, l10116, l67108863, l67108864, h88, hbit, ha, h92]
      · rw [if_neg hb] at hbit
        refine ⟨fun z => (hb z.1).elim, fun _ => ?_⟩
        unfold X7_keep_j87 X7_keep_j121
        simp (disch := omega) only [gdn, gb0, gb1, ixn, nm1, nI_add, nI_mul, nsub, nI_ltI, nI_leI, nI_eq, eqNO, eqNO2, ltNO, NOlt, leNO, NOle, if_pos, if_neg, Option.bind_some, if_true, if_false, and_self, eq_self, l0, l1, l2, l3, l4, l5, l6, l7, l8, l9, l10, l11, l12, l13, l14, l15, l16, l17, l18, l19, l20, l24, l26, l30, l31, l32, l40, l41, l42, l43, l45, l47, l48, l57, l58, l59, l60, l61, l62, l63, l64, l97, l99, l100, l101, l102, l103, l104, l105, l106, l107, l108, l109, l110, l122, l160, l240, l255, l600, l1000, l3000, l10000, l10007, l10116, l67108863, l67108864, h88, hbit]
    obtain ⟨e90, b90⟩ := h90 t ht
    rcases hI with ⟨rfl, hno⟩ | ⟨b, hb, rfl, hcb, hmb⟩
    · by_cases hc : cand A M B (sumF A M B) s t
      · refine ⟨.inl (nI t, nI (t + 1)), ?_, Or.inr ⟨t, by omega, rfl, hc, fun u hu hcu => ?_⟩⟩
        · rw [(hstep NO).1 hc]
          unfold X7_keep_j87 X7_keep_j117 X7_keep_j121
          simp (disch := omega) only [gdn, gb0, gb1, ixn, nm1, nI_add, nI_mul, nsub, nI_ltI, nI_leI, nI_eq, eqNO, eqNO2, ltNO, NOlt, leNO, NOle, if_pos, if_neg, Option.bind_some, if_true, if_false, and_self, eq_self, l0, l1, l2, l3, l4, l5, l6, l7, l8, l9, l10, l11, l12, l13, l14, l15, l16, l17, l18, l19, l20, l24, l26, l30, l31, l32, l40, l41, l42, l43, l45, l47, l48, l57, l58, l59, l60, l61, l62, l63, l64, l97, l99, l100, l101, l102, l103, l104, l105, l106, l107, l108, l109, l110, l122, l160, l240, l255, l600, l1000, l3000, l10000, l10007, l10116, l67108863, l67108864]
        · by_cases z : u = t
          · rw [z]; exact Nat.le_refl _
          · exact (hno u (by omega) hcu).elim
      · refine ⟨.inl (NO, nI (t + 1)), (hstep NO).2 hc, Or.inl ⟨rfl, fun u hu => ?_⟩⟩
        by_cases z : u = t
        · rw [z]; exact hc
        · exact hno u (by omega)
    · obtain ⟨e90b, b90b⟩ := h90 b (by omega)
      by_cases hc : cand A M B (sumF A M B) s t
      · by_cases hlt : tn b ≤ tn t
        · refine ⟨.inl (nI b, nI (t + 1)), ?_, Or.inr ⟨b, by omega, rfl, hcb, fun u hu hcu => ?_⟩⟩
          · rw [(hstep (nI b)).1 hc]
            unfold X7_keep_j87 X7_keep_j121
            simp (disch := omega) only [gdn, gb0, gb1, ixn, nm1, nI_add, nI_mul, nsub, nI_ltI, nI_leI, nI_eq, eqNO, eqNO2, ltNO, NOlt, leNO, NOle, if_pos, if_neg, Option.bind_some, if_true, if_false, and_self, eq_self, l0, l1, l2, l3, l4, l5, l6, l7, l8, l9, l10, l11, l12, l13, l14, l15, l16, l17, l18, l19, l20, l24, l26, l30, l31, l32, l40, l41, l42, l43, l45, l47, l48, l57, l58, l59, l60, l61, l62, l63, l64, l97, l99, l100, l101, l102, l103, l104, l105, l106, l107, l108, l109, l110, l122, l160, l240, l255, l600, l1000, l3000, l10000, l10007, l10116, l67108863, l67108864, e90, e90b]
          · by_cases z : u = t
            · rw [z]; exact hlt
            · exact hmb u (by omega) hcu
        · refine ⟨.inl (nI t, nI (t + 1)), ?_, Or.inr ⟨t, by omega, rfl, hc, fun u hu hcu => ?_⟩⟩
          · rw [(hstep (nI b)).1 hc]
            unfold X7_keep_j87 X7_keep_j117 X7_keep_j121
            simp (disch := omega) only [gdn, gb0, gb1, ixn, nm1, nI_add, nI_mul, nsub, nI_ltI, nI_leI, nI_eq, eqNO, eqNO2, ltNO, NOlt, leNO, NOle, if_pos, if_neg, Option.bind_some, if_true, if_false, and_self, eq_self, l0, l1, l2, l3, l4, l5, l6, l7, l8, l9, l10, l11, l12, l13, l14, l15, l16, l17, l18, l19, l20, l24, l26, l30, l31, l32, l40, l41, l42, l43, l45, l47, l48, l57, l58, l59, l60, l61, l62, l63, l64, l97, l99, l100, l101, l102, l103, l104, l105, l106, l107, l108, l109, l110, l122, l160, l240, l255, l600, l1000, l3000, l10000, l10007, l10116, l67108863, l67108864, e90, e90b]
          · by_cases z : u = t
            · rw [z]; exact Nat.le_refl _
            · have := hmb u (by omega) hcu; omega
      · refine ⟨.inl (nI b, nI (t + 1)), (hstep (nI b)).2 hc, Or.inr ⟨b, by omega, rfl, hcb, fun u hu hcu => ?_⟩⟩
        by_cases z : u = t
        · rw [z] at hcu; exact (hc hcu).elim
        · exact hmb u (by omega) hcu
  · intro st hI
    rcases hI with ⟨rfl, hno⟩ | ⟨b, hb, rfl, hcb, hmb⟩
    · obtain ⟨t, ht, hc⟩ := hex
      exact (hno t ht hc).elim
    · refine ⟨.inr (nI b), ?_, b, hb, rfl, hcb, hmb⟩
      unfold X7_keep_b18
      simp (disch := omega) only [gdn, gb0, gb1, ixn, nm1, nI_add, nI_mul, nsub, nI_ltI, nI_leI, nI_eq, eqNO, eqNO2, ltNO, NOlt, leNO, NOle, if_pos, if_neg, Option.bind_some, if_true, if_false, and_self, eq_self, l0, l1, l2, l3, l4, l5, l6, l7, l8, l9, l10, l11, l12, l13, l14, l15, l16, l17, l18, l19, l20, l24, l26, l30, l31, l32, l40, l41, l42, l43, l45, l47, l48, l57, l58, l59, l60, l61, l62, l63, l64, l97, l99, l100, l101, l102, l103, l104, l105, l106, l107, l108, l109, l110, l122, l160, l240, l255, l600, l1000, l3000, l10000, l10007, l10116, l67108863, l67108864, h88]
end
