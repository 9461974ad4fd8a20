noncomputable def arKg (g : Nat → Nat → Nat) (sr ds : Nat → Nat) (E s week : Nat) : Nat := @dite _ (∃ K, K < 16 ∧ ¬ tfl g sr ds (2 * E) (tit g sr ds (2 * E) K (fun j => if j = s then week else 60)) ∧ ∀ k, k < K → tfl g sr ds (2 * E) (tit g sr ds (2 * E) k (fun j => if j = s then week else 60))) (Classical.propDecidable _) (fun h => Classical.choose h) (fun _ => 0)
theorem arK_g (w : Wd) (s week : Nat) : arK w s week = arKg (tg w) (tsr w) (tds w) (nn w 5 2) s week := rfl
theorem arr_fr {w W : Wd} (e : Sm [7, 8, 9, 10, 11] [(5, 2)] w W) (s week : Nat) : arr W s week = arr w s week := by
  have r7 := (e.1 7 (by decide)).1
  have r8 := (e.1 8 (by decide)).1
  have r9 := (e.1 9 (by decide)).1
  have r10 := (e.1 10 (by decide)).1
  have r11 := (e.1 11 (by decide)).1
  have f2 : nn W 5 2 = nn w 5 2 := nn_eq (e.2 (5, 2) (by decide)).1
  have h1 : tg W = tg w := by
    funext a b
    unfold tg tgo nn
    rw [r9, r10, r11]
  have h2 : tsr W = tsr w := by
    funext a
    unfold tsr nn
    rw [r7, r8]
  have h3 : tds W = tds w := by
    funext a
    unfold tds nn
    rw [r7, r8]
  unfold arr
  rw [arK_g, arK_g, h1, h2, h3, f2]
theorem btS_fr {w W : Wd} (e : Sm [20, 21, 22, 23, 24, 25, 14] [(19, 0), (19, 7), (5, 8)] w W) (lamp week : Nat) : ∀ x, btS W lamp week x = btS w lamp week x
  | 0 => rfl
  | x + 1 => by
    have hl := fun s t => lampS_sm (e.sub (S2 := sR_N) (T2 := sF_N) (by decide) (by decide)) s t week
    have hcc : ∀ y n, tgC W lamp week y n = tgC w lamp week y n := fun y n => cnt_congr (fun l _ => by rw [hl, show nn W 14 l = nn w 14 l from nn_eq (by rw [(e.1 14 (by decide)).1])])
    unfold btS
    rw [btS_fr e lamp week x, hcc, show nn W 5 8 = nn w 5 8 from nn_eq (e.2 (5, 8) (by decide)).1]
theorem canT_fr {w W : Wd} (e : Sm [20, 21, 22, 23, 24, 25, 14, 15] [(19, 0), (19, 7), (5, 8)] w W) (who lamp week : Nat) : canT W who lamp week ↔ canT w who lamp week := by
  unfold canT
  rw [btS_fr (e.sub (by decide) (by decide)), show nn W 15 who = nn w 15 who from nn_eq (by rw [(e.1 15 (by decide)).1])]
theorem Fr.tr {S : List Nat} {T : List (Nat × Nat)} {w w1 w2 : Wd} (h : Fr S T w w1) (h2 : Fr S T w1 w2) : Fr S T w w2 := h.next h2 (fun _ z => z) (fun _ z => z)
theorem mmeas_k {w : Wd} (hL : IL w) (hN : IN w) {week M : Nat} (hwk : week < 60) {lm tn : Nat → Nat} (hM : M ≤ 7) (hlm : ∀ k, k < M → w.1 170 k = nI (lm k) ∧ lm k < nn w 5 15) (htn : ∀ t, t < M → w.1 171 t = nI (tn t) ∧ tn t < nn w 5 12) : ∃ W, lp (X12_send_b134 (nI M) (nI week)) (nI 0, w) = some W ∧ Fr [107, 172, 173] [] w W ∧ ∀ k t, k < M → t < M → W.1 173 (7 * k + t) = nI (arrT w week lm tn k t) := by
  have b15 := hL.1.2.2.2.2.2
  have b12 := hL.1.2.2.2.1.2
  have bP := hL.1.1.2
  have m17 := hL.2.2.2.1.2.2.2.2.2
  have m16 := hL.2.2.2.1.2.2.2.2.1
  have m15 := hL.2.2.2.1.2.2.2.1
  refine lp_up (b := X12_send_b134 (nI M) (nI week)) (fun t st => ∃ W, st = (nI t, W) ∧ Fr [107, 172, 173] [] w W ∧ ∀ k t', k < M → t' < t → t' < M → W.1 173 (7 * k + t') = nI (arrT w week lm tn k t')) M ?_ ?_ 0 (nI 0, w) (Nat.zero_le _) ⟨w, rfl, Fr.rf, fun k t' _ h _ => by omega⟩ |> fun ⟨e, he, hq⟩ => ⟨e, he, hq⟩
  · rintro t st ht ⟨W, rfl, hfr, hf⟩
    obtain ⟨e90, b90⟩ := htn t ht
    obtain ⟨-, e16, b16⟩ := hL.2.2.2.2.2.2.2.1 (tn t) b90
    have hLW : IL W := hL.sm (hfr.sm (by decide))
    have nP : nn W 5 0 = nn w 5 0 := nn_eq (hfr 5 (by decide) 0 (by decide)).1
    have htr := mtravel_e hLW (s := nn w 16 (tn t)) (week := week) (by omega) hwk
    rw [arr_fr (hfr.sm (by decide))] at htr
    have r171 : W.1 171 t = nI (tn t) := by rw [(hfr.row 171 (by decide) (by decide)).1]; exact e90
    have r112 : W.1 112 (tn t) = nI (nn w 16 (tn t)) := by rw [(hfr.row 112 (by decide) (by decide)).1, m16]; exact e16
    generalize hW1 : seI W 107 (rwN 16 (cv (arr w (nn w 16 (tn t)) week)) (W.1 107)) = W1 at htr
    have hfr1 : Fr [107, 172, 173] [] w W1 := by rw [← hW1]; exact hfr.seI (by decide)
    have r107 : ∀ p, p < 16 → W1.1 107 p = nI (cv (arr w (nn w 16 (tn t)) week) p) := fun p hp => by rw [← hW1, SI_row]; exact rwN_lt hp
    have hf1 : ∀ k t', k < M → t' < t → t' < M → W1.1 173 (7 * k + t') = nI (arrT w week lm tn k t') := by rw [← hW1]; exact hf
    have key2 := lp_up (b := X12_send_b161 (nI M) (nI week) (nI t)) (Q := fun e => Fr [107, 172, 173] [] w e ∧ ∀ k t', k < M → t' < t + 1 → t' < M → e.1 173 (7 * k + t') = nI (arrT w week lm tn k t')) (fun k st => ∃ V, st = (nI k, V) ∧ Fr [107, 172, 173] [] w V ∧ V.1 107 = W1.1 107 ∧ ∀ k' t', k' < M → (t' < t ∨ (t' = t ∧ k' < k)) → t' < M → V.1 173 (7 * k' + t') = nI (arrT w week lm tn k' t')) M ?_ ?_ 0 (nI 0, W1) (Nat.zero_le _) ⟨W1, rfl, hfr1, rfl, fun k' t' h1 h2 h3 => hf1 k' t' h1 (by omega) h3⟩
    · obtain ⟨e, he, q1, q2⟩ := key2
      refine ⟨.inl (nI (t + 1), e), ?_, e, rfl, q1, q2⟩
      unfold X12_send_b134
      simp (disch := omega) only [gdn, gb0, gb1, ixn, nm1, nI_add, nI_mul, nsub, nI_ltI, nI_leI, nI_eq, eqNO, eqNO2, ltNO, NOlt, leNO, NOle, if_pos, if_neg, Option.bind_some, if_true, if_false, and_self, eq_self, l0, l1, l2, l3, l4, l5, l6, l7, l8, l9, l10, l11, l12, l13, l14, l15, l16, l17, l18, l19, l20, l24, l26, l30, l31, l32, l40, l41, l42, l43, l45, l47, l48, l57, l58, l59, l60, l61, l62, l63, l64, l97, l99, l100, l101, l102, l103, l104, l105, l106, l107, l108, l109, l110, l122, l160, l240, l255, l600, l1000, l3000, l10000, l10007, l10116, l67108863, l67108864, r171, r112, htr, he]
    · rintro k st hk ⟨V, rfl, vfr, v107, hv⟩
      obtain ⟨e89, b89⟩ := hlm k hk
      obtain ⟨e17, b17⟩ := hL.2.2.2.2.2.2.2.2 (lm k) b89
      have hLV : IL V := hL.sm (vfr.sm (by decide))
      have hNV : IN V := hN.sm (vfr.sm (by decide))
      have hto := tongueOf_e hLV hNV (lamp := lm k) hwk (by omega)
      rw [btS_fr (vfr.sm (by decide))] at hto
      have s170 : V.1 170 k = nI (lm k) := by rw [(vfr.row 170 (by decide) (by decide)).1]; exact e89
      generalize hV1 : puI V 172 k (btS w (lm k) week 5).1 = V1
      have v1fr : Fr [107, 172, 173] [] w V1 := by rw [← hV1]; exact vfr.puI (by decide)
      have s172 : V1.1 172 k = (btS w (lm k) week 5).1 := by rw [← hV1]; exact upd_s
      have s170' : V1.1 170 k = nI (lm k) := by rw [(v1fr.row 170 (by decide) (by decide)).1]; exact e89
      have s171 : V1.1 171 t = nI (tn t) := by rw [(v1fr.row 171 (by decide) (by decide)).1]; exact e90
      have s113 : V1.1 113 (lm k) = nI (nn w 17 (lm k)) := by rw [(v1fr.row 113 (by decide) (by decide)).1, m17]; exact e17
      have s107 : V1.1 107 (nn w 17 (lm k)) = nI (cv (arr w (nn w 16 (tn t)) week) (nn w 17 (lm k))) := by rw [← hV1]; show V.1 107 _ = _; rw [v107]; exact r107 _ (by omega)
      obtain ⟨⟨e15, b15'⟩, -⟩ := hL.2.2.2.2.2.2.2.1 (tn t) b90
      have s111 : V1.1 111 (tn t) = nI (nn w 15 (tn t)) := by rw [(v1fr.row 111 (by decide) (by decide)).1, m15]; exact e15
      have s173 : V1.1 173 = V.1 173 := by rw [← hV1]; rfl
      have s107r : V1.1 107 = W1.1 107 := by rw [← hV1]; exact v107
      have hput : ∀ v, X12_send_j271 (nI M) (nI week) (nI t) (nI k) (nI v) (nI (7 * k + t)) V1 = some (.inl (nI (k + 1), puI V1 173 (7 * k + t) (nI v))) := by
        intro v
        unfold X12_send_j271
        simp (disch := omega) only [gdn, gb0, gb1, ixn, nm1, nI_add, nI_mul, nsub, nI_ltI, nI_leI, nI_eq, eqNO, eqNO2, ltNO, NOlt, leNO, NOle, if_pos, if_neg, Option.bind_some, if_true, if_false, and_self, eq_self, l0, l1, l2, l3, l4, l5, l6, l7, l8, l9, l10, l11, l12, l13, l14, l15, l16, l17, l18, l19, l20, l24, l26, l30, l31, l32, l40, l41, l42, l43, l45, l47, l48, l57, l58, l59, l60, l61, l62, l63, l64, l97, l99, l100, l101, l102, l103, l104, l105, l106, l107, l108, l109, l110, l122, l160, l240, l255, l600, l1000, l3000, l10000, l10007, l10116, l67108863, l67108864]
      have hres : X12_send_b161 (nI M) (nI week) (nI t) (nI k, V) = some (.inl (nI (k + 1), puI V1 173 (7 * k + t) (nI (arrT w week lm tn k t)))) := by
        have hyes : X12_send_j224 (nI M) (nI week) (nI t) (nI k) V1 = some (.inl (nI (k + 1), puI V1 173 (7 * k + t) (nI (cv (arr w (nn w 16 (tn t)) week) (nn w 17 (lm k)))))) := by
          have := hput (cv (arr w (nn w 16 (tn t)) week) (nn w 17 (lm k)))
          unfold X12_send_j224 X12_send_j229
          simp (disch := omega) only [gdn, gb0, gb1, ixn, nm1, nI_add, nI_mul, nsub, nI_ltI, nI_leI, nI_eq, eqNO, eqNO2, ltNO, NOlt, leNO, NOle, if_pos, if_neg, Option.bind_some, if_true, if_false, and_self, eq_self, l0, l1, l2, l3, l4, l5, l6, l7, l8, l9, l10, l11, l12, l13, l14, l15, l16, l17, l18, l19, l20, l24, l26, l30, l31, l32, l40, l41, l42, l43, l45, l47, l48, l57, l58, l59, l60, l61, l62, l63, l64, l97, l99, l100, l101, l102, l103, l104, l105, l106, l107, l108, l109, l110, l122, l160, l240, l255, l600, l1000, l3000, l10000, l10007, l10116, l67108863, l67108864, s170', s113, s107, this]
        have hno : X12_send_j229 (nI M) (nI week) (nI t) (nI k) (nI 0) V1 = some (.inl (nI (k + 1), puI V1 173 (7 * k + t) (nI 1000))) := by
          have := hput 1000
          unfold X12_send_j229
          simp (disch := omega) only [gdn, gb0, gb1, ixn, nm1, nI_add, nI_mul, nsub, nI_ltI, nI_leI, nI_eq, eqNO, eqNO2, ltNO, NOlt, leNO, NOle, if_pos, if_neg, Option.bind_some, if_true, if_false, and_self, eq_self, l0, l1, l2, l3, l4, l5, l6, l7, l8, l9, l10, l11, l12, l13, l14, l15, l16, l17, l18, l19, l20, l24, l26, l30, l31, l32, l40, l41, l42, l43, l45, l47, l48, l57, l58, l59, l60, l61, l62, l63, l64, l97, l99, l100, l101, l102, l103, l104, l105, l106, l107, l108, l109, l110, l122, l160, l240, l255, l600, l1000, l3000, l10000, l10007, l10116, l67108863, l67108864, this]
        unfold X12_send_b161
        rcases (btS_s w (lm k) week 5).2 with h | ⟨b, hb, h⟩
        · have hv : arrT w week lm tn k t = cv (arr w (nn w 16 (tn t)) week) (nn w 17 (lm k)) := by
            unfold arrT
            rw [if_pos (show canT w (tn t) (lm k) week from Or.inl h)]
          rw [hv]
          rw [h] at s172 hto hV1
          simp (disch := omega) only [gdn, gb0, gb1, ixn, nm1, nI_add, nI_mul, nsub, nI_ltI, nI_leI, nI_eq, eqNO, eqNO2, ltNO, NOlt, leNO, NOle, if_pos, if_neg, Option.bind_some, if_true, if_false, and_self, eq_self, l0, l1, l2, l3, l4, l5, l6, l7, l8, l9, l10, l11, l12, l13, l14, l15, l16, l17, l18, l19, l20, l24, l26, l30, l31, l32, l40, l41, l42, l43, l45, l47, l48, l57, l58, l59, l60, l61, l62, l63, l64, l97, l99, l100, l101, l102, l103, l104, l105, l106, l107, l108, l109, l110, l122, l160, l240, l255, l600, l1000, l3000, l10000, l10007, l10116, l67108863, l67108864, s170, hto, hV1, s172, hyes]
        · have hne : ¬ (btS w (lm k) week 5).1 = NO := by rw [h, eqNO (by omega)]; exact id
          have hbit := bit_e (D := nn w 15 (tn t)) (k := b) (by omega) (by omega)
          by_cases q : (nn w 15 (tn t)).testBit b = true
          · rw [if_pos q] at hbit
            have hv : arrT w week lm tn k t = cv (arr w (nn w 16 (tn t)) week) (nn w 17 (lm k)) := by
              unfold arrT
              rw [if_pos (show canT w (tn t) (lm k) week from Or.inr ⟨b, hb, h, q⟩)]
            rw [hv]
            rw [h] at s172 hto hV1
            simp (disch := omega) only [gdn, gb0, gb1, ixn, nm1, nI_add, nI_mul, nsub, nI_ltI, nI_leI, nI_eq, eqNO, eqNO2, ltNO, NOlt, leNO, NOle, if_pos, if_neg, Option.bind_some, if_true, if_false, and_self, eq_self, l0, l1, l2, l3, l4, l5, l6, l7, l8, l9, l10, l11, l12, l13, l14, l15, l16, l17, l18, l19, l20, l24, l26, l30, l31, l32, l40, l41, l42, l43, l45, l47, l48, l57, l58, l59, l60, l61, l62, l63, l64, l97, l99, l100, l101, l102, l103, l104, l105, l106, l107, l108, l109, l110, l122, l160, l240, l255, l600, l1000, l3000, l10000, l10007, l10116, l67108863, l67108864, s170, hto, hV1, s172, s171, s111, hbit, hyes]
          · rw [if_neg q] at hbit
            have hv : arrT w week lm tn k t = 1000 := by
              unfold arrT
              rw [if_neg (show ¬ canT w (tn t) (lm k) week from by
                rintro (z | ⟨c, hc, z, y⟩)
                · exact hne z
                · rw [h, nI_eq (by omega) (by omega)] at z
                  rw [← z] at y; exact q y)]
            rw [hv]
            rw [h] at s172 hto hV1
            simp (disch := omega) only [gdn, gb0, gb1, ixn, nm1, nI_add, nI_mul, nsub, nI_ltI, nI_leI, nI_eq, eqNO, eqNO2, ltNO, NOlt, leNO, NOle, if_pos, if_neg, Option.bind_some, if_true, if_false, and_self, eq_self, l0, l1, l2, l3, l4, l5, l6, l7, l8, l9, l10, l11, l12, l13, l14, l15, l16, l17, l18, l19, l20, l24, l26, l30, l31, l32, l40, l41, l42, l43, l45, l47, l48, l57, l58, l59, l60, l61, l62, l63, l64, l97, l99, l100, l101, l102, l103, l104, l105, l106, l107, l108, l109, l110, l122, l160, l240, l255, l600, l1000, l3000, l10000, l10007, l10116, l67108863, l67108864, s170, hto, hV1, s172, s171, s111, hbit, hno]
      refine ⟨_, hres, puI V1 173 (7 * k + t) (nI (arrT w week lm tn k t)), rfl, v1fr.puI (by decide), s107r, fun k' t' h1 h2 h3 => ?_⟩
      show upd (V1.1 173) _ _ _ = _
      by_cases q : k' = k ∧ t' = t
      · rw [q.1, q.2, upd_s]
      · rw [upd_n (by omega), s173]; exact hv k' t' h1 (by omega) h3
    · rintro st ⟨V, rfl, vfr, v107, hv⟩
      refine ⟨.inr V, ?_, vfr, fun k' t' h1 h2 h3 => hv k' t' h1 (by omega) h3⟩
      unfold X12_send_b161
      simp (disch := omega) only [gdn, gb0, gb1, ixn, nm1, nI_add, nI_mul, nsub, nI_ltI, nI_leI, nI_eq, eqNO, eqNO2, ltNO, NOlt, leNO, NOle, if_pos, if_neg, Option.bind_some, if_true, if_false, and_self, eq_self, l0, l1, l2, l3, l4, l5, l6, l7, l8, l9, l10, l11, l12, l13, l14, l15, l16, l17, l18, l19, l20, l24, l26, l30, l31, l32, l40, l41, l42, l43, l45, l47, l48, l57, l58, l59, l60, l61, l62, l63, l64, l97, l99, l100, l101, l102, l103, l104, l105, l106, l107, l108, l109, l110, l122, l160, l240, l255, l600, l1000, l3000, l10000, l10007, l10116, l67108863, l67108864]
  · rintro st ⟨W, rfl, hfr, hf⟩
    refine ⟨.inr W, ?_, hfr, fun k t h1 h2 => hf k t h1 h2 h2⟩
    unfold X12_send_b134
    simp (disch := omega) only [gdn, gb0, gb1, ixn, nm1, nI_add, nI_mul, nsub, nI_ltI, nI_leI, nI_eq, eqNO, eqNO2, ltNO, NOlt, leNO, NOle, if_pos, if_neg, Option.bind_some, if_true, if_false, and_self, eq_self, l0, l1, l2, l3, l4, l5, l6, l7, l8, l9, l10, l11, l12, l13, l14, l15, l16, l17, l18, l19, l20, l24, l26, l30, l31, l32, l40, l41, l42, l43, l45, l47, l48, l57, l58, l59, l60, l61, l62, l63, l64, l97, l99, l100, l101, l102, l103, l104, l105, l106, l107, l108, l109, l110, l122, l160, l240, l255, l600, l1000, l3000, l10000, l10007, l10116, l67108863, l67108864]
