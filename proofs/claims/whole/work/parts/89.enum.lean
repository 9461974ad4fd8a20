section
variable {A : Nat → Nat → Nat} {M : Nat} {tn : Nat → Nat}
theorem pow77 {M : Nat} (h : M ≤ 7) : ∀ k, k ≤ 7 → M ^ k ≤ 823543 := by
  intro k hk
  exact Nat.le_trans (Nat.pow_le_pow_left h k) (Nat.le_trans (Nat.pow_le_pow_right (by omega) hk) (by decide))
theorem fillrow_e {w : Wd} (hM : M ≤ 7) (hM1 : 1 ≤ M) {r : Nat} (hr : r < 823543) {a5 a6 a7 : Int32} {z : Nat → Int32} : lp (X12_send_b330 (nI M) a5 a6 a7) (nI r, nI (M - 1), seI w 174 z) = some (seI w 174 (rwN M (dgt M r) z)) := by
  have hlp := lp_for (b := X12_send_b330 (nI M) a5 a6 a7) (fun i => (nI (r / M ^ i), if i = M then NO else nI (M - 1 - i), seI w 174 (fun k => if M ≤ k + i ∧ k < M then nI (dgt M r k) else z k))) M (e := seI w 174 (rwN M (dgt M r) z)) (fun i hi => ?_) ?_ 0 (Nat.zero_le _)
  · rw [if_neg (by omega), Nat.pow_zero, Nat.div_one, Nat.sub_zero, show (fun k => if M ≤ k + 0 ∧ k < M then nI (dgt M r k) else z k) = z from by funext k; rw [if_neg (by omega)]] at hlp
    exact hlp
  · have hle : r / M ^ i ≤ r := Nat.div_le_self _ _
    have hrem := pk_rem (a := r / M ^ i) (d := M) (by omega) (by omega) (by omega)
    have hdiv := pk_div (a := r / M ^ i) (d := M) (by omega) (by omega) (by omega)
    rw [hdiv, nI_mul] at hrem
    have hc : (if i + 1 = M then NO else nI (M - 1 - (i + 1))) = nI (M - 1 - i) + NO := by
      by_cases q : i + 1 = M
      · rw [if_pos q, show M - 1 - i = 0 by omega]; rfl
      · rw [if_neg q, addNO (by omega), show M - 1 - i - 1 = M - 1 - (i + 1) by omega]
    have hup : upd (fun k => if M ≤ k + i ∧ k < M then nI (dgt M r k) else z k) (M - 1 - i) (nI (r / M ^ i % M)) = fun k => if M ≤ k + (i + 1) ∧ k < M then nI (dgt M r k) else z k := by
      funext k
      unfold upd
      by_cases q : k = M - 1 - i
      · rw [if_pos q, if_pos (by omega)]
        unfold dgt
        rw [show M - 1 - k = i by omega]
      · rw [if_neg q]
        dsimp only
        by_cases y : M ≤ k + i ∧ k < M
        · rw [if_pos y, if_pos (by omega)]
        · rw [if_neg y, if_neg (by omega)]
    rw [hc, Nat.pow_succ, ← Nat.div_div_eq_div_mul, if_neg (show ¬ i = M by omega)]
    unfold X12_send_b330
    have hg : ∀ {α : Type} {k : Option α}, gd (¬ M = 0) k = k := fun {α} {k} => gd_t (by omega)
    simp (disch := omega) only [gdn, gb0, gb1, ixn, nm1, nI_add, nI_mul, nsub, nI_ltI, nI_leI, nI_eq, eqNO, eqNO2, ltNO, NOlt, leNO, NOle, if_pos, if_neg, Option.bind_some, if_true, if_false, and_self, eq_self, l0, l1, l2, l3, l4, l5, l6, l7, l8, l9, l10, l11, l12, l13, l14, l15, l16, l17, l18, l19, l20, l24, l26, l30, l31, l32, l40, l41, l42, l43, l45, l47, l48, l57, l58, l59, l60, l61, l62, l63, l64, l97, l99, l100, l101, l102, l103, l104, l105, l106, l107, l108, l109, l110, l122, l160, l240, l255, l600, l1000, l3000, l10000, l10007, l10116, l67108863, l67108864, hg, hrem, hdiv, pu_seI, hup]
  · unfold X12_send_b330
    simp (disch := omega) only [gdn, gb0, gb1, ixn, nm1, nI_add, nI_mul, nsub, nI_ltI, nI_leI, nI_eq, eqNO, eqNO2, ltNO, NOlt, leNO, NOle, if_pos, if_neg, Option.bind_some, if_true, if_false, and_self, eq_self, l0, l1, l2, l3, l4, l5, l6, l7, l8, l9, l10, l11, l12, l13, l14, l15, l16, l17, l18, l19, l20, l24, l26, l30, l31, l32, l40, l41, l42, l43, l45, l47, l48, l57, l58, l59, l60, l61, l62, l63, l64, l97, l99, l100, l101, l102, l103, l104, l105, l106, l107, l108, l109, l110, l122, l160, l240, l255, l600, l1000, l3000, l10000, l10007, l10116, l67108863, l67108864]
    congr 3
    funext k
    unfold rwN
    by_cases y : k < M
    · rw [if_pos (by omega), if_pos y]
    · rw [if_neg (by omega), if_neg y]
theorem Sp_le {f : Nat → Nat} (h : ∀ k, k < M → A k (f k) < 60) : ∀ n, n ≤ M → Sp A f n ≤ 59 * n ∧ Lp A f n < 60
  | 0, _ => ⟨Nat.le_refl _, by show 0 < 60; omega⟩
  | n + 1, hn => by
    have ih := Sp_le h n (by omega)
    have := h n (by omega)
    show Sp A f n + A n (f n) ≤ _ ∧ max (Lp A f n) (A n (f n)) < 60
    omega
theorem keyOf_e {w : Wd} (hM : M ≤ 7) (h6 : ∀ k t, A k t < 60 ∨ A k t = 1000) (h173 : ∀ k t, k < M → t < M → w.1 173 (7 * k + t) = nI (A k t)) {f : Nat → Nat} (hf : ∀ j, j < M → f j < M) (h174 : ∀ k, k < M → w.1 174 k = nI (f k)) : (okR A M f → X12_keyOf (nI M) w = some (nI (1000 * Lp A f M + Sp A f M))) ∧ (¬ okR A M f → X12_keyOf (nI M) w = some NO) := by
  -- one LAMP
  have inner : ∀ (a1 a2 a3 a5 : Int32) (k : Nat), k < M → ((∃ i, i < k ∧ f i = f k) → lp (X12_keyOf_b36 a1 a2 a3 (nI k) a5 w) (nI 0) = some (.inl ())) ∧ ((¬ ∃ i, i < k ∧ f i = f k) → lp (X12_keyOf_b36 a1 a2 a3 (nI k) a5 w) (nI 0) = some (.inr ())) := by
    intro a1 a2 a3 a5 k hk
    have st : ∀ i, i < k → ¬ f i = f k → X12_keyOf_b36 a1 a2 a3 (nI k) a5 w (nI i) = some (.inl (nI (i + 1))) := by
      intro i hi q
      have e1 := h174 i (by omega)
      have e2 := h174 k hk
      have b1 := hf i (by omega)
      have b2 := hf k hk
      unfold X12_keyOf_b36
      simp (disch := omega) only [gdn, gb0, gb1, ixn, nm1, nI_add, nI_mul, nsub, nI_ltI, nI_leI, nI_eq, eqNO, eqNO2, ltNO, NOlt, leNO, NOle, if_pos, if_neg, Option.bind_some, if_true, if_false, and_self, eq_self, l0, l1, l2, l3, l4, l5, l6, l7, l8, l9, l10, l11, l12, l13, l14, l15, l16, l17, l18, l19, l20, l24, l26, l30, l31, l32, l40, l41, l42, l43, l45, l47, l48, l57, l58, l59, l60, l61, l62, l63, l64, l97, l99, l100, l101, l102, l103, l104, l105, l106, l107, l108, l109, l110, l122, l160, l240, l255, l600, l1000, l3000, l10000, l10007, l10116, l67108863, l67108864, e1, e2]
    have ht : ∀ i, i < k → f i = f k → X12_keyOf_b36 a1 a2 a3 (nI k) a5 w (nI i) = some (.inr (.inl ())) := by
      intro i hi q
      have e1 := h174 i (by omega)
      have e2 := h174 k hk
      have b1 := hf i (by omega)
      have b2 := hf k hk
      unfold X12_keyOf_b36
      simp (disch := omega) only [gdn, gb0, gb1, ixn, nm1, nI_add, nI_mul, nsub, nI_ltI, nI_leI, nI_eq, eqNO, eqNO2, ltNO, NOlt, leNO, NOle, if_pos, if_neg, Option.bind_some, if_true, if_false, and_self, eq_self, l0, l1, l2, l3, l4, l5, l6, l7, l8, l9, l10, l11, l12, l13, l14, l15, l16, l17, l18, l19, l20, l24, l26, l30, l31, l32, l40, l41, l42, l43, l45, l47, l48, l57, l58, l59, l60, l61, l62, l63, l64, l97, l99, l100, l101, l102, l103, l104, l105, l106, l107, l108, l109, l110, l122, l160, l240, l255, l600, l1000, l3000, l10000, l10007, l10116, l67108863, l67108864, e1, e2]
    exact ⟨fun h => lp_hit st ht h, fun h => lp_miss st (by unfold X12_keyOf_b36; simp (disch := omega) only [gdn, gb0, gb1, ixn, nm1, nI_add, nI_mul, nsub, nI_ltI, nI_leI, nI_eq, eqNO, eqNO2, ltNO, NOlt, leNO, NOle, if_pos, if_neg, Option.bind_some, if_true, if_false, and_self, eq_self, l0, l1, l2, l3, l4, l5, l6, l7, l8, l9, l10, l11, l12, l13, l14, l15, l16, l17, l18, l19, l20, l24, l26, l30, l31, l32, l40, l41, l42, l43, l45, l47, l48, l57, l58, l59, l60, l61, l62, l63, l64, l97, l99, l100, l101, l102, l103, l104, l105, l106, l107, l108, l109, l110, l122, l160, l240, l255, l600, l1000, l3000, l10000, l10007, l10116, l67108863, l67108864]) h⟩
  have good : ∀ k, k < M → (∀ j, j < k → A j (f j) ≠ 1000) → ¬ (∃ i, i < k ∧ f i = f k) → A k (f k) ≠ 1000 → X12_keyOf_b7 (nI M) w (nI (Lp A f k), nI (Sp A f k), nI k) = some (.inl (nI (Lp A f (k + 1)), nI (Sp A f (k + 1)), nI (k + 1))) := by
    intro k hk hA hd hAk
    have e1 := h174 k hk
    have b1 := hf k hk
    have e2 := h173 k (f k) hk b1
    have h7 := h6 k (f k)
    have hsp := Sp_le (A := A) (M := k) (f := f) (fun j hj => by have := h6 j (f j); have := hA j hj; omega) k (Nat.le_refl _)
    have hin := fun a2 a3 a5 => (inner (nI M) a2 a3 a5 k hk).2 hd
    unfold X12_keyOf_b7
    simp (disch := omega) only [gdn, gb0, gb1, ixn, nm1, nI_add, nI_mul, nsub, nI_ltI, nI_leI, nI_eq, eqNO, eqNO2, ltNO, NOlt, leNO, NOle, if_pos, if_neg, Option.bind_some, if_true, if_false, and_self, eq_self, l0, l1, l2, l3, l4, l5, l6, l7, l8, l9, l10, l11, l12, l13, l14, l15, l16, l17, l18, l19, l20, l24, l26, l30, l31, l32, l40, l41, l42, l43, l45, l47, l48, l57, l58, l59, l60, l61, l62, l63, l64, l97, l99, l100, l101, l102, l103, l104, l105, l106, l107, l108, l109, l110, l122, l160, l240, l255, l600, l1000, l3000, l10000, l10007, l10116, l67108863, l67108864, e1, e2, hin, mx_nI]
    rfl
  have bad : ∀ k, k < M → (∀ j, j < k → A j (f j) ≠ 1000) → ((∃ i, i < k ∧ f i = f k) ∨ A k (f k) = 1000) → ∃ e, X12_keyOf_b7 (nI M) w (nI (Lp A f k), nI (Sp A f k), nI k) = some (.inr e) ∧ (e = .inl () ∨ e = .inr (.inl ())) := by
    intro k hk hA h
    have e1 := h174 k hk
    have b1 := hf k hk
    have e2 := h173 k (f k) hk b1
    have h7 := h6 k (f k)
    by_cases hd : ∃ i, i < k ∧ f i = f k
    · have hin := fun a2 a3 a5 => (inner (nI M) a2 a3 a5 k hk).1 hd
      refine ⟨.inl (), ?_, Or.inl rfl⟩
      unfold X12_keyOf_b7
      simp (disch := omega) only [gdn, gb0, gb1, ixn, nm1, nI_add, nI_mul, nsub, nI_ltI, nI_leI, nI_eq, eqNO, eqNO2, ltNO, NOlt, leNO, NOle, if_pos, if_neg, Option.bind_some, if_true, if_false, and_self, eq_self, l0, l1, l2, l3, l4, l5, l6, l7, l8, l9, l10, l11, l12, l13, l14, l15, l16, l17, l18, l19, l20, l24, l26, l30, l31, l32, l40, l41, l42, l43, l45, l47, l48, l57, l58, l59, l60, l61, l62, l63, l64, l97, l99, l100, l101, l102, l103, l104, l105, l106, l107, l108, l109, l110, l122, l160, l240, l255, l600, l1000, l3000, l10000, l10007, l10116, l67108863, l67108864, e1, e2, hin]
    · have hA1 := h.resolve_left hd
      have hin := fun a2 a3 a5 => (inner (nI M) a2 a3 a5 k hk).2 hd
      refine ⟨.inr (.inl ()), ?_, Or.inr rfl⟩
      unfold X12_keyOf_b7
      simp (disch := omega) only [gdn, gb0, gb1, ixn, nm1, nI_add, nI_mul, nsub, nI_ltI, nI_leI, nI_eq, eqNO, eqNO2, ltNO, NOlt, leNO, NOle, if_pos, if_neg, Option.bind_some, if_true, if_false, and_self, eq_self, l0, l1, l2, l3, l4, l5, l6, l7, l8, l9, l10, l11, l12, l13, l14, l15, l16, l17, l18, l19, l20, l24, l26, l30, l31, l32, l40, l41, l42, l43, l45, l47, l48, l57, l58, l59, l60, l61, l62, l63, l64, l97, l99, l100, l101, l102, l103, l104, l105, l106, l107, l108, l109, l110, l122, l160, l240, l255, l600, l1000, l3000, l10000, l10007, l10116, l67108863, l67108864, e1, e2, hin]
  refine ⟨fun h => ?_, fun h => ?_⟩
  · have hlp := lp_for (b := X12_keyOf_b7 (nI M) w) (fun k => (nI (Lp A f k), nI (Sp A f k), nI k)) M (e := .inr (.inr (nI (Lp A f M), nI (Sp A f M)))) (fun k hk => good k hk (fun j hj => h.2 j (by omega)) (fun ⟨i, hi, z⟩ => h.1.2 i k hi hk z) (h.2 k hk)) (by unfold X12_keyOf_b7; simp (disch := omega) only [gdn, gb0, gb1, ixn, nm1, nI_add, nI_mul, nsub, nI_ltI, nI_leI, nI_eq, eqNO, eqNO2, ltNO, NOlt, leNO, NOle, if_pos, if_neg, Option.bind_some, if_true, if_false, and_self, eq_self, l0, l1, l2, l3, l4, l5, l6, l7, l8, l9, l10, l11, l12, l13, l14, l15, l16, l17, l18, l19, l20, l24, l26, l30, l31, l32, l40, l41, l42, l43, l45, l47, l48, l57, l58, l59, l60, l61, l62, l63, l64, l97, l99, l100, l101, l102, l103, l104, l105, l106, l107, l108, l109, l110, l122, l160, l240, l255, l600, l1000, l3000, l10000, l10007, l10116, l67108863, l67108864]) 0 (Nat.zero_le _)
    unfold X12_keyOf
    rw [show ((0 : Int32), (0 : Int32), (0 : Int32)) = (nI (Lp A f 0), nI (Sp A f 0), nI 0) from rfl, hlp]
    simp (disch := omega) only [gdn, gb0, gb1, ixn, nm1, nI_add, nI_mul, nsub, nI_ltI, nI_leI, nI_eq, eqNO, eqNO2, ltNO, NOlt, leNO, NOle, if_pos, if_neg, Option.bind_some, if_true, if_false, and_self, eq_self, l0, l1, l2, l3, l4, l5, l6, l7, l8, l9, l10, l11, l12, l13, l14, l15, l16, l17, l18, l19, l20, l24, l26, l30, l31, l32, l40, l41, l42, l43, l45, l47, l48, l57, l58, l59, l60, l61, l62, l63, l64, l97, l99, l100, l101, l102, l103, l104, l105, l106, l107, l108, l109, l110, l122, l160, l240, l255, l600, l1000, l3000, l10000, l10007, l10116, l67108863, l67108864]
  · have hex : ∃ k, k < M ∧ ((∃ i, i < k ∧ f i = f k) ∨ A k (f k) = 1000) := Classical.byContradiction (fun z => h ⟨⟨hf, fun i j hij hj y => z ⟨j, hj, Or.inl ⟨i, hij, y⟩⟩⟩, fun k hk y => z ⟨k, hk, Or.inr y⟩⟩)
    obtain ⟨k, hk, hb, hmin⟩ := least_of hex
    have hA : ∀ j, j < k → A j (f j) ≠ 1000 := fun j hj y => hmin j hj (Or.inr y)
    obtain ⟨e, he, hq⟩ := bad k hk hA hb
    have hlp := lp_for (b := X12_keyOf_b7 (nI M) w) (fun k => (nI (Lp A f k), nI (Sp A f k), nI k)) k (e := e) (fun j hj => good j (by omega) (fun i hi => hA i (by omega)) (fun y => hmin j hj (Or.inl y)) (hA j hj)) he 0 (Nat.zero_le _)
    unfold X12_keyOf
    rw [show ((0 : Int32), (0 : Int32), (0 : Int32)) = (nI (Lp A f 0), nI (Sp A f 0), nI 0) from rfl, hlp]
    rcases hq with rfl | rfl
    · rfl
    · rfl
theorem lesser_e {w : Wd} (hM : M ≤ 7) (htn : ∀ t, tn t < 20) (h171 : ∀ t, t < M → w.1 171 t = nI (tn t)) {f g : Nat → Nat} (hf : ∀ j, j < M → f j < M) (h174 : ∀ k, k < M → w.1 174 k = nI (f k)) (h176 : ∀ k, k < M → w.1 176 k = nI (tn (g k))) : X12_isLesser (nI M) w = some (fg (enc tn f M < enc tn g M)) := by
  have st : ∀ k, k < M → ¬ tn (f k) ≠ tn (g k) → X12_isLesser_b2 (nI M) w (nI k) = some (.inl (nI (k + 1))) := by
    intro k hk q
    have e1 := h174 k hk
    have b1 := hf k hk
    have e2 := h171 (f k) b1
    have e3 := h176 k hk
    have b2 := htn (f k)
    have b3 := htn (g k)
    unfold X12_isLesser_b2
    simp (disch := omega) only [gdn, gb0, gb1, ixn, nm1, nI_add, nI_mul, nsub, nI_ltI, nI_leI, nI_eq, eqNO, eqNO2, ltNO, NOlt, leNO, NOle, if_pos, if_neg, Option.bind_some, if_true, if_false, and_self, eq_self, l0, l1, l2, l3, l4, l5, l6, l7, l8, l9, l10, l11, l12, l13, l14, l15, l16, l17, l18, l19, l20, l24, l26, l30, l31, l32, l40, l41, l42, l43, l45, l47, l48, l57, l58, l59, l60, l61, l62, l63, l64, l97, l99, l100, l101, l102, l103, l104, l105, l106, l107, l108, l109, l110, l122, l160, l240, l255, l600, l1000, l3000, l10000, l10007, l10116, l67108863, l67108864, e1, e2, e3]
  have ht : ∀ k, k < M → tn (f k) ≠ tn (g k) → X12_isLesser_b2 (nI M) w (nI k) = some (.inr (.inl (nI k))) := by
    intro k hk q
    have e1 := h174 k hk
    have b1 := hf k hk
    have e2 := h171 (f k) b1
    have e3 := h176 k hk
    have b2 := htn (f k)
    have b3 := htn (g k)
    unfold X12_isLesser_b2
    simp (disch := omega) only [gdn, gb0, gb1, ixn, nm1, nI_add, nI_mul, nsub, nI_ltI, nI_leI, nI_eq, eqNO, eqNO2, ltNO, NOlt, leNO, NOle, if_pos, if_neg, Option.bind_some, if_true, if_false, and_self, eq_self, l0, l1, l2, l3, l4, l5, l6, l7, l8, l9, l10, l11, l12, l13, l14, l15, l16, l17, l18, l19, l20, l24, l26, l30, l31, l32, l40, l41, l42, l43, l45, l47, l48, l57, l58, l59, l60, l61, l62, l63, l64, l97, l99, l100, l101, l102, l103, l104, l105, l106, l107, l108, l109, l110, l122, l160, l240, l255, l600, l1000, l3000, l10000, l10007, l10116, l67108863, l67108864, e1, e2, e3]
  unfold X12_isLesser
  by_cases h : ∃ k, k < M ∧ tn (f k) ≠ tn (g k)
  · obtain ⟨k, hk, hne, hmin⟩ := least_of h
    have hlp := lp_for (b := X12_isLesser_b2 (nI M) w) (fun i => nI i) k (fun i hi => st i (by omega) (hmin i hi)) (ht k hk hne) 0 (Nat.zero_le _)
    have hpre : enc tn f k = enc tn g k := enc_eq k (fun j hj => Classical.byContradiction (fun z => hmin j hj z))
    have e1 := h174 k hk
    have b1 := hf k hk
    have e2 := h171 (f k) b1
    have e3 := h176 k hk
    have b2 := htn (f k)
    have b3 := htn (g k)
    rw [show (0 : Int32) = nI 0 from rfl, hlp]
    by_cases q : tn (f k) < tn (g k)
    · have h1 : enc tn f (k + 1) < enc tn g (k + 1) := by
        show enc tn f k * 20 + tn (f k) < enc tn g k * 20 + tn (g k)
        omega
      rw [fg_t (enc_up (fun j => htn _) h1 M (by omega))]
      simp (disch := omega) only [gdn, gb0, gb1, ixn, nm1, nI_add, nI_mul, nsub, nI_ltI, nI_leI, nI_eq, eqNO, eqNO2, ltNO, NOlt, leNO, NOle, if_pos, if_neg, Option.bind_some, if_true, if_false, and_self, eq_self, l0, l1, l2, l3, l4, l5, l6, l7, l8, l9, l10, l11, l12, l13, l14, l15, l16, l17, l18, l19, l20, l24, l26, l30, l31, l32, l40, l41, l42, l43, l45, l47, l48, l57, l58, l59, l60, l61, l62, l63, l64, l97, l99, l100, l101, l102, l103, l104, l105, l106, l107, l108, l109, l110, l122, l160, l240, l255, l600, l1000, l3000, l10000, l10007, l10116, l67108863, l67108864, e1, e2, e3]
    · have h1 : enc tn g (k + 1) < enc tn f (k + 1) := by
        show enc tn g k * 20 + tn (g k) < enc tn f k * 20 + tn (f k)
        omega
      have h2 := enc_up (tn := tn) (fun j => htn _) h1 M (by omega)
      rw [fg_f (by omega)]
      simp (disch := omega) only [gdn, gb0, gb1, ixn, nm1, nI_add, nI_mul, nsub, nI_ltI, nI_leI, nI_eq, eqNO, eqNO2, ltNO, NOlt, leNO, NOle, if_pos, if_neg, Option.bind_some, if_true, if_false, and_self, eq_self, l0, l1, l2, l3, l4, l5, l6, l7, l8, l9, l10, l11, l12, l13, l14, l15, l16, l17, l18, l19, l20, l24, l26, l30, l31, l32, l40, l41, l42, l43, l45, l47, l48, l57, l58, l59, l60, l61, l62, l63, l64, l97, l99, l100, l101, l102, l103, l104, l105, l106, l107, l108, l109, l110, l122, l160, l240, l255, l600, l1000, l3000, l10000, l10007, l10116, l67108863, l67108864, e1, e2, e3]
  · have hlp := lp_miss (p := fun k => tn (f k) ≠ tn (g k)) st (e := .inr ()) (by unfold X12_isLesser_b2; simp (disch := omega) only [gdn, gb0, gb1, ixn, nm1, nI_add, nI_mul, nsub, nI_ltI, nI_leI, nI_eq, eqNO, eqNO2, ltNO, NOlt, leNO, NOle, if_pos, if_neg, Option.bind_some, if_true, if_false, and_self, eq_self, l0, l1, l2, l3, l4, l5, l6, l7, l8, l9, l10, l11, l12, l13, l14, l15, l16, l17, l18, l19, l20, l24, l26, l30, l31, l32, l40, l41, l42, l43, l45, l47, l48, l57, l58, l59, l60, l61, l62, l63, l64, l97, l99, l100, l101, l102, l103, l104, l105, l106, l107, l108, l109, l110, l122, l160, l240, l255, l600, l1000, l3000, l10000, l10007, l10116, l67108863, l67108864]) h
    rw [show (0 : Int32) = nI 0 from rfl, hlp, enc_eq M (fun j hj => Classical.byContradiction (fun z => h ⟨j, hj, z⟩)), fg_f (by omega)]
    rfl
theorem copyrow_e {w : Wd} (hM : M ≤ 7) (h171 : ∀ t, t < M → w.1 171 t = nI (tn t)) {f : Nat → Nat} (hf : ∀ j, j < M → f j < M) (h174 : ∀ k, k < M → w.1 174 k = nI (f k)) {a5 a6 a7 : Int32} : lp (X12_send_b409 (nI M) a5 a6 a7) (nI 0, w) = some (seI w 176 (rwN M (fun k => tn (f k)) (w.1 176))) := by
  have hlp := lp_for (b := X12_send_b409 (nI M) a5 a6 a7) (fun i => (nI i, seI w 176 (rwN i (fun k => tn (f k)) (w.1 176)))) M (e := seI w 176 (rwN M (fun k => tn (f k)) (w.1 176))) (fun i hi => ?_) ?_ 0 (Nat.zero_le _)
  · rw [show rwN 0 (fun k => tn (f k)) (w.1 176) = w.1 176 from rwN_id (fun j hj => by omega), seI_same rfl] at hlp
    exact hlp
  · have e1 : (seI w 176 (rwN i (fun k => tn (f k)) (w.1 176))).1 174 i = nI (f i) := h174 i hi
    have b1 := hf i hi
    have e2 : (seI w 176 (rwN i (fun k => tn (f k)) (w.1 176))).1 171 (f i) = nI (tn (f i)) := h171 (f i) b1
    have hup : upd (rwN i (fun k => tn (f k)) (w.1 176)) i (nI (tn (f i))) = rwN (i + 1) (fun k => tn (f k)) (w.1 176) := by
      funext j
      unfold upd rwN
      by_cases q : j = i
      · rw [if_pos q, if_pos (by omega), q]
      · rw [if_neg q]
        by_cases y : j < i
        · rw [if_pos y, if_pos (by omega)]
        · rw [if_neg y, if_neg (by omega)]
    unfold X12_send_b409
    simp (disch := omega) only [gdn, gb0, gb1, ixn, nm1, nI_add, nI_mul, nsub, nI_ltI, nI_leI, nI_eq, eqNO, eqNO2, ltNO, NOlt, leNO, NOle, if_pos, if_neg, Option.bind_some, if_true, if_false, and_self, eq_self, l0, l1, l2, l3, l4, l5, l6, l7, l8, l9, l10, l11, l12, l13, l14, l15, l16, l17, l18, l19, l20, l24, l26, l30, l31, l32, l40, l41, l42, l43, l45, l47, l48, l57, l58, l59, l60, l61, l62, l63, l64, l97, l99, l100, l101, l102, l103, l104, l105, l106, l107, l108, l109, l110, l122, l160, l240, l255, l600, l1000, l3000, l10000, l10007, l10116, l67108863, l67108864, e1, e2, pu_seI, hup]
  · unfold X12_send_b409
    simp (disch := omega) only [gdn, gb0, gb1, ixn, nm1, nI_add, nI_mul, nsub, nI_ltI, nI_leI, nI_eq, eqNO, eqNO2, ltNO, NOlt, leNO, NOle, if_pos, if_neg, Option.bind_some, if_true, if_false, and_self, eq_self, l0, l1, l2, l3, l4, l5, l6, l7, l8, l9, l10, l11, l12, l13, l14, l15, l16, l17, l18, l19, l20, l24, l26, l30, l31, l32, l40, l41, l42, l43, l45, l47, l48, l57, l58, l59, l60, l61, l62, l63, l64, l97, l99, l100, l101, l102, l103, l104, l105, l106, l107, l108, l109, l110, l122, l160, l240, l255, l600, l1000, l3000, l10000, l10007, l10116, l67108863, l67108864]
end
