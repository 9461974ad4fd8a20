theorem arrT_fr {w W : Wd} (e : Sm [7, 8, 9, 10, 11, 14, 15, 16, 17, 20, 21, 22, 23, 24, 25] [(5, 2), (5, 8), (19, 0), (19, 7)] w W) (week : Nat) (lm tn : Nat → Nat) : arrT W week lm tn = arrT w week lm tn := by
  funext k t
  unfold arrT
  rw [arr_fr (e.sub (by decide) (by decide)), show canT W (tn t) (lm k) week = canT w (tn t) (lm k) week from propext (canT_fr (e.sub (by decide) (by decide)) _ _ _), show nn W 16 (tn t) = nn w 16 (tn t) from nn_eq (by rw [(e.1 16 (by decide)).1]), show nn W 17 (lm k) = nn w 17 (lm k) from nn_eq (by rw [(e.1 17 (by decide)).1])]
theorem LpSp_c {A : Nat → Nat → Nat} {tn f g : Nat → Nat} : ∀ n, (∀ j, j < n → f j = g j) → Lp A f n = Lp A g n ∧ Sp A f n = Sp A g n ∧ enc tn f n = enc tn g n
  | 0, _ => ⟨rfl, rfl, rfl⟩
  | n + 1, h => by
    obtain ⟨a, b, c⟩ := LpSp_c (A := A) (tn := tn) n (fun j hj => h j (by omega))
    have e := h n (by omega)
    refine ⟨?_, ?_, ?_⟩
    · show max (Lp A f n) (A n (f n)) = max (Lp A g n) (A n (g n)); rw [a, e]
    · show Sp A f n + A n (f n) = Sp A g n + A n (g n); rw [b, e]
    · show enc tn f n * 20 + tn (f n) = enc tn g n * 20 + tn (g n); rw [c, e]
theorem okR_c {A : Nat → Nat → Nat} {M : Nat} {f g : Nat → Nat} (h : ∀ j, j < M → f j = g j) (hf : okR A M f) : okR A M g := by
  refine ⟨⟨fun j hj => by rw [← h j hj]; exact hf.1.1 j hj, fun i j hij hj => by rw [← h i (by omega), ← h j hj]; exact hf.1.2 i j hij hj⟩, fun k hk => by rw [← h k hk]; exact hf.2 k hk⟩
theorem suf_c {f g : Nat → Nat} : ∀ n k, (∀ j, k ≤ j → j < k + n → f j = g j) → suf f k n = suf g k n
  | 0, _, _ => rfl
  | n + 1, k, h => by
    show f k :: suf f (k + 1) n = g k :: suf g (k + 1) n
    rw [h k (by omega) (by omega), suf_c n (k + 1) (fun j h1 h2 => h j (by omega) (by omega))]
theorem div_key {A : Nat → Nat → Nat} {M : Nat} (hM : M ≤ 7) (h6 : ∀ k t, A k t < 60 ∨ A k t = 1000) {f : Nat → Nat} (hf : okR A M f) : Lp A f M < 60 ∧ Sp A f M < 1000 ∧ (1000 * Lp A f M + Sp A f M) / 1000 = Lp A f M := by
  have h := Sp_le (A := A) (M := M) (f := f) (fun k hk => by have := h6 k (f k); have := hf.2 k hk; omega) M (Nat.le_refl _)
  refine ⟨h.2, by omega, by omega⟩
theorem names_e {w : Wd} {t s M : Nat} (ht : t < 4) (hs : s < 4) (hM : M ≤ 7) {a4 : Int32} {lm tn : Nat → Nat} (h1 : ∀ k, k < M → w.2 2 (60 * t + k) = lN (lm k) ∧ lm k < 20) (h2 : ∀ k, k < M → w.2 2 (60 * s + k) = lN (tn k) ∧ tn k < 20) : ∃ f g, lp (X11_send_b153 (nI t) (nI s) (nI M) a4) (nI 0, w) = some (seI (seI w 89 f) 90 g) ∧ (∀ k, k < M → f k = nI (lm k)) ∧ ∀ k, k < M → g k = nI (tn k) := by
  have key := lp_up (b := X11_send_b153 (nI t) (nI s) (nI M) a4) (Q := fun e => ∃ f g, e = seI (seI w 89 f) 90 g ∧ (∀ k, k < M → f k = nI (lm k)) ∧ ∀ k, k < M → g k = nI (tn k)) (fun k st => ∃ f g, st = (nI k, seI (seI w 89 f) 90 g) ∧ (∀ j, j < k → f j = nI (lm j)) ∧ ∀ j, j < k → g j = nI (tn j)) M ?_ ?_ 0 (nI 0, w) (Nat.zero_le _) ⟨w.1 89, w.1 90, by rw [seI_same (k := 89) rfl, seI_same rfl], fun j hj => by omega, fun j hj => by omega⟩
  · obtain ⟨e, he, f, g, rfl, hf, hg⟩ := key
    exact ⟨f, g, he, hf, hg⟩
  · rintro k st hk ⟨f, g, rfl, hf, hg⟩
    obtain ⟨v1, b1⟩ := h1 k hk
    obtain ⟨v2, b2⟩ := h2 k hk
    have r1 : (seI (seI w 89 f) 90 g).2 2 (t * 60 + k) = lN (lm k) := by rw [show t * 60 + k = 60 * t + k by omega]; exact v1
    have r2 : (seI (seI w 89 f) 90 g).2 2 (s * 60 + k) = lN (tn k) := by rw [show s * 60 + k = 60 * s + k by omega]; exact v2
    have t1 := l_to (V := lm k) (by omega)
    have t2 := l_to (V := tn k) (by omega)
    refine ⟨.inl (nI (k + 1), seI (seI w 89 (upd f k (nI (lm k)))) 90 (upd g k (nI (tn k)))), ?_, _, _, rfl, fun j hj => ?_, fun j hj => ?_⟩
    · unfold X11_send_b153 X9_at X7_name
      simp (disch := omega) only [gdn, gb0, gb1, ixn, nm1, nI_add, nI_mul, nsub, nI_ltI, nI_leI, nI_eq, eqNO, eqNO2, ltNO, NOlt, leNO, NOle, if_pos, if_neg, Option.bind_some, if_true, if_false, and_self, eq_self, l0, l1, l2, l3, l4, l5, l6, l7, l8, l9, l10, l11, l12, l13, l14, l15, l16, l17, l18, l19, l20, l24, l26, l30, l31, l32, l40, l41, l42, l43, l45, l47, l48, l57, l58, l59, l60, l61, l62, l63, l64, l97, l99, l100, l101, l102, l103, l104, l105, l106, l107, l108, l109, l110, l122, l160, l240, l255, l600, l1000, l3000, l10000, l10007, l10116, l67108863, l67108864, r1, r2, t1, t2]
      rw [pu_se2 (by decide), pu_seI]
    · by_cases q : j = k
      · rw [q, upd_s]
      · rw [upd_n q]; exact hf j (by omega)
    · by_cases q : j = k
      · rw [q, upd_s]
      · rw [upd_n q]; exact hg j (by omega)
  · rintro st ⟨f, g, rfl, hf, hg⟩
    refine ⟨.inr (seI (seI w 89 f) 90 g), ?_, f, g, rfl, hf, hg⟩
    unfold X11_send_b153
    simp (disch := omega) only [gdn, gb0, gb1, ixn, nm1, nI_add, nI_mul, nsub, nI_ltI, nI_leI, nI_eq, eqNO, eqNO2, ltNO, NOlt, leNO, NOle, if_pos, if_neg, Option.bind_some, if_true, if_false, and_self, eq_self, l0, l1, l2, l3, l4, l5, l6, l7, l8, l9, l10, l11, l12, l13, l14, l15, l16, l17, l18, l19, l20, l24, l26, l30, l31, l32, l40, l41, l42, l43, l45, l47, l48, l57, l58, l59, l60, l61, l62, l63, l64, l97, l99, l100, l101, l102, l103, l104, l105, l106, l107, l108, l109, l110, l122, l160, l240, l255, l600, l1000, l3000, l10000, l10007, l10116, l67108863, l67108864]
def ISm (w : Wd) : Prop := isN w 88 6 8 ∧ w.1 97 105 = w.1 88 6 ∧ ∀ i, i < nn w 88 6 → w.1 175 i = w.1 94 i
theorem o_sent2 (a1 : Int32) {w : Wd} (h : ISm w) : two (X11_sent a1) (X12_sent a1) w (fun w' => St w w') := by
  obtain ⟨⟨c, b⟩, m, r⟩ := h
  rw [c] at m
  by_cases hv : 0 ≤ a1.toInt
  · obtain ⟨k, hk, rfl⟩ := nI_of (x := a1) (by rw [lt_t, tl_0]; omega)
    by_cases q : k < nn w 88 6
    · refine ⟨w.1 94 k, puI w 0 10 (nI 0), puI (puI w 0 10 (nI 0)) 97 0 (nI 0), ?_, ?_, ⟨_, rfl⟩⟩
      · unfold X11_sent
        simp (disch := omega) only [gdn, gb0, gb1, ixn, nm1, nI_add, nI_mul, nsub, nI_ltI, nI_leI, nI_eq, eqNO, eqNO2, ltNO, NOlt, leNO, NOle, if_pos, if_neg, Option.bind_some, if_true, if_false, and_self, eq_self, l0, l1, l2, l3, l4, l5, l6, l7, l8, l9, l10, l11, l12, l13, l14, l15, l16, l17, l18, l19, l20, l24, l26, l30, l31, l32, l40, l41, l42, l43, l45, l47, l48, l57, l58, l59, l60, l61, l62, l63, l64, l97, l99, l100, l101, l102, l103, l104, l105, l106, l107, l108, l109, l110, l122, l160, l240, l255, l600, l1000, l3000, l10000, l10007, l10116, l67108863, l67108864, I_oth, I_J, J_oth, J_I, I_row, J_row, SI_row, SI_oth, SI_J, SJ_row, SJ_oth, SJ_I, upd_s, upd_n, updL_s, updL_n, ne_eq, not_false_eq_true, c, answer_e]
      · unfold X12_sent
        have r' := r k q
        simp (disch := omega) only [gdn, gb0, gb1, ixn, nm1, nI_add, nI_mul, nsub, nI_ltI, nI_leI, nI_eq, eqNO, eqNO2, ltNO, NOlt, leNO, NOle, if_pos, if_neg, Option.bind_some, if_true, if_false, and_self, eq_self, l0, l1, l2, l3, l4, l5, l6, l7, l8, l9, l10, l11, l12, l13, l14, l15, l16, l17, l18, l19, l20, l24, l26, l30, l31, l32, l40, l41, l42, l43, l45, l47, l48, l57, l58, l59, l60, l61, l62, l63, l64, l97, l99, l100, l101, l102, l103, l104, l105, l106, l107, l108, l109, l110, l122, l160, l240, l255, l600, l1000, l3000, l10000, l10007, l10116, l67108863, l67108864, I_oth, I_J, J_oth, J_I, I_row, J_row, SI_row, SI_oth, SI_J, SJ_row, SJ_oth, SJ_I, upd_s, upd_n, updL_s, updL_n, ne_eq, not_false_eq_true, m, mgiv_e, r']
    · refine two_ref (nI 6) (r := NO) ?_ ?_ (fun w' z => z)
      · unfold X11_sent
        simp (disch := omega) only [gdn, gb0, gb1, ixn, nm1, nI_add, nI_mul, nsub, nI_ltI, nI_leI, nI_eq, eqNO, eqNO2, ltNO, NOlt, leNO, NOle, if_pos, if_neg, Option.bind_some, if_true, if_false, and_self, eq_self, l0, l1, l2, l3, l4, l5, l6, l7, l8, l9, l10, l11, l12, l13, l14, l15, l16, l17, l18, l19, l20, l24, l26, l30, l31, l32, l40, l41, l42, l43, l45, l47, l48, l57, l58, l59, l60, l61, l62, l63, l64, l97, l99, l100, l101, l102, l103, l104, l105, l106, l107, l108, l109, l110, l122, l160, l240, l255, l600, l1000, l3000, l10000, l10007, l10116, l67108863, l67108864, I_oth, I_J, J_oth, J_I, I_row, J_row, SI_row, SI_oth, SI_J, SJ_row, SJ_oth, SJ_I, upd_s, upd_n, updL_s, updL_n, ne_eq, not_false_eq_true, c, deny_e]
      · unfold X12_sent
        simp (disch := omega) only [gdn, gb0, gb1, ixn, nm1, nI_add, nI_mul, nsub, nI_ltI, nI_leI, nI_eq, eqNO, eqNO2, ltNO, NOlt, leNO, NOle, if_pos, if_neg, Option.bind_some, if_true, if_false, and_self, eq_self, l0, l1, l2, l3, l4, l5, l6, l7, l8, l9, l10, l11, l12, l13, l14, l15, l16, l17, l18, l19, l20, l24, l26, l30, l31, l32, l40, l41, l42, l43, l45, l47, l48, l57, l58, l59, l60, l61, l62, l63, l64, l97, l99, l100, l101, l102, l103, l104, l105, l106, l107, l108, l109, l110, l122, l160, l240, l255, l600, l1000, l3000, l10000, l10007, l10116, l67108863, l67108864, I_oth, I_J, J_oth, J_I, I_row, J_row, SI_row, SI_oth, SI_J, SJ_row, SJ_oth, SJ_I, upd_s, upd_n, updL_s, updL_n, ne_eq, not_false_eq_true, m, mref_e]
  · refine two_ref (nI 1) (r := NO) ?_ ?_ (fun w' z => z)
    · unfold X11_sent
      simp (disch := omega) only [gdn, gb0, gb1, ixn, nm1, nI_add, nI_mul, nsub, nI_ltI, nI_leI, nI_eq, eqNO, eqNO2, ltNO, NOlt, leNO, NOle, if_pos, if_neg, Option.bind_some, if_true, if_false, and_self, eq_self, l0, l1, l2, l3, l4, l5, l6, l7, l8, l9, l10, l11, l12, l13, l14, l15, l16, l17, l18, l19, l20, l24, l26, l30, l31, l32, l40, l41, l42, l43, l45, l47, l48, l57, l58, l59, l60, l61, l62, l63, l64, l97, l99, l100, l101, l102, l103, l104, l105, l106, l107, l108, l109, l110, l122, l160, l240, l255, l600, l1000, l3000, l10000, l10007, l10116, l67108863, l67108864, I_oth, I_J, J_oth, J_I, I_row, J_row, SI_row, SI_oth, SI_J, SJ_row, SJ_oth, SJ_I, upd_s, upd_n, updL_s, updL_n, ne_eq, not_false_eq_true, lt_t, le_t, tI, NO_t, flag0, flag1, ite_or2, ite_self, true_or, or_true, false_or, or_false, true_and, and_true, false_and, and_false, not_true_eq_false, deny_e]
    · unfold X12_sent
      simp (disch := omega) only [gdn, gb0, gb1, ixn, nm1, nI_add, nI_mul, nsub, nI_ltI, nI_leI, nI_eq, eqNO, eqNO2, ltNO, NOlt, leNO, NOle, if_pos, if_neg, Option.bind_some, if_true, if_false, and_self, eq_self, l0, l1, l2, l3, l4, l5, l6, l7, l8, l9, l10, l11, l12, l13, l14, l15, l16, l17, l18, l19, l20, l24, l26, l30, l31, l32, l40, l41, l42, l43, l45, l47, l48, l57, l58, l59, l60, l61, l62, l63, l64, l97, l99, l100, l101, l102, l103, l104, l105, l106, l107, l108, l109, l110, l122, l160, l240, l255, l600, l1000, l3000, l10000, l10007, l10116, l67108863, l67108864, I_oth, I_J, J_oth, J_I, I_row, J_row, SI_row, SI_oth, SI_J, SJ_row, SJ_oth, SJ_I, upd_s, upd_n, updL_s, updL_n, ne_eq, not_false_eq_true, lt_t, le_t, tI, NO_t, flag0, flag1, ite_or2, ite_self, true_or, or_true, false_or, or_false, true_and, and_true, false_and, and_false, not_true_eq_false, mref_e]
/-- what the model does behind its rows -/
theorem msend_tail {A : Nat → Nat → Nat} {M : Nat} {tn : Nat → Nat} {w u : Wd} (hM : M ≤ 7) (hM1 : 1 ≤ M) (h6 : ∀ k t, A k t < 60 ∨ A k t = 1000) (htn : ∀ t, tn t < 20) (h173 : ∀ k t, k < M → t < M → u.1 173 (7 * k + t) = nI (A k t)) (h171 : ∀ t, t < M → u.1 171 t = nI (tn t)) : ∃ best W, lp (X12_send_b314 (nI M) (nI (M ^ M))) (NO, nI 0, u) = some (best, W) ∧ Fr [174, 176] [] u W ∧ ((best = NO ∧ ∀ l, En M (2 ^ M - 1) l → Lc A 0 l = 1000) ∨ ∃ f, okR A M f ∧ best = nI (1000 * Lp A f M + Sp A f M) ∧ (∀ k, k < M → W.1 176 k = nI (tn (f k))) ∧ ∀ g, okR A M g → (1000 * Lp A f M + Sp A f M < 1000 * Lp A g M + Sp A g M) ∨ (1000 * Lp A f M + Sp A f M = 1000 * Lp A g M + Sp A g M ∧ enc tn f M ≤ enc tn g M)) := by
  obtain ⟨best, y, g, hlp, hq⟩ := mloop_e (w := u) (tn := tn) hM hM1 h6 htn h173 h171
  refine ⟨best, _, hlp, Fr.seI (Fr.seI Fr.rf (by decide)) (by decide), ?_⟩
  rcases hq with ⟨hb, hno⟩ | ⟨r0, hr0, hok, hb, hg, hmin⟩
  · refine Or.inl ⟨hb, fun l hl => ?_⟩
    obtain ⟨hd, hsl⟩ := En_to hM hl
    have hA : ∀ k t, A k t ≤ 1000 := fun k t => by have := h6 k t; omega
    rcases Lc_60 h6 0 l with h | h
    · exfalso
      have hokl : okR A M (fun j => l.getD j 0) := by
        refine ⟨hd, fun k hk z => ?_⟩
        have h2 : ∀ n, k < n → A k (l.getD k 0) ≤ Lp A (fun j => l.getD j 0) n := by
          intro n
          induction n with
          | zero => intro h; omega
          | succ n ih =>
            intro h
            show _ ≤ max (Lp A (fun j => l.getD j 0) n) (A n (l.getD n 0))
            by_cases q : k = n
            · rw [q]; omega
            · have := ih (by omega); omega
        have h3 := h2 M hk
        have h4 : A k (l.getD k 0) = 1000 := z
        have h5 : Lp A (fun j => l.getD j 0) M = Lc A 0 l := by rw [← Lc_0, hsl]
        omega
      obtain ⟨r, hr, hd2⟩ := dgt_ex hM1 M (fun j => l.getD j 0) hd.1
      exact hno r hr (okR_c (fun j hj => (hd2 j hj).symm) hokl)
    · exact h
  · refine Or.inr ⟨dgt M r0, hok, hb, hg, fun g2 hg2 => ?_⟩
    obtain ⟨r, hr, hd2⟩ := dgt_ex hM1 M g2 hg2.1.1
    obtain ⟨c1, c2, c3⟩ := LpSp_c (A := A) (tn := tn) (f := dgt M r) (g := g2) M (fun j hj => hd2 j hj)
    have := hmin r hr (okR_c (fun j hj => (hd2 j hj).symm) hg2)
    unfold kyR at this
    rw [c1, c2, c3] at this
    exact this
theorem copy175_e {M : Nat} {w : Wd} (hM : M ≤ 7) {a6 : Int32} : lp (X12_send_b462 (nI M) a6) (nI 0, w) = some (seI w 175 (fun k => if k < M then w.1 176 k else w.1 175 k)) := by
  have hlp := lp_for (b := X12_send_b462 (nI M) a6) (fun i => (nI i, seI w 175 (fun k => if k < i then w.1 176 k else w.1 175 k))) M (e := seI w 175 (fun k => if k < M then w.1 176 k else w.1 175 k)) (fun i hi => ?_) ?_ 0 (Nat.zero_le _)
  · rw [show (fun k => if k < 0 then w.1 176 k else w.1 175 k) = w.1 175 from by funext k; rw [if_neg (by omega)], seI_same rfl] at hlp
    exact hlp
  · have r : (seI w 175 (fun k => if k < i then w.1 176 k else w.1 175 k)).1 176 i = w.1 176 i := rfl
    have hup : upd (fun k => if k < i then w.1 176 k else w.1 175 k) i (w.1 176 i) = fun k => if k < i + 1 then w.1 176 k else w.1 175 k := by
      funext k
      unfold upd
      by_cases q : k = i
      · rw [if_pos q, if_pos (by omega), q]
      · rw [if_neg q]
        dsimp only
        by_cases z : k < i
        · rw [if_pos z, if_pos (by omega)]
        · rw [if_neg z, if_neg (by omega)]
    unfold X12_send_b462
    simp (disch := omega) only [gdn, gb0, gb1, ixn, nm1, nI_add, nI_mul, nsub, nI_ltI, nI_leI, nI_eq, eqNO, eqNO2, ltNO, NOlt, leNO, NOle, if_pos, if_neg, Option.bind_some, if_true, if_false, and_self, eq_self, l0, l1, l2, l3, l4, l5, l6, l7, l8, l9, l10, l11, l12, l13, l14, l15, l16, l17, l18, l19, l20, l24, l26, l30, l31, l32, l40, l41, l42, l43, l45, l47, l48, l57, l58, l59, l60, l61, l62, l63, l64, l97, l99, l100, l101, l102, l103, l104, l105, l106, l107, l108, l109, l110, l122, l160, l240, l255, l600, l1000, l3000, l10000, l10007, l10116, l67108863, l67108864, r, pu_seI, hup]
  · unfold X12_send_b462
    simp (disch := omega) only [gdn, gb0, gb1, ixn, nm1, nI_add, nI_mul, nsub, nI_ltI, nI_leI, nI_eq, eqNO, eqNO2, ltNO, NOlt, leNO, NOle, if_pos, if_neg, Option.bind_some, if_true, if_false, and_self, eq_self, l0, l1, l2, l3, l4, l5, l6, l7, l8, l9, l10, l11, l12, l13, l14, l15, l16, l17, l18, l19, l20, l24, l26, l30, l31, l32, l40, l41, l42, l43, l45, l47, l48, l57, l58, l59, l60, l61, l62, l63, l64, l97, l99, l100, l101, l102, l103, l104, l105, l106, l107, l108, l109, l110, l122, l160, l240, l255, l600, l1000, l3000, l10000, l10007, l10116, l67108863, l67108864]
