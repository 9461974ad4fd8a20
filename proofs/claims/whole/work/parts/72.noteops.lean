/-! who is where in a WEEK: what it rests on -/
def sR_N : List Nat := [20, 21, 22, 23, 24, 25]
def sF_N : List (Nat × Nat) := [(19, 0), (19, 7)]
theorem hit_sm {w w' : Wd} (e : Sm sR_N sF_N w w') (s who week i : Nat) : hitB w' s who week i = hitB w s who week i := by
  have r20 := (e.1 20 (by decide)).1
  have r21 := (e.1 21 (by decide)).1
  have r23 := (e.1 23 (by decide)).1
  have r24 := (e.1 24 (by decide)).1
  have r25 := (e.1 25 (by decide)).1
  have f7 := (e.2 (19, 7) (by decide)).1
  unfold hitB nn
  simp only [r20, r21, r23, r24, r25, f7]
theorem lat_sm {w w' : Wd} (e : Sm sR_N sF_N w w') (s who week : Nat) : ∀ n, lat w' s who week n = lat w s who week n
  | 0 => rfl
  | n + 1 => by
    unfold lat
    rw [hit_sm e, lat_sm e s who week n, (e.1 22 (by decide)).1]
theorem lampS_sm {w w' : Wd} (e : Sm sR_N sF_N w w') (s who week : Nat) : lampS w' s who week = lampS w s who week := by
  have n0 : nn w' 19 0 = nn w 19 0 := nn_eq (e.2 (19, 0) (by decide)).1
  unfold lampS
  rw [n0, lat_sm e, show exP w' (3 - s) who week (nn w 19 0) = exP w (3 - s) who week (nn w 19 0) from by unfold exP; simp only [hit_sm e]]
theorem tchS_c {w w' : Wd} {week lamp : Nat} (h : ∀ t, t < 20 → lampS w' 0 t week = lampS w 0 t week) : tchS w' lamp week = tchS w lamp week := by
  by_cases q : ∃ t, t < 20 ∧ lampS w 0 t week = nI lamp
  · obtain ⟨t, ht, a1, a2⟩ := least_of q
    rw [tchS_t ht a1 a2, tchS_t ht (by rw [h t ht]; exact a1) (fun j hj => by rw [h j (by omega)]; exact a2 j hj)]
  · rw [tchS_n (fun t ht z => q ⟨t, ht, z⟩), tchS_n (fun t ht z => q ⟨t, ht, by rw [← h t ht]; exact z⟩)]
theorem crwS_c {w w' : Wd} {week lamp : Nat} (h : ∀ t, t < 40 → lampS w' 1 t week = lampS w 1 t week) : crwS w' lamp week = crwS w lamp week := cnt_congr (fun i hi => by rw [h i hi])
def CU (w : Wd) (week : Nat) : Prop := (∀ t, t < 20 → w.1 26 t = lampS w 0 t week) ∧ (∀ l, l < 40 → w.1 27 l = lampS w 1 l week) ∧ (∀ m, m < 12 → w.1 28 m = tchS w m week) ∧ (∀ m, m < 12 → w.1 29 m = nI (crwS w m week))
def IC (w : Wd) : Prop := w.1 19 8 = NO ∨ ∃ week, week < 60 ∧ w.1 19 8 = nI week ∧ CU w week
theorem CU.c {w w' : Wd} {week : Nat} (h : CU w week) (hl : ∀ s t, s < 2 → lampS w' s t week = lampS w s t week) (r26 : w'.1 26 = w.1 26) (r27 : w'.1 27 = w.1 27) (r28 : w'.1 28 = w.1 28) (r29 : w'.1 29 = w.1 29) : CU w' week := by
  obtain ⟨h1, h2, h3, h4⟩ := h
  refine ⟨fun t ht => ?_, fun l hl2 => ?_, fun m hm => ?_, fun m hm => ?_⟩
  · rw [r26, hl 0 t (by omega)]; exact h1 t ht
  · rw [r27, hl 1 l (by omega)]; exact h2 l hl2
  · rw [r28, tchS_c (fun t _ => hl 0 t (by omega))]; exact h3 m hm
  · rw [r29, crwS_c (fun t _ => hl 1 t (by omega))]; exact h4 m hm
def sR_C : List Nat := [20, 21, 22, 23, 24, 25, 26, 27, 28, 29]
def sF_C : List (Nat × Nat) := [(19, 0), (19, 7), (19, 8)]
theorem Sm.sub {S S2 : List Nat} {T T2 : List (Nat × Nat)} {w w' : Wd} (e : Sm S T w w') (h1 : ∀ k ∈ S2, k ∈ S) (h2 : ∀ k ∈ T2, k ∈ T) : Sm S2 T2 w w' := ⟨fun k hk => e.1 k (h1 k hk), fun q hq => e.2 q (h2 q hq)⟩
theorem IC.sm {w w' : Wd} (h : IC w) (e : Sm sR_C sF_C w w') : IC w' := by
  have f8 := (e.2 (19, 8) (by decide)).1
  have e2 : Sm sR_N sF_N w w' := e.sub (by decide) (by decide)
  rcases h with h | ⟨week, hwk, h1, h2⟩
  · exact Or.inl (by rw [f8]; exact h)
  · exact Or.inr ⟨week, hwk, by rw [f8]; exact h1, h2.c (fun s t _ => lampS_sm e2 s t week) (e.1 26 (by decide)).1 (e.1 27 (by decide)).1 (e.1 28 (by decide)).1 (e.1 29 (by decide)).1⟩
theorem callUp_e {w : Wd} (hL : IL w) (h : IN w) (hC : IC w) {week : Nat} (hwk : week < 60) : ∃ w', X4_callUp (nI week) w = some w' ∧ CU w' week ∧ w'.1 19 8 = nI week ∧ Fr [26, 27, 28, 29] [(19, 8)] w w' := by
  have hfr := f_X4_callUp (nI week) w
  by_cases q : w.1 19 8 = nI week
  · refine ⟨w, by unfold X4_callUp; rw [if_pos q], ?_, q, Fr.rf⟩
    rcases hC with z | ⟨wk, hw2, z, hcu⟩
    · rw [z, eqNO2 (by omega)] at q; exact q.elim
    · rw [z, nI_eq (by omega) (by omega)] at q
      rw [← q]; exact hcu
  · have hb := h.1.1.2
    have hb12 := hL.1.2.2.2.2.2
    generalize hw0 : puI w 19 8 (nI week) = w0
    have e0 : Sm sR_N sF_N w w0 := by
      rw [← hw0]
      exact Fr.sm (S := []) (T := [(19, 8)]) (Fr.pfI Fr.rf (by decide)) (by decide)
    have hL0 : IL w0 := by rw [← hw0]; exact hL
    have h0 : IN w0 := by rw [← hw0]; exact h
    have hrun : X4_callUp (nI week) w = some (gaW (cuW w0 (fun t => lampS w0 0 t week) (fun l => lampS w0 1 l week)) (fun m => ltd (fun t => lampS w0 0 t week) m 20) (fun m => nI (cnt (fun l => decide (lampS w0 1 l week = nI m)) 40))) := by
      unfold X4_callUp
      rw [if_neg q]
      simp only [Option.bind_some]
      rw [hw0, fillI (by omega)]
      simp only [Option.bind_some]
      rw [fillI (by omega)]
      simp only [Option.bind_some]
      rw [show seI (seI w0 26 fun j => if j < 20 then (-1 : Int32) else w0.1 26 j) 27 (fun j => if j < 40 then (-1 : Int32) else (seI w0 26 fun j => if j < 20 then (-1 : Int32) else w0.1 26 j).1 27 j) = cuW w0 (fun _ => NO) (fun _ => NO) from rfl]
      rw [show ((0 : Int32), cuW w0 (fun _ => NO) (fun _ => NO)) = (nI 0, cuW w0 (fun _ => NO) (fun _ => NO)) from rfl, cu_pass1 hL0 h0 hwk]
      simp only [Option.bind_some]
      rw [show (0 : Int32) = nI 0 from rfl, cu_pass2 hL0 h0 hwk]
      simp only [Option.bind_some]
      have hg := gather_e (w := cuW w0 (fun t => lampS w0 0 t week) (fun l => lampS w0 1 l week)) (F := fun t => lampS w0 0 t week) (G := fun l => lampS w0 1 l week) (fun t ht => ⟨?_, ?_⟩) (fun t ht => ⟨?_, ?_⟩)
      · have hz : cuW w0 (fun t => cutS (exP w0 3 t week (nn w0 19 0)) (lat w0 0 t week (nn w0 19 0))) (fun l => cutS (exP w0 2 l week (nn w0 19 0)) (lat w0 1 l week (nn w0 19 0))) = cuW w0 (fun t => lampS w0 0 t week) (fun l => lampS w0 1 l week) := rfl
        rw [hz, hg]
        rfl
      · exact rI_lt (F := fun t => lampS w0 0 t week) (z := w0.1 26) ht
      · rcases lampS_in h0 (s := 0) (who := t) (week := week) (by omega) with z | ⟨l, hl, z⟩
        · exact Or.inl z
        · exact Or.inr ⟨l, by have := hL0.1.2.2.2.2.2; omega, z⟩
      · exact rI_lt (F := fun l => lampS w0 1 l week) (z := w0.1 27) ht
      · rcases lampS_in h0 (s := 1) (who := t) (week := week) (by omega) with z | ⟨l, hl, z⟩
        · exact Or.inl z
        · exact Or.inr ⟨l, by have := hL0.1.2.2.2.2.2; omega, z⟩
    have hf := hfr _ hrun
    refine ⟨_, hrun, ?_, by rw [← hw0]; rfl, hf⟩
    have e1 : Sm sR_N sF_N w _ := hf.sm (S2 := sR_N) (T2 := sF_N) (by decide)
    have hl := fun s t => (lampS_sm e1 s t week).trans (lampS_sm e0 s t week).symm
    refine ⟨fun t ht => ?_, fun l hl2 => ?_, fun m hm => ?_, fun m hm => ?_⟩
    · rw [hl]; exact rI_lt (F := fun t => lampS w0 0 t week) (z := w0.1 26) ht
    · rw [hl]; exact rI_lt (F := fun l => lampS w0 1 l week) (z := w0.1 27) hl2
    · rw [tchS_c (w := w0) (fun t _ => hl 0 t)]
      refine (rI_lt (F := fun m => ltd (fun t => lampS w0 0 t week) m 20) (z := w0.1 28) hm).trans ?_
      by_cases z : ∃ t, t < 20 ∧ lampS w0 0 t week = nI m
      · obtain ⟨t, ht, a1, a2⟩ := least_of z
        rw [tchS_t ht a1 a2]
        exact ltd_t (F := fun t => lampS w0 0 t week) a1 20 (by omega) (by omega) ht (fun i _ hi => a2 i hi)
      · rw [tchS_n (fun t ht y => z ⟨t, ht, y⟩)]
        exact ltd_n 20 (by omega) (fun t _ ht y => z ⟨t, ht, y⟩)
    · rw [crwS_c (w := w0) (fun t _ => hl 1 t)]
      exact rI_lt (F := fun m => nI (cnt (fun l => decide (lampS w0 1 l week = nI m)) 40)) (z := w0.1 29) hm
def sR_N2 : List Nat := [20, 21, 22, 23, 24, 25, 114, 115, 116, 117, 118, 119]
def sF_N2 : List (Nat × Nat) := [(19, 0), (19, 7), (97, 9), (97, 10), (97, 11), (5, 8), (5, 12), (5, 15)]
theorem IN.sm {w w' : Wd} (h : IN w) (e : Sm sR_N2 sF_N2 w w') : IN w' := by
  have r20 := (e.1 20 (by decide)).1
  have r21 := (e.1 21 (by decide)).1
  have r22 := (e.1 22 (by decide)).1
  have r23 := (e.1 23 (by decide)).1
  have r24 := (e.1 24 (by decide)).1
  have r25 := (e.1 25 (by decide)).1
  have r114 := (e.1 114 (by decide)).1
  have r115 := (e.1 115 (by decide)).1
  have r116 := (e.1 116 (by decide)).1
  have r117 := (e.1 117 (by decide)).1
  have r118 := (e.1 118 (by decide)).1
  have r119 := (e.1 119 (by decide)).1
  have f0 : w'.1 19 0 = w.1 19 0 := (e.2 (19, 0) (by decide)).1
  have f1 : w'.1 19 7 = w.1 19 7 := (e.2 (19, 7) (by decide)).1
  have f2 : w'.1 97 9 = w.1 97 9 := (e.2 (97, 9) (by decide)).1
  have f3 : w'.1 97 10 = w.1 97 10 := (e.2 (97, 10) (by decide)).1
  have f4 : w'.1 97 11 = w.1 97 11 := (e.2 (97, 11) (by decide)).1
  have f5 : w'.1 5 8 = w.1 5 8 := (e.2 (5, 8) (by decide)).1
  have f6 : w'.1 5 12 = w.1 5 12 := (e.2 (5, 12) (by decide)).1
  have f7 : w'.1 5 15 = w.1 5 15 := (e.2 (5, 15) (by decide)).1
  unfold IN isN nn at h ⊢
  simp only [r20, r21, r22, r23, r24, r25, r114, r115, r116, r117, r118, r119, f0, f1, f2, f3, f4, f5, f6, f7]
  exact h
/-! where, lit -/
theorem fr_st {w : Wd} {v : Int32} : Fr [] [(0, 10), (97, 0)] w (puI (puI w 0 10 v) 97 0 v) := Fr.pfI (Fr.pfI Fr.rf (by decide)) (by decide)
theorem fr_0 {w : Wd} {v : Int32} : Fr [] [(0, 10)] w (puI w 0 10 v) := Fr.pfI Fr.rf (by decide)
theorem St.fr {w w' : Wd} (h : St w w') : Fr [] [(0, 10), (97, 0)] w w' := by obtain ⟨v, rfl⟩ := h; exact fr_st
theorem two_ans {f g : Wd → Option (Int32 × Wd)} {w w1 : Wd} {P : Wd → Prop} {v : Int32} (y : Int32) (k1 : f w = if v = NO then some (NO, puI w1 0 10 y) else some (v, puI w1 0 10 (nI 0))) (k2 : ∀ x, g (puI w1 0 10 x) = if v = NO then some (NO, puI (puI w1 0 10 x) 97 0 y) else some (v, puI (puI w1 0 10 x) 97 0 (nI 0))) (hP : ∀ w', St w1 w' → P w') : two f g w P := by
  by_cases q : v = NO
  · exact ⟨NO, _, _, by rw [k1, if_pos q], by rw [k2, if_pos q], hP _ ⟨_, rfl⟩⟩
  · exact ⟨v, _, _, by rw [k1, if_neg q], by rw [k2, if_neg q], hP _ ⟨_, rfl⟩⟩
theorem o_where (a1 a2 a3 : Int32) {w : Wd} (hL : IL w) (h : IN w) (hC : IC w) : two (X11_where a1 a2 a3) (X12_where a1 a2 a3) w (fun w' => IS w' ∧ IC w') := by
  have mT : w.1 97 7 = nI (nn w 5 12) := by rw [hL.2.1.2.2.2.1]; exact hL.1.2.2.2.1.1
  have mLr : w.1 97 6 = nI (nn w 5 8) := by rw [hL.2.1.2.2.1]; exact hL.1.2.2.1.1
  have bT := hL.1.2.2.2.1.2
  have bL := hL.1.2.2.1.2
  by_cases hv : (0 ≤ a1.toInt ∧ a1.toInt < ((2 : Nat) : Int)) ∧ (0 ≤ a3.toInt ∧ a3.toInt < ((60 : Nat) : Int)) ∧ ((a1.toInt = 0 ∧ 0 ≤ a2.toInt ∧ a2.toInt < (nn w 5 12 : Int)) ∨ (a1.toInt = 1 ∧ 0 ≤ a2.toInt ∧ a2.toInt < (nn w 5 8 : Int)))
  · obtain ⟨h1, h3, h2⟩ := hv
    obtain ⟨s, hs, rfl⟩ := of_t h1
    obtain ⟨week, hwk, rfl⟩ := of_t h3
    rw [tI (by omega)] at h2
    obtain ⟨who, hwho, rfl⟩ : ∃ who : Nat, ((s = 0 ∧ who < nn w 5 12) ∨ (s = 1 ∧ who < nn w 5 8)) ∧ a2 = nI who := by
      rcases h2 with ⟨q, h2⟩ | ⟨q, h2⟩
      · obtain ⟨who, hw, e⟩ := of_t h2
        exact ⟨who, Or.inl ⟨by omega, hw⟩, e⟩
      · obtain ⟨who, hw, e⟩ := of_t h2
        exact ⟨who, Or.inr ⟨by omega, hw⟩, e⟩
    have hwho40 : who < 40 := by omega
    obtain ⟨w1, hrun, hcu, hwc, hfr⟩ := callUp_e hL h hC hwk
    have e1 : Sm sR_N sF_N w w1 := hfr.sm (by decide)
    have hL1 : IL w1 := hL.sm (hfr.sm (by decide))
    have h1' : IN w1 := h.sm (hfr.sm (by decide))
    have n12 : nn w1 5 12 = nn w 5 12 := nn_eq (hfr 5 (by decide) 12 (by decide)).1
    have n8 : nn w1 5 8 = nn w 5 8 := nn_eq (hfr 5 (by decide) 8 (by decide)).1
    have hC1 : IC w1 := Or.inr ⟨week, hwk, hwc, hcu⟩
    have k1 : X11_where (nI s) (nI who) (nI week) w = if lampS w s who week = NO then some (NO, puI w1 0 10 (nI 6)) else some (lampS w s who week, puI w1 0 10 (nI 0)) := by
      have hj : X11_where_j51 (nI s) (nI who) (nI week) w = X11_answerOr (nI 6) (lampS w s who week) w1 := by
        unfold X11_where_j51 X11_where_j87
        rw [hrun]
        rcases hwho with ⟨q, hwho⟩ | ⟨q, hwho⟩
        · have hv : w1.1 26 who = lampS w s who week := by
            rw [hcu.1 who (by omega), lampS_sm e1, q]
          simp (disch := omega) only [gdn, gb0, gb1, ixn, nm1, nI_add, nI_mul, nsub, nI_ltI, nI_leI, nI_eq, eqNO, eqNO2, ltNO, NOlt, leNO, NOle, if_pos, if_neg, Option.bind_some, if_true, if_false, and_self, eq_self, l0, l1, l2, l3, l4, l5, l6, l7, l8, l9, l10, l11, l12, l13, l14, l15, l16, l17, l18, l19, l20, l24, l26, l30, l31, l32, l40, l41, l42, l43, l45, l47, l48, l57, l58, l59, l60, l61, l62, l63, l64, l97, l99, l100, l101, l102, l103, l104, l105, l106, l107, l108, l109, l110, l122, l160, l240, l255, l600, l1000, l3000, l10000, l10007, l10116, l67108863, l67108864, hv, ansOr_e]
          split <;> rfl
        · have hv : w1.1 27 who = lampS w s who week := by
            rw [hcu.2.1 who hwho40, lampS_sm e1, q]
          simp (disch := omega) only [gdn, gb0, gb1, ixn, nm1, nI_add, nI_mul, nsub, nI_ltI, nI_leI, nI_eq, eqNO, eqNO2, ltNO, NOlt, leNO, NOle, if_pos, if_neg, Option.bind_some, if_true, if_false, and_self, eq_self, l0, l1, l2, l3, l4, l5, l6, l7, l8, l9, l10, l11, l12, l13, l14, l15, l16, l17, l18, l19, l20, l24, l26, l30, l31, l32, l40, l41, l42, l43, l45, l47, l48, l57, l58, l59, l60, l61, l62, l63, l64, l97, l99, l100, l101, l102, l103, l104, l105, l106, l107, l108, l109, l110, l122, l160, l240, l255, l600, l1000, l3000, l10000, l10007, l10116, l67108863, l67108864, hv, ansOr_e]
          split <;> rfl
      unfold X11_where
      rw [hj, ansOr_e]
      rcases hwho with ⟨q, hwho⟩ | ⟨q, hwho⟩
      · simp (disch := omega) only [gdn, gb0, gb1, ixn, nm1, nI_add, nI_mul, nsub, nI_ltI, nI_leI, nI_eq, eqNO, eqNO2, ltNO, NOlt, leNO, NOle, if_pos, if_neg, Option.bind_some, if_true, if_false, and_self, eq_self, l0, l1, l2, l3, l4, l5, l6, l7, l8, l9, l10, l11, l12, l13, l14, l15, l16, l17, l18, l19, l20, l24, l26, l30, l31, l32, l40, l41, l42, l43, l45, l47, l48, l57, l58, l59, l60, l61, l62, l63, l64, l97, l99, l100, l101, l102, l103, l104, l105, l106, l107, l108, l109, l110, l122, l160, l240, l255, l600, l1000, l3000, l10000, l10007, l10116, l67108863, l67108864, I_oth, I_J, J_oth, J_I, I_row, J_row, SI_row, SI_oth, SI_J, SJ_row, SJ_oth, SJ_I, upd_s, upd_n, updL_s, updL_n, ne_eq, not_false_eq_true, lt_t, le_t, tI, NO_t, flag0, flag1, ite_or2, ite_self, true_or, or_true, false_or, or_false, true_and, and_true, false_and, and_false, not_true_eq_false, win, week_e, tch_e hL, lrn_e hL]
      · simp (disch := omega) only [gdn, gb0, gb1, ixn, nm1, nI_add, nI_mul, nsub, nI_ltI, nI_leI, nI_eq, eqNO, eqNO2, ltNO, NOlt, leNO, NOle, if_pos, if_neg, Option.bind_some, if_true, if_false, and_self, eq_self, l0, l1, l2, l3, l4, l5, l6, l7, l8, l9, l10, l11, l12, l13, l14, l15, l16, l17, l18, l19, l20, l24, l26, l30, l31, l32, l40, l41, l42, l43, l45, l47, l48, l57, l58, l59, l60, l61, l62, l63, l64, l97, l99, l100, l101, l102, l103, l104, l105, l106, l107, l108, l109, l110, l122, l160, l240, l255, l600, l1000, l3000, l10000, l10007, l10116, l67108863, l67108864, I_oth, I_J, J_oth, J_I, I_row, J_row, SI_row, SI_oth, SI_J, SJ_row, SJ_oth, SJ_I, upd_s, upd_n, updL_s, updL_n, ne_eq, not_false_eq_true, lt_t, le_t, tI, NO_t, flag0, flag1, ite_or2, ite_self, true_or, or_true, false_or, or_false, true_and, and_true, false_and, and_false, not_true_eq_false, win, week_e, tch_e hL, lrn_e hL]
    have k2 : ∀ u, IL u → IN u → nn u 5 12 = nn w 5 12 → nn u 5 8 = nn w 5 8 → lampS u s who week = lampS w s who week → X12_where (nI s) (nI who) (nI week) u = if lampS w s who week = NO then some (NO, puI u 97 0 (nI 6)) else some (lampS w s who week, puI u 97 0 (nI 0)) := by
      intro u uL uN u12 u8 ul
      have hlo := mlampOf_e uN (s := s) (who := who) hs hwho40 hwk
      rw [ul] at hlo
      unfold X12_where X12_where_j32
      rw [hlo]
      by_cases y : lampS w s who week = NO
      · have y' := eq_true y
        rcases hwho with ⟨q, hwho⟩ | ⟨q, hwho⟩
        · simp (disch := omega) only [gdn, gb0, gb1, ixn, nm1, nI_add, nI_mul, nsub, nI_ltI, nI_leI, nI_eq, eqNO, eqNO2, ltNO, NOlt, leNO, NOle, if_pos, if_neg, Option.bind_some, if_true, if_false, and_self, eq_self, l0, l1, l2, l3, l4, l5, l6, l7, l8, l9, l10, l11, l12, l13, l14, l15, l16, l17, l18, l19, l20, l24, l26, l30, l31, l32, l40, l41, l42, l43, l45, l47, l48, l57, l58, l59, l60, l61, l62, l63, l64, l97, l99, l100, l101, l102, l103, l104, l105, l106, l107, l108, l109, l110, l122, l160, l240, l255, l600, l1000, l3000, l10000, l10007, l10116, l67108863, l67108864, I_oth, I_J, J_oth, J_I, I_row, J_row, SI_row, SI_oth, SI_J, SJ_row, SJ_oth, SJ_I, upd_s, upd_n, updL_s, updL_n, ne_eq, not_false_eq_true, lt_t, le_t, tI, NO_t, flag0, flag1, ite_or2, ite_self, true_or, or_true, false_or, or_false, true_and, and_true, false_and, and_false, not_true_eq_false, mtch_e uL, mlrn_e uL, u12, u8, mweek_e, mref_e, mgiv_e, y']
        · simp (disch := omega) only [gdn, gb0, gb1, ixn, nm1, nI_add, nI_mul, nsub, nI_ltI, nI_leI, nI_eq, eqNO, eqNO2, ltNO, NOlt, leNO, NOle, if_pos, if_neg, Option.bind_some, if_true, if_false, and_self, eq_self, l0, l1, l2, l3, l4, l5, l6, l7, l8, l9, l10, l11, l12, l13, l14, l15, l16, l17, l18, l19, l20, l24, l26, l30, l31, l32, l40, l41, l42, l43, l45, l47, l48, l57, l58, l59, l60, l61, l62, l63, l64, l97, l99, l100, l101, l102, l103, l104, l105, l106, l107, l108, l109, l110, l122, l160, l240, l255, l600, l1000, l3000, l10000, l10007, l10116, l67108863, l67108864, I_oth, I_J, J_oth, J_I, I_row, J_row, SI_row, SI_oth, SI_J, SJ_row, SJ_oth, SJ_I, upd_s, upd_n, updL_s, updL_n, ne_eq, not_false_eq_true, lt_t, le_t, tI, NO_t, flag0, flag1, ite_or2, ite_self, true_or, or_true, false_or, or_false, true_and, and_true, false_and, and_false, not_true_eq_false, mtch_e uL, mlrn_e uL, u12, u8, mweek_e, mref_e, mgiv_e, y']
      · have y' := eq_false y
        rcases hwho with ⟨q, hwho⟩ | ⟨q, hwho⟩
        · simp (disch := omega) only [gdn, gb0, gb1, ixn, nm1, nI_add, nI_mul, nsub, nI_ltI, nI_leI, nI_eq, eqNO, eqNO2, ltNO, NOlt, leNO, NOle, if_pos, if_neg, Option.bind_some, if_true, if_false, and_self, eq_self, l0, l1, l2, l3, l4, l5, l6, l7, l8, l9, l10, l11, l12, l13, l14, l15, l16, l17, l18, l19, l20, l24, l26, l30, l31, l32, l40, l41, l42, l43, l45, l47, l48, l57, l58, l59, l60, l61, l62, l63, l64, l97, l99, l100, l101, l102, l103, l104, l105, l106, l107, l108, l109, l110, l122, l160, l240, l255, l600, l1000, l3000, l10000, l10007, l10116, l67108863, l67108864, I_oth, I_J, J_oth, J_I, I_row, J_row, SI_row, SI_oth, SI_J, SJ_row, SJ_oth, SJ_I, upd_s, upd_n, updL_s, updL_n, ne_eq, not_false_eq_true, lt_t, le_t, tI, NO_t, flag0, flag1, ite_or2, ite_self, true_or, or_true, false_or, or_false, true_and, and_true, false_and, and_false, not_true_eq_false, mtch_e uL, mlrn_e uL, u12, u8, mweek_e, mref_e, mgiv_e, y']
        · simp (disch := omega) only [gdn, gb0, gb1, ixn, nm1, nI_add, nI_mul, nsub, nI_ltI, nI_leI, nI_eq, eqNO, eqNO2, ltNO, NOlt, leNO, NOle, if_pos, if_neg, Option.bind_some, if_true, if_false, and_self, eq_self, l0, l1, l2, l3, l4, l5, l6, l7, l8, l9, l10, l11, l12, l13, l14, l15, l16, l17, l18, l19, l20, l24, l26, l30, l31, l32, l40, l41, l42, l43, l45, l47, l48, l57, l58, l59, l60, l61, l62, l63, l64, l97, l99, l100, l101, l102, l103, l104, l105, l106, l107, l108, l109, l110, l122, l160, l240, l255, l600, l1000, l3000, l10000, l10007, l10116, l67108863, l67108864, I_oth, I_J, J_oth, J_I, I_row, J_row, SI_row, SI_oth, SI_J, SJ_row, SJ_oth, SJ_I, upd_s, upd_n, updL_s, updL_n, ne_eq, not_false_eq_true, lt_t, le_t, tI, NO_t, flag0, flag1, ite_or2, ite_self, true_or, or_true, false_or, or_false, true_and, and_true, false_and, and_false, not_true_eq_false, mtch_e uL, mlrn_e uL, u12, u8, mweek_e, mref_e, mgiv_e, y']
    exact two_ans (nI 6) k1 (fun x => k2 _ (show IL (puI w1 0 10 x) from hL1) h1' n12 n8 ((lampS_sm (fr_0.sm (by decide)) s who week).trans (lampS_sm e1 s who week))) (fun w' z => ⟨z.is, hC1.sm (z.fr.sm (by decide))⟩)
  · have hz : (a1 = nI 0) = (a1.toInt = 0) := by rw [eq_t, tI (by omega)]; rfl
    refine two_ref (nI 1) (r := NO) ?_ ?_ (fun w' z => ⟨z.is, hC.sm (z.fr.sm (by decide))⟩)
    · unfold X11_where X11_where_j45
      by_cases q0 : a1.toInt = 0
      · simp (disch := omega) only [gdn, gb0, gb1, ixn, nm1, nI_add, nI_mul, nsub, nI_ltI, nI_leI, nI_eq, eqNO, eqNO2, ltNO, NOlt, leNO, NOle, if_pos, if_neg, Option.bind_some, if_true, if_false, and_self, eq_self, l0, l1, l2, l3, l4, l5, l6, l7, l8, l9, l10, l11, l12, l13, l14, l15, l16, l17, l18, l19, l20, l24, l26, l30, l31, l32, l40, l41, l42, l43, l45, l47, l48, l57, l58, l59, l60, l61, l62, l63, l64, l97, l99, l100, l101, l102, l103, l104, l105, l106, l107, l108, l109, l110, l122, l160, l240, l255, l600, l1000, l3000, l10000, l10007, l10116, l67108863, l67108864, I_oth, I_J, J_oth, J_I, I_row, J_row, SI_row, SI_oth, SI_J, SJ_row, SJ_oth, SJ_I, upd_s, upd_n, updL_s, updL_n, ne_eq, not_false_eq_true, lt_t, le_t, tI, NO_t, flag0, flag1, ite_or2, ite_self, true_or, or_true, false_or, or_false, true_and, and_true, false_and, and_false, not_true_eq_false, win, week_e, tch_e hL, lrn_e hL, deny_e, hz]
      · simp (disch := omega) only [gdn, gb0, gb1, ixn, nm1, nI_add, nI_mul, nsub, nI_ltI, nI_leI, nI_eq, eqNO, eqNO2, ltNO, NOlt, leNO, NOle, if_pos, if_neg, Option.bind_some, if_true, if_false, and_self, eq_self, l0, l1, l2, l3, l4, l5, l6, l7, l8, l9, l10, l11, l12, l13, l14, l15, l16, l17, l18, l19, l20, l24, l26, l30, l31, l32, l40, l41, l42, l43, l45, l47, l48, l57, l58, l59, l60, l61, l62, l63, l64, l97, l99, l100, l101, l102, l103, l104, l105, l106, l107, l108, l109, l110, l122, l160, l240, l255, l600, l1000, l3000, l10000, l10007, l10116, l67108863, l67108864, I_oth, I_J, J_oth, J_I, I_row, J_row, SI_row, SI_oth, SI_J, SJ_row, SJ_oth, SJ_I, upd_s, upd_n, updL_s, updL_n, ne_eq, not_false_eq_true, lt_t, le_t, tI, NO_t, flag0, flag1, ite_or2, ite_self, true_or, or_true, false_or, or_false, true_and, and_true, false_and, and_false, not_true_eq_false, win, week_e, tch_e hL, lrn_e hL, deny_e, hz]
    · unfold X12_where X12_where_j32 X12_where_j39
      rw [mtc (n := nn w 5 12) _ (show (puI w 0 10 (nI 1)).1 97 7 = _ from mT) (by omega), mlr (n := nn w 5 8) _ (show (puI w 0 10 (nI 1)).1 97 6 = _ from mLr) (by omega)]
      by_cases q0 : a1.toInt = 0
      · simp (disch := omega) only [gdn, gb0, gb1, ixn, nm1, nI_add, nI_mul, nsub, nI_ltI, nI_leI, nI_eq, eqNO, eqNO2, ltNO, NOlt, leNO, NOle, if_pos, if_neg, Option.bind_some, if_true, if_false, and_self, eq_self, l0, l1, l2, l3, l4, l5, l6, l7, l8, l9, l10, l11, l12, l13, l14, l15, l16, l17, l18, l19, l20, l24, l26, l30, l31, l32, l40, l41, l42, l43, l45, l47, l48, l57, l58, l59, l60, l61, l62, l63, l64, l97, l99, l100, l101, l102, l103, l104, l105, l106, l107, l108, l109, l110, l122, l160, l240, l255, l600, l1000, l3000, l10000, l10007, l10116, l67108863, l67108864, I_oth, I_J, J_oth, J_I, I_row, J_row, SI_row, SI_oth, SI_J, SJ_row, SJ_oth, SJ_I, upd_s, upd_n, updL_s, updL_n, ne_eq, not_false_eq_true, lt_t, le_t, tI, NO_t, flag0, flag1, ite_or2, ite_self, true_or, or_true, false_or, or_false, true_and, and_true, false_and, and_false, not_true_eq_false, mweek_e, mref_e, hz]
      · simp (disch := omega) only [gdn, gb0, gb1, ixn, nm1, nI_add, nI_mul, nsub, nI_ltI, nI_leI, nI_eq, eqNO, eqNO2, ltNO, NOlt, leNO, NOle, if_pos, if_neg, Option.bind_some, if_true, if_false, and_self, eq_self, l0, l1, l2, l3, l4, l5, l6, l7, l8, l9, l10, l11, l12, l13, l14, l15, l16, l17, l18, l19, l20, l24, l26, l30, l31, l32, l40, l41, l42, l43, l45, l47, l48, l57, l58, l59, l60, l61, l62, l63, l64, l97, l99, l100, l101, l102, l103, l104, l105, l106, l107, l108, l109, l110, l122, l160, l240, l255, l600, l1000, l3000, l10000, l10007, l10116, l67108863, l67108864, I_oth, I_J, J_oth, J_I, I_row, J_row, SI_row, SI_oth, SI_J, SJ_row, SJ_oth, SJ_I, upd_s, upd_n, updL_s, updL_n, ne_eq, not_false_eq_true, lt_t, le_t, tI, NO_t, flag0, flag1, ite_or2, ite_self, true_or, or_true, false_or, or_false, true_and, and_true, false_and, and_false, not_true_eq_false, mweek_e, mref_e, hz]
theorem tchS_NO {w : Wd} {lamp week : Nat} : tchS w lamp week = NO ∨ ∃ t, t < 20 ∧ tchS w lamp week = nI t ∧ lampS w 0 t week = nI lamp := by
  by_cases q : ∃ t, t < 20 ∧ lampS w 0 t week = nI lamp
  · obtain ⟨t, ht, a1, a2⟩ := least_of q
    exact Or.inr ⟨t, ht, tchS_t ht a1 a2, a1⟩
  · exact Or.inl (tchS_n (fun t ht z => q ⟨t, ht, z⟩))
theorem o_lit (a1 a2 : Int32) {w : Wd} (hL : IL w) (h : IN w) (hC : IC w) : two (X11_lit a1 a2) (X12_lit a1 a2) w (fun w' => IS w' ∧ IC w') := by
  have mM : w.1 97 8 = nI (nn w 5 15) := by rw [hL.2.1.2.2.2.2]; exact hL.1.2.2.2.2.1
  have bM := hL.1.2.2.2.2.2
  by_cases hv : (0 ≤ a1.toInt ∧ a1.toInt < (nn w 5 15 : Int)) ∧ (0 ≤ a2.toInt ∧ a2.toInt < ((60 : Nat) : Int))
  · obtain ⟨h1, h2⟩ := hv
    obtain ⟨l, hl, rfl⟩ := of_t h1
    obtain ⟨week, hwk, rfl⟩ := of_t h2
    obtain ⟨w1, hrun, hcu, hwc, hfr⟩ := callUp_e hL h hC hwk
    have e1 : Sm sR_N sF_N w w1 := hfr.sm (by decide)
    have hL1 : IL w1 := hL.sm (hfr.sm (by decide))
    have h1' : IN w1 := h.sm (hfr.sm (by decide))
    have n15 : nn w1 5 15 = nn w 5 15 := nn_eq (hfr 5 (by decide) 15 (by decide)).1
    have hC1 : IC w1 := Or.inr ⟨week, hwk, hwc, hcu⟩
    have hts : tchS w1 l week = tchS w l week := tchS_c (fun t _ => lampS_sm e1 0 t week)
    have k1 : X11_lit (nI l) (nI week) w = if tchS w l week = NO then some (NO, puI w1 0 10 (nI 6)) else some (tchS w l week, puI w1 0 10 (nI 0)) := by
      have hv : w1.1 28 l = tchS w l week := by rw [hcu.2.2.1 l (by omega), hts]
      unfold X11_lit
      rw [hrun]
      simp (disch := omega) only [gdn, gb0, gb1, ixn, nm1, nI_add, nI_mul, nsub, nI_ltI, nI_leI, nI_eq, eqNO, eqNO2, ltNO, NOlt, leNO, NOle, if_pos, if_neg, Option.bind_some, if_true, if_false, and_self, eq_self, l0, l1, l2, l3, l4, l5, l6, l7, l8, l9, l10, l11, l12, l13, l14, l15, l16, l17, l18, l19, l20, l24, l26, l30, l31, l32, l40, l41, l42, l43, l45, l47, l48, l57, l58, l59, l60, l61, l62, l63, l64, l97, l99, l100, l101, l102, l103, l104, l105, l106, l107, l108, l109, l110, l122, l160, l240, l255, l600, l1000, l3000, l10000, l10007, l10116, l67108863, l67108864, I_oth, I_J, J_oth, J_I, I_row, J_row, SI_row, SI_oth, SI_J, SJ_row, SJ_oth, SJ_I, upd_s, upd_n, updL_s, updL_n, ne_eq, not_false_eq_true, lt_t, le_t, tI, NO_t, flag0, flag1, ite_or2, ite_self, true_or, or_true, false_or, or_false, true_and, and_true, false_and, and_false, not_true_eq_false, lmp_e hL, week_e, hv, ansOr_e]
      split <;> rfl
    have k2 : ∀ u, IL u → IN u → nn u 5 15 = nn w 5 15 → tchS u l week = tchS w l week → X12_lit (nI l) (nI week) u = if tchS w l week = NO then some (NO, puI u 97 0 (nI 6)) else some (tchS w l week, puI u 97 0 (nI 0)) := by
      intro u uL uN u15 ul
      have hlo := mteacherAt_e uL uN (lamp := l) (week := week) (by omega) hwk
      rw [ul] at hlo
      unfold X12_lit
      rw [hlo]
      by_cases y : tchS w l week = NO
      · have y' := eq_true y
        simp (disch := omega) only [gdn, gb0, gb1, ixn, nm1, nI_add, nI_mul, nsub, nI_ltI, nI_leI, nI_eq, eqNO, eqNO2, ltNO, NOlt, leNO, NOle, if_pos, if_neg, Option.bind_some, if_true, if_false, and_self, eq_self, l0, l1, l2, l3, l4, l5, l6, l7, l8, l9, l10, l11, l12, l13, l14, l15, l16, l17, l18, l19, l20, l24, l26, l30, l31, l32, l40, l41, l42, l43, l45, l47, l48, l57, l58, l59, l60, l61, l62, l63, l64, l97, l99, l100, l101, l102, l103, l104, l105, l106, l107, l108, l109, l110, l122, l160, l240, l255, l600, l1000, l3000, l10000, l10007, l10116, l67108863, l67108864, I_oth, I_J, J_oth, J_I, I_row, J_row, SI_row, SI_oth, SI_J, SJ_row, SJ_oth, SJ_I, upd_s, upd_n, updL_s, updL_n, ne_eq, not_false_eq_true, lt_t, le_t, tI, NO_t, flag0, flag1, ite_or2, ite_self, true_or, or_true, false_or, or_false, true_and, and_true, false_and, and_false, not_true_eq_false, mlmp_e uL, u15, mweek_e, mref_e, mgiv_e, y']
      · have y' := eq_false y
        simp (disch := omega) only [gdn, gb0, gb1, ixn, nm1, nI_add, nI_mul, nsub, nI_ltI, nI_leI, nI_eq, eqNO, eqNO2, ltNO, NOlt, leNO, NOle, if_pos, if_neg, Option.bind_some, if_true, if_false, and_self, eq_self, l0, l1, l2, l3, l4, l5, l6, l7, l8, l9, l10, l11, l12, l13, l14, l15, l16, l17, l18, l19, l20, l24, l26, l30, l31, l32, l40, l41, l42, l43, l45, l47, l48, l57, l58, l59, l60, l61, l62, l63, l64, l97, l99, l100, l101, l102, l103, l104, l105, l106, l107, l108, l109, l110, l122, l160, l240, l255, l600, l1000, l3000, l10000, l10007, l10116, l67108863, l67108864, I_oth, I_J, J_oth, J_I, I_row, J_row, SI_row, SI_oth, SI_J, SJ_row, SJ_oth, SJ_I, upd_s, upd_n, updL_s, updL_n, ne_eq, not_false_eq_true, lt_t, le_t, tI, NO_t, flag0, flag1, ite_or2, ite_self, true_or, or_true, false_or, or_false, true_and, and_true, false_and, and_false, not_true_eq_false, mlmp_e uL, u15, mweek_e, mref_e, mgiv_e, y']
    exact two_ans (nI 6) k1 (fun x => k2 _ (show IL (puI w1 0 10 x) from hL1) h1' n15 ((tchS_c (fun t _ => lampS_sm (fr_0.sm (by decide)) 0 t week)).trans hts)) (fun w' z => ⟨z.is, hC1.sm (z.fr.sm (by decide))⟩)
  · refine two_ref (nI 1) (r := NO) ?_ ?_ (fun w' z => ⟨z.is, hC.sm (z.fr.sm (by decide))⟩)
    · unfold X11_lit X11_lit_j18
      simp (disch := omega) only [gdn, gb0, gb1, ixn, nm1, nI_add, nI_mul, nsub, nI_ltI, nI_leI, nI_eq, eqNO, eqNO2, ltNO, NOlt, leNO, NOle, if_pos, if_neg, Option.bind_some, if_true, if_false, and_self, eq_self, l0, l1, l2, l3, l4, l5, l6, l7, l8, l9, l10, l11, l12, l13, l14, l15, l16, l17, l18, l19, l20, l24, l26, l30, l31, l32, l40, l41, l42, l43, l45, l47, l48, l57, l58, l59, l60, l61, l62, l63, l64, l97, l99, l100, l101, l102, l103, l104, l105, l106, l107, l108, l109, l110, l122, l160, l240, l255, l600, l1000, l3000, l10000, l10007, l10116, l67108863, l67108864, I_oth, I_J, J_oth, J_I, I_row, J_row, SI_row, SI_oth, SI_J, SJ_row, SJ_oth, SJ_I, upd_s, upd_n, updL_s, updL_n, ne_eq, not_false_eq_true, lt_t, le_t, tI, NO_t, flag0, flag1, ite_or2, ite_self, true_or, or_true, false_or, or_false, true_and, and_true, false_and, and_false, not_true_eq_false, lmp_e hL, week_e, deny_e]
    · unfold X12_lit X12_lit_j15
      rw [mlm (n := nn w 5 15) _ (show (puI w 0 10 (nI 1)).1 97 8 = _ from mM) (by omega)]
      simp (disch := omega) only [gdn, gb0, gb1, ixn, nm1, nI_add, nI_mul, nsub, nI_ltI, nI_leI, nI_eq, eqNO, eqNO2, ltNO, NOlt, leNO, NOle, if_pos, if_neg, Option.bind_some, if_true, if_false, and_self, eq_self, l0, l1, l2, l3, l4, l5, l6, l7, l8, l9, l10, l11, l12, l13, l14, l15, l16, l17, l18, l19, l20, l24, l26, l30, l31, l32, l40, l41, l42, l43, l45, l47, l48, l57, l58, l59, l60, l61, l62, l63, l64, l97, l99, l100, l101, l102, l103, l104, l105, l106, l107, l108, l109, l110, l122, l160, l240, l255, l600, l1000, l3000, l10000, l10007, l10116, l67108863, l67108864, I_oth, I_J, J_oth, J_I, I_row, J_row, SI_row, SI_oth, SI_J, SJ_row, SJ_oth, SJ_I, upd_s, upd_n, updL_s, updL_n, ne_eq, not_false_eq_true, lt_t, le_t, tI, NO_t, flag0, flag1, ite_or2, ite_self, true_or, or_true, false_or, or_false, true_and, and_true, false_and, and_false, not_true_eq_false, mweek_e, mref_e]
