/-! the model teaches a WEEK -/
def sS_T : List Nat := [144, 145, 146, 152, 153, 154, 155, 156, 157, 158, 159, 160]
theorem cnt_one {p : Nat → Bool} {n : Nat} : cnt p (n + 1) = cnt p n + (if p n = true then 1 else 0) := rfl
theorem teach_e {w : Wd} (hL : IL w) (hN : IN w) (hB : IBo w) (hI : IR w) (hS : ILs w) {week : Nat} (hw : week < 60) (hg : ∀ l, l < nn w 5 8 → rowY (w.1 150) l (YH w week l)) : ∃ v, X12_teach (nI week) w = some v ∧ Fr sS_T [(97, 70)] w v ∧ (∀ m, m < nn w 5 15 → v.1 156 m = tchS w m week) ∧ ∀ l, l < nn w 5 8 → v.1 152 l = lampS w 1 l week ∧ v.1 158 l = fg (3 ≤ YO w week l) ∧ (litY w week l → v.1 157 l = bI (myY w week l (YH w week l))) ∧ (3 ≤ YO w week l → v.1 153 l = nI (YO w week l - 3)) := by
  have b8 := hL.1.2.2.1.2
  have b15 := hL.1.2.2.2.2.2
  have e6 : w.1 97 6 = nI (nn w 5 8) := by rw [hL.2.1.2.2.1]; exact hL.1.2.2.1.1
  have e8 : w.1 97 8 = nI (nn w 5 15) := by rw [hL.2.1.2.2.2.2]; exact hL.1.2.2.2.2.1
  have k1 : ok (lp (X12_teach_b2 (nI week)) (nI 0, w)) (fun v => Fr [154, 155, 156] [] w v ∧ ∀ m, m < nn w 5 15 → v.1 154 m = nI 0 ∧ v.1 155 m = nI 0 ∧ v.1 156 m = tchS w m week) := by
    refine lp_up (fun p s => s.1 = nI p ∧ Fr [154, 155, 156] [] w s.2 ∧ ∀ m, m < p → s.2.1 154 m = nI 0 ∧ s.2.1 155 m = nI 0 ∧ s.2.1 156 m = tchS w m week) (nn w 5 15) ?_ ?_ 0 _ (Nat.zero_le _) ⟨rfl, Fr.rf, fun m hm => by omega⟩
    · rintro p ⟨z, v⟩ hp ⟨rfl, h1, h2⟩
      simp only at h1 h2
      have f1 : Fr [154, 155, 156] [] w (puI (puI v 154 p (nI 0)) 155 p (nI 0)) := Fr.puI (Fr.puI h1 (by decide)) (by decide)
      have ht := mteacherAt_e (hL.sm (f1.sm (by decide))) (hN.sm (f1.sm (by decide))) (lamp := p) (week := week) (by omega) hw
      rw [tchS_y (f1.sm (by decide))] at ht
      have e8v : v.1 97 8 = nI (nn w 5 15) := by rw [(h1 97 (by decide) 8 (by simp)).1]; exact e8
      unfold X12_teach_b2
      simp (disch := omega) only [gdn, gb0, gb1, ixn, nm1, nI_add, nI_mul, nsub, nI_ltI, nI_leI, nI_eq, eqNO, eqNO2, ltNO, NOlt, leNO, NOle, if_pos, if_neg, Option.bind_some, if_true, if_false, and_self, eq_self, l0, l1, l2, l3, l4, l5, l6, l7, l8, l9, l10, l11, l12, l13, l14, l15, l16, l17, l18, l19, l20, l24, l26, l30, l31, l32, l40, l41, l42, l43, l45, l47, l48, l57, l58, l59, l60, l61, l62, l63, l64, l97, l99, l100, l101, l102, l103, l104, l105, l106, l107, l108, l109, l110, l122, l160, l240, l255, l600, l1000, l3000, l10000, l10007, l10116, l67108863, l67108864, e8v, ht]
      refine ok_i ⟨rfl, Fr.puI f1 (by decide), fun m hm => ?_⟩
      show (puI (puI (puI v 154 p (nI 0)) 155 p (nI 0)) 156 p (tchS w p week)).1 154 m = _ ∧ (puI (puI (puI v 154 p (nI 0)) 155 p (nI 0)) 156 p (tchS w p week)).1 155 m = _ ∧ (puI (puI (puI v 154 p (nI 0)) 155 p (nI 0)) 156 p (tchS w p week)).1 156 m = _
      by_cases q : m = p
      · subst q
        simp (disch := omega) only [gdn, gb0, gb1, ixn, nm1, nI_add, nI_mul, nsub, nI_ltI, nI_leI, nI_eq, eqNO, eqNO2, ltNO, NOlt, leNO, NOle, if_pos, if_neg, Option.bind_some, if_true, if_false, and_self, eq_self, l0, l1, l2, l3, l4, l5, l6, l7, l8, l9, l10, l11, l12, l13, l14, l15, l16, l17, l18, l19, l20, l24, l26, l30, l31, l32, l40, l41, l42, l43, l45, l47, l48, l57, l58, l59, l60, l61, l62, l63, l64, l97, l99, l100, l101, l102, l103, l104, l105, l106, l107, l108, l109, l110, l122, l160, l240, l255, l600, l1000, l3000, l10000, l10007, l10116, l67108863, l67108864, I_oth, I_J, J_oth, J_I, I_row, J_row, SI_row, SI_oth, SI_J, SJ_row, SJ_oth, SJ_I, upd_s, upd_n, updL_s, updL_n, ne_eq, not_false_eq_true]
      · have := h2 m (by omega)
        rw [I_oth (by decide), I_oth (by decide), I_row, upd_n q, I_oth (by decide), I_row, upd_n q, I_oth (by decide), I_row, upd_n q, I_oth (by decide), I_oth (by decide)]
        exact this
    · rintro ⟨z, v⟩ ⟨rfl, h1, h2⟩
      simp only at h1 h2
      have e8v : v.1 97 8 = nI (nn w 5 15) := by rw [(h1 97 (by decide) 8 (by simp)).1]; exact e8
      unfold X12_teach_b2
      simp (disch := omega) only [gdn, gb0, gb1, ixn, nm1, nI_add, nI_mul, nsub, nI_ltI, nI_leI, nI_eq, eqNO, eqNO2, ltNO, NOlt, leNO, NOle, if_pos, if_neg, Option.bind_some, if_true, if_false, and_self, eq_self, l0, l1, l2, l3, l4, l5, l6, l7, l8, l9, l10, l11, l12, l13, l14, l15, l16, l17, l18, l19, l20, l24, l26, l30, l31, l32, l40, l41, l42, l43, l45, l47, l48, l57, l58, l59, l60, l61, l62, l63, l64, l97, l99, l100, l101, l102, l103, l104, l105, l106, l107, l108, l109, l110, l122, l160, l240, l255, l600, l1000, l3000, l10000, l10007, l10116, l67108863, l67108864, e8v]
      exact ok_i ⟨h1, h2⟩
  obtain ⟨w1, a1, a2, a3⟩ := k1
  have k2 : ok (lp (X12_teach_b44 (nI week)) (nI 0, w1)) (fun v => Fr [152, 154] [] w1 v ∧ (∀ i, i < nn w 5 8 → v.1 152 i = lampS w 1 i week) ∧ ∀ m, m < nn w 5 15 → v.1 154 m = nI (crwS w m week)) := by
    refine lp_up (fun l s => s.1 = nI l ∧ Fr [152, 154] [] w1 s.2 ∧ (∀ i, i < l → s.2.1 152 i = lampS w 1 i week) ∧ ∀ m, m < nn w 5 15 → s.2.1 154 m = nI (cnt (fun i => decide (lampS w 1 i week = nI m)) l)) (nn w 5 8) ?_ ?_ 0 _ (Nat.zero_le _) ⟨rfl, Fr.rf, fun m hm => by omega, fun m hm => (a3 m hm).1⟩
    · rintro l ⟨z, v⟩ hl ⟨rfl, h1, h2, h3⟩
      simp only at h1 h2 h3
      have f1 : Fr [152, 154, 155, 156] [] w v := (a2.wk (by decide) (by simp)).next h1 (by decide) (by simp)
      have ho := mlampOf_e (hN.sm (f1.sm (by decide))) (s := 1) (who := l) (week := week) (by omega) (by omega) hw
      rw [lampS_y (f1.sm (by decide))] at ho
      have e6v : v.1 97 6 = nI (nn w 5 8) := by rw [(f1 97 (by decide) 6 (by simp)).1]; exact e6
      have f2 : Fr [152, 154] [] w1 (puI v 152 l (lampS w 1 l week)) := Fr.puI h1 (by decide)
      have r152 : ∀ i, i < l + 1 → (puI v 152 l (lampS w 1 l week)).1 152 i = lampS w 1 i week := fun i hi => by
        rw [I_row]
        by_cases q : i = l
        · subst q; rw [upd_s]
        · rw [upd_n q]; exact h2 i (by omega)
      unfold X12_teach_b44 X12_teach_j90
      rw [show (-1 : Int32) = NO from rfl]
      rcases lampS_in hN (s := 1) (who := l) (week := week) (by omega) with z | ⟨m, hm, z⟩
      · rw [z] at ho f2 r152
        simp (disch := omega) only [gdn, gb0, gb1, ixn, nm1, nI_add, nI_mul, nsub, nI_ltI, nI_leI, nI_eq, eqNO, eqNO2, ltNO, NOlt, leNO, NOle, if_pos, if_neg, Option.bind_some, if_true, if_false, and_self, eq_self, l0, l1, l2, l3, l4, l5, l6, l7, l8, l9, l10, l11, l12, l13, l14, l15, l16, l17, l18, l19, l20, l24, l26, l30, l31, l32, l40, l41, l42, l43, l45, l47, l48, l57, l58, l59, l60, l61, l62, l63, l64, l97, l99, l100, l101, l102, l103, l104, l105, l106, l107, l108, l109, l110, l122, l160, l240, l255, l600, l1000, l3000, l10000, l10007, l10116, l67108863, l67108864, I_oth, I_J, J_oth, J_I, I_row, J_row, SI_row, SI_oth, SI_J, SJ_row, SJ_oth, SJ_I, upd_s, upd_n, updL_s, updL_n, ne_eq, not_false_eq_true, e6v, ho]
        refine ok_i ⟨rfl, f2, r152, fun m' hm' => ?_⟩
        show (puI v 152 l NO).1 154 m' = _
        rw [I_oth (by decide), h3 m' hm', cnt_one, if_neg (by rw [z]; simp [eqNO2 (show m' < 2 ^ 31 by omega)])]; rfl
      · rw [z] at ho f2 r152
        have h3m := h3 m hm
        have hcl : cnt (fun i => decide (lampS w 1 i week = nI m)) l ≤ l := cnt_le
        simp (disch := omega) only [gdn, gb0, gb1, ixn, nm1, nI_add, nI_mul, nsub, nI_ltI, nI_leI, nI_eq, eqNO, eqNO2, ltNO, NOlt, leNO, NOle, if_pos, if_neg, Option.bind_some, if_true, if_false, and_self, eq_self, l0, l1, l2, l3, l4, l5, l6, l7, l8, l9, l10, l11, l12, l13, l14, l15, l16, l17, l18, l19, l20, l24, l26, l30, l31, l32, l40, l41, l42, l43, l45, l47, l48, l57, l58, l59, l60, l61, l62, l63, l64, l97, l99, l100, l101, l102, l103, l104, l105, l106, l107, l108, l109, l110, l122, l160, l240, l255, l600, l1000, l3000, l10000, l10007, l10116, l67108863, l67108864, I_oth, I_J, J_oth, J_I, I_row, J_row, SI_row, SI_oth, SI_J, SJ_row, SJ_oth, SJ_I, upd_s, upd_n, updL_s, updL_n, ne_eq, not_false_eq_true, e6v, ho, h3m]
        refine ok_i ⟨rfl, Fr.puI f2 (by decide), fun i hi => by rw [show (nI (l + 1), puI (puI v 152 l (nI m)) 154 m (nI (cnt (fun i => decide (lampS w 1 i week = nI m)) l + 1))).2.1 152 i = (puI v 152 l (nI m)).1 152 i from by rw [I_oth (by decide)]]; exact r152 i hi, fun m' hm' => ?_⟩
        show (puI (puI v 152 l (nI m)) 154 m (nI (cnt (fun i => decide (lampS w 1 i week = nI m)) l + 1))).1 154 m' = _
        rw [I_row, I_oth (by decide), cnt_one]
        by_cases q : m' = m
        · subst q
          rw [upd_s, if_pos (by simpa using z)]
        · rw [upd_n q, h3 m' hm', if_neg (by rw [z, decide_eq_true_eq, nI_eq (by omega) (by omega)]; omega)]; rfl
    · rintro ⟨z, v⟩ ⟨rfl, h1, h2, h3⟩
      simp only at h1 h2 h3
      have e6v : v.1 97 6 = nI (nn w 5 8) := by rw [(h1 97 (by decide) 6 (by simp)).1, (a2 97 (by decide) 6 (by simp)).1]; exact e6
      unfold X12_teach_b44
      simp (disch := omega) only [gdn, gb0, gb1, ixn, nm1, nI_add, nI_mul, nsub, nI_ltI, nI_leI, nI_eq, eqNO, eqNO2, ltNO, NOlt, leNO, NOle, if_pos, if_neg, Option.bind_some, if_true, if_false, and_self, eq_self, l0, l1, l2, l3, l4, l5, l6, l7, l8, l9, l10, l11, l12, l13, l14, l15, l16, l17, l18, l19, l20, l24, l26, l30, l31, l32, l40, l41, l42, l43, l45, l47, l48, l57, l58, l59, l60, l61, l62, l63, l64, l97, l99, l100, l101, l102, l103, l104, l105, l106, l107, l108, l109, l110, l122, l160, l240, l255, l600, l1000, l3000, l10000, l10007, l10116, l67108863, l67108864, e6v]
      exact ok_i ⟨h1, h2, fun m hm => by rw [h3 m hm, crwS_e hN (by omega) rfl (by omega)]⟩
  obtain ⟨w2, c1, c2, c3, c4⟩ := k2
  have f2 : Fr sS_T [(97, 70)] w w2 := (a2.wk (by decide) (by simp)).next c2 (by decide) (by simp)
  have g156 : ∀ m, m < nn w 5 15 → w2.1 156 m = tchS w m week := fun m hm => by rw [(c2 156 (by decide) m (by simp)).1]; exact (a3 m hm).2.2
  have g155 : ∀ m, m < nn w 5 15 → w2.1 155 m = nI 0 := fun m hm => by rw [(c2 155 (by decide) m (by simp)).1]; exact (a3 m hm).2.1
  have k3 : ok (lp (X12_teach_b98 (nI week)) (nI 0, w2)) (fun v => Fr [144, 145, 146, 153, 155, 157, 158, 159, 160] [(97, 70)] w2 v ∧ ∀ i, i < nn w 5 8 → v.1 158 i = fg (3 ≤ YO w week i) ∧ (litY w week i → v.1 157 i = bI (myY w week i (YH w week i))) ∧ (3 ≤ YO w week i → v.1 153 i = nI (YO w week i - 3))) := by
    refine lp_up (fun l s => s.1 = nI l ∧ Fr [144, 145, 146, 153, 155, 157, 158, 159, 160] [(97, 70)] w2 s.2 ∧ (∀ m, m < nn w 5 15 → s.2.1 155 m = nI (YT w week l m)) ∧ ∀ i, i < l → s.2.1 158 i = fg (3 ≤ YO w week i) ∧ (litY w week i → s.2.1 157 i = bI (myY w week i (YH w week i))) ∧ (3 ≤ YO w week i → s.2.1 153 i = nI (YO w week i - 3))) (nn w 5 8) ?_ ?_ 0 _ (Nat.zero_le _) ⟨rfl, Fr.rf, g155, fun m hm => by omega⟩
    · rintro l ⟨z, v⟩ hl ⟨rfl, h1, h2, h3⟩
      simp only at h1 h2 h3
      have e6v : v.1 97 6 = nI (nn w 5 8) := by rw [(h1 97 (by decide) 6 (by decide)).1, (f2 97 (by decide) 6 (by decide)).1]; exact e6
      generalize hx : puI (puI v 157 l (nI 0)) 158 l (nI 0) = x
      have fx1 : Fr [144, 145, 146, 153, 155, 157, 158, 159, 160] [(97, 70)] w2 x := by rw [← hx]; exact Fr.puI (Fr.puI h1 (by decide)) (by decide)
      have fx : Fr sS_T [(97, 70)] w x := f2.next fx1 (by decide) (by simp)
      have x157 : x.1 157 = upd (v.1 157) l (nI 0) := by rw [← hx, I_oth (by decide), I_row]
      have x158 : x.1 158 = upd (v.1 158) l (nI 0) := by rw [← hx, I_row, I_oth (by decide)]
      have x153 : x.1 153 = v.1 153 := by rw [← hx, I_oth (by decide), I_oth (by decide)]
      have x155 : x.1 155 = v.1 155 := by rw [← hx, I_oth (by decide), I_oth (by decide)]
      have x152 : x.1 152 l = lampS w 1 l week := by rw [(fx1 152 (by decide) l (by simp)).1]; exact c3 l hl
      have x156 : ∀ m, m < nn w 5 15 → x.1 156 m = tchS w m week := fun m hm => by rw [(fx1 156 (by decide) m (by simp)).1]; exact g156 m hm
      have hb : X12_teach_b98 (nI week) (nI l, v) = if x.1 152 l = NO then some (.inl (nI (l + 1), x)) else gd (vp_in (x.1 152 l) 12) (if x.1 156 (ix (x.1 152 l)) = NO then some (.inl (nI (l + 1), x)) else (X12_asks (nI l) (nI week) x).bind fun q14 => if q14.1 157 l = nI 0 then some (.inl (nI (l + 1), q14)) else gd (vp_in (q14.1 152 l) 12) ((X12_lastOf (nI 3) (nI 40) q14).bind fun q16 => if q14.1 155 (ix (q14.1 152 l)) = q16 then some (.inl (nI (l + 1), q14)) else gd (vp_in (q14.1 152 l) 12) (gd (vp_in (q14.1 152 l) 12) (some (.inl (nI (l + 1), puI (puI q14 155 (ix (q14.1 152 l)) (q14.1 155 (ix (q14.1 152 l)) + nI 1)) 158 l (nI 1))))))) := by
        unfold X12_teach_b98 X12_teach_j209
        rw [show vp_nar .boolean (0 : Int32) = nI 0 from by decide, show vp_nar .boolean (1 : Int32) = nI 1 from by decide, show (-1 : Int32) = NO from rfl]
        simp (disch := omega) only [gdn, gb0, gb1, ixn, nm1, nI_add, nI_mul, nsub, nI_ltI, nI_leI, nI_eq, eqNO, eqNO2, ltNO, NOlt, leNO, NOle, if_pos, if_neg, Option.bind_some, if_true, if_false, and_self, eq_self, l0, l1, l2, l3, l4, l5, l6, l7, l8, l9, l10, l11, l12, l13, l14, l15, l16, l17, l18, l19, l20, l24, l26, l30, l31, l32, l40, l41, l42, l43, l45, l47, l48, l57, l58, l59, l60, l61, l62, l63, l64, l97, l99, l100, l101, l102, l103, l104, l105, l106, l107, l108, l109, l110, l122, l160, l240, l255, l600, l1000, l3000, l10000, l10007, l10116, l67108863, l67108864, e6v, hx]
      rw [hb, x152]
      -- how it ends
      have fin0 : ∀ u : Wd, Fr [144, 145, 146, 153, 155, 157, 158, 159, 160] [(97, 70)] w2 u → u.1 155 = v.1 155 → u.1 158 = upd (v.1 158) l (nI 0) → (∀ i, i ≠ l → u.1 157 i = v.1 157 i ∧ u.1 153 i = v.1 153 i) → ¬ 3 ≤ YO w week l → (litY w week l → u.1 157 l = bI (myY w week l (YH w week l))) → (nI (l + 1), u).1 = nI (l + 1) ∧ Fr [144, 145, 146, 153, 155, 157, 158, 159, 160] [(97, 70)] w2 (nI (l + 1), u).2 ∧ (∀ m, m < nn w 5 15 → (nI (l + 1), u).2.1 155 m = nI (YT w week (l + 1) m)) ∧ ∀ i, i < l + 1 → (nI (l + 1), u).2.1 158 i = fg (3 ≤ YO w week i) ∧ (litY w week i → (nI (l + 1), u).2.1 157 i = bI (myY w week i (YH w week i))) ∧ (3 ≤ YO w week i → (nI (l + 1), u).2.1 153 i = nI (YO w week i - 3)) := by
        intro u u1 u2 u3 u4 u5 u6
        refine ⟨rfl, u1, fun m hm => ?_, fun i hi => ?_⟩
        · show u.1 155 m = _
          rw [u2, YT_s, if_neg (fun z => u5 z.1)]; exact h2 m hm
        · show u.1 158 i = _ ∧ (_ → u.1 157 i = _) ∧ (_ → u.1 153 i = _)
          by_cases q : i = l
          · subst q
            rw [u3, upd_s, fg_f u5]
            exact ⟨rfl, u6, fun z => (u5 z).elim⟩
          · rw [u3, upd_n q, (u4 i q).1, (u4 i q).2]
            exact h3 i (by omega)
      have xo : ∀ i, i ≠ l → x.1 157 i = v.1 157 i ∧ x.1 153 i = v.1 153 i := fun i hi => by rw [x157, x153, upd_n hi]; exact ⟨rfl, rfl⟩
      by_cases hq : litY w week l
      · obtain ⟨m, t, hm, hm12, ht, ht20, e1, e2, e3, -⟩ := lit_get hL hN hq
        have n8 : nn x 5 8 = nn w 5 8 := nn_row (fx.row 5 (by decide) (by decide)).1
        have n15 : nn x 5 15 = nn w 5 15 := nn_row (fx.row 5 (by decide) (by decide)).1
        have n12 : nn x 5 12 = nn w 5 12 := nn_row (fx.row 5 (by decide) (by decide)).1
        have hy : Sm sR_Y sF_Y w x := fx.sm (by decide)
        obtain ⟨q14, j1, j2, j3, j4, j5⟩ := asks_e (hL.sm (fx.sm (by decide))) (hN.sm (fx.sm (by decide))) (hB.sm (fx.sm (by decide))) (hI.sm (fx.sm (by decide))) (hS.sm (fx.sm (by decide))) hw (l := l) (m := m) (t := t) (by rw [n8]; exact hl) (by rw [n15]; exact hm) (by rw [n12]; exact ht) (by rw [x152]; exact e1) (by rw [x156 m hm]; exact e3) (by rw [crwS_y hy, (fx1 154 (by decide) m (by simp)).1]; exact c4 m hm) (by rw [tchS_y hy]; exact e3) (g := YH w week l) (fun k hk => ⟨by rw [(fx.row 150 (by decide) (by decide)).1]; exact hg l hl k hk, YH_le hS k hk⟩)
        rw [RS_y hy, shY_y hy] at j3 j4 j5
        rw [mayS_y hy, fct_y hy] at j3
        rw [hrsS_y hy, fct_y hy] at j4
        have em : mayS w (RS w (shY w m) week) (fct w week l m (YH w week l)) = myY w week l (YH w week l) := by unfold myY rsY; rw [e2]
        have eh : hrsS w (RS w (shY w m) week) (fct w week l m (YH w week l)) = hrY w week l (YH w week l) := by unfold hrY rsY; rw [e2]
        rw [em] at j3
        rw [eh] at j4
        have hYO : YO w week l = if myY w week l (YH w week l) = false then 1 else if rmY w week m ≤ YT w week l m then 2 else 3 + hrY w week l (YH w week l) := by
          rw [YO_e, jd_t hq, e2]
        have fq1 : Fr [144, 145, 146, 153, 155, 157, 158, 159, 160] [(97, 70)] w2 q14 := fx1.next j2 (by decide) (by simp)
        have fq : Fr sS_T [(97, 70)] w q14 := f2.next fq1 (by decide) (by simp)
        have q157 : q14.1 157 l = bI (myY w week l (YH w week l)) := by rw [j3, upd_s]
        have q155 : q14.1 155 = v.1 155 := by rw [(j2.row 155 (by decide) (by decide)).1]; exact x155
        have q158 : q14.1 158 = upd (v.1 158) l (nI 0) := by rw [(j2.row 158 (by decide) (by decide)).1]; exact x158
        have q152 : q14.1 152 l = nI m := by rw [(j2 152 (by decide) l (by simp)).1, x152]; exact e1
        have qo : ∀ i, i ≠ l → q14.1 157 i = v.1 157 i ∧ q14.1 153 i = v.1 153 i := fun i hi => by
          rw [j3, j4, upd_n hi, upd_n hi]; exact xo i hi
        rw [e1]
        have x156m : x.1 156 m = nI t := by rw [x156 m hm]; exact e3
        simp (disch := omega) only [gdn, gb0, gb1, ixn, nm1, nI_add, nI_mul, nsub, nI_ltI, nI_leI, nI_eq, eqNO, eqNO2, ltNO, NOlt, leNO, NOle, if_pos, if_neg, Option.bind_some, if_true, if_false, and_self, eq_self, l0, l1, l2, l3, l4, l5, l6, l7, l8, l9, l10, l11, l12, l13, l14, l15, l16, l17, l18, l19, l20, l24, l26, l30, l31, l32, l40, l41, l42, l43, l45, l47, l48, l57, l58, l59, l60, l61, l62, l63, l64, l97, l99, l100, l101, l102, l103, l104, l105, l106, l107, l108, l109, l110, l122, l160, l240, l255, l600, l1000, l3000, l10000, l10007, l10116, l67108863, l67108864, x156m, j1]
        rw [q157]
        cases hmy : myY w week l (YH w week l) with
        | false =>
          rw [hmy] at q157
          rw [if_pos (show bI false = nI 0 from rfl)]
          exact ok_i (fin0 q14 fq1 q155 q158 qo (by rw [hYO, hmy, if_pos rfl]; omega) (fun _ => by rw [q157, hmy]))
        | true =>
          rw [hmy] at q157
          rw [if_neg (show ¬ bI true = nI 0 by decide)]
          have hBq : IBo q14 := hB.sm (fq.sm (by decide))
          have hyq : Sm sR_Y sF_Y w q14 := fq.sm (by decide)
          have hRk : okRl q14 (RS w (shY w m) week) := by
            have := okRl_tl hBq (p := inF q14 (shY w m) week)
            rw [show RS w (shY w m) week = RS q14 (shY w m) week by rw [RS_y hyq]]; exact this
          have hlo := lastOf_e hBq hRk (u := q14) (Fr.rf : Fr [144, 145, 146] [(97, 70)] q14 q14) j5 (d := 104) (z := 40) (by omega) (by omega) (by omega)
          rw [show dm 104 = 3 from rfl, lst_y hyq, show lst w (RS w (shY w m) week) 104 40 (RS w (shY w m) week).length = rmY w week m from rfl] at hlo
          have hrm : rmY w week m < 101 := lst_le (by omega) (fun j hj => ((okRl_tl hB (p := inF w (shY w m) week)).at hB hj).2.2.2.2.2.2.1.2) _ (Nat.le_refl _)
          have hTl := YT_le (w := w) (week := week) (l := l) m
          have q155m : q14.1 155 m = nI (YT w week l m) := by rw [q155]; exact h2 m hm
          rw [hmy, if_neg (by simp)] at hYO
          simp (disch := omega) only [gdn, gb0, gb1, ixn, nm1, nI_add, nI_mul, nsub, nI_ltI, nI_leI, nI_eq, eqNO, eqNO2, ltNO, NOlt, leNO, NOle, if_pos, if_neg, Option.bind_some, if_true, if_false, and_self, eq_self, l0, l1, l2, l3, l4, l5, l6, l7, l8, l9, l10, l11, l12, l13, l14, l15, l16, l17, l18, l19, l20, l24, l26, l30, l31, l32, l40, l41, l42, l43, l45, l47, l48, l57, l58, l59, l60, l61, l62, l63, l64, l97, l99, l100, l101, l102, l103, l104, l105, l106, l107, l108, l109, l110, l122, l160, l240, l255, l600, l1000, l3000, l10000, l10007, l10116, l67108863, l67108864, q152, hlo, q155m]
          by_cases y : YT w week l m = rmY w week m
          · rw [if_pos y]
            exact ok_i (fin0 q14 fq1 q155 q158 qo (by rw [hYO, if_pos (by omega)]; omega) (fun _ => by rw [q157, hmy]))
          · rw [if_neg y]
            rw [if_neg (by omega)] at hYO
            have fu : Fr [144, 145, 146, 153, 155, 157, 158, 159, 160] [(97, 70)] w2 (puI (puI q14 155 m (nI (YT w week l m + 1))) 158 l (nI 1)) := Fr.puI (Fr.puI fq1 (by decide)) (by decide)
            refine ok_i ⟨rfl, fu, fun m' hm' => ?_, fun i hi => ?_⟩
            · show (puI (puI q14 155 m (nI (YT w week l m + 1))) 158 l (nI 1)).1 155 m' = _
              rw [I_oth (by decide), I_row, q155, YT_s, e2]
              by_cases q : m' = m
              · subst q; rw [upd_s, if_pos ⟨by omega, rfl⟩]
              · rw [upd_n q, if_neg (fun z => q z.2)]; exact h2 m' hm'
            · show (puI (puI q14 155 m (nI (YT w week l m + 1))) 158 l (nI 1)).1 158 i = _ ∧ (_ → (puI (puI q14 155 m (nI (YT w week l m + 1))) 158 l (nI 1)).1 157 i = _) ∧ (_ → (puI (puI q14 155 m (nI (YT w week l m + 1))) 158 l (nI 1)).1 153 i = _)
              rw [I_row, I_oth (by decide), I_oth (by decide), I_oth (by decide), I_oth (by decide), I_oth (by decide), q158]
              by_cases q : i = l
              · subst q
                rw [upd_s, fg_t (show 3 ≤ YO w week i by omega), q157, hmy]
                exact ⟨rfl, fun _ => rfl, fun _ => by rw [j4, upd_s, hYO]; congr 1; omega⟩
              · rw [upd_n q, upd_n q, (qo i q).1, (qo i q).2]
                exact h3 i (by omega)
      · have hYO : ¬ 3 ≤ YO w week l := by rw [YO_e, jd_n hq]; omega
        by_cases q1 : lampS w 1 l week = NO
        · rw [if_pos q1]
          exact ok_i (fin0 x fx1 x155 x158 xo hYO (fun z => (hq z).elim))
        · rw [if_neg q1]
          rcases lampS_in hN (s := 1) (who := l) (week := week) (by omega) with z | ⟨m, hm, z⟩
          · exact (q1 z).elim
          · have em : lmY w week l = m := by unfold lmY; rw [z, ixn (by omega)]
            have e156 : x.1 156 m = NO := by
              rw [x156 m hm]
              rcases tchS_NO (w := w) (lamp := m) (week := week) with y | ⟨t', _, y, _⟩
              · exact y
              · exact (hq ⟨q1, by rw [em, y]; exact fun x => (eqNO (show t' < 2 ^ 31 by omega)).mp x⟩).elim
            rw [z]
            simp (disch := omega) only [gdn, gb0, gb1, ixn, nm1, nI_add, nI_mul, nsub, nI_ltI, nI_leI, nI_eq, eqNO, eqNO2, ltNO, NOlt, leNO, NOle, if_pos, if_neg, Option.bind_some, if_true, if_false, and_self, eq_self, l0, l1, l2, l3, l4, l5, l6, l7, l8, l9, l10, l11, l12, l13, l14, l15, l16, l17, l18, l19, l20, l24, l26, l30, l31, l32, l40, l41, l42, l43, l45, l47, l48, l57, l58, l59, l60, l61, l62, l63, l64, l97, l99, l100, l101, l102, l103, l104, l105, l106, l107, l108, l109, l110, l122, l160, l240, l255, l600, l1000, l3000, l10000, l10007, l10116, l67108863, l67108864, e156]
            exact ok_i (fin0 x fx1 x155 x158 xo hYO (fun z => (hq z).elim))
    · rintro ⟨z, v⟩ ⟨rfl, h1, h2, h3⟩
      simp only at h1 h2 h3
      have e6v : v.1 97 6 = nI (nn w 5 8) := by rw [(h1 97 (by decide) 6 (by decide)).1, (f2 97 (by decide) 6 (by decide)).1]; exact e6
      unfold X12_teach_b98
      simp (disch := omega) only [gdn, gb0, gb1, ixn, nm1, nI_add, nI_mul, nsub, nI_ltI, nI_leI, nI_eq, eqNO, eqNO2, ltNO, NOlt, leNO, NOle, if_pos, if_neg, Option.bind_some, if_true, if_false, and_self, eq_self, l0, l1, l2, l3, l4, l5, l6, l7, l8, l9, l10, l11, l12, l13, l14, l15, l16, l17, l18, l19, l20, l24, l26, l30, l31, l32, l40, l41, l42, l43, l45, l47, l48, l57, l58, l59, l60, l61, l62, l63, l64, l97, l99, l100, l101, l102, l103, l104, l105, l106, l107, l108, l109, l110, l122, l160, l240, l255, l600, l1000, l3000, l10000, l10007, l10116, l67108863, l67108864, e6v]
      exact ok_i ⟨h1, h3⟩
  obtain ⟨w3, d1, d2, d3⟩ := k3
  refine ⟨w3, ?_, f2.next d2 (by decide) (by simp), fun m hm => ?_, fun l hl => ⟨?_, d3 l hl⟩⟩
  · unfold X12_teach
    rw [show ((0 : Int32), w) = (nI 0, w) from rfl, a1]
    simp only [Option.bind_some]
    rw [show ((0 : Int32), w1) = (nI 0, w1) from rfl, c1]
    simp only [Option.bind_some]
    rw [show ((0 : Int32), w2) = (nI 0, w2) from rfl, d1]; rfl
  · rw [(d2 156 (by decide) m (by simp)).1]; exact g156 m hm
  · rw [(d2 152 (by decide) l (by simp)).1]; exact c3 l hl
