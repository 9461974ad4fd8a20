/-! near -/
noncomputable def nA (w : Wd) (s week p : Nat) : Nat := arr w s week (nn w 17 p)
def nOk (w : Wd) (s week p : Nat) : Prop := tchS w p week ≠ NO ∧ crwS w p week < rmY w week p ∧ nA w s week p < 60
noncomputable def nB (w : Wd) (s week : Nat) : Nat → Int32
  | 0 => NO
  | p + 1 => @ite _ (nOk w s week p ∧ (nB w s week p = NO ∨ nA w s week p < nA w s week (ix (nB w s week p)))) (Classical.propDecidable _) (nI p) (nB w s week p)
theorem nB_t {w : Wd} {s week p : Nat} (h : nOk w s week p ∧ (nB w s week p = NO ∨ nA w s week p < nA w s week (ix (nB w s week p)))) : nB w s week (p + 1) = nI p := if_pos h
theorem nB_f {w : Wd} {s week p : Nat} (h : ¬ (nOk w s week p ∧ (nB w s week p = NO ∨ nA w s week p < nA w s week (ix (nB w s week p))))) : nB w s week (p + 1) = nB w s week p := if_neg h
theorem nB_in {w : Wd} {s week : Nat} : ∀ n, nB w s week n = NO ∨ ∃ p, p < n ∧ nB w s week n = nI p ∧ nA w s week p < 60
  | 0 => Or.inl rfl
  | n + 1 => by
    by_cases q : nOk w s week n ∧ (nB w s week n = NO ∨ nA w s week n < nA w s week (ix (nB w s week n)))
    · rw [nB_t q]; exact Or.inr ⟨n, by omega, rfl, q.1.2.2⟩
    · rw [nB_f q]
      rcases nB_in (w := w) (s := s) (week := week) n with z | ⟨p, hp, z, y⟩
      · exact Or.inl z
      · exact Or.inr ⟨p, by omega, z, y⟩
theorem rmY_lt {w : Wd} (hB : IBo w) {week m : Nat} : rmY w week m < 101 := lst_le (by omega) (fun j hj => ((okRl_tl hB (p := inF w (shY w m) week)).at hB hj).2.2.2.2.2.2.1.2) _ (Nat.le_refl _)
def nS (w : Wd) (s week : Nat) (b : Int32) (x : Int32) : Prop := (b = NO ∧ x = nI 60) ∨ ∃ p, p < 12 ∧ b = nI p ∧ x = nI (nA w s week p) ∧ nA w s week p < 60
theorem near_c {w w1 : Wd} (h : YI w) {a week : Nat} (ha : a < nn w 5 15) (hw : week < 60) (h1 : OPC w w1) (hU : CU w1 week) (h18 : w1.1 18 = rwN 16 (arr w (nn w 17 a) week) (w.1 18)) : ∃ v, lp (X11_near_b78 (nI week)) (NO, nI 60, nI 0, w1) = some (nB w (nn w 17 a) week (nn w 5 15), v) ∧ OPC w v := by
  have hL := h.1
  have hB := h.2.2.2.1
  have b15 := hL.1.2.2.2.2.2
  have b0 := hL.1.1.2
  have key : ok (lp (X11_near_b78 (nI week)) (NO, nI 60, nI 0, w1)) (fun e => e.1 = nB w (nn w 17 a) week (nn w 5 15) ∧ OPC w e.2) := by
    refine lp_up (fun p s => s.1 = nB w (nn w 17 a) week p ∧ nS w (nn w 17 a) week s.1 s.2.1 ∧ s.2.2.1 = nI p ∧ OPC w s.2.2.2 ∧ CU s.2.2.2 week ∧ s.2.2.2.1 18 = w1.1 18) (nn w 5 15) ?_ ?_ 0 _ (Nat.zero_le _) ⟨rfl, Or.inl ⟨rfl, rfl⟩, rfl, h1, hU, rfl⟩
    · rintro p ⟨s1, s2, s3, v⟩ hp ⟨h2, h3, h4, h5, h6, h7⟩
      simp only at h2 h3 h4 h5 h6 h7
      subst h4
      obtain ⟨e17, b17⟩ := hL.2.2.2.2.2.2.2.2 p hp
      obtain ⟨e6, b6⟩ := hL.2.2.2.2.1 _ b17
      have hy : Sm sR_Y sF_Y w v := h5.1.sm (by decide)
      have f515 : v.1 5 15 = nI (nn w 5 15) := by rw [(h5.1.row 5 (by decide) (by decide)).1]; exact hL.1.2.2.2.2.1
      have f17 : v.1 17 p = nI (nn w 17 p) := by rw [(h5.1.row 17 (by decide) (by decide)).1]; exact e17
      have f6 : v.1 6 (nn w 17 p) = nI (shY w p) := by rw [(h5.1.row 6 (by decide) (by decide)).1]; exact e6
      have f18 : v.1 18 (nn w 17 p) = nI (nA w (nn w 17 a) week p) := by rw [h7, h18, rwN_lt (by omega)]; rfl
      have f28 : v.1 28 p = tchS w p week := by rw [h6.2.2.1 p (by omega), tchS_y hy]
      have f29 : v.1 29 p = nI (crwS w p week) := by rw [h6.2.2.2 p (by omega), crwS_y hy]
      have hcr : crwS w p week ≤ 40 := cnt_le
      have hA60 : nA w (nn w 17 a) week p ≤ 60 := arr_le hw _
      have hrm := rmY_lt hB (week := week) (m := p)
      have hbs : shY w p < 4 := b6
      have hvY := h.to h5
      have hc : stc (shY w p) = 45 + 5 * shY w p := rfl
      have hbody : X11_near_b78 (nI week) (s1, s2, nI p, v) = if 60 ≤ nA w (nn w 17 a) week p then some (.inl (s1, s2, nI (p + 1), v)) else if s2 ≤ nI (nA w (nn w 17 a) week p) then some (.inl (s1, s2, nI (p + 1), v)) else (X11_hasSeat (nI p) (nI week) v).bind fun q9 => if q9.1 = nI 0 then some (.inl (s1, s2, nI (p + 1), q9.2)) else some (.inl (nI p, nI (nA w (nn w 17 a) week p), nI (p + 1), q9.2)) := by
        unfold X11_near_b78 X11_near_j139 X2_reached
        rw [show (-1 : Int32) = NO from rfl]
        by_cases z : 60 ≤ nA w (nn w 17 a) week p
        · rw [if_pos z]
          simp (disch := omega) only [gdn, gb0, gb1, ixn, nm1, nI_add, nI_mul, nsub, nI_ltI, nI_leI, nI_eq, eqNO, eqNO2, ltNO, NOlt, leNO, NOle, if_pos, if_neg, Option.bind_some, if_true, if_false, and_self, eq_self, l0, l1, l2, l3, l4, l5, l6, l7, l8, l9, l10, l11, l12, l13, l14, l15, l16, l17, l18, l19, l20, l24, l26, l30, l31, l32, l40, l41, l42, l43, l45, l47, l48, l57, l58, l59, l60, l61, l62, l63, l64, l97, l99, l100, l101, l102, l103, l104, l105, l106, l107, l108, l109, l110, l122, l160, l240, l255, l600, l1000, l3000, l10000, l10007, l10116, l67108863, l67108864, f515, f17, f18]
        · rw [if_neg z]
          simp (disch := omega) only [gdn, gb0, gb1, ixn, nm1, nI_add, nI_mul, nsub, nI_ltI, nI_leI, nI_eq, eqNO, eqNO2, ltNO, NOlt, leNO, NOle, if_pos, if_neg, Option.bind_some, if_true, if_false, and_self, eq_self, l0, l1, l2, l3, l4, l5, l6, l7, l8, l9, l10, l11, l12, l13, l14, l15, l16, l17, l18, l19, l20, l24, l26, l30, l31, l32, l40, l41, l42, l43, l45, l47, l48, l57, l58, l59, l60, l61, l62, l63, l64, l97, l99, l100, l101, l102, l103, l104, l105, l106, l107, l108, l109, l110, l122, l160, l240, l255, l600, l1000, l3000, l10000, l10007, l10116, l67108863, l67108864, f515, f17, f18]
      rw [hbody]
      have stay : ¬ (nOk w (nn w 17 a) week p ∧ (nB w (nn w 17 a) week p = NO ∨ nA w (nn w 17 a) week p < nA w (nn w 17 a) week (ix (nB w (nn w 17 a) week p)))) → ∀ u, OPC w u → CU u week → u.1 18 = w1.1 18 → ok (some (.inl (s1, s2, nI (p + 1), u)) : Option ((Int32 × Int32 × Int32 × Wd) ⊕ (Int32 × Wd))) (sel (fun s => s.1 = nB w (nn w 17 a) week (p + 1) ∧ nS w (nn w 17 a) week s.1 s.2.1 ∧ s.2.2.1 = nI (p + 1) ∧ OPC w s.2.2.2 ∧ CU s.2.2.2 week ∧ s.2.2.2.1 18 = w1.1 18) (fun e => e.1 = nB w (nn w 17 a) week (nn w 5 15) ∧ OPC w e.2)) := fun hno u u1 u2 u3 => ok_i ⟨by rw [nB_f hno]; exact h2, h3, rfl, u1, u2, u3⟩
      by_cases q1 : 60 ≤ nA w (nn w 17 a) week p
      · rw [if_pos q1]
        exact stay (fun y => by have := y.1.2.2; omega) v h5 h6 h7
      · rw [if_neg q1]
        have hsoon : (s2 ≤ nI (nA w (nn w 17 a) week p)) ↔ ¬ (nB w (nn w 17 a) week p = NO ∨ nA w (nn w 17 a) week p < nA w (nn w 17 a) week (ix (nB w (nn w 17 a) week p))) := by
          rw [← h2]
          rcases h3 with ⟨z1, z2⟩ | ⟨p', hp', z1, z2, z3⟩
          · rw [z1, z2, nI_leI (by omega) (by omega)]
            exact ⟨fun y => by omega, fun y => (y (Or.inl rfl)).elim⟩
          · rw [z1, z2, ixn (by omega), nI_leI (by omega) (by omega), eqNO (by omega)]
            constructor
            · intro y z; exact z.elim id (fun z => by omega)
            · intro y
              by_cases x : nA w (nn w 17 a) week p' ≤ nA w (nn w 17 a) week p
              · exact x
              · exact (y (Or.inr (by omega))).elim
        by_cases q2 : s2 ≤ nI (nA w (nn w 17 a) week p)
        · rw [if_pos q2]
          exact stay (fun y => (hsoon.mp q2) y.2) v h5 h6 h7
        · rw [if_neg q2]
          have hless : nB w (nn w 17 a) week p = NO ∨ nA w (nn w 17 a) week p < nA w (nn w 17 a) week (ix (nB w (nn w 17 a) week p)) := by
            by_cases x : nB w (nn w 17 a) week p = NO ∨ nA w (nn w 17 a) week p < nA w (nn w 17 a) week (ix (nB w (nn w 17 a) week p))
            · exact x
            · exact (q2 (hsoon.mpr x)).elim
          by_cases q3 : tchS w p week = NO
          · have hs : X11_hasSeat (nI p) (nI week) v = some (nI 0, v) := by
              rw [q3] at f28
              unfold X11_hasSeat
              rw [show (-1 : Int32) = NO from rfl]
              simp (disch := omega) only [gdn, gb0, gb1, ixn, nm1, nI_add, nI_mul, nsub, nI_ltI, nI_leI, nI_eq, eqNO, eqNO2, ltNO, NOlt, leNO, NOle, if_pos, if_neg, Option.bind_some, if_true, if_false, and_self, eq_self, l0, l1, l2, l3, l4, l5, l6, l7, l8, l9, l10, l11, l12, l13, l14, l15, l16, l17, l18, l19, l20, l24, l26, l30, l31, l32, l40, l41, l42, l43, l45, l47, l48, l57, l58, l59, l60, l61, l62, l63, l64, l97, l99, l100, l101, l102, l103, l104, l105, l106, l107, l108, l109, l110, l122, l160, l240, l255, l600, l1000, l3000, l10000, l10007, l10116, l67108863, l67108864, f17, f6, f28]
            rw [hs]
            simp only [Option.bind_some]
            rw [if_pos trivial]
            exact stay (fun y => y.1.1 q3) v h5 h6 h7
          · obtain ⟨v', d1, d2, d3, d4, d5, d6, d7⟩ := standing_e hvY.2.2.2.1 hvY.2.2.2.2.1 hbs hw
            have hy2 : Sm sR_Y sF_Y v v' := d2.sm (by omega) (by omega) (by decide) (by decide)
            have e8 := d7.2.2.1
            rw [RS_y hy, lst_y hy2, lst_y hy, show lst w (RS w (shY w p) week) 104 40 (RS w (shY w p) week).length = rmY w week p from rfl] at e8
            have c' : OPC w v' := h5.tr (opc_stand hvY hbs d2 d4)
            have cu' : CU v' week := h6.c (fun s t _ => by rw [lampS_y hy2]) (d2 26 (by omega)).1 (d2 27 (by omega)).1 (d2 28 (by omega)).1 (d2 29 (by omega)).1
            have e18' : v'.1 18 = w1.1 18 := by rw [(d2 18 (by omega)).1]; exact h7
            have hs : X11_hasSeat (nI p) (nI week) v = some (if rmY w week p ≤ crwS w p week then nI 0 else nI 1, v') := by
              have f28' : ¬ v.1 28 p = NO := by rw [f28]; exact q3
              unfold X11_hasSeat
              rw [show (-1 : Int32) = NO from rfl]
              by_cases z : rmY w week p ≤ crwS w p week
              · rw [if_pos z]
                simp (disch := omega) only [gdn, gb0, gb1, ixn, nm1, nI_add, nI_mul, nsub, nI_ltI, nI_leI, nI_eq, eqNO, eqNO2, ltNO, NOlt, leNO, NOle, if_pos, if_neg, Option.bind_some, if_true, if_false, and_self, eq_self, l0, l1, l2, l3, l4, l5, l6, l7, l8, l9, l10, l11, l12, l13, l14, l15, l16, l17, l18, l19, l20, l24, l26, l30, l31, l32, l40, l41, l42, l43, l45, l47, l48, l57, l58, l59, l60, l61, l62, l63, l64, l97, l99, l100, l101, l102, l103, l104, l105, l106, l107, l108, l109, l110, l122, l160, l240, l255, l600, l1000, l3000, l10000, l10007, l10116, l67108863, l67108864, f17, f6, f28', f29, d1, gd_t hbs, e8]
              · rw [if_neg z]
                simp (disch := omega) only [gdn, gb0, gb1, ixn, nm1, nI_add, nI_mul, nsub, nI_ltI, nI_leI, nI_eq, eqNO, eqNO2, ltNO, NOlt, leNO, NOle, if_pos, if_neg, Option.bind_some, if_true, if_false, and_self, eq_self, l0, l1, l2, l3, l4, l5, l6, l7, l8, l9, l10, l11, l12, l13, l14, l15, l16, l17, l18, l19, l20, l24, l26, l30, l31, l32, l40, l41, l42, l43, l45, l47, l48, l57, l58, l59, l60, l61, l62, l63, l64, l97, l99, l100, l101, l102, l103, l104, l105, l106, l107, l108, l109, l110, l122, l160, l240, l255, l600, l1000, l3000, l10000, l10007, l10116, l67108863, l67108864, f17, f6, f28', f29, d1, gd_t hbs, e8]
            rw [hs]
            simp only [Option.bind_some]
            by_cases z : rmY w week p ≤ crwS w p week
            · rw [if_pos z, if_pos rfl]
              exact stay (fun y => by have := y.1.2.1; omega) v' c' cu' e18'
            · rw [if_neg z, if_neg (show ¬ nI 1 = nI 0 by decide)]
              have hyes : nOk w (nn w 17 a) week p ∧ (nB w (nn w 17 a) week p = NO ∨ nA w (nn w 17 a) week p < nA w (nn w 17 a) week (ix (nB w (nn w 17 a) week p))) := ⟨⟨q3, by omega, by omega⟩, hless⟩
              exact ok_i ⟨by rw [nB_t hyes], Or.inr ⟨p, by omega, rfl, rfl, by omega⟩, rfl, c', cu', e18'⟩
    · rintro ⟨s1, s2, s3, v⟩ ⟨h2, h3, h4, h5, h6, h7⟩
      simp only at h2 h3 h4 h5 h6 h7
      subst h4
      have f515 : v.1 5 15 = nI (nn w 5 15) := by rw [(h5.1.row 5 (by decide) (by decide)).1]; exact hL.1.2.2.2.2.1
      unfold X11_near_b78
      simp (disch := omega) only [gdn, gb0, gb1, ixn, nm1, nI_add, nI_mul, nsub, nI_ltI, nI_leI, nI_eq, eqNO, eqNO2, ltNO, NOlt, leNO, NOle, if_pos, if_neg, Option.bind_some, if_true, if_false, and_self, eq_self, l0, l1, l2, l3, l4, l5, l6, l7, l8, l9, l10, l11, l12, l13, l14, l15, l16, l17, l18, l19, l20, l24, l26, l30, l31, l32, l40, l41, l42, l43, l45, l47, l48, l57, l58, l59, l60, l61, l62, l63, l64, l97, l99, l100, l101, l102, l103, l104, l105, l106, l107, l108, l109, l110, l122, l160, l240, l255, l600, l1000, l3000, l10000, l10007, l10116, l67108863, l67108864, f515]
      exact ok_i ⟨h2, h5⟩
  obtain ⟨⟨e1, v⟩, k1, k2, k3⟩ := key
  simp only at k2 k3
  subst k2
  exact ⟨v, k1, k3⟩
theorem near_m {w u : Wd} (h : YI w) {a week : Nat} (ha : a < nn w 5 15) (hw : week < 60) (hu : Fr (sS_Z ++ sS_M) (sF_Z ++ sF_M) w u) (h107 : u.1 107 = rwN 16 (cv (arr w (nn w 17 a) week)) (w.1 107)) : ∃ v, lp (X12_near_b54 (nI week)) (NO, nI 0, u) = some (nB w (nn w 17 a) week (nn w 5 15), v) ∧ Fr [144, 145, 146] [(97, 70)] u v := by
  have hL := h.1
  have hN := h.2.1
  have hB := h.2.2.2.1
  have b15 := hL.1.2.2.2.2.2
  have b8 := hL.1.2.2.1.2
  have b0 := hL.1.1.2
  have key : ok (lp (X12_near_b54 (nI week)) (NO, nI 0, u)) (fun e => e.1 = nB w (nn w 17 a) week (nn w 5 15) ∧ Fr [144, 145, 146] [(97, 70)] u e.2) := by
    refine lp_up (fun p s => s.1 = nB w (nn w 17 a) week p ∧ s.2.1 = nI p ∧ Fr [144, 145, 146] [(97, 70)] u s.2.2) (nn w 5 15) ?_ ?_ 0 _ (Nat.zero_le _) ⟨rfl, rfl, Fr.rf⟩
    · rintro p ⟨s1, s2, v⟩ hp ⟨h2, h3, h4⟩
      simp only at h2 h3 h4
      subst h3
      have fv : Fr (sS_Z ++ sS_M) (sF_Z ++ sF_M) w v := hu.next h4 (by decide) (by decide)
      have hy : Sm sR_Y sF_Y w v := fv.sm (by decide)
      have hLv : IL v := hL.sm (fv.sm (by decide))
      have hNv : IN v := hN.sm (fv.sm (by decide))
      have hBv : IBo v := hB.sm (fv.sm (by decide))
      obtain ⟨e17, b17⟩ := hL.2.2.2.2.2.2.2.2 p hp
      obtain ⟨e6, b6⟩ := hL.2.2.2.2.1 _ b17
      have f978 : v.1 97 8 = nI (nn w 5 15) := by rw [(fv 97 (by decide) 8 (by decide)).1, hL.2.1.2.2.2.2]; exact hL.1.2.2.2.2.1
      have f113 : ∀ q, q < nn w 5 15 → v.1 113 q = nI (nn w 17 q) := fun q hq => by rw [(fv.row 113 (by decide) (by decide)).1, hL.2.2.2.1.2.2.2.2.2]; exact (hL.2.2.2.2.2.2.2.2 q hq).1
      have f101 : v.1 101 (nn w 17 p) = nI (shY w p) := by rw [(fv.row 101 (by decide) (by decide)).1, hL.2.2.1.1]; exact e6
      have f107 : ∀ q, q < nn w 5 15 → v.1 107 (nn w 17 q) = nI (if nA w (nn w 17 a) week q = 60 then 1000 else nA w (nn w 17 a) week q) := fun q hq => by
        have := (hL.2.2.2.2.2.2.2.2 q hq).2
        rw [(h4.row 107 (by decide) (by decide)).1, h107, rwN_lt (by omega)]; rfl
      have ht := mteacherAt_e hLv hNv (lamp := p) (week := week) (by omega) hw
      rw [tchS_y hy] at ht
      have hA60 : ∀ q, nA w (nn w 17 a) week q ≤ 60 := fun q => arr_le hw _
      have hrm := rmY_lt hB (week := week) (m := p)
      have hcr : crwS w p week ≤ 40 := cnt_le
      have f113p := f113 p hp
      have f107p := f107 p hp
      have hAp := hA60 p
      -- the stand
      obtain ⟨v', d1, d2, d3⟩ := stand_e hBv (s := shY w p) (week := week) b6 hw
      rw [RS_y hy] at d3
      have hRk : okRl v (RS w (shY w p) week) := by
        have := okRl_tl hBv (p := inF v (shY w p) week)
        rw [show RS w (shY w p) week = RS v (shY w p) week by rw [RS_y hy]]; exact this
      have hlo := lastOf_e hBv hRk d2 d3 (d := 104) (z := 40) (by omega) (by omega) (by omega)
      rw [show dm 104 = 3 from rfl, lst_y hy, show lst w (RS w (shY w p) week) 104 40 (RS w (shY w p) week).length = rmY w week p from rfl] at hlo
      have d2' : Fr [144, 145, 146] [(97, 70)] v v' := d2
      have hy' : Sm sR_Y sF_Y v v' := d2'.sm (by decide)
      have fv' : Fr (sS_Z ++ sS_M) (sF_Z ++ sF_M) w v' := fv.next d2' (by decide) (by decide)
      have hcount : lp (X12_near_b118 (nI week) s1 (nI p) v') (nI 0, nI 0) = some (nI (crwS w p week)) := by
        have f976 : v'.1 97 6 = nI (nn w 5 8) := by rw [(fv' 97 (by decide) 6 (by decide)).1, hL.2.1.2.2.1]; exact hL.1.2.2.1.1
        rw [crwS_e hN (by omega) rfl (by omega)]
        have hlp := lp_for (b := X12_near_b118 (nI week) s1 (nI p) v') (e := nI (cnt (fun l => decide (lampS w 1 l week = nI p)) (nn w 5 8))) (fun i => (nI (cnt (fun l => decide (lampS w 1 l week = nI p)) i), nI i)) (nn w 5 8) (fun i hi => ?_) ?_ 0 (Nat.zero_le _)
        · exact hlp
        · have ho := mlampOf_e (hN.sm (fv'.sm (by decide))) (s := 1) (who := i) (week := week) (by omega) (by omega) hw
          rw [lampS_y (fv'.sm (by decide))] at ho
          have hcl : cnt (fun l => decide (lampS w 1 l week = nI p)) i ≤ i := cnt_le
          unfold X12_near_b118 X12_near_j147
          rw [cnt_one]
          by_cases z : lampS w 1 i week = nI p
          · rw [if_pos (decide_eq_true z)]
            rw [z] at ho
            simp (disch := omega) only [gdn, gb0, gb1, ixn, nm1, nI_add, nI_mul, nsub, nI_ltI, nI_leI, nI_eq, eqNO, eqNO2, ltNO, NOlt, leNO, NOle, if_pos, if_neg, Option.bind_some, if_true, if_false, and_self, eq_self, l0, l1, l2, l3, l4, l5, l6, l7, l8, l9, l10, l11, l12, l13, l14, l15, l16, l17, l18, l19, l20, l24, l26, l30, l31, l32, l40, l41, l42, l43, l45, l47, l48, l57, l58, l59, l60, l61, l62, l63, l64, l97, l99, l100, l101, l102, l103, l104, l105, l106, l107, l108, l109, l110, l122, l160, l240, l255, l600, l1000, l3000, l10000, l10007, l10116, l67108863, l67108864, f976, ho]
          · rw [if_neg (show ¬ decide (lampS w 1 i week = nI p) = true by simpa using z)]
            simp (disch := omega) only [gdn, gb0, gb1, ixn, nm1, nI_add, nI_mul, nsub, nI_ltI, nI_leI, nI_eq, eqNO, eqNO2, ltNO, NOlt, leNO, NOle, if_pos, if_neg, Option.bind_some, if_true, if_false, and_self, eq_self, l0, l1, l2, l3, l4, l5, l6, l7, l8, l9, l10, l11, l12, l13, l14, l15, l16, l17, l18, l19, l20, l24, l26, l30, l31, l32, l40, l41, l42, l43, l45, l47, l48, l57, l58, l59, l60, l61, l62, l63, l64, l97, l99, l100, l101, l102, l103, l104, l105, l106, l107, l108, l109, l110, l122, l160, l240, l255, l600, l1000, l3000, l10000, l10007, l10116, l67108863, l67108864, f976, ho, z]
        · unfold X12_near_b118
          simp (disch := omega) only [gdn, gb0, gb1, ixn, nm1, nI_add, nI_mul, nsub, nI_ltI, nI_leI, nI_eq, eqNO, eqNO2, ltNO, NOlt, leNO, NOle, if_pos, if_neg, Option.bind_some, if_true, if_false, and_self, eq_self, l0, l1, l2, l3, l4, l5, l6, l7, l8, l9, l10, l11, l12, l13, l14, l15, l16, l17, l18, l19, l20, l24, l26, l30, l31, l32, l40, l41, l42, l43, l45, l47, l48, l57, l58, l59, l60, l61, l62, l63, l64, l97, l99, l100, l101, l102, l103, l104, l105, l106, l107, l108, l109, l110, l122, l160, l240, l255, l600, l1000, l3000, l10000, l10007, l10116, l67108863, l67108864, f976]
      have stay : ¬ (nOk w (nn w 17 a) week p ∧ (nB w (nn w 17 a) week p = NO ∨ nA w (nn w 17 a) week p < nA w (nn w 17 a) week (ix (nB w (nn w 17 a) week p)))) → ∀ x, Fr [144, 145, 146] [(97, 70)] u x → ok (some (.inl (s1, nI (p + 1), x)) : Option ((Int32 × Int32 × Wd) ⊕ (Int32 × Wd))) (sel (fun s => s.1 = nB w (nn w 17 a) week (p + 1) ∧ s.2.1 = nI (p + 1) ∧ Fr [144, 145, 146] [(97, 70)] u s.2.2) (fun e => e.1 = nB w (nn w 17 a) week (nn w 5 15) ∧ Fr [144, 145, 146] [(97, 70)] u e.2)) := fun hno x x1 => ok_i ⟨by rw [nB_f hno]; exact h2, rfl, x1⟩
      have go : (nOk w (nn w 17 a) week p ∧ (nB w (nn w 17 a) week p = NO ∨ nA w (nn w 17 a) week p < nA w (nn w 17 a) week (ix (nB w (nn w 17 a) week p)))) → ok (some (.inl (nI p, nI (p + 1), v')) : Option ((Int32 × Int32 × Wd) ⊕ (Int32 × Wd))) (sel (fun s => s.1 = nB w (nn w 17 a) week (p + 1) ∧ s.2.1 = nI (p + 1) ∧ Fr [144, 145, 146] [(97, 70)] u s.2.2) (fun e => e.1 = nB w (nn w 17 a) week (nn w 5 15) ∧ Fr [144, 145, 146] [(97, 70)] u e.2)) := fun hyes => ok_i ⟨by rw [nB_t hyes], rfl, h4.tr d2'⟩
      unfold X12_near_b54 X12_near_j202 X12_near_j205
      rw [show (-1 : Int32) = NO from rfl]
      by_cases q3 : tchS w p week = NO
      · rw [q3] at ht
        simp (disch := omega) only [gdn, gb0, gb1, ixn, nm1, nI_add, nI_mul, nsub, nI_ltI, nI_leI, nI_eq, eqNO, eqNO2, ltNO, NOlt, leNO, NOle, if_pos, if_neg, Option.bind_some, if_true, if_false, and_self, eq_self, l0, l1, l2, l3, l4, l5, l6, l7, l8, l9, l10, l11, l12, l13, l14, l15, l16, l17, l18, l19, l20, l24, l26, l30, l31, l32, l40, l41, l42, l43, l45, l47, l48, l57, l58, l59, l60, l61, l62, l63, l64, l97, l99, l100, l101, l102, l103, l104, l105, l106, l107, l108, l109, l110, l122, l160, l240, l255, l600, l1000, l3000, l10000, l10007, l10116, l67108863, l67108864, f978, ht]
        exact stay (fun y => y.1.1 q3) v h4
      · by_cases q1 : nA w (nn w 17 a) week p = 60
        · rw [if_pos q1] at f107p
          simp (disch := omega) only [gdn, gb0, gb1, ixn, nm1, nI_add, nI_mul, nsub, nI_ltI, nI_leI, nI_eq, eqNO, eqNO2, ltNO, NOlt, leNO, NOle, if_pos, if_neg, Option.bind_some, if_true, if_false, and_self, eq_self, l0, l1, l2, l3, l4, l5, l6, l7, l8, l9, l10, l11, l12, l13, l14, l15, l16, l17, l18, l19, l20, l24, l26, l30, l31, l32, l40, l41, l42, l43, l45, l47, l48, l57, l58, l59, l60, l61, l62, l63, l64, l97, l99, l100, l101, l102, l103, l104, l105, l106, l107, l108, l109, l110, l122, l160, l240, l255, l600, l1000, l3000, l10000, l10007, l10116, l67108863, l67108864, f978, ht, q3, f113p, f107p]
          exact stay (fun y => by have := y.1.2.2; omega) v h4
        · rw [if_neg q1] at f107p
          by_cases z : rmY w week p ≤ crwS w p week
          · simp (disch := omega) only [gdn, gb0, gb1, ixn, nm1, nI_add, nI_mul, nsub, nI_ltI, nI_leI, nI_eq, eqNO, eqNO2, ltNO, NOlt, leNO, NOle, if_pos, if_neg, Option.bind_some, if_true, if_false, and_self, eq_self, l0, l1, l2, l3, l4, l5, l6, l7, l8, l9, l10, l11, l12, l13, l14, l15, l16, l17, l18, l19, l20, l24, l26, l30, l31, l32, l40, l41, l42, l43, l45, l47, l48, l57, l58, l59, l60, l61, l62, l63, l64, l97, l99, l100, l101, l102, l103, l104, l105, l106, l107, l108, l109, l110, l122, l160, l240, l255, l600, l1000, l3000, l10000, l10007, l10116, l67108863, l67108864, f978, ht, q3, f113p, f107p, f101, d1, hcount, hlo]
            exact stay (fun y => by have := y.1.2.1; omega) v' (h4.tr d2')
          · have ok1 : nOk w (nn w 17 a) week p := ⟨q3, by omega, by omega⟩
            rcases nB_in (w := w) (s := nn w 17 a) (week := week) p with y | ⟨p', hp', y, y2⟩
            · rw [y] at h2
              subst h2
              simp (disch := omega) only [gdn, gb0, gb1, ixn, nm1, nI_add, nI_mul, nsub, nI_ltI, nI_leI, nI_eq, eqNO, eqNO2, ltNO, NOlt, leNO, NOle, if_pos, if_neg, Option.bind_some, if_true, if_false, and_self, eq_self, l0, l1, l2, l3, l4, l5, l6, l7, l8, l9, l10, l11, l12, l13, l14, l15, l16, l17, l18, l19, l20, l24, l26, l30, l31, l32, l40, l41, l42, l43, l45, l47, l48, l57, l58, l59, l60, l61, l62, l63, l64, l97, l99, l100, l101, l102, l103, l104, l105, l106, l107, l108, l109, l110, l122, l160, l240, l255, l600, l1000, l3000, l10000, l10007, l10116, l67108863, l67108864, f978, ht, q3, f113p, f107p, f101, d1, hcount, hlo]
              exact go ⟨ok1, Or.inl y⟩
            · rw [y] at h2
              subst h2
              have f113' : v'.1 113 p = nI (nn w 17 p) := by rw [(d2'.row 113 (by decide) (by decide)).1]; exact f113p
              have f113'' : v'.1 113 p' = nI (nn w 17 p') := by rw [(d2'.row 113 (by decide) (by decide)).1]; exact f113 p' (by omega)
              have f107' : v'.1 107 (nn w 17 p) = nI (nA w (nn w 17 a) week p) := by rw [(d2'.row 107 (by decide) (by decide)).1]; exact f107p
              have f107'' : v'.1 107 (nn w 17 p') = nI (nA w (nn w 17 a) week p') := by
                rw [(d2'.row 107 (by decide) (by decide)).1, f107 p' (by omega), if_neg (by omega)]
              have bp' := (hL.2.2.2.2.2.2.2.2 p' (by omega)).2
              by_cases x : nA w (nn w 17 a) week p < nA w (nn w 17 a) week p'
              · simp (disch := omega) only [gdn, gb0, gb1, ixn, nm1, nI_add, nI_mul, nsub, nI_ltI, nI_leI, nI_eq, eqNO, eqNO2, ltNO, NOlt, leNO, NOle, if_pos, if_neg, Option.bind_some, if_true, if_false, and_self, eq_self, l0, l1, l2, l3, l4, l5, l6, l7, l8, l9, l10, l11, l12, l13, l14, l15, l16, l17, l18, l19, l20, l24, l26, l30, l31, l32, l40, l41, l42, l43, l45, l47, l48, l57, l58, l59, l60, l61, l62, l63, l64, l97, l99, l100, l101, l102, l103, l104, l105, l106, l107, l108, l109, l110, l122, l160, l240, l255, l600, l1000, l3000, l10000, l10007, l10116, l67108863, l67108864, f978, ht, q3, f113p, f107p, f101, d1, hcount, hlo, f113', f113'', f107', f107'']
                exact go ⟨ok1, Or.inr (by rw [y, ixn (by omega)]; exact x)⟩
              · simp (disch := omega) only [gdn, gb0, gb1, ixn, nm1, nI_add, nI_mul, nsub, nI_ltI, nI_leI, nI_eq, eqNO, eqNO2, ltNO, NOlt, leNO, NOle, if_pos, if_neg, Option.bind_some, if_true, if_false, and_self, eq_self, l0, l1, l2, l3, l4, l5, l6, l7, l8, l9, l10, l11, l12, l13, l14, l15, l16, l17, l18, l19, l20, l24, l26, l30, l31, l32, l40, l41, l42, l43, l45, l47, l48, l57, l58, l59, l60, l61, l62, l63, l64, l97, l99, l100, l101, l102, l103, l104, l105, l106, l107, l108, l109, l110, l122, l160, l240, l255, l600, l1000, l3000, l10000, l10007, l10116, l67108863, l67108864, f978, ht, q3, f113p, f107p, f101, d1, hcount, hlo, f113', f113'', f107', f107'']
                refine stay (fun t => ?_) v' (h4.tr d2')
                rcases t.2 with t2 | t2
                · rw [y, eqNO (by omega)] at t2; exact t2
                · rw [y, ixn (by omega)] at t2; exact x t2
    · rintro ⟨s1, s2, v⟩ ⟨h2, h3, h4⟩
      simp only at h2 h3 h4
      subst h3
      have f978 : v.1 97 8 = nI (nn w 5 15) := by rw [(h4 97 (by decide) 8 (by decide)).1, (hu 97 (by decide) 8 (by decide)).1, hL.2.1.2.2.2.2]; exact hL.1.2.2.2.2.1
      unfold X12_near_b54
      simp (disch := omega) only [gdn, gb0, gb1, ixn, nm1, nI_add, nI_mul, nsub, nI_ltI, nI_leI, nI_eq, eqNO, eqNO2, ltNO, NOlt, leNO, NOle, if_pos, if_neg, Option.bind_some, if_true, if_false, and_self, eq_self, l0, l1, l2, l3, l4, l5, l6, l7, l8, l9, l10, l11, l12, l13, l14, l15, l16, l17, l18, l19, l20, l24, l26, l30, l31, l32, l40, l41, l42, l43, l45, l47, l48, l57, l58, l59, l60, l61, l62, l63, l64, l97, l99, l100, l101, l102, l103, l104, l105, l106, l107, l108, l109, l110, l122, l160, l240, l255, l600, l1000, l3000, l10000, l10007, l10116, l67108863, l67108864, f978]
      exact ok_i ⟨h2, h4⟩
  obtain ⟨⟨e1, v⟩, k1, k2, k3⟩ := key
  simp only at k2 k3
  subst k2
  exact ⟨v, k1, k3⟩
theorem o_near (a1 a2 : Int32) {w : Wd} (h : YI w) : two (X11_near a1 a2) (X12_near a1 a2) w OPY := by
  have hL := h.1
  have hN := h.2.1
  have hC := h.2.2.1
  have b15 := hL.1.2.2.2.2.2
  have b0 := hL.1.1.2
  by_cases hv : (0 ≤ a1.toInt ∧ a1.toInt < (nn w 5 15 : Int)) ∧ (0 ≤ a2.toInt ∧ a2.toInt < ((60 : Nat) : Int))
  · obtain ⟨v1, v2⟩ := hv
    obtain ⟨a, ha, rfl⟩ := of_t v1
    obtain ⟨week, hwk, rfl⟩ := of_t v2
    obtain ⟨e17, b17⟩ := hL.2.2.2.2.2.2.2.2 a ha
    obtain ⟨w1, c1, c2, c3, c4⟩ := callUp_e hL hN hC hwk
    have hy1 : Sm sR_Y sF_Y w w1 := c4.sm (by decide)
    have hB := h.2.2.2.1
    have o1 : OPC w w1 := ⟨c4.wk (by decide) (by decide), IG.sm hB h.2.2.2.2.1 (c4.sm (by decide)), Or.inr ⟨week, hwk, c3, c2⟩, h.2.2.2.2.2.2.2.c hy1 (c4 5 (by decide) 8 (by decide)).1 (c4 73 (by decide) 4 (by decide)).1 (c4.row 74 (by decide) (by decide)).1 (c4.row 75 (by decide) (by decide)).1 (c4.row 76 (by decide) (by decide)).1⟩
    have f28 : w1.1 28 a = tchS w a week := by rw [c2.2.2.1 a (by omega), tchS_y hy1]
    have f17 : w1.1 17 a = nI (nn w 17 a) := by rw [(c4.row 17 (by decide) (by decide)).1]; exact e17
    by_cases q : tchS w a week = NO
    · rw [q] at f28
      have ht := travel_e (hL.sm (c4.sm (by decide))) (s := nn w 17 a) (week := week) (by rw [nn_row (c4.row 5 (by decide) (by decide)).1]; exact b17) hwk
      rw [arr_fr (c4.sm (by decide))] at ht
      generalize hx : seI w1 18 (rwN 16 (arr w (nn w 17 a) week) (w1.1 18)) = x at ht
      have fx : Fr [18] [] w1 x := by rw [← hx]; exact Fr.seI Fr.rf (by decide)
      have o2 : OPC w x := by
        obtain ⟨g1, g2, g3, g4⟩ := o1
        exact ⟨g1.next fx (by decide) (by simp), IG.sm (hB.sm (c4.sm (by decide))) g2 (fx.sm (by decide)), g3.sm (fx.sm (by decide)), g4.c (fx.sm (by decide)) (fx 5 (by decide) 8 (by simp)).1 (fx 73 (by decide) 4 (by simp)).1 (fx.row 74 (by decide) (by simp)).1 (fx.row 75 (by decide) (by simp)).1 (fx.row 76 (by decide) (by simp)).1⟩
      have cux : CU x week := c2.c (fun s t _ => by rw [lampS_y (fx.sm (by decide))]) (fx.row 26 (by decide) (by simp)).1 (fx.row 27 (by decide) (by simp)).1 (fx.row 28 (by decide) (by simp)).1 (fx.row 29 (by decide) (by simp)).1
      obtain ⟨v, k1, k2⟩ := near_c h ha hwk o2 cux (by rw [← hx, SI_row, (c4.row 18 (by decide) (by decide)).1])
      have hans : X11_near (nI a) (nI week) w = if nB w (nn w 17 a) week (nn w 5 15) = NO then some (NO, puI v 0 10 (nI 6)) else some (nB w (nn w 17 a) week (nn w 5 15), puI v 0 10 (nI 0)) := by
        unfold X11_near
        rw [show (-1 : Int32) = NO from rfl]
        simp (disch := omega) only [gdn, gb0, gb1, ixn, nm1, nI_add, nI_mul, nsub, nI_ltI, nI_leI, nI_eq, eqNO, eqNO2, ltNO, NOlt, leNO, NOle, if_pos, if_neg, Option.bind_some, if_true, if_false, and_self, eq_self, l0, l1, l2, l3, l4, l5, l6, l7, l8, l9, l10, l11, l12, l13, l14, l15, l16, l17, l18, l19, l20, l24, l26, l30, l31, l32, l40, l41, l42, l43, l45, l47, l48, l57, l58, l59, l60, l61, l62, l63, l64, l97, l99, l100, l101, l102, l103, l104, l105, l106, l107, l108, l109, l110, l122, l160, l240, l255, l600, l1000, l3000, l10000, l10007, l10116, l67108863, l67108864, I_oth, I_J, J_oth, J_I, I_row, J_row, SI_row, SI_oth, SI_J, SJ_row, SJ_oth, SJ_I, upd_s, upd_n, updL_s, updL_n, ne_eq, not_false_eq_true, lt_t, le_t, tI, NO_t, flag0, flag1, ite_or2, ite_self, true_or, or_true, false_or, or_false, true_and, and_true, false_and, and_false, not_true_eq_false, lmp_e hL, week_e, c1, f28, f17, ht, k1, ansOr_e]
        split <;> rfl
      have mod : ∀ y : Int32, ∃ u, X12_near (nI a) (nI week) (puI v 0 10 y) = (if nB w (nn w 17 a) week (nn w 5 15) = NO then some (NO, puI u 97 0 (nI 6)) else some (nB w (nn w 17 a) week (nn w 5 15), puI u 97 0 (nI 0))) ∧ Fr sS_M sF_M (puI v 0 10 y) u := by
        intro y
        have fa := fr_ans (x := y) k2
        have hLa := hL.sm (fa.sm (by decide))
        have hNa := hN.sm (fa.sm (by decide))
        have e8 : (puI v 0 10 y).1 97 8 = nI (nn w 5 15) := by rw [(fa.row 97 (by decide) (by decide)).1, hL.2.1.2.2.2.2]; exact hL.1.2.2.2.2.1
        have hte := mteacherAt_e hLa hNa (lamp := a) (week := week) (by omega) hwk
        rw [tchS_y (fa.sm (by decide)), q] at hte
        have f113 : (puI v 0 10 y).1 113 a = nI (nn w 17 a) := by rw [(fa.row 113 (by decide) (by decide)).1, hL.2.2.2.1.2.2.2.2.2]; exact e17
        have htm := mtravel_e hLa (s := nn w 17 a) (week := week) (by rw [nn_row (fa.row 5 (by decide) (by decide)).1]; exact b17) hwk
        rw [arr_fr (fa.sm (by decide))] at htm
        generalize hz : seI (puI v 0 10 y) 107 (rwN 16 (cv (arr w (nn w 17 a) week)) ((puI v 0 10 y).1 107)) = z at htm
        have fz : Fr [107] [] (puI v 0 10 y) z := by rw [← hz]; exact Fr.seI Fr.rf (by decide)
        obtain ⟨u, m1, m2⟩ := near_m h ha hwk ((fa.wk (by decide) (by decide)).next fz (by decide) (by simp)) (by rw [← hz, SI_row, (fa.row 107 (by decide) (by decide)).1])
        refine ⟨u, ?_, (fz.wk (S' := sS_M) (T' := sF_M) (by decide) (by simp)).next m2 (by decide) (by decide)⟩
        unfold X12_near
        rw [show (-1 : Int32) = NO from rfl, mlm _ e8 (by omega), mweek_e]
        simp (disch := omega) only [gdn, gb0, gb1, ixn, nm1, nI_add, nI_mul, nsub, nI_ltI, nI_leI, nI_eq, eqNO, eqNO2, ltNO, NOlt, leNO, NOle, if_pos, if_neg, Option.bind_some, if_true, if_false, and_self, eq_self, l0, l1, l2, l3, l4, l5, l6, l7, l8, l9, l10, l11, l12, l13, l14, l15, l16, l17, l18, l19, l20, l24, l26, l30, l31, l32, l40, l41, l42, l43, l45, l47, l48, l57, l58, l59, l60, l61, l62, l63, l64, l97, l99, l100, l101, l102, l103, l104, l105, l106, l107, l108, l109, l110, l122, l160, l240, l255, l600, l1000, l3000, l10000, l10007, l10116, l67108863, l67108864, I_oth, I_J, J_oth, J_I, I_row, J_row, SI_row, SI_oth, SI_J, SJ_row, SJ_oth, SJ_I, upd_s, upd_n, updL_s, updL_n, ne_eq, not_false_eq_true, lt_t, le_t, tI, NO_t, flag0, flag1, ite_or2, ite_self, true_or, or_true, false_or, or_false, true_and, and_true, false_and, and_false, not_true_eq_false, hte, f113, htm, m1, mgiv_e, mref_e]
      rcases nB_in (w := w) (s := nn w 17 a) (week := week) (nn w 5 15) with z | ⟨p, hp, z, -⟩
      · rw [z, if_pos rfl] at hans
        obtain ⟨u, m1, m2⟩ := mod (nI 6)
        rw [z, if_pos rfl] at m1
        exact two_y (r := NO) (x := nI 6) h k2 hans ⟨u, m1, m2⟩
      · have hne : ¬ nI p = NO := fun y => (eqNO (show p < 2 ^ 31 by omega)).mp y
        rw [z, if_neg hne] at hans
        obtain ⟨u, m1, m2⟩ := mod (nI 0)
        rw [z, if_neg hne] at m1
        exact two_y (r := nI p) (x := nI 0) h k2 hans ⟨u, m1, m2⟩
    · have fa := fr_ans (x := nI 7) o1
      have e8 : (puI w1 0 10 (nI 7)).1 97 8 = nI (nn w 5 15) := by rw [(fa.row 97 (by decide) (by decide)).1, hL.2.1.2.2.2.2]; exact hL.1.2.2.2.2.1
      have hte := mteacherAt_e (hL.sm (fa.sm (by decide))) (hN.sm (fa.sm (by decide))) (lamp := a) (week := week) (by omega) hwk
      rw [tchS_y (fa.sm (by decide))] at hte
      have f28' : ¬ w1.1 28 a = NO := by rw [f28]; exact q
      refine two_y (r := NO) (x := nI 7) h o1 ?_ ⟨puI w1 0 10 (nI 7), ?_, Fr.rf⟩
      · unfold X11_near
        rw [show (-1 : Int32) = NO from rfl]
        simp (disch := omega) only [gdn, gb0, gb1, ixn, nm1, nI_add, nI_mul, nsub, nI_ltI, nI_leI, nI_eq, eqNO, eqNO2, ltNO, NOlt, leNO, NOle, if_pos, if_neg, Option.bind_some, if_true, if_false, and_self, eq_self, l0, l1, l2, l3, l4, l5, l6, l7, l8, l9, l10, l11, l12, l13, l14, l15, l16, l17, l18, l19, l20, l24, l26, l30, l31, l32, l40, l41, l42, l43, l45, l47, l48, l57, l58, l59, l60, l61, l62, l63, l64, l97, l99, l100, l101, l102, l103, l104, l105, l106, l107, l108, l109, l110, l122, l160, l240, l255, l600, l1000, l3000, l10000, l10007, l10116, l67108863, l67108864, I_oth, I_J, J_oth, J_I, I_row, J_row, SI_row, SI_oth, SI_J, SJ_row, SJ_oth, SJ_I, upd_s, upd_n, updL_s, updL_n, ne_eq, not_false_eq_true, lt_t, le_t, tI, NO_t, flag0, flag1, ite_or2, ite_self, true_or, or_true, false_or, or_false, true_and, and_true, false_and, and_false, not_true_eq_false, lmp_e hL, week_e, c1, f28', deny_e]
      · unfold X12_near
        rw [show (-1 : Int32) = NO from rfl, mlm _ e8 (by omega), mweek_e]
        simp (disch := omega) only [gdn, gb0, gb1, ixn, nm1, nI_add, nI_mul, nsub, nI_ltI, nI_leI, nI_eq, eqNO, eqNO2, ltNO, NOlt, leNO, NOle, if_pos, if_neg, Option.bind_some, if_true, if_false, and_self, eq_self, l0, l1, l2, l3, l4, l5, l6, l7, l8, l9, l10, l11, l12, l13, l14, l15, l16, l17, l18, l19, l20, l24, l26, l30, l31, l32, l40, l41, l42, l43, l45, l47, l48, l57, l58, l59, l60, l61, l62, l63, l64, l97, l99, l100, l101, l102, l103, l104, l105, l106, l107, l108, l109, l110, l122, l160, l240, l255, l600, l1000, l3000, l10000, l10007, l10116, l67108863, l67108864, I_oth, I_J, J_oth, J_I, I_row, J_row, SI_row, SI_oth, SI_J, SJ_row, SJ_oth, SJ_I, upd_s, upd_n, updL_s, updL_n, ne_eq, not_false_eq_true, lt_t, le_t, tI, NO_t, flag0, flag1, ite_or2, ite_self, true_or, or_true, false_or, or_false, true_and, and_true, false_and, and_false, not_true_eq_false, hte, q, mref_e]
  · refine two_ref (nI 1) (r := NO) ?_ ?_ (fun w' z => OPY.st h z)
    · unfold X11_near X11_near_j18
      simp (disch := omega) only [gdn, gb0, gb1, ixn, nm1, nI_add, nI_mul, nsub, nI_ltI, nI_leI, nI_eq, eqNO, eqNO2, ltNO, NOlt, leNO, NOle, if_pos, if_neg, Option.bind_some, if_true, if_false, and_self, eq_self, l0, l1, l2, l3, l4, l5, l6, l7, l8, l9, l10, l11, l12, l13, l14, l15, l16, l17, l18, l19, l20, l24, l26, l30, l31, l32, l40, l41, l42, l43, l45, l47, l48, l57, l58, l59, l60, l61, l62, l63, l64, l97, l99, l100, l101, l102, l103, l104, l105, l106, l107, l108, l109, l110, l122, l160, l240, l255, l600, l1000, l3000, l10000, l10007, l10116, l67108863, l67108864, I_oth, I_J, J_oth, J_I, I_row, J_row, SI_row, SI_oth, SI_J, SJ_row, SJ_oth, SJ_I, upd_s, upd_n, updL_s, updL_n, ne_eq, not_false_eq_true, lt_t, le_t, tI, NO_t, flag0, flag1, ite_or2, ite_self, true_or, or_true, false_or, or_false, true_and, and_true, false_and, and_false, not_true_eq_false, lmp_e hL, week_e, deny_e]
    · unfold X12_near X12_near_j15
      have e8 : (puI w 0 10 (nI 1)).1 97 8 = nI (nn w 5 15) := by rw [I_oth (by decide), hL.2.1.2.2.2.2]; exact hL.1.2.2.2.2.1
      rw [mlm _ e8 (by omega), mweek_e]
      simp (disch := omega) only [gdn, gb0, gb1, ixn, nm1, nI_add, nI_mul, nsub, nI_ltI, nI_leI, nI_eq, eqNO, eqNO2, ltNO, NOlt, leNO, NOle, if_pos, if_neg, Option.bind_some, if_true, if_false, and_self, eq_self, l0, l1, l2, l3, l4, l5, l6, l7, l8, l9, l10, l11, l12, l13, l14, l15, l16, l17, l18, l19, l20, l24, l26, l30, l31, l32, l40, l41, l42, l43, l45, l47, l48, l57, l58, l59, l60, l61, l62, l63, l64, l97, l99, l100, l101, l102, l103, l104, l105, l106, l107, l108, l109, l110, l122, l160, l240, l255, l600, l1000, l3000, l10000, l10007, l10116, l67108863, l67108864, I_oth, I_J, J_oth, J_I, I_row, J_row, SI_row, SI_oth, SI_J, SJ_row, SJ_oth, SJ_I, upd_s, upd_n, updL_s, updL_n, ne_eq, not_false_eq_true, lt_t, le_t, tI, NO_t, flag0, flag1, ite_or2, ite_self, true_or, or_true, false_or, or_false, true_and, and_true, false_and, and_false, not_true_eq_false, mref_e]
