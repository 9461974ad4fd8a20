/-! foretold -/
noncomputable def ftS (w : Wd) (l h : Nat) (s : (Nat → Nat) × Nat) : Nat → (Nat → Nat) × Nat
  | 0 => s
  | i + 1 => nxY w l (ftS w l h s i).1 (ftS w l h s i).2 (if h = 0 then 0 else 3 + h)
theorem nxY_le {w : Wd} (hS : ILs w) {l p o : Nat} {g : Nat → Nat} (hg : ∀ k, k < 15 → g k ≤ 60) : (∀ k, k < 15 → (nxY w l g p o).1 k ≤ 60) ∧ (nxY w l g p o).2 ≤ p + 1 := by
  unfold nxY
  by_cases q : 3 ≤ o
  · rw [if_pos q]
    exact ⟨fun k hk => mlr_le (fun j hj => by have := (hS.1 j hj).1.2; show nn w 70 j ≤ 60; omega) _ _ hg k hk, Nat.zero_le _⟩
  · rw [if_neg q]
    refine ⟨fun k hk => ?_, Nat.le_refl _⟩
    show (if nn w 69 3 ≤ p then mfg (ndF w) g else g) k ≤ 60
    split
    · exact mfg_le hg k hk
    · exact hg k hk
theorem ftS_le {w : Wd} (hS : ILs w) {l h : Nat} {s : (Nat → Nat) × Nat} (hg : ∀ k, k < 15 → s.1 k ≤ 60) : ∀ i, (∀ k, k < 15 → (ftS w l h s i).1 k ≤ 60) ∧ (ftS w l h s i).2 ≤ s.2 + i
  | 0 => ⟨hg, Nat.le_refl _⟩
  | i + 1 => by
    have ih := ftS_le hS (l := l) (h := h) hg i
    have := nxY_le hS (l := l) (p := (ftS w l h s i).2) (o := if h = 0 then 0 else 3 + h) ih.1
    exact ⟨this.1, by have := this.2; show (nxY w l (ftS w l h s i).1 (ftS w l h s i).2 (if h = 0 then 0 else 3 + h)).2 ≤ s.2 + (i + 1); omega⟩
theorem foretell_e {w : Wd} (hL : IL w) (hS : ILs w) {l week n h p : Nat} {g : Nat → Nat} (hl : l < nn w 5 8) (hw : week < 60) (hn : n ≤ 60) (hh : h ≤ 60) (hr : rowY (w.1 75) (40 * week + l) g) (hg : ∀ k, k < 15 → g k ≤ 60) (hp : w.1 76 (40 * week + l) = nI p) (hp2 : p ≤ 60) : ∃ v, X10_foretell (nI l) (nI week) (nI n) (nI h) w = some (nI (dnS (ndF w) (ftS w l h (g, p) n).1), v) ∧ Fr [79] [] w v := by
  have b8 := hL.1.2.2.1.2
  obtain ⟨-, ⟨e13, b13⟩, -⟩ := hL.2.2.2.2.2.2.1 l hl
  obtain ⟨e69, b69⟩ := hS.2.2.1
  have hbd := ftS_le hS (l := l) (h := h) (s := (g, p)) hg
  have hwl := wrt_le (age := nn w 13 l) (hours := h) hh
  generalize hx : seI w 79 (va_cpy (w.1 75) (w.1 79) (15 * (40 * week + l)) 0 15) = x
  have fx : Fr [79] [] w x := by rw [← hx]; exact Fr.seI Fr.rf (by decide)
  have hwo := worth_e (w := x) (age := nn w 13 l) (hours := h) b13 hh
  have x79 : ∀ k, k < 15 → x.1 79 k = nI (g k) := fun k hk => by
    rw [← hx, SI_row]
    unfold va_cpy
    rw [if_pos (by omega), Nat.sub_zero]
    exact hr k hk
  have key : ok (lp (X10_foretell_b54 (nI n) (nI h) (nI (wrt (nn w 13 l) h))) (nI p, nI 0, x)) (fun e => Fr [79] [] w e ∧ ∀ k, k < 15 → e.1 79 k = nI ((ftS w l h (g, p) n).1 k)) := by
    refine lp_up (fun i s => (h = 0 → s.1 = nI (ftS w l h (g, p) i).2) ∧ s.2.1 = nI i ∧ Fr [79] [] w s.2.2 ∧ ∀ k, k < 15 → s.2.2.1 79 k = nI ((ftS w l h (g, p) i).1 k)) n ?_ ?_ 0 _ (Nat.zero_le _) ⟨fun _ => rfl, rfl, fx, x79⟩
    · rintro i ⟨z1, z2, v⟩ hi ⟨h1, h2, h3, h4⟩
      simp only at h1 h2 h3 h4
      subst h2
      have hSv : ILs v := hS.sm (h3.sm (by decide))
      have en : ndF v = ndF w := by funext k; exact nn_row (h3.row 70 (by decide) (by simp)).1
      have en2 : lnF v = lnF w := by funext k; exact nn_row (h3.row 71 (by decide) (by simp)).1
      have f69 : v.1 69 3 = nI (nn w 69 3) := by rw [(h3 69 (by decide) 3 (by simp)).1]; exact e69
      have hb := hbd i
      have hs : ftS w l h (g, p) (i + 1) = nxY w l (ftS w l h (g, p) i).1 (ftS w l h (g, p) i).2 (if h = 0 then 0 else 3 + h) := rfl
      unfold X10_foretell_b54 X10_foretell_j106 X10_foretell_j109
      by_cases q : h = 0
      · have e1 := h1 q
        subst e1
        rw [if_pos q] at hs
        unfold nxY at hs
        rw [if_neg (by omega)] at hs
        have hb2 := hb.2
        by_cases q2 : nn w 69 3 ≤ (ftS w l h (g, p) i).2
        · have hf := forget_e hSv (kv := 79) (nv := 15) (a := 0) (g := (ftS w l h (g, p) i).1) (fun k hk => ⟨by rw [Nat.zero_add]; exact h4 k hk, hb.1 k hk⟩) (by omega) (by omega)
          rw [en] at hf
          rw [if_pos q2] at hs
          simp (disch := omega) only [gdn, gb0, gb1, ixn, nm1, nI_add, nI_mul, nsub, nI_ltI, nI_leI, nI_eq, eqNO, eqNO2, ltNO, NOlt, leNO, NOle, if_pos, if_neg, Option.bind_some, if_true, if_false, and_self, eq_self, l0, l1, l2, l3, l4, l5, l6, l7, l8, l9, l10, l11, l12, l13, l14, l15, l16, l17, l18, l19, l20, l24, l26, l30, l31, l32, l40, l41, l42, l43, l45, l47, l48, l57, l58, l59, l60, l61, l62, l63, l64, l97, l99, l100, l101, l102, l103, l104, l105, l106, l107, l108, l109, l110, l122, l160, l240, l255, l600, l1000, l3000, l10000, l10007, l10116, l67108863, l67108864, f69, hf]
          refine ok_i ⟨fun _ => by rw [hs], rfl, h3.seI (by decide), fun k hk => ?_⟩
          rw [hs]
          show (seI v 79 _).1 79 k = _
          rw [SI_row, show k = 0 + k by omega, rwS_in hk, Nat.zero_add]
        · rw [if_neg q2] at hs
          simp (disch := omega) only [gdn, gb0, gb1, ixn, nm1, nI_add, nI_mul, nsub, nI_ltI, nI_leI, nI_eq, eqNO, eqNO2, ltNO, NOlt, leNO, NOle, if_pos, if_neg, Option.bind_some, if_true, if_false, and_self, eq_self, l0, l1, l2, l3, l4, l5, l6, l7, l8, l9, l10, l11, l12, l13, l14, l15, l16, l17, l18, l19, l20, l24, l26, l30, l31, l32, l40, l41, l42, l43, l45, l47, l48, l57, l58, l59, l60, l61, l62, l63, l64, l97, l99, l100, l101, l102, l103, l104, l105, l106, l107, l108, l109, l110, l122, l160, l240, l255, l600, l1000, l3000, l10000, l10007, l10116, l67108863, l67108864, f69]
          exact ok_i ⟨fun _ => by rw [hs], rfl, h3, fun k hk => by rw [hs]; exact h4 k hk⟩
      · rw [if_neg q] at hs
        unfold nxY at hs
        rw [if_pos (by omega), show 3 + h - 3 = h by omega] at hs
        have hlr := learn_e hSv (kv := 79) (nv := 15) (a := 0) (left := wrt (nn w 13 l) h) (g := (ftS w l h (g, p) i).1) (fun k hk => ⟨by rw [Nat.zero_add]; exact h4 k hk, hb.1 k hk⟩) (by omega) (by omega) hwl (by omega) (by omega)
        rw [en, en2] at hlr
        simp (disch := omega) only [gdn, gb0, gb1, ixn, nm1, nI_add, nI_mul, nsub, nI_ltI, nI_leI, nI_eq, eqNO, eqNO2, ltNO, NOlt, leNO, NOle, if_pos, if_neg, Option.bind_some, if_true, if_false, and_self, eq_self, l0, l1, l2, l3, l4, l5, l6, l7, l8, l9, l10, l11, l12, l13, l14, l15, l16, l17, l18, l19, l20, l24, l26, l30, l31, l32, l40, l41, l42, l43, l45, l47, l48, l57, l58, l59, l60, l61, l62, l63, l64, l97, l99, l100, l101, l102, l103, l104, l105, l106, l107, l108, l109, l110, l122, l160, l240, l255, l600, l1000, l3000, l10000, l10007, l10116, l67108863, l67108864, hlr]
        refine ok_i ⟨fun z => (q z).elim, rfl, h3.seI (by decide), fun k hk => ?_⟩
        rw [hs]
        show (seI v 79 _).1 79 k = _
        rw [SI_row, show k = 0 + k by omega, rwS_in hk, Nat.zero_add]
    · rintro ⟨z1, z2, v⟩ ⟨h1, h2, h3, h4⟩
      simp only at h1 h2 h3 h4
      subst h2
      unfold X10_foretell_b54
      simp (disch := omega) only [gdn, gb0, gb1, ixn, nm1, nI_add, nI_mul, nsub, nI_ltI, nI_leI, nI_eq, eqNO, eqNO2, ltNO, NOlt, leNO, NOle, if_pos, if_neg, Option.bind_some, if_true, if_false, and_self, eq_self, l0, l1, l2, l3, l4, l5, l6, l7, l8, l9, l10, l11, l12, l13, l14, l15, l16, l17, l18, l19, l20, l24, l26, l30, l31, l32, l40, l41, l42, l43, l45, l47, l48, l57, l58, l59, l60, l61, l62, l63, l64, l97, l99, l100, l101, l102, l103, l104, l105, l106, l107, l108, l109, l110, l122, l160, l240, l255, l600, l1000, l3000, l10000, l10007, l10116, l67108863, l67108864]
      exact ok_i ⟨h3, h4⟩
  obtain ⟨e, k1, k2, k3⟩ := key
  have hd := done_e (w := e) (hS.sm (k2.sm (by decide))) (kv := 79) (nv := 15) (a := 0) (g := (ftS w l h (g, p) n).1) (fun k hk => ⟨by rw [Nat.zero_add]; exact k3 k hk, (hbd n).1 k hk⟩) (by omega) (by omega)
  have en : ndF e = ndF w := by funext k; exact nn_row (k2.row 70 (by decide) (by simp)).1
  rw [en] at hd
  refine ⟨e, ?_, k2⟩
  have f13 : x.1 13 l = nI (nn w 13 l) := by rw [(fx 13 (by decide) l (by simp)).1]; exact e13
  have f76 : x.1 76 (40 * week + l) = nI p := by rw [(fx 76 (by decide) _ (by simp)).1]; exact hp
  unfold X10_foretell
  rw [cell_e, show nI (40 * week + l) * (15 : Int32) = nI (15 * (40 * week + l)) by rw [show (15 : Int32) = nI 15 from rfl, nI_mul, Nat.mul_comm], show (15 : Int32) = nI 15 from rfl, show (0 : Int32) = nI 0 from rfl, ixn (by omega), ixn (by omega), ixn (by omega)]
  rw [gd_t ⟨⟨nI_pos (by omega), nI_pos (by omega), nI_pos (by omega), by rw [ixn (by omega), ixn (by omega)]; omega, by rw [ixn (by omega), ixn (by omega)]; omega⟩, fun i hi => by
    rw [hr i hi]
    exact fit_n _ (by have := hg i hi; omega)⟩, hx]
  simp (disch := omega) only [gdn, gb0, gb1, ixn, nm1, nI_add, nI_mul, nsub, nI_ltI, nI_leI, nI_eq, eqNO, eqNO2, ltNO, NOlt, leNO, NOle, if_pos, if_neg, Option.bind_some, if_true, if_false, and_self, eq_self, l0, l1, l2, l3, l4, l5, l6, l7, l8, l9, l10, l11, l12, l13, l14, l15, l16, l17, l18, l19, l20, l24, l26, l30, l31, l32, l40, l41, l42, l43, l45, l47, l48, l57, l58, l59, l60, l61, l62, l63, l64, l97, l99, l100, l101, l102, l103, l104, l105, l106, l107, l108, l109, l110, l122, l160, l240, l255, l600, l1000, l3000, l10000, l10007, l10116, l67108863, l67108864, f13, hwo, f76, k1, hd]
theorem mforetell_e {w : Wd} (hL : IL w) (hS : ILs w) {l n h p : Nat} {g : Nat → Nat} (hl : l < nn w 5 8) (hn : n ≤ 60) (hh : h ≤ 60) (hr : rowY (w.1 150) l g) (hg : ∀ k, k < 15 → g k ≤ 60) (hp : w.1 151 l = nI p) (hp2 : p ≤ 60) : ∃ v, lp (X12_foretold_b51 (nI l) (nI n) (nI h)) (nI 0, w) = some v ∧ X12_doneSet (nI l) v = some (nI (dnS (ndF w) (ftS w l h (g, p) n).1)) ∧ Fr [150, 151] [] w v := by
  have b8 := hL.1.2.2.1.2
  obtain ⟨-, ⟨e13, b13⟩, -⟩ := hL.2.2.2.2.2.2.1 l hl
  have e109 : w.1 109 l = nI (nn w 13 l) := by rw [hL.2.2.2.1.2.1]; exact e13
  have hbd := ftS_le hS (l := l) (h := h) (s := (g, p)) hg
  have key : ok (lp (X12_foretold_b51 (nI l) (nI n) (nI h)) (nI 0, w)) (fun e => Fr [150, 151] [] w e ∧ rowY (e.1 150) l (ftS w l h (g, p) n).1) := by
    refine lp_up (fun i s => s.1 = nI i ∧ Fr [150, 151] [] w s.2 ∧ rowY (s.2.1 150) l (ftS w l h (g, p) i).1 ∧ s.2.1 151 l = nI (ftS w l h (g, p) i).2) n ?_ ?_ 0 _ (Nat.zero_le _) ⟨rfl, Fr.rf, hr, hp⟩
    · rintro i ⟨z, v⟩ hi ⟨rfl, h1, h2, h3⟩
      simp only at h1 h2 h3
      have hSv : ILs v := hS.sm (h1.sm (by decide))
      have en : ndF v = ndF w := by funext k; exact nn_row (h1.row 70 (by decide) (by simp)).1
      have en2 : lnF v = lnF w := by funext k; exact nn_row (h1.row 71 (by decide) (by simp)).1
      have n69 : nn v 69 3 = nn w 69 3 := nn_eq (h1 69 (by decide) 3 (by simp)).1
      have hb := hbd i
      have hs : ftS w l h (g, p) (i + 1) = nxY w l (ftS w l h (g, p) i).1 (ftS w l h (g, p) i).2 (if h = 0 then 0 else 3 + h) := rfl
      unfold X12_foretold_b51 X12_foretold_j84
      by_cases q : h = 0
      · rw [if_pos q] at hs
        unfold nxY at hs
        rw [if_neg (by omega)] at hs
        have hb2 := hb.2
        have hm := mmisses_e hSv (l := l) (gp := (ftS w l h (g, p) i).2) (by omega) (g := (ftS w l h (g, p) i).1) (fun k hk => ⟨h2 k hk, hb.1 k hk⟩) h3 (by omega)
        rw [en, n69] at hm
        by_cases q2 : nn w 69 3 ≤ (ftS w l h (g, p) i).2
        · rw [if_pos q2] at hm hs
          simp (disch := omega) only [gdn, gb0, gb1, ixn, nm1, nI_add, nI_mul, nsub, nI_ltI, nI_leI, nI_eq, eqNO, eqNO2, ltNO, NOlt, leNO, NOle, if_pos, if_neg, Option.bind_some, if_true, if_false, and_self, eq_self, l0, l1, l2, l3, l4, l5, l6, l7, l8, l9, l10, l11, l12, l13, l14, l15, l16, l17, l18, l19, l20, l24, l26, l30, l31, l32, l40, l41, l42, l43, l45, l47, l48, l57, l58, l59, l60, l61, l62, l63, l64, l97, l99, l100, l101, l102, l103, l104, l105, l106, l107, l108, l109, l110, l122, l160, l240, l255, l600, l1000, l3000, l10000, l10007, l10116, l67108863, l67108864, hm]
          refine ok_i ⟨rfl, (Fr.puI h1 (by decide)).seI (by decide), fun k hk => ?_, ?_⟩
          · rw [hs]
            show (seI (puI v 151 l _) 150 _).1 150 _ = _
            rw [SI_row, rwS_in hk]
          · rw [hs]
            show (seI (puI v 151 l _) 150 _).1 151 l = _
            rw [SI_oth (by decide), I_self]
        · rw [if_neg q2] at hm hs
          simp (disch := omega) only [gdn, gb0, gb1, ixn, nm1, nI_add, nI_mul, nsub, nI_ltI, nI_leI, nI_eq, eqNO, eqNO2, ltNO, NOlt, leNO, NOle, if_pos, if_neg, Option.bind_some, if_true, if_false, and_self, eq_self, l0, l1, l2, l3, l4, l5, l6, l7, l8, l9, l10, l11, l12, l13, l14, l15, l16, l17, l18, l19, l20, l24, l26, l30, l31, l32, l40, l41, l42, l43, l45, l47, l48, l57, l58, l59, l60, l61, l62, l63, l64, l97, l99, l100, l101, l102, l103, l104, l105, l106, l107, l108, l109, l110, l122, l160, l240, l255, l600, l1000, l3000, l10000, l10007, l10116, l67108863, l67108864, hm]
          refine ok_i ⟨rfl, Fr.puI h1 (by decide), fun k hk => ?_, ?_⟩
          · rw [hs]
            show (puI v 151 l _).1 150 _ = _
            rw [I_oth (by decide)]; exact h2 k hk
          · rw [hs]
            show (puI v 151 l _).1 151 l = _
            rw [I_self]
      · rw [if_neg q] at hs
        unfold nxY at hs
        rw [if_pos (by omega), show 3 + h - 3 = h by omega] at hs
        have f1 : Fr [150, 151] [] w (puI v 151 l (nI 0)) := Fr.puI h1 (by decide)
        have hlr := mlearns_e (w := puI v 151 l (nI 0)) (hS.sm (f1.sm (by decide))) (l := l) (hours := h) (age := nn w 13 l) (by omega) (g := (ftS w l h (g, p) i).1) (fun k hk => ⟨by rw [I_oth (by decide)]; exact h2 k hk, hb.1 k hk⟩) (by rw [(f1 109 (by decide) l (by simp)).1]; exact e109) b13 hh
        have en' : ndF (puI v 151 l (nI 0)) = ndF w := by funext k; exact nn_row (f1.row 70 (by decide) (by simp)).1
        have en2' : lnF (puI v 151 l (nI 0)) = lnF w := by funext k; exact nn_row (f1.row 71 (by decide) (by simp)).1
        rw [en', en2', I_oth (by decide)] at hlr
        simp (disch := omega) only [gdn, gb0, gb1, ixn, nm1, nI_add, nI_mul, nsub, nI_ltI, nI_leI, nI_eq, eqNO, eqNO2, ltNO, NOlt, leNO, NOle, if_pos, if_neg, Option.bind_some, if_true, if_false, and_self, eq_self, l0, l1, l2, l3, l4, l5, l6, l7, l8, l9, l10, l11, l12, l13, l14, l15, l16, l17, l18, l19, l20, l24, l26, l30, l31, l32, l40, l41, l42, l43, l45, l47, l48, l57, l58, l59, l60, l61, l62, l63, l64, l97, l99, l100, l101, l102, l103, l104, l105, l106, l107, l108, l109, l110, l122, l160, l240, l255, l600, l1000, l3000, l10000, l10007, l10116, l67108863, l67108864, hlr]
        refine ok_i ⟨rfl, f1.seI (by decide), fun k hk => ?_, ?_⟩
        · rw [hs]
          show (seI (puI v 151 l _) 150 _).1 150 _ = _
          rw [SI_row, rwS_in hk]
        · rw [hs]
          show (seI (puI v 151 l _) 150 _).1 151 l = _
          rw [SI_oth (by decide), I_self]
    · rintro ⟨z, v⟩ ⟨rfl, h1, h2, h3⟩
      simp only at h1 h2 h3
      unfold X12_foretold_b51
      simp (disch := omega) only [gdn, gb0, gb1, ixn, nm1, nI_add, nI_mul, nsub, nI_ltI, nI_leI, nI_eq, eqNO, eqNO2, ltNO, NOlt, leNO, NOle, if_pos, if_neg, Option.bind_some, if_true, if_false, and_self, eq_self, l0, l1, l2, l3, l4, l5, l6, l7, l8, l9, l10, l11, l12, l13, l14, l15, l16, l17, l18, l19, l20, l24, l26, l30, l31, l32, l40, l41, l42, l43, l45, l47, l48, l57, l58, l59, l60, l61, l62, l63, l64, l97, l99, l100, l101, l102, l103, l104, l105, l106, l107, l108, l109, l110, l122, l160, l240, l255, l600, l1000, l3000, l10000, l10007, l10116, l67108863, l67108864]
      exact ok_i ⟨h1, h2⟩
  obtain ⟨e, k1, k2, k3⟩ := key
  have hm := mdone_e (w := e) (hS.sm (k2.sm (by decide))) (l := l) (by omega) (g := (ftS w l h (g, p) n).1) (fun k hk => ⟨k3 k hk, (hbd n).1 k hk⟩)
  have en2 : ndF e = ndF w := by funext k; exact nn_row (k2.row 70 (by decide) (by simp)).1
  rw [en2] at hm
  exact ⟨e, k1, hm, k2⟩
theorem ftS_y {w w' : Wd} (e : Sm sR_Y sF_Y w w') {l h : Nat} {s : (Nat → Nat) × Nat} : ∀ i, ftS w' l h s i = ftS w l h s i
  | 0 => rfl
  | i + 1 => by
    unfold ftS
    rw [ftS_y e i, nxY_y e]
theorem o_foretold (a1 a2 a3 a4 : Int32) {w : Wd} (h : YI w) : two (X11_foretold a1 a2 a3 a4) (X12_foretold a1 a2 a3 a4) w OPY := by
  have hL := h.1
  have hS := h.2.2.2.2.2.2.1
  have b8 := hL.1.2.2.1.2
  by_cases hv : (0 ≤ a1.toInt ∧ a1.toInt < (nn w 5 8 : Int)) ∧ (0 ≤ a2.toInt ∧ a2.toInt < ((60 : Nat) : Int)) ∧ (0 ≤ a3.toInt ∧ a3.toInt < ((61 : Nat) : Int)) ∧ (0 ≤ a4.toInt ∧ a4.toInt < ((61 : Nat) : Int))
  · obtain ⟨v1, v2, v3, v4⟩ := hv
    obtain ⟨l, hl, rfl⟩ := of_t v1
    obtain ⟨week, hwk, rfl⟩ := of_t v2
    obtain ⟨n, hn, rfl⟩ := of_t v3
    obtain ⟨hh, hhh, rfl⟩ := of_t v4
    obtain ⟨w1, c1, c2, c3⟩ := reach_y h hwk
    have h1 := h.to c2
    have hy1 : Sm sR_Y sF_Y w w1 := c2.1.sm (by decide)
    have hp : (YG w (week + 1) l).2 ≤ week + 1 := YG_p
    have hgb : ∀ k, k < 15 → YH w (week + 1) l k ≤ 60 := fun k hk => YH_le hS k hk
    obtain ⟨w2, f1, f2⟩ := foretell_e h1.1 h1.2.2.2.2.2.2.1 (l := l) (week := week) (n := n) (h := hh) (p := (YG w (week + 1) l).2) (g := YH w (week + 1) l) (by rw [nn_row (c2.1.row 5 (by decide) (by decide)).1]; exact hl) hwk (by omega) (by omega) (c3 l hl).2.2 hgb (c3 l hl).2.1 (by omega)
    rw [ndF_y hy1, ftS_y hy1] at f1
    have c2' : OPC w w2 := by
      obtain ⟨g1, g2, g3, g4⟩ := c2
      refine ⟨g1.next f2 (by decide) (by simp), IG.sm h1.2.2.2.1 g2 (f2.sm (by decide)), g3.sm (f2.sm (by decide)), g4.c (f2.sm (by decide)) (f2 5 (by decide) 8 (by simp)).1 (f2 73 (by decide) 4 (by simp)).1 (f2.row 74 (by decide) (by simp)).1 (f2.row 75 (by decide) (by simp)).1 (f2.row 76 (by decide) (by simp)).1⟩
    obtain ⟨v, d1, d2, d3⟩ := along_y h (fr_ans (x := nI 0) c2') (K := week + 1) (by omega)
    rw [tp_s] at d1
    have fv : Fr (sS_Z ++ sS_G) ((97, 70) :: sF_Z) w v := ((fr_ans (x := nI 0) c2').wk (by decide) (by decide)).next d2 (by decide) (by decide)
    have hyv : Sm sR_Y sF_Y w v := fv.sm (by decide)
    obtain ⟨v2, m1, m2, m3⟩ := mforetell_e (hL.sm (fv.sm (by decide))) (hS.sm (fv.sm (by decide))) (l := l) (n := n) (h := hh) (p := (YG w (week + 1) l).2) (g := YH w (week + 1) l) (by rw [nn_row (fv.row 5 (by decide) (by decide)).1]; exact hl) (by omega) (by omega) (d3 l hl).1 hgb (d3 l hl).2 (by omega)
    rw [ndF_y hyv, ftS_y hyv] at m2
    refine two_y (r := nI (dnS (ndF w) (ftS w l hh (YH w (week + 1) l, (YG w (week + 1) l).2) n).1)) (x := nI 0) h c2' ?_ ⟨v2, ?_, (frGM d2).next m3 (by decide) (by simp)⟩
    · unfold X11_foretold
      rw [show (60 : Int32) = nI 60 from rfl]
      simp (disch := omega) only [gdn, gb0, gb1, ixn, nm1, nI_add, nI_mul, nsub, nI_ltI, nI_leI, nI_eq, eqNO, eqNO2, ltNO, NOlt, leNO, NOle, if_pos, if_neg, Option.bind_some, if_true, if_false, and_self, eq_self, l0, l1, l2, l3, l4, l5, l6, l7, l8, l9, l10, l11, l12, l13, l14, l15, l16, l17, l18, l19, l20, l24, l26, l30, l31, l32, l40, l41, l42, l43, l45, l47, l48, l57, l58, l59, l60, l61, l62, l63, l64, l97, l99, l100, l101, l102, l103, l104, l105, l106, l107, l108, l109, l110, l122, l160, l240, l255, l600, l1000, l3000, l10000, l10007, l10116, l67108863, l67108864, I_oth, I_J, J_oth, J_I, I_row, J_row, SI_row, SI_oth, SI_J, SJ_row, SJ_oth, SJ_I, upd_s, upd_n, updL_s, updL_n, ne_eq, not_false_eq_true, lt_t, le_t, tI, NO_t, flag0, flag1, ite_or2, ite_self, true_or, or_true, false_or, or_false, true_and, and_true, false_and, and_false, not_true_eq_false, lrn_e hL, week_e, win, c1, f1, answer_e]
    · unfold X12_foretold
      have e6 : (puI w2 0 10 (nI 0)).1 97 6 = nI (nn w 5 8) := by rw [((fr_ans (x := nI 0) c2').row 97 (by decide) (by decide)).1, hL.2.1.2.2.1]; exact hL.1.2.2.1.1
      rw [mlr _ e6 (by omega), mweek_e]
      simp (disch := omega) only [gdn, gb0, gb1, ixn, nm1, nI_add, nI_mul, nsub, nI_ltI, nI_leI, nI_eq, eqNO, eqNO2, ltNO, NOlt, leNO, NOle, if_pos, if_neg, Option.bind_some, if_true, if_false, and_self, eq_self, l0, l1, l2, l3, l4, l5, l6, l7, l8, l9, l10, l11, l12, l13, l14, l15, l16, l17, l18, l19, l20, l24, l26, l30, l31, l32, l40, l41, l42, l43, l45, l47, l48, l57, l58, l59, l60, l61, l62, l63, l64, l97, l99, l100, l101, l102, l103, l104, l105, l106, l107, l108, l109, l110, l122, l160, l240, l255, l600, l1000, l3000, l10000, l10007, l10116, l67108863, l67108864, I_oth, I_J, J_oth, J_I, I_row, J_row, SI_row, SI_oth, SI_J, SJ_row, SJ_oth, SJ_I, upd_s, upd_n, updL_s, updL_n, ne_eq, not_false_eq_true, lt_t, le_t, tI, NO_t, flag0, flag1, ite_or2, ite_self, true_or, or_true, false_or, or_false, true_and, and_true, false_and, and_false, not_true_eq_false, d1, m1, m2, mgiv_e]
  · refine two_ref (nI 1) (r := NO) ?_ ?_ (fun w' z => OPY.st h z)
    · unfold X11_foretold X11_foretold_j39
      rw [show (60 : Int32) = nI 60 from rfl]
      simp (disch := omega) only [gdn, gb0, gb1, ixn, nm1, nI_add, nI_mul, nsub, nI_ltI, nI_leI, nI_eq, eqNO, eqNO2, ltNO, NOlt, leNO, NOle, if_pos, if_neg, Option.bind_some, if_true, if_false, and_self, eq_self, l0, l1, l2, l3, l4, l5, l6, l7, l8, l9, l10, l11, l12, l13, l14, l15, l16, l17, l18, l19, l20, l24, l26, l30, l31, l32, l40, l41, l42, l43, l45, l47, l48, l57, l58, l59, l60, l61, l62, l63, l64, l97, l99, l100, l101, l102, l103, l104, l105, l106, l107, l108, l109, l110, l122, l160, l240, l255, l600, l1000, l3000, l10000, l10007, l10116, l67108863, l67108864, I_oth, I_J, J_oth, J_I, I_row, J_row, SI_row, SI_oth, SI_J, SJ_row, SJ_oth, SJ_I, upd_s, upd_n, updL_s, updL_n, ne_eq, not_false_eq_true, lt_t, le_t, tI, NO_t, flag0, flag1, ite_or2, ite_self, true_or, or_true, false_or, or_false, true_and, and_true, false_and, and_false, not_true_eq_false, lrn_e hL, week_e, win, deny_e]
    · unfold X12_foretold X12_foretold_j37
      have e6 : (puI w 0 10 (nI 1)).1 97 6 = nI (nn w 5 8) := by rw [I_oth (by decide), hL.2.1.2.2.1]; exact hL.1.2.2.1.1
      rw [mlr _ e6 (by omega), mweek_e]
      simp (disch := omega) only [gdn, gb0, gb1, ixn, nm1, nI_add, nI_mul, nsub, nI_ltI, nI_leI, nI_eq, eqNO, eqNO2, ltNO, NOlt, leNO, NOle, if_pos, if_neg, Option.bind_some, if_true, if_false, and_self, eq_self, l0, l1, l2, l3, l4, l5, l6, l7, l8, l9, l10, l11, l12, l13, l14, l15, l16, l17, l18, l19, l20, l24, l26, l30, l31, l32, l40, l41, l42, l43, l45, l47, l48, l57, l58, l59, l60, l61, l62, l63, l64, l97, l99, l100, l101, l102, l103, l104, l105, l106, l107, l108, l109, l110, l122, l160, l240, l255, l600, l1000, l3000, l10000, l10007, l10116, l67108863, l67108864, I_oth, I_J, J_oth, J_I, I_row, J_row, SI_row, SI_oth, SI_J, SJ_row, SJ_oth, SJ_I, upd_s, upd_n, updL_s, updL_n, ne_eq, not_false_eq_true, lt_t, le_t, tI, NO_t, flag0, flag1, ite_or2, ite_self, true_or, or_true, false_or, or_false, true_and, and_true, false_and, and_false, not_true_eq_false, mref_e]
