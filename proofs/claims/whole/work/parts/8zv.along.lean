/-! the model goes along the WEEKS -/
def sS_G : List Nat := [144, 145, 146, 150, 151, 152, 153, 154, 155, 156, 157, 158, 159, 160]
def GY (w v : Wd) (k : Nat) : Prop := ∀ l, l < nn w 5 8 → rowY (v.1 150) l (YH w k l) ∧ v.1 151 l = nI (YG w k l).2
theorem mstep_e {w : Wd} (hL : IL w) (hS : ILs w) {l gp o : Nat} {g : Nat → Nat} (hl : l < nn w 5 8) (hg : rowY (w.1 150) l g) (hg2 : ∀ k, k < 15 → g k ≤ 60) (hgp : w.1 151 l = nI gp) (hgp2 : gp < 1000) (ho : o ≤ 63) (e158 : w.1 158 l = fg (3 ≤ o)) (e153 : 3 ≤ o → w.1 153 l = nI (o - 3)) {a1 a2 : Int32} : ∃ v, X12_goAlong_b57 a1 a2 (nI l, w) = some (.inl (nI (l + 1), v)) ∧ Fr [150, 151] [] w v ∧ rowY (v.1 150) l (nxY w l g gp o).1 ∧ v.1 151 = upd (w.1 151) l (nI (nxY w l g gp o).2) ∧ ∀ j, j < 15 * l ∨ 15 * l + 15 ≤ j → v.1 150 j = w.1 150 j := by
  have b8 := hL.1.2.2.1.2
  have e6 : w.1 97 6 = nI (nn w 5 8) := by rw [hL.2.1.2.2.1]; exact hL.1.2.2.1.1
  obtain ⟨-, ⟨e13, b13⟩, -⟩ := hL.2.2.2.2.2.2.1 l hl
  have e109 : w.1 109 l = nI (nn w 13 l) := by rw [hL.2.2.2.1.2.1]; exact e13
  have out : ∀ (f : Nat → Int32) (g' : Nat → Nat) (j : Nat), j < 15 * l ∨ 15 * l + 15 ≤ j → rwS (15 * l) 15 g' f j = f j := fun f g' j hj => by
    unfold rwS; rw [if_neg (by omega)]
  unfold nxY
  by_cases q : 3 ≤ o
  · rw [if_pos q]
    rw [fg_t q] at e158
    have f1 : Fr [150, 151] [] w (puI w 151 l (nI 0)) := Fr.puI Fr.rf (by decide)
    have hlr := mlearns_e (w := puI w 151 l (nI 0)) (hS.sm (f1.sm (by decide))) (l := l) (hours := o - 3) (age := nn w 13 l) (by omega) (g := g) (fun k hk => ⟨by rw [I_oth (by decide)]; exact hg k hk, hg2 k hk⟩) (by rw [I_oth (by decide)]; exact e109) b13 (by omega)
    have en : ndF (puI w 151 l (nI 0)) = ndF w := by funext k; exact nn_row (I_oth (by decide))
    have en2 : lnF (puI w 151 l (nI 0)) = lnF w := by funext k; exact nn_row (I_oth (by decide))
    rw [en, en2, I_oth (by decide)] at hlr
    have e153' : (puI w 151 l (nI 0)).1 153 l = nI (o - 3) := by rw [I_oth (by decide)]; exact e153 q
    refine ⟨seI (puI w 151 l (nI 0)) 150 (rwS (15 * l) 15 (mlr_ (ndF w) (lnF w) (wrt (nn w 13 l) (o - 3)) g) (w.1 150)), ?_, f1.seI (by decide), fun k hk => ?_, ?_, fun j hj => ?_⟩
    · unfold X12_goAlong_b57 X12_goAlong_j100
      simp (disch := omega) only [gdn, gb0, gb1, ixn, nm1, nI_add, nI_mul, nsub, nI_ltI, nI_leI, nI_eq, eqNO, eqNO2, ltNO, NOlt, leNO, NOle, if_pos, if_neg, Option.bind_some, if_true, if_false, and_self, eq_self, l0, l1, l2, l3, l4, l5, l6, l7, l8, l9, l10, l11, l12, l13, l14, l15, l16, l17, l18, l19, l20, l24, l26, l30, l31, l32, l40, l41, l42, l43, l45, l47, l48, l57, l58, l59, l60, l61, l62, l63, l64, l97, l99, l100, l101, l102, l103, l104, l105, l106, l107, l108, l109, l110, l122, l160, l240, l255, l600, l1000, l3000, l10000, l10007, l10116, l67108863, l67108864, e6, e158, e153', hlr]
    · rw [SI_row, rwS_in hk]
    · rw [SI_oth (by decide), I_row]
    · rw [SI_row]; exact out _ _ j hj
  · rw [if_neg q]
    rw [fg_f q] at e158
    have hm := mmisses_e hS (l := l) (gp := gp) (by omega) (g := g) (fun k hk => ⟨hg k hk, hg2 k hk⟩) hgp hgp2
    have f1 : Fr [150, 151] [] w (puI w 151 l (nI (gp + 1))) := Fr.puI Fr.rf (by decide)
    by_cases q2 : nn w 69 3 ≤ gp
    · rw [if_pos q2] at hm ⊢
      refine ⟨seI (puI w 151 l (nI (gp + 1))) 150 (rwS (15 * l) 15 (mfg (ndF w) g) (w.1 150)), ?_, f1.seI (by decide), fun k hk => ?_, ?_, fun j hj => ?_⟩
      · unfold X12_goAlong_b57 X12_goAlong_j100
        simp (disch := omega) only [gdn, gb0, gb1, ixn, nm1, nI_add, nI_mul, nsub, nI_ltI, nI_leI, nI_eq, eqNO, eqNO2, ltNO, NOlt, leNO, NOle, if_pos, if_neg, Option.bind_some, if_true, if_false, and_self, eq_self, l0, l1, l2, l3, l4, l5, l6, l7, l8, l9, l10, l11, l12, l13, l14, l15, l16, l17, l18, l19, l20, l24, l26, l30, l31, l32, l40, l41, l42, l43, l45, l47, l48, l57, l58, l59, l60, l61, l62, l63, l64, l97, l99, l100, l101, l102, l103, l104, l105, l106, l107, l108, l109, l110, l122, l160, l240, l255, l600, l1000, l3000, l10000, l10007, l10116, l67108863, l67108864, e6, e158, hm]
      · rw [SI_row, rwS_in hk]
      · rw [SI_oth (by decide), I_row]
      · rw [SI_row]; exact out _ _ j hj
    · rw [if_neg q2] at hm ⊢
      refine ⟨puI w 151 l (nI (gp + 1)), ?_, f1, fun k hk => ?_, ?_, fun j hj => ?_⟩
      · unfold X12_goAlong_b57 X12_goAlong_j100
        simp (disch := omega) only [gdn, gb0, gb1, ixn, nm1, nI_add, nI_mul, nsub, nI_ltI, nI_leI, nI_eq, eqNO, eqNO2, ltNO, NOlt, leNO, NOle, if_pos, if_neg, Option.bind_some, if_true, if_false, and_self, eq_self, l0, l1, l2, l3, l4, l5, l6, l7, l8, l9, l10, l11, l12, l13, l14, l15, l16, l17, l18, l19, l20, l24, l26, l30, l31, l32, l40, l41, l42, l43, l45, l47, l48, l57, l58, l59, l60, l61, l62, l63, l64, l97, l99, l100, l101, l102, l103, l104, l105, l106, l107, l108, l109, l110, l122, l160, l240, l255, l600, l1000, l3000, l10000, l10007, l10116, l67108863, l67108864, e6, e158, hm]
      · rw [I_oth (by decide)]; exact hg k hk
      · rw [I_row]
      · rw [I_oth (by decide)]
theorem mweek_go {w : Wd} (hL : IL w) (hN : IN w) (hB : IBo w) (hI : IR w) (hS : ILs w) {week : Nat} (hw : week < 60) {v : Wd} (hv : Fr sS_G [(97, 70)] w v) (hG : GY w v week) {a1 : Int32} : ∃ v', (X12_teach (nI week) v).bind (fun q5 => (lp (X12_goAlong_b57 a1 (nI week)) (nI 0, q5)).bind fun e12 => some (.inl (nI (week + 1), e12))) = (some (.inl (nI (week + 1), v')) : Option ((Int32 × Wd) ⊕ Wd)) ∧ Fr sS_G [(97, 70)] w v' ∧ GY w v' (week + 1) := by
  have b8 := hL.1.2.2.1.2
  have hyv : Sm sR_Y sF_Y w v := hv.sm (by decide)
  have n8 : nn v 5 8 = nn w 5 8 := nn_row (hv.row 5 (by decide) (by decide)).1
  obtain ⟨u, t1, t2, -, t3⟩ := teach_e (hL.sm (hv.sm (by decide))) (hN.sm (hv.sm (by decide))) (hB.sm (hv.sm (by decide))) (hI.sm (hv.sm (by decide))) (hS.sm (hv.sm (by decide))) hw (fun l hl => by rw [n8] at hl; rw [YH_y hyv]; exact (hG l hl).1)
  rw [n8, YO_y hyv] at t3
  have fu : Fr sS_G [(97, 70)] w u := hv.next t2 (by decide) (by simp)
  have key : ok (lp (X12_goAlong_b57 a1 (nI week)) (nI 0, u)) (fun e => Fr [150, 151] [] u e ∧ GY w e (week + 1)) := by
    refine lp_up (fun l s => s.1 = nI l ∧ Fr [150, 151] [] u s.2 ∧ (∀ i, i < l → rowY (s.2.1 150) i (YH w (week + 1) i) ∧ s.2.1 151 i = nI (YG w (week + 1) i).2) ∧ ∀ i, l ≤ i → i < nn w 5 8 → rowY (s.2.1 150) i (YH w week i) ∧ s.2.1 151 i = nI (YG w week i).2) (nn w 5 8) ?_ ?_ 0 _ (Nat.zero_le _) ⟨rfl, Fr.rf, fun i hi => by omega, fun i _ hi => ?_⟩
    · rintro l ⟨z, x⟩ hl ⟨rfl, h1, h2, h3⟩
      simp only at h1 h2 h3
      have fx : Fr sS_G [(97, 70)] w x := fu.next h1 (by decide) (by simp)
      have hyx : Sm sR_Y sF_Y w x := fx.sm (by decide)
      have nx8 : nn x 5 8 = nn w 5 8 := nn_row (fx.row 5 (by decide) (by decide)).1
      obtain ⟨g1, g2⟩ := h3 l (Nat.le_refl _) hl
      obtain ⟨-, s158, -, s153⟩ := t3 l hl
      have hp : (YG w week l).2 ≤ week := YG_p
      obtain ⟨x', m1, m2, m3, m4, m5⟩ := mstep_e (hL.sm (fx.sm (by decide))) (hS.sm (fx.sm (by decide))) (l := l) (gp := (YG w week l).2) (o := YO w week l) (g := YH w week l) (by rw [nx8]; exact hl) g1 (fun k hk => YH_le hS k hk) g2 (by omega) (by rw [YO_e]; exact jd_le) (by rw [(h1 158 (by decide) l (by simp)).1]; exact s158) (fun z => by rw [(h1 153 (by decide) l (by simp)).1]; exact s153 z) (a1 := a1) (a2 := nI week)
      rw [nxY_y hyx, ← YG_s] at m3 m4
      rw [m1]
      refine ok_i ⟨rfl, h1.tr m2, fun i hi => ?_, fun i hi hi2 => ?_⟩
      · show rowY (x'.1 150) i _ ∧ x'.1 151 i = _
        by_cases q : i = l
        · subst q; exact ⟨m3, by rw [m4, upd_s]⟩
        · obtain ⟨p1, p2⟩ := h2 i (by omega)
          exact ⟨fun k hk => by rw [m5 _ (by omega)]; exact p1 k hk, by rw [m4, upd_n q]; exact p2⟩
      · show rowY (x'.1 150) i _ ∧ x'.1 151 i = _
        obtain ⟨p1, p2⟩ := h3 i (by omega) hi2
        exact ⟨fun k hk => by rw [m5 _ (by omega)]; exact p1 k hk, by rw [m4, upd_n (by omega)]; exact p2⟩
    · rintro ⟨z, x⟩ ⟨rfl, h1, h2, h3⟩
      simp only at h1 h2 h3
      have e6x : x.1 97 6 = nI (nn w 5 8) := by rw [(h1 97 (by decide) 6 (by simp)).1, (fu 97 (by decide) 6 (by decide)).1, hL.2.1.2.2.1]; exact hL.1.2.2.1.1
      unfold X12_goAlong_b57
      simp (disch := omega) only [gdn, gb0, gb1, ixn, nm1, nI_add, nI_mul, nsub, nI_ltI, nI_leI, nI_eq, eqNO, eqNO2, ltNO, NOlt, leNO, NOle, if_pos, if_neg, Option.bind_some, if_true, if_false, and_self, eq_self, l0, l1, l2, l3, l4, l5, l6, l7, l8, l9, l10, l11, l12, l13, l14, l15, l16, l17, l18, l19, l20, l24, l26, l30, l31, l32, l40, l41, l42, l43, l45, l47, l48, l57, l58, l59, l60, l61, l62, l63, l64, l97, l99, l100, l101, l102, l103, l104, l105, l106, l107, l108, l109, l110, l122, l160, l240, l255, l600, l1000, l3000, l10000, l10007, l10116, l67108863, l67108864, e6x]
      exact ok_i ⟨h1, h2⟩
    · show rowY (u.1 150) i _ ∧ u.1 151 i = _
      rw [(t2.row 150 (by decide) (by decide)).1, (t2.row 151 (by decide) (by decide)).1]
      exact hG i hi
  obtain ⟨e, k1, k2, k3⟩ := key
  refine ⟨e, ?_, fu.next k2 (by decide) (by simp), k3⟩
  rw [t1]
  simp only [Option.bind_some]
  rw [k1]; rfl
theorem along_e {w : Wd} (hL : IL w) (hN : IN w) (hB : IBo w) (hI : IR w) (hS : ILs w) {K : Nat} (hK : K ≤ 60) : ∃ v, X12_goAlong (tp K) w = some v ∧ Fr sS_G [(97, 70)] w v ∧ GY w v K := by
  have b8 := hL.1.2.2.1.2
  have k1 : lp (X12_goAlong_b2 (tp K)) (nI 0, w) = some (seI w 150 (fun j => if j < 600 then nI 0 else w.1 150 j)) := by
    have h := lp_for (b := X12_goAlong_b2 (tp K)) (e := seI w 150 (fun j => if j < 600 then nI 0 else w.1 150 j)) (fun i => (nI i, seI w 150 (fun j => if j < i then nI 0 else w.1 150 j))) 600 (fun i hi => ?_) ?_ 0 (Nat.zero_le _)
    · rw [seI_same (by funext j; rw [if_neg (by omega)])] at h
      exact h
    · unfold X12_goAlong_b2
      simp (disch := omega) only [gdn, gb0, gb1, ixn, nm1, nI_add, nI_mul, nsub, nI_ltI, nI_leI, nI_eq, eqNO, eqNO2, ltNO, NOlt, leNO, NOle, if_pos, if_neg, Option.bind_some, if_true, if_false, and_self, eq_self, l0, l1, l2, l3, l4, l5, l6, l7, l8, l9, l10, l11, l12, l13, l14, l15, l16, l17, l18, l19, l20, l24, l26, l30, l31, l32, l40, l41, l42, l43, l45, l47, l48, l57, l58, l59, l60, l61, l62, l63, l64, l97, l99, l100, l101, l102, l103, l104, l105, l106, l107, l108, l109, l110, l122, l160, l240, l255, l600, l1000, l3000, l10000, l10007, l10116, l67108863, l67108864, pu_seI]
      have e : upd (fun j => if j < i then nI 0 else w.1 150 j) i (nI 0) = fun j => if j < i + 1 then nI 0 else w.1 150 j := by
        funext j
        unfold upd
        by_cases q : j = i
        · rw [if_pos q, if_pos (by omega)]
        · rw [if_neg q]
          simp only []
          by_cases z : j < i
          · rw [if_pos z, if_pos (by omega)]
          · rw [if_neg z, if_neg (by omega)]
      rw [e]
    · unfold X12_goAlong_b2
      simp (disch := omega) only [gdn, gb0, gb1, ixn, nm1, nI_add, nI_mul, nsub, nI_ltI, nI_leI, nI_eq, eqNO, eqNO2, ltNO, NOlt, leNO, NOle, if_pos, if_neg, Option.bind_some, if_true, if_false, and_self, eq_self, l0, l1, l2, l3, l4, l5, l6, l7, l8, l9, l10, l11, l12, l13, l14, l15, l16, l17, l18, l19, l20, l24, l26, l30, l31, l32, l40, l41, l42, l43, l45, l47, l48, l57, l58, l59, l60, l61, l62, l63, l64, l97, l99, l100, l101, l102, l103, l104, l105, l106, l107, l108, l109, l110, l122, l160, l240, l255, l600, l1000, l3000, l10000, l10007, l10116, l67108863, l67108864]
  generalize hx : seI w 150 (fun j => if j < 600 then nI 0 else w.1 150 j) = x at *
  have k2 : lp (X12_goAlong_b24 (tp K)) (nI 0, x) = some (seI x 151 (fun j => if j < 40 then nI 0 else x.1 151 j)) := by
    have h := lp_for (b := X12_goAlong_b24 (tp K)) (e := seI x 151 (fun j => if j < 40 then nI 0 else x.1 151 j)) (fun i => (nI i, seI x 151 (fun j => if j < i then nI 0 else x.1 151 j))) 40 (fun i hi => ?_) ?_ 0 (Nat.zero_le _)
    · rw [seI_same (by funext j; rw [if_neg (by omega)])] at h
      exact h
    · unfold X12_goAlong_b24
      simp (disch := omega) only [gdn, gb0, gb1, ixn, nm1, nI_add, nI_mul, nsub, nI_ltI, nI_leI, nI_eq, eqNO, eqNO2, ltNO, NOlt, leNO, NOle, if_pos, if_neg, Option.bind_some, if_true, if_false, and_self, eq_self, l0, l1, l2, l3, l4, l5, l6, l7, l8, l9, l10, l11, l12, l13, l14, l15, l16, l17, l18, l19, l20, l24, l26, l30, l31, l32, l40, l41, l42, l43, l45, l47, l48, l57, l58, l59, l60, l61, l62, l63, l64, l97, l99, l100, l101, l102, l103, l104, l105, l106, l107, l108, l109, l110, l122, l160, l240, l255, l600, l1000, l3000, l10000, l10007, l10116, l67108863, l67108864, pu_seI]
      have e : upd (fun j => if j < i then nI 0 else x.1 151 j) i (nI 0) = fun j => if j < i + 1 then nI 0 else x.1 151 j := by
        funext j
        unfold upd
        by_cases q : j = i
        · rw [if_pos q, if_pos (by omega)]
        · rw [if_neg q]
          simp only []
          by_cases z : j < i
          · rw [if_pos z, if_pos (by omega)]
          · rw [if_neg z, if_neg (by omega)]
      rw [e]
    · unfold X12_goAlong_b24
      simp (disch := omega) only [gdn, gb0, gb1, ixn, nm1, nI_add, nI_mul, nsub, nI_ltI, nI_leI, nI_eq, eqNO, eqNO2, ltNO, NOlt, leNO, NOle, if_pos, if_neg, Option.bind_some, if_true, if_false, and_self, eq_self, l0, l1, l2, l3, l4, l5, l6, l7, l8, l9, l10, l11, l12, l13, l14, l15, l16, l17, l18, l19, l20, l24, l26, l30, l31, l32, l40, l41, l42, l43, l45, l47, l48, l57, l58, l59, l60, l61, l62, l63, l64, l97, l99, l100, l101, l102, l103, l104, l105, l106, l107, l108, l109, l110, l122, l160, l240, l255, l600, l1000, l3000, l10000, l10007, l10116, l67108863, l67108864]
  generalize hy : seI x 151 (fun j => if j < 40 then nI 0 else x.1 151 j) = y at *
  have fy : Fr sS_G [(97, 70)] w y := by rw [← hy, ← hx]; exact Fr.seI (Fr.seI Fr.rf (by decide)) (by decide)
  have gy : GY w y 0 := fun l hl => by
    refine ⟨fun k hk => ?_, ?_⟩
    · rw [← hy, SI_oth (by decide), ← hx, SI_row, if_pos (by omega)]; rfl
    · rw [← hy, SI_row, if_pos (by omega)]; rfl
  have key : ok (lp (X12_goAlong_b45 (tp K)) (nI 0, y)) (fun e => Fr sS_G [(97, 70)] w e ∧ GY w e K) := by
    refine lp_up (fun k s => s.1 = nI k ∧ Fr sS_G [(97, 70)] w s.2 ∧ GY w s.2 k) K ?_ ?_ 0 _ (Nat.zero_le _) ⟨rfl, fy, gy⟩
    · rintro k ⟨z, v⟩ hk ⟨rfl, h1, h2⟩
      simp only at h1 h2
      obtain ⟨v', g1, g2, g3⟩ := mweek_go hL hN hB hI hS (week := k) (by omega) h1 h2 (a1 := tp K)
      have hlt : ¬ tp K < nI k := by
        cases K with
        | zero => omega
        | succ n =>
          rw [tp_s, nI_ltI (by omega) (by omega)]; omega
      unfold X12_goAlong_b45
      rw [if_neg hlt]
      simp only []
      simp only [l0, l1, nI_add]
      rw [g1]
      exact ok_i ⟨rfl, g2, g3⟩
    · rintro ⟨z, v⟩ ⟨rfl, h1, h2⟩
      simp only at h1 h2
      have hlt : tp K < nI K := by
        cases K with
        | zero => decide
        | succ n =>
          rw [tp_s, nI_ltI (by omega) (by omega)]; omega
      unfold X12_goAlong_b45
      rw [if_pos hlt]
      exact ok_i ⟨h1, h2⟩
  obtain ⟨v, e1, e2, e3⟩ := key
  refine ⟨v, ?_, e2, e3⟩
  unfold X12_goAlong
  rw [show ((0 : Int32), w) = (nI 0, w) from rfl, k1]
  simp only [Option.bind_some]
  rw [show ((0 : Int32), x) = (nI 0, x) from rfl, k2]
  simp only [Option.bind_some]
  rw [show ((0 : Int32), y) = (nI 0, y) from rfl, e1]; rfl
