def sS_A : List Nat := [144, 145, 146, 153, 157, 159, 160]
theorem stk_MS {w v : Wd} {R : List (Nat × Nat)} {e : Wd} (h : MS w R e) (hs : stk v = stk w) {x : Wd} (h1 : x.1 97 70 = e.1 97 70) (h2 : x.1 144 = e.1 144) (h3 : x.1 146 = e.1 146) : MS v R x := by
  obtain ⟨a, b, c⟩ := h
  exact ⟨by rw [h1]; exact a, by rw [h2]; exact b, fun i hi => by rw [h3, hs]; exact c i hi⟩
theorem asks_e {w : Wd} (hL : IL w) (hN : IN w) (hB : IBo w) (hI : IR w) (hS : ILs w) {week l m t : Nat} (hw : week < 60) (hl : l < nn w 5 8) (hm : m < nn w 5 15) (ht : t < nn w 5 12) (e152 : w.1 152 l = nI m) (e156 : w.1 156 m = nI t) (e154 : w.1 154 m = nI (crwS w m week)) (et : tchS w m week = nI t) {g : Nat → Nat} (hg : ∀ k, k < 15 → w.1 150 (15 * l + k) = nI (g k) ∧ g k ≤ 60) : ∃ v, X12_asks (nI l) (nI week) w = some v ∧ Fr sS_A [(97, 70)] w v ∧ v.1 157 = upd (w.1 157) l (bI (mayS w (RS w (shY w m) week) (fct w week l m g))) ∧ v.1 153 = upd (w.1 153) l (nI (hrsS w (RS w (shY w m) week) (fct w week l m g))) ∧ MS v (RS w (shY w m) week) v := by
  have b8 := hL.1.2.2.1.2
  have b15 := hL.1.2.2.2.2.2
  have b12 := hL.1.2.2.2.1.2
  have b0 := hL.1.1.2
  obtain ⟨-, ⟨e13, b13⟩, ⟨e14, b14⟩⟩ := hL.2.2.2.2.2.2.1 l hl
  obtain ⟨⟨e15, b15'⟩, -⟩ := hL.2.2.2.2.2.2.2.1 t ht
  obtain ⟨e17, b17⟩ := hL.2.2.2.2.2.2.2.2 m hm
  obtain ⟨e6, b6⟩ := hL.2.2.2.2.1 _ b17
  obtain ⟨r101, -, -, -, -, -⟩ := hL.2.2.1
  obtain ⟨-, r109, r110, r111, -, r113⟩ := hL.2.2.2.1
  have hcr : crwS w m week ≤ 40 := cnt_le
  have fw : ∀ i, fct w week l m g i = if i = 0 then lN (nn w 13 l) else if i = 1 then pL ((nn w 15 t).testBit (nn w 14 l) = true) else if i = 2 then lN (crwS w m week) else if i = 3 then lN week else if i = 4 then lN (pcN 15 (dnS (ndF w) g)) else if i = 5 then pL (rainP w (nn w 17 m) week) else lN (nn w 6 (nn w 17 m)) := fun i => by
    unfold fct shY
    rw [et, ixn (by omega)]
  have hpc := pcN_le 15 (dnS (ndF w) g)
  have hpl : pL (rainP w (nn w 17 m) week) = if fg (rainP w (nn w 17 m) week) = nI 0 then lN 0 else lN 1 := by
    rw [← fg_J]
    by_cases z : rainP w (nn w 17 m) week
    · rw [fg_t z]; rfl
    · rw [fg_f z]; rfl
  have hsh : shY w m = nn w 6 (nn w 17 m) := rfl
  obtain ⟨w1, c1, c2, c3⟩ := stand_e hB (s := nn w 6 (nn w 17 m)) b6 hw
  have r1 : ∀ k, k < 144 ∨ 146 < k → k ≠ 97 → w1.1 k = w.1 k := fun k hk hk2 => (c2.row (k := k) (by omega) (by omega)).1
  generalize hu : puJ (puJ (puJ (puJ w1 159 0 (lN (nn w 13 l))) 159 1 (pL ((nn w 15 t).testBit (nn w 14 l) = true))) 159 2 (lN (crwS w m week))) 159 3 (lN week) = u
  have u1 : u.1 = w1.1 := by rw [← hu]; rfl
  have fu : Fr [159] [] w1 u := by rw [← hu]; exact Fr.puJ (Fr.puJ (Fr.puJ (Fr.puJ Fr.rf (by decide)) (by decide)) (by decide)) (by decide)
  have fu' : Fr [144, 145, 146, 159] [(97, 70)] w u := (Fr.wk (c2 : Fr [144, 145, 146] [(97, 70)] w w1) (by decide) (by simp)).next fu (by decide) (by simp)
  have s1 : w1.1 109 l = nI (nn w 13 l) := by rw [r1 109 (by omega) (by omega), r109]; exact e13
  have s2 : w1.1 156 m = nI t := by rw [r1 156 (by omega) (by omega)]; exact e156
  have s3 : w1.1 111 t = nI (nn w 15 t) := by rw [r1 111 (by omega) (by omega), r111]; exact e15
  have s4 : w1.1 110 l = nI (nn w 14 l) := by rw [r1 110 (by omega) (by omega), r110]; exact e14
  have s5 : w1.1 154 m = nI (crwS w m week) := by rw [r1 154 (by omega) (by omega)]; exact e154
  have s6 : w.1 113 m = nI (nn w 17 m) := by rw [r113]; exact e17
  have s7 : w.1 101 (nn w 17 m) = nI (nn w 6 (nn w 17 m)) := by rw [r101]; exact e6
  have s8 : u.1 113 m = nI (nn w 17 m) := by rw [u1, r1 113 (by omega) (by omega)]; exact s6
  have s9 : w1.1 113 m = nI (nn w 17 m) := by rw [r1 113 (by omega) (by omega)]; exact s6
  have hSu : ILs u := hS.sm (fu'.sm (by decide))
  have en : ndF u = ndF w := by funext k; exact nn_eq (by rw [u1, r1 70 (by omega) (by omega)])
  have hd := mdone_e hSu (l := l) (by omega) (g := g) (fun k hk => by rw [u1, r1 150 (by omega) (by omega)]; exact hg k hk)
  rw [en] at hd
  have fu4 : ∀ y, Fr [144, 145, 146, 159] [(97, 70)] w (puJ u 159 4 y) := fun y => Fr.puJ fu' (by decide)
  have hr := allShut_e (hL.sm ((fu4 (lN (pcN 15 (dnS (ndF w) g)))).sm (by decide))) (p := nn w 17 m) (week := week) (by omega) hw
  rw [rain_y ((fu4 (lN (pcN 15 (dnS (ndF w) g)))).sm (by decide))] at hr
  have hA : X12_asks (nI l) (nI week) w = X12_asks_j127 (nI l) (nI (nn w 6 (nn w 17 m))) (pL (rainP w (nn w 17 m) week)) (nI 5) (puJ u 159 4 (lN (pcN 15 (dnS (ndF w) g)))) := by
    have hb := bit_J (x := nn w 15 t) (s := nn w 14 l) (by omega) (by omega)
    unfold X12_asks
    simp (disch := omega) only [gdn, gb0, gb1, ixn, nm1, nI_add, nI_mul, nsub, nI_ltI, nI_leI, nI_eq, eqNO, eqNO2, ltNO, NOlt, leNO, NOle, if_pos, if_neg, Option.bind_some, if_true, if_false, and_self, eq_self, l0, l1, l2, l3, l4, l5, l6, l7, l8, l9, l10, l11, l12, l13, l14, l15, l16, l17, l18, l19, l20, l24, l26, l30, l31, l32, l40, l41, l42, l43, l45, l47, l48, l57, l58, l59, l60, l61, l62, l63, l64, l97, l99, l100, l101, l102, l103, l104, l105, l106, l107, l108, l109, l110, l122, l160, l240, l255, l600, l1000, l3000, l10000, l10007, l10116, l67108863, l67108864, I_oth, I_J, J_oth, J_I, I_row, J_row, SI_row, SI_oth, SI_J, SJ_row, SJ_oth, SJ_I, upd_s, upd_n, updL_s, updL_n, ne_eq, not_false_eq_true, e152, s6, s7, c1, s1, s2, s3, s4, s5, toJ, hb, hu, hd, mbitc_e (dnS_lt (ndF w) g), s8, s9, hr]
    rw [hpl]
    by_cases z : rainP w (nn w 17 m) week
    · rw [fg_t z, if_neg (show ¬ nI 1 = nI 0 by decide), if_neg (show ¬ nI 1 = nI 0 by decide)]; rfl
    · rw [fg_f z, if_pos (show nI 0 = nI 0 from rfl), if_pos (show nI 0 = nI 0 from rfl)]; rfl
  generalize hx : puJ (puJ (puJ u 159 4 (lN (pcN 15 (dnS (ndF w) g)))) 159 5 (pL (rainP w (nn w 17 m) week))) 159 6 (lN (nn w 6 (nn w 17 m))) = x
  have x1 : x.1 = w1.1 := by rw [← hx]; exact u1
  have fx : Fr [144, 145, 146, 159] [(97, 70)] w x := by rw [← hx]; exact Fr.puJ (Fr.puJ (Fr.puJ fu' (by decide)) (by decide)) (by decide)
  have hF : ∀ i, i < 7 → x.2 159 i = fct w week l m g i := fun i hi => by
    rw [fw, ← hx, ← hu]
    have hi7 : i = 0 ∨ i = 1 ∨ i = 2 ∨ i = 3 ∨ i = 4 ∨ i = 5 ∨ i = 6 := by omega
    rcases hi7 with rfl | rfl | rfl | rfl | rfl | rfl | rfl <;> simp (disch := omega) only [gdn, gb0, gb1, ixn, nm1, nI_add, nI_mul, nsub, nI_ltI, nI_leI, nI_eq, eqNO, eqNO2, ltNO, NOlt, leNO, NOle, if_pos, if_neg, Option.bind_some, if_true, if_false, and_self, eq_self, l0, l1, l2, l3, l4, l5, l6, l7, l8, l9, l10, l11, l12, l13, l14, l15, l16, l17, l18, l19, l20, l24, l26, l30, l31, l32, l40, l41, l42, l43, l45, l47, l48, l57, l58, l59, l60, l61, l62, l63, l64, l97, l99, l100, l101, l102, l103, l104, l105, l106, l107, l108, l109, l110, l122, l160, l240, l255, l600, l1000, l3000, l10000, l10007, l10116, l67108863, l67108864, I_oth, I_J, J_oth, J_I, I_row, J_row, SI_row, SI_oth, SI_J, SJ_row, SJ_oth, SJ_I, upd_s, upd_n, updL_s, updL_n, ne_eq, not_false_eq_true]
  have hy : Sm sR_Y sF_Y w x := fx.sm (by decide)
  have hBx : IBo x := hB.sm (fx.sm (by decide))
  have hIx : IR x := hI.sm (fx.sm (by decide))
  have hRk : okRl x (RS w (shY w m) week) := by
    have := okRl_tl hBx (p := inF x (shY w m) week)
    rw [show RS w (shY w m) week = RS x (shY w m) week by rw [RS_y hy]]; exact this
  have hMx : MS x (RS w (shY w m) week) x := stk_MS c3 (stk_y hy) (by rw [x1]) (by rw [x1]) (by rw [x1])
  obtain ⟨v, k1, k2⟩ := asks_lp hBx hIx hRk hMx hF (a1 := nI l)
  have hle : hrsS w (RS w (shY w m) week) (fct w week l m g) ≤ 60 := hrV_le
  have k3 : X12_asks (nI l) (nI week) w = some (puI (puI v 157 l (bI (mayS w (RS w (shY w m) week) (fct w week l m g)))) 153 l (nI (hrsS w (RS w (shY w m) week) (fct w week l m g)))) := by
    have e1 : mayS w (RS w (shY w m) week) (fct w week l m g) = (decide (slc x (RS w (shY w m) week) 101 (RS w (shY w m) week).length = []) || (slc x (RS w (shY w m) week) 101 (RS w (shY w m) week).length).any (mayR x (fct w week l m g))) := by
      rw [← mayS_y hy]; rfl
    have e2 : hrsS w (RS w (shY w m) week) (fct w week l m g) = hrV (hrL x (fct w week l m g) (slc x (RS w (shY w m) week) 103 (RS w (shY w m) week).length)) := by
      rw [← hrsS_y hy]; rfl
    have fin : ∀ b : Bool, X12_asks_j328 (nI l) (oJ (hrL x (fct w week l m g) (slc x (RS w (shY w m) week) 103 (RS w (shY w m) week).length))).1 (oJ (hrL x (fct w week l m g) (slc x (RS w (shY w m) week) 103 (RS w (shY w m) week).length))).2 (bI b) (nI l) v = some (puI (puI v 157 l (bI b)) 153 l (nI (hrsS w (RS w (shY w m) week) (fct w week l m g)))) := fun b => by
      rw [e2]
      unfold X12_asks_j328 X12_asks_j357
      rw [gdn (by omega) (by omega), ixn (by omega), nar_bI]
      simp only [Option.bind_some]
      cases hrL x (fct w week l m g) (slc x (RS w (shY w m) week) 103 (RS w (shY w m) week).length) with
      | none =>
        rw [if_pos (show (oJ none).1 = 0 from rfl), gdn (by omega) (by omega)]; rfl
      | some y =>
        rw [if_neg (show ¬ (oJ (some y)).1 = 0 by show ¬ nI 1 = 0; decide), gdn (by omega) (by omega), mnJ_comm, show (oJ (some y)).2 = y from rfl, clm_c]; rfl
    rw [hA, e1]
    unfold X12_asks_j127 X12_asks_j323
    rw [show (0 : Int64) = (0 : Int64) from rfl, gdn (by omega) (by omega), ixn (by omega)]
    simp only [Option.bind_some]
    rw [show (6 : Int32) = nI 6 from rfl, gdn (by omega) (by omega), ixn (by omega), toJ (by omega), hx]
    rw [show ((0 : Int32), (0 : Int32), (0 : Int32), (0 : Int64), (0 : Int32), x) = (nI 0, nI 0, nI 0, (0 : Int64), nI 0, x) from rfl, k1]
    simp only [Option.bind_some]
    cases hb : (slc x (RS w (shY w m) week) 101 (RS w (shY w m) week).length).any (mayR x (fct w week l m g)) with
    | true =>
      rw [if_neg (show ¬ bI true = 0 by decide), Bool.or_true]
      exact fin true
    | false =>
      rw [if_pos (show bI false = 0 from rfl), Bool.or_false]
      by_cases z : slc x (RS w (shY w m) week) 101 (RS w (shY w m) week).length = []
      · rw [decide_eq_false (fun y => y z), if_pos (show bI false = 0 from rfl), decide_eq_true z]
        exact fin true
      · rw [decide_eq_true z, if_neg (show ¬ bI true = 0 by decide), decide_eq_false z]
        exact fin false
  have fv : Fr sS_A [(97, 70)] w v := (fx.wk (by decide) (by simp)).next k2 (by decide) (by simp)
  refine ⟨_, k3, Fr.puI (Fr.puI fv (by decide)) (by decide), ?_, ?_, ?_⟩
  · rw [I_oth (by decide), I_row, (k2.row 157 (by decide) (by simp)).1, x1, r1 157 (by omega) (by omega)]
  · rw [I_row, I_oth (by decide), (k2.row 153 (by decide) (by simp)).1, x1, r1 153 (by omega) (by omega)]
  · have hy2 : Sm sR_Y sF_Y x (puI (puI v 157 l (bI (mayS w (RS w (shY w m) week) (fct w week l m g)))) 153 l (nI (hrsS w (RS w (shY w m) week) (fct w week l m g)))) := (Fr.puI (Fr.puI (k2.wk (S' := [153, 157, 160]) (T' := []) (by decide) (by simp)) (by decide)) (by decide) : Fr [153, 157, 160] [] x _).sm (by decide)
    exact stk_MS hMx (stk_y hy2) (by rw [I_oth (by decide), I_oth (by decide), (k2.row 97 (by decide) (by simp)).1]) (by rw [I_oth (by decide), I_oth (by decide), (k2.row 144 (by decide) (by simp)).1]) (by rw [I_oth (by decide), I_oth (by decide), (k2.row 146 (by decide) (by simp)).1])
