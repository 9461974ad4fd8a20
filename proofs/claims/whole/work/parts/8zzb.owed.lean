theorem along_g {w u : Wd} (h : YI w) {S : List Nat} {T : List (Nat × Nat)} (hu : Fr S T w u) (hc1 : smc S T sR_L sF_L = true) (hc2 : smc S T sR_N2 sF_N2 = true) (hc3 : smc S T sR_B sF_B = true) (hc4 : smc S T sR_R sF_R = true) (hc5 : smc S T sR_Ls sF_Ls = true) (hc6 : smc S T sR_Y sF_Y = true) {K : Nat} (hK : K ≤ 60) : ∃ v, X12_goAlong (tp K) u = some v ∧ Fr sS_G [(97, 70)] u v ∧ ∀ l, l < nn w 5 8 → rowY (v.1 150) l (YH w K l) ∧ v.1 151 l = nI (YG w K l).2 := by
  obtain ⟨a1, a2, a3, a4, a5, a6, a7, a8⟩ := h
  obtain ⟨v, k1, k2, k3⟩ := along_e (a1.sm (hu.sm hc1)) (a2.sm (hu.sm hc2)) (a4.sm (hu.sm hc3)) (a6.sm (hu.sm hc4)) (a7.sm (hu.sm hc5)) hK
  have hy : Sm sR_Y sF_Y w u := hu.sm hc6
  have eL : Sm sR_L sF_L w u := hu.sm hc1
  refine ⟨v, k1, k2, fun l hl => ?_⟩
  have := k3 l (by rw [nn_eq (eL.2 (5, 8) (by decide)).1]; exact hl)
  rw [YH_y hy, YG_y hy] at this
  exact this
theorem reach_k {w : Wd} (h : YI w) {K : Nat} (hK : K ≤ 60) : ∃ w1, X10_reach (tp K) w = some w1 ∧ OPC w w1 ∧ (0 < K → ∀ l, l < nn w 5 8 → rowY (w1.1 75) (40 * (K - 1) + l) (YH w K l)) := by
  cases K with
  | zero =>
    obtain ⟨B, hB60, e73, -⟩ := h.2.2.2.2.2.2.2
    refine ⟨w, ?_, OPC.rf h, fun z => by omega⟩
    unfold X10_reach
    rw [e73, show tp 0 = NO from rfl, lp_exit (e := w) (by unfold X10_reach_b5; simp (disch := omega) only [gdn, gb0, gb1, ixn, nm1, nI_add, nI_mul, nsub, nI_ltI, nI_leI, nI_eq, eqNO, eqNO2, ltNO, NOlt, leNO, NOle, if_pos, if_neg, Option.bind_some, if_true, if_false, and_self, eq_self, l0, l1, l2, l3, l4, l5, l6, l7, l8, l9, l10, l11, l12, l13, l14, l15, l16, l17, l18, l19, l20, l24, l26, l30, l31, l32, l40, l41, l42, l43, l45, l47, l48, l57, l58, l59, l60, l61, l62, l63, l64, l97, l99, l100, l101, l102, l103, l104, l105, l106, l107, l108, l109, l110, l122, l160, l240, l255, l600, l1000, l3000, l10000, l10007, l10116, l67108863, l67108864])]; rfl
  | succ K =>
    obtain ⟨w1, k1, k2, k3⟩ := reach_y h (week := K) (by omega)
    exact ⟨w1, k1, k2, fun _ l hl => (k3 l hl).2.2⟩
theorem ahead_e {w w1 : Wd} (h : YI w) (hP : IP w) {p : Nat} (hp : p < nn w 80 0) (c2 : OPC w w1) (hr : 0 < nn w 82 p → ∀ l, l < nn w 5 8 → rowY (w1.1 75) (40 * (nn w 82 p - 1) + l) (YH w (nn w 82 p) l)) : X11_doneAheadOf (nI p) w1 = some (nI (dnS (ndF w) (YH w (nn w 82 p) (nn w 81 p)))) := by
  have b80 := hP.1.2
  obtain ⟨⟨e81, b81⟩, ⟨e82, b82⟩, -⟩ := hP.2.2 p hp
  have hS := h.2.2.2.2.2.2.1
  have hS1 := (h.to c2).2.2.2.2.2.2.1
  have b8 := h.1.1.2.2.1.2
  have f81 : w1.1 81 p = nI (nn w 81 p) := by rw [(c2.1.row 81 (by decide) (by decide)).1]; exact e81
  have f82 : w1.1 82 p = nI (nn w 82 p) := by rw [(c2.1.row 82 (by decide) (by decide)).1]; exact e82
  have en : ndF w1 = ndF w := by funext k; exact nn_row (c2.1.row 70 (by decide) (by decide)).1
  unfold X11_doneAheadOf
  rw [gdn (by omega) (by omega), ixn (by omega), f82, show (1 : Int32) = nI 1 from rfl, tp_e]
  simp only [Option.bind_some]
  by_cases q : nn w 82 p = 0
  · rw [q, if_neg (show ¬ (0 : Int32) ≤ tp 0 by decide), dnS_0 (nd := ndF w) (g := YH w 0 (nn w 81 p)) (fun k hk => (hS.1 k hk).2.1) (fun k hk => rfl)]; rfl
  · obtain ⟨K, hK⟩ : ∃ K, nn w 82 p = K + 1 := ⟨nn w 82 p - 1, by omega⟩
    rw [hK] at hr ⊢
    rw [tp_s, if_pos (show (0 : Int32) ≤ nI K by rw [show (0 : Int32) = nI 0 from rfl, nI_leI (by omega) (by omega)]; omega), gdn (by omega) (by omega), f81, doneB_e hS1 (l := nn w 81 p) (week := K) (by omega) (by omega) (g := YH w (K + 1) (nn w 81 p)) (fun k hk => ⟨hr (by omega) _ b81 k hk, YH_le hS k hk⟩), en]
    rfl
theorem ffS_y {w w' : Wd} (e : w'.1 72 = w.1 72) : ffS w' = ffS w := by
  have hb : bitL w' = bitL w := by funext c k; unfold bitL; rw [nn_row e]
  funext c
  unfold ffS
  rw [hb]
theorem owS_y {w w' : Wd} (e : w'.1 72 = w.1 72) : owS w' = owS w := by
  funext D c
  unfold owS
  rw [ffS_y e]
/-- what is known of a PROOF -/
theorem IP.get {w : Wd} (hP : IP w) {p : Nat} (hp : p < nn w 80 0) : ∃ V U, okW V ∧ okW U ∧ w.2 168 p = lN V ∧ w.2 169 p = lN U ∧ w.1 83 p = nI (slM V U) ∧ slM V U ≤ 8 ∧ ∀ k, k < slM V U → w.1 84 (8 * p + k) = nI (slL V U k) ∧ slL V U k < 26 := by
  obtain ⟨-, -, -, -, V, U, h1, h2, h3, h4, h5, h6⟩ := hP.2.2 p hp
  exact ⟨V, U, h1, h2, h3, h4, h5, slM_le h1 h2, fun k hk => ⟨h6 k hk, slL_26 h1 h2 k⟩⟩
theorem spellF_e {u : Wd} {p V U : Nat} (hp : p < 60) (hV : okW V) (hU : okW U) (e168 : u.2 168 p = lN V) (e169 : u.2 169 p = lN U) : ∃ v, X12_spellOut (nI p) u = some v ∧ v.1 97 98 = nI (slM V U) ∧ (∀ k, k < slM V U → v.1 166 k = nI (slL V U k)) ∧ Fr [163, 164, 165, 166] [(97, 96), (97, 97), (97, 98)] u v := by
  obtain ⟨v, k1, k2, k3⟩ := spellOut_e hp hV hU e168 e169
  exact ⟨v, k1, k2, k3, f_X12_spellOut (nI p) u v k1⟩
theorem owe_e {w u : Wd} (h : YI w) (hP : IP w) {p : Nat} (hp : p < nn w 80 0) (hu : Fr sS_Z sF_Z w u) {V U : Nat} (hV : okW V) (hU : okW U) (e168 : w.2 168 p = lN V) (e169 : w.2 169 p = lN U) : ∃ v, X12_owe (nI p) u = some v ∧ Fr sS_M sF_M u v ∧ v.1 97 98 = nI (slM V U) ∧ ∀ k, k < slM V U → v.1 167 k = owS w (dnS (ndF w) (YH w (nn w 82 p) (nn w 81 p))) (slL V U k) := by
  have b80 := hP.1.2
  obtain ⟨⟨e81, b81⟩, ⟨e82, b82⟩, r161, r162, -⟩ := hP.2.2 p hp
  have hS := h.2.2.2.2.2.2.1
  have b8 := h.1.1.2.2.1.2
  have hn := slM_le hV hU
  obtain ⟨q1, s1, s2, s3, s4⟩ := spellF_e (u := u) (p := p) (by omega) hV hU (by rw [(hu.row 168 (by decide) (by decide)).2]; exact e168) (by rw [(hu.row 169 (by decide) (by decide)).2]; exact e169)
  have f1 : Fr (sS_Z ++ [163, 164, 165, 166]) ([(97, 96), (97, 97), (97, 98)] ++ sF_Z) w q1 := (hu.wk (by decide) (by decide)).next s4 (by decide) (by decide)
  obtain ⟨q3, d1, d2, d3⟩ := along_g h f1 (by decide) (by decide) (by decide) (by decide) (by decide) (by decide) (K := nn w 82 p) (by omega)
  have f3 : Fr (sS_Z ++ [163, 164, 165, 166] ++ sS_G) ((97, 70) :: ([(97, 96), (97, 97), (97, 98)] ++ sF_Z)) w q3 := (f1.wk (by decide) (by decide)).next d2 (by decide) (by decide)
  have g162 : q1.1 162 p = nI (nn w 82 p) := by rw [(f1.row 162 (by decide) (by decide)).1, r162]; exact e82
  have g161 : q3.1 161 p = nI (nn w 81 p) := by rw [(f3.row 161 (by decide) (by decide)).1, r161]; exact e81
  have hm := mdone_e (w := q3) (hS.sm (f3.sm (by decide))) (l := nn w 81 p) (by omega) (g := YH w (nn w 82 p) (nn w 81 p)) (fun k hk => ⟨(d3 _ b81).1 k hk, YH_le hS k hk⟩)
  have en2 : ndF q3 = ndF w := by funext k; exact nn_row (f3.row 70 (by decide) (by decide)).1
  rw [en2] at hm
  have hD := dnS_lt (ndF w) (YH w (nn w 82 p) (nn w 81 p))
  generalize dnS (ndF w) (YH w (nn w 82 p) (nn w 81 p)) = D at *
  have e98 : q3.1 97 98 = nI (slM V U) := by rw [(d2 97 (by decide) 98 (by decide)).1]; exact s2
  have e166 : ∀ k, k < slM V U → q3.1 166 k = nI (slL V U k) := fun k hk => by rw [(d2 166 (by decide) k (by simp)).1]; exact s3 k hk
  have key : ok (lp (X12_owe_b30 (nI D)) (nI 0, q3)) (fun e => Fr [167] [] q3 e ∧ ∀ k, k < slM V U → e.1 167 k = owS w D (slL V U k)) := by
    refine lp_up (fun k s => s.1 = nI k ∧ Fr [167] [] q3 s.2 ∧ ∀ i, i < k → s.2.1 167 i = owS w D (slL V U i)) (slM V U) ?_ ?_ 0 _ (Nat.zero_le _) ⟨rfl, Fr.rf, fun i hi => by omega⟩
    · rintro k ⟨z, v⟩ hk ⟨rfl, h1, h2⟩
      simp only at h1 h2
      have fv : Fr (167 :: (sS_Z ++ [163, 164, 165, 166] ++ sS_G)) ((97, 70) :: ([(97, 96), (97, 97), (97, 98)] ++ sF_Z)) w v := (f3.wk (by decide) (by decide)).next h1 (by decide) (by simp)
      have v98 : v.1 97 98 = nI (slM V U) := by rw [(h1 97 (by decide) 98 (by simp)).1]; exact e98
      have hf := mfirst_e (w := v) (hS.sm (fv.sm (by decide))) (slL_26 hV hU k) (k := k) (by omega) (by rw [(h1 166 (by decide) k (by simp)).1]; exact e166 k hk) (a2 := nI D)
      rw [ffS_y (fv.row 72 (by decide) (by decide)).1] at hf
      have fin : ∀ y, y = owS w D (slL V U k) → ok (X12_owe_j112 (nI D) (nI k) y (nI k) v) (sel (fun s => s.1 = nI (k + 1) ∧ Fr [167] [] q3 s.2 ∧ ∀ i, i < k + 1 → s.2.1 167 i = owS w D (slL V U i)) (fun e => Fr [167] [] q3 e ∧ ∀ k, k < slM V U → e.1 167 k = owS w D (slL V U k))) := by
        intro y hy
        unfold X12_owe_j112
        simp (disch := omega) only [gdn, gb0, gb1, ixn, nm1, nI_add, nI_mul, nsub, nI_ltI, nI_leI, nI_eq, eqNO, eqNO2, ltNO, NOlt, leNO, NOle, if_pos, if_neg, Option.bind_some, if_true, if_false, and_self, eq_self, l0, l1, l2, l3, l4, l5, l6, l7, l8, l9, l10, l11, l12, l13, l14, l15, l16, l17, l18, l19, l20, l24, l26, l30, l31, l32, l40, l41, l42, l43, l45, l47, l48, l57, l58, l59, l60, l61, l62, l63, l64, l97, l99, l100, l101, l102, l103, l104, l105, l106, l107, l108, l109, l110, l122, l160, l240, l255, l600, l1000, l3000, l10000, l10007, l10116, l67108863, l67108864]
        refine ok_i ⟨rfl, Fr.puI h1 (by decide), fun i hi => ?_⟩
        show (puI v 167 k y).1 167 i = _
        rw [I_row]
        by_cases q : i = k
        · subst q; rw [upd_s]; exact hy
        · rw [upd_n q]; exact h2 i (by omega)
      unfold X12_owe_b30 X12_owe_j106
      rw [v98, if_neg (show ¬ nI (slM V U) ≤ nI k by rw [nI_leI (by omega) (by omega)]; omega), show ((-1 : Int32), (14 : Int32)) = (NO, nI 14) from rfl]
      simp only []
      rw [hf]
      simp only [Option.bind_some]
      rw [show (-1 : Int32) = NO from rfl]
      rcases ffS_in (w := w) (c := slL V U k) with z | ⟨j, hj, z⟩
      · rw [z, if_pos rfl]
        refine fin _ ?_
        unfold owS
        rw [if_pos (Or.inl z)]
      · rw [z, if_neg (by rw [eqNO (by omega)]; exact id)]
        have hb := bit_e (D := D) (k := j) (by omega) (by omega)
        rw [show (31 : Int32) = nI 31 from rfl, show (1 : Int32) = nI 1 from rfl, hb]
        by_cases q : D.testBit j = true
        · rw [if_pos q, if_pos rfl]
          refine fin _ ?_
          unfold owS
          rw [if_pos (Or.inr (by rw [z, ixn (by omega)]; exact q))]
        · rw [if_neg q, if_neg (show ¬ nI 0 = nI 1 by decide)]
          refine fin _ ?_
          unfold owS
          rw [z, ixn (by omega), if_neg (by rw [eqNO (by omega)]; intro y; exact y.elim id q)]
    · rintro ⟨z, v⟩ ⟨rfl, h1, h2⟩
      simp only at h1 h2
      have v98 : v.1 97 98 = nI (slM V U) := by rw [(h1 97 (by decide) 98 (by simp)).1]; exact e98
      unfold X12_owe_b30
      simp (disch := omega) only [gdn, gb0, gb1, ixn, nm1, nI_add, nI_mul, nsub, nI_ltI, nI_leI, nI_eq, eqNO, eqNO2, ltNO, NOlt, leNO, NOle, if_pos, if_neg, Option.bind_some, if_true, if_false, and_self, eq_self, l0, l1, l2, l3, l4, l5, l6, l7, l8, l9, l10, l11, l12, l13, l14, l15, l16, l17, l18, l19, l20, l24, l26, l30, l31, l32, l40, l41, l42, l43, l45, l47, l48, l57, l58, l59, l60, l61, l62, l63, l64, l97, l99, l100, l101, l102, l103, l104, l105, l106, l107, l108, l109, l110, l122, l160, l240, l255, l600, l1000, l3000, l10000, l10007, l10116, l67108863, l67108864, v98]
      exact ok_i ⟨h1, h2⟩
  obtain ⟨e, k1, k2, k3⟩ := key
  refine ⟨e, ?_, ?_, ?_, k3⟩
  · unfold X12_owe
    rw [s1]
    simp only [Option.bind_some]
    rw [gdn (by omega) (by omega), ixn (by omega), g162, show (1 : Int32) = nI 1 from rfl, tp_e, d1]
    simp only [Option.bind_some]
    rw [gdn (by omega) (by omega), g161, hm]
    simp only [Option.bind_some]
    rw [show ((0 : Int32), q3) = (nI 0, q3) from rfl, k1]; rfl
  · exact ((s4.wk (S' := sS_M) (T' := sF_M) (by decide) (by decide)).next d2 (by decide) (by decide)).next k2 (by decide) (by simp)
  · rw [(k2 97 (by decide) 98 (by simp)).1]; exact e98
theorem prf_e {w : Wd} (hP : IP w) (a : Int32) : X5_isProof a w = if 0 ≤ a.toInt ∧ a.toInt < (nn w 80 0 : Int) then nI 1 else nI 0 := wic a w hP.1.1 (by have := hP.1.2; omega)
theorem mprf_e (a : Int32) {w : Wd} {n : Nat} (h : w.1 97 86 = nI n) (hn : n < 2 ^ 31) : X12_isProof a w = if 0 ≤ a.toInt ∧ a.toInt < (n : Int) then nI 1 else nI 0 := mcnt a _ h hn
theorem o_owed (a1 a2 : Int32) {w : Wd} (h : YI w) (hP : IP w) : two (X11_owed a1 a2) (X12_owed a1 a2) w OPY := by
  have b80 := hP.1.2
  by_cases hv : (0 ≤ a1.toInt ∧ a1.toInt < (nn w 80 0 : Int)) ∧ (0 ≤ a2.toInt ∧ a2.toInt < ((15 : Nat) : Int))
  · obtain ⟨v1, v2⟩ := hv
    obtain ⟨p, hp, rfl⟩ := of_t v1
    obtain ⟨j, hj, rfl⟩ := of_t v2
    obtain ⟨V, U, hV, hU, e168, e169, e83, hn8, e84⟩ := hP.get hp
    obtain ⟨-, ⟨e82, b82⟩, -⟩ := hP.2.2 p hp
    obtain ⟨w1, c1, c2, c3⟩ := reach_k h (K := nn w 82 p) (by omega)
    have ha := ahead_e h hP hp c2 c3
    have hD := dnS_lt (ndF w) (YH w (nn w 82 p) (nn w 81 p))
    have hc := countOwed_e (w := w1) (h.to c2).2.2.2.2.2.2.1 (p := p) (n := slM V U) (D := dnS (ndF w) (YH w (nn w 82 p) (nn w 81 p))) (j := j) (L := slL V U) (by omega) hn8 (by rw [(c2.1.row 83 (by decide) (by decide)).1]; exact e83) (fun k hk => by rw [(c2.1.row 84 (by decide) (by decide)).1]; exact e84 k hk) hD hj
    rw [owS_y (c2.1.row 72 (by decide) (by decide)).1] at hc
    obtain ⟨v, d1, d2, d3, d4⟩ := owe_e h hP hp (fr_ans (x := nI 0) c2) hV hU e168 e169
    have hcl : ∀ i, cnt (fun k => decide (owS w (dnS (ndF w) (YH w (nn w 82 p) (nn w 81 p))) (slL V U k) = nI j)) i ≤ i := fun i => cnt_le
    have hlp := lp_for (b := X12_owed_b34 (nI j) v) (e := nI (cnt (fun k => decide (owS w (dnS (ndF w) (YH w (nn w 82 p) (nn w 81 p))) (slL V U k) = nI j)) (slM V U))) (fun i => (nI (cnt (fun k => decide (owS w (dnS (ndF w) (YH w (nn w 82 p) (nn w 81 p))) (slL V U k) = nI j)) i), nI i)) (slM V U) (fun i hi => ?_) ?_ 0 (Nat.zero_le _)
    · refine two_y (r := nI (cnt (fun k => decide (owS w (dnS (ndF w) (YH w (nn w 82 p) (nn w 81 p))) (slL V U k) = nI j)) (slM V U))) (x := nI 0) h c2 ?_ ⟨v, ?_, d2⟩
      · unfold X11_owed
        simp (disch := omega) only [gdn, gb0, gb1, ixn, nm1, nI_add, nI_mul, nsub, nI_ltI, nI_leI, nI_eq, eqNO, eqNO2, ltNO, NOlt, leNO, NOle, if_pos, if_neg, Option.bind_some, if_true, if_false, and_self, eq_self, l0, l1, l2, l3, l4, l5, l6, l7, l8, l9, l10, l11, l12, l13, l14, l15, l16, l17, l18, l19, l20, l24, l26, l30, l31, l32, l40, l41, l42, l43, l45, l47, l48, l57, l58, l59, l60, l61, l62, l63, l64, l97, l99, l100, l101, l102, l103, l104, l105, l106, l107, l108, l109, l110, l122, l160, l240, l255, l600, l1000, l3000, l10000, l10007, l10116, l67108863, l67108864, I_oth, I_J, J_oth, J_I, I_row, J_row, SI_row, SI_oth, SI_J, SJ_row, SJ_oth, SJ_I, upd_s, upd_n, updL_s, updL_n, ne_eq, not_false_eq_true, lt_t, le_t, tI, NO_t, flag0, flag1, ite_or2, ite_self, true_or, or_true, false_or, or_false, true_and, and_true, false_and, and_false, not_true_eq_false, prf_e hP, lesson_e, e82, tp_e, c1, ha, hc, answer_e]
      · unfold X12_owed
        have e86 : (puI w1 0 10 (nI 0)).1 97 86 = nI (nn w 80 0) := by rw [((fr_ans (x := nI 0) c2).row 97 (by decide) (by decide)).1, hP.2.1]; exact hP.1.1
        rw [mprf_e _ e86 (by omega)]
        rw [show (nI (cnt (fun k => decide (owS w (dnS (ndF w) (YH w (nn w 82 p) (nn w 81 p))) (slL V U k) = nI j)) 0), nI 0) = (nI 0, nI 0) from rfl] at hlp
        simp (disch := omega) only [gdn, gb0, gb1, ixn, nm1, nI_add, nI_mul, nsub, nI_ltI, nI_leI, nI_eq, eqNO, eqNO2, ltNO, NOlt, leNO, NOle, if_pos, if_neg, Option.bind_some, if_true, if_false, and_self, eq_self, l0, l1, l2, l3, l4, l5, l6, l7, l8, l9, l10, l11, l12, l13, l14, l15, l16, l17, l18, l19, l20, l24, l26, l30, l31, l32, l40, l41, l42, l43, l45, l47, l48, l57, l58, l59, l60, l61, l62, l63, l64, l97, l99, l100, l101, l102, l103, l104, l105, l106, l107, l108, l109, l110, l122, l160, l240, l255, l600, l1000, l3000, l10000, l10007, l10116, l67108863, l67108864, I_oth, I_J, J_oth, J_I, I_row, J_row, SI_row, SI_oth, SI_J, SJ_row, SJ_oth, SJ_I, upd_s, upd_n, updL_s, updL_n, ne_eq, not_false_eq_true, lt_t, le_t, tI, NO_t, flag0, flag1, ite_or2, ite_self, true_or, or_true, false_or, or_false, true_and, and_true, false_and, and_false, not_true_eq_false, d1, hlp, mgiv_e]
    · have e := d4 i hi
      unfold X12_owed_b34 X12_owed_j60
      rw [cnt_one]
      by_cases z : owS w (dnS (ndF w) (YH w (nn w 82 p) (nn w 81 p))) (slL V U i) = nI j
      · rw [if_pos (decide_eq_true z)]
        rw [z] at e
        simp (disch := omega) only [gdn, gb0, gb1, ixn, nm1, nI_add, nI_mul, nsub, nI_ltI, nI_leI, nI_eq, eqNO, eqNO2, ltNO, NOlt, leNO, NOle, if_pos, if_neg, Option.bind_some, if_true, if_false, and_self, eq_self, l0, l1, l2, l3, l4, l5, l6, l7, l8, l9, l10, l11, l12, l13, l14, l15, l16, l17, l18, l19, l20, l24, l26, l30, l31, l32, l40, l41, l42, l43, l45, l47, l48, l57, l58, l59, l60, l61, l62, l63, l64, l97, l99, l100, l101, l102, l103, l104, l105, l106, l107, l108, l109, l110, l122, l160, l240, l255, l600, l1000, l3000, l10000, l10007, l10116, l67108863, l67108864, d3, e]
      · rw [if_neg (show ¬ decide (owS w (dnS (ndF w) (YH w (nn w 82 p) (nn w 81 p))) (slL V U i) = nI j) = true by simpa using z)]
        simp (disch := omega) only [gdn, gb0, gb1, ixn, nm1, nI_add, nI_mul, nsub, nI_ltI, nI_leI, nI_eq, eqNO, eqNO2, ltNO, NOlt, leNO, NOle, if_pos, if_neg, Option.bind_some, if_true, if_false, and_self, eq_self, l0, l1, l2, l3, l4, l5, l6, l7, l8, l9, l10, l11, l12, l13, l14, l15, l16, l17, l18, l19, l20, l24, l26, l30, l31, l32, l40, l41, l42, l43, l45, l47, l48, l57, l58, l59, l60, l61, l62, l63, l64, l97, l99, l100, l101, l102, l103, l104, l105, l106, l107, l108, l109, l110, l122, l160, l240, l255, l600, l1000, l3000, l10000, l10007, l10116, l67108863, l67108864, d3, e, z]
    · unfold X12_owed_b34
      simp (disch := omega) only [gdn, gb0, gb1, ixn, nm1, nI_add, nI_mul, nsub, nI_ltI, nI_leI, nI_eq, eqNO, eqNO2, ltNO, NOlt, leNO, NOle, if_pos, if_neg, Option.bind_some, if_true, if_false, and_self, eq_self, l0, l1, l2, l3, l4, l5, l6, l7, l8, l9, l10, l11, l12, l13, l14, l15, l16, l17, l18, l19, l20, l24, l26, l30, l31, l32, l40, l41, l42, l43, l45, l47, l48, l57, l58, l59, l60, l61, l62, l63, l64, l97, l99, l100, l101, l102, l103, l104, l105, l106, l107, l108, l109, l110, l122, l160, l240, l255, l600, l1000, l3000, l10000, l10007, l10116, l67108863, l67108864, d3]
  · refine two_ref (nI 1) (r := NO) ?_ ?_ (fun w' z => OPY.st h z)
    · unfold X11_owed X11_owed_j18
      simp (disch := omega) only [gdn, gb0, gb1, ixn, nm1, nI_add, nI_mul, nsub, nI_ltI, nI_leI, nI_eq, eqNO, eqNO2, ltNO, NOlt, leNO, NOle, if_pos, if_neg, Option.bind_some, if_true, if_false, and_self, eq_self, l0, l1, l2, l3, l4, l5, l6, l7, l8, l9, l10, l11, l12, l13, l14, l15, l16, l17, l18, l19, l20, l24, l26, l30, l31, l32, l40, l41, l42, l43, l45, l47, l48, l57, l58, l59, l60, l61, l62, l63, l64, l97, l99, l100, l101, l102, l103, l104, l105, l106, l107, l108, l109, l110, l122, l160, l240, l255, l600, l1000, l3000, l10000, l10007, l10116, l67108863, l67108864, I_oth, I_J, J_oth, J_I, I_row, J_row, SI_row, SI_oth, SI_J, SJ_row, SJ_oth, SJ_I, upd_s, upd_n, updL_s, updL_n, ne_eq, not_false_eq_true, lt_t, le_t, tI, NO_t, flag0, flag1, ite_or2, ite_self, true_or, or_true, false_or, or_false, true_and, and_true, false_and, and_false, not_true_eq_false, prf_e hP, lesson_e, deny_e]
    · unfold X12_owed X12_owed_j18
      have e86 : (puI w 0 10 (nI 1)).1 97 86 = nI (nn w 80 0) := by rw [I_oth (by decide), hP.2.1]; exact hP.1.1
      rw [mprf_e _ e86 (by omega)]
      simp (disch := omega) only [gdn, gb0, gb1, ixn, nm1, nI_add, nI_mul, nsub, nI_ltI, nI_leI, nI_eq, eqNO, eqNO2, ltNO, NOlt, leNO, NOle, if_pos, if_neg, Option.bind_some, if_true, if_false, and_self, eq_self, l0, l1, l2, l3, l4, l5, l6, l7, l8, l9, l10, l11, l12, l13, l14, l15, l16, l17, l18, l19, l20, l24, l26, l30, l31, l32, l40, l41, l42, l43, l45, l47, l48, l57, l58, l59, l60, l61, l62, l63, l64, l97, l99, l100, l101, l102, l103, l104, l105, l106, l107, l108, l109, l110, l122, l160, l240, l255, l600, l1000, l3000, l10000, l10007, l10116, l67108863, l67108864, I_oth, I_J, J_oth, J_I, I_row, J_row, SI_row, SI_oth, SI_J, SJ_row, SJ_oth, SJ_I, upd_s, upd_n, updL_s, updL_n, ne_eq, not_false_eq_true, lt_t, le_t, tI, NO_t, flag0, flag1, ite_or2, ite_self, true_or, or_true, false_or, or_false, true_and, and_true, false_and, and_false, not_true_eq_false, mref_e]
