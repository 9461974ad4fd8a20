/-! the class lives a WEEK -/
theorem fillB {kv nv a n : Nat} {w : Wd} (hn : nv < 2 ^ 31) (ha : a + n ≤ nv) : J7_fill_eb02e kv nv (nI a) (nI (a + n)) (nI 0) w = some (seI w kv (fun j => if a ≤ j ∧ j < a + n then nI 0 else w.1 kv j)) := by
  unfold J7_fill_eb02e
  rw [range_ok (a := Int32.ofNat nv) (nI_le (by omega) (by omega)) (nI_pos' (by omega)) (nI_le ha hn)]
  have h : ∀ i, i ≤ n → lp (J7_fill_eb02e_b10 kv nv (nI (a + n)) (nI 0)) (nI (a + i), seI w kv (fun j => if a ≤ j ∧ j < a + i then nI 0 else w.1 kv j)) = some (seI w kv (fun j => if a ≤ j ∧ j < a + n then nI 0 else w.1 kv j)) := by
    refine lp_for (fun i => (nI (a + i), seI w kv (fun j => if a ≤ j ∧ j < a + i then nI 0 else w.1 kv j))) n (fun i hi => ?_) ?_
    · unfold J7_fill_eb02e_b10
      rw [show vp_nar .byte (nI 0) = nI 0 from by decide]
      simp (disch := omega) only [gdn, gb0, gb1, ixn, nm1, nI_add, nI_mul, nsub, nI_ltI, nI_leI, nI_eq, eqNO, eqNO2, ltNO, NOlt, leNO, NOle, if_pos, if_neg, Option.bind_some, if_true, if_false, and_self, eq_self, l0, l1, l2, l3, l4, l5, l6, l7, l8, l9, l10, l11, l12, l13, l14, l15, l16, l17, l18, l19, l20, l24, l26, l30, l31, l32, l40, l41, l42, l43, l45, l47, l48, l57, l58, l59, l60, l61, l62, l63, l64, l97, l99, l100, l101, l102, l103, l104, l105, l106, l107, l108, l109, l110, l122, l160, l240, l255, l600, l1000, l3000, l10000, l10007, l10116, l67108863, l67108864, pu_seI]
      have e : upd (fun j => if a ≤ j ∧ j < a + i then nI 0 else w.1 kv j) (a + i) (nI 0) = fun j => if a ≤ j ∧ j < a + (i + 1) then nI 0 else w.1 kv j := by
        funext j
        unfold upd
        by_cases q : j = a + i
        · rw [if_pos q, if_pos (by omega)]
        · rw [if_neg q]
          simp only []
          by_cases z : a ≤ j ∧ j < a + i
          · rw [if_pos z, if_pos (by omega)]
          · rw [if_neg z, if_neg (by omega)]
      rw [e, Nat.add_assoc]
    · unfold J7_fill_eb02e_b10
      simp (disch := omega) only [gdn, gb0, gb1, ixn, nm1, nI_add, nI_mul, nsub, nI_ltI, nI_leI, nI_eq, eqNO, eqNO2, ltNO, NOlt, leNO, NOle, if_pos, if_neg, Option.bind_some, if_true, if_false, and_self, eq_self, l0, l1, l2, l3, l4, l5, l6, l7, l8, l9, l10, l11, l12, l13, l14, l15, l16, l17, l18, l19, l20, l24, l26, l30, l31, l32, l40, l41, l42, l43, l45, l47, l48, l57, l58, l59, l60, l61, l62, l63, l64, l97, l99, l100, l101, l102, l103, l104, l105, l106, l107, l108, l109, l110, l122, l160, l240, l255, l600, l1000, l3000, l10000, l10007, l10116, l67108863, l67108864]
  have h0 := h 0 (Nat.zero_le _)
  rw [seI_same (by funext j; rw [if_neg (by omega)])] at h0
  rw [Nat.add_zero] at h0
  simp only [Option.bind_some]
  rw [h0]; rfl
theorem fit_n : ∀ n, n < 128 → fits .byte (.int (nI n)) = true := by decide +kernel
theorem narb {n : Nat} (h : n < 128) : vp_nar .byte (nI n) = nI n := by rw [nar_byte]; exact byte_n h
theorem nb2 {n : Nat} (h : n < 128) : vp_nar .byte (Int32.toInt8 (nI n)).toInt32 = nI n := by rw [byte_n h]; exact narb h
/-- the row of a LEARNER in a WEEK -/
def rowY (f : Nat → Int32) (c : Nat) (g : Nat → Nat) : Prop := ∀ k, k < 15 → f (15 * c + k) = nI (g k)
theorem j113_e {w : Wd} (hS : ILs w) (hL : IL w) {week l c o p : Nat} {g : Nat → Nat} (hl : l < nn w 5 8) (hc : c < 2400) (ho : o ≤ 63) (hp : p ≤ 60) (hr : rowY (w.1 75) c g) (hg : ∀ k, k < 15 → g k ≤ 60) : ∃ v, X10_live_j113 (nI week) (nI l) (nI o) (nI c) (nI (15 * c)) (nI p) w = some (.inl (nI (l + 1), v)) ∧ Fr [74, 75, 76] [] w v ∧ v.1 74 = upd (w.1 74) c (nI o) ∧ v.1 76 = upd (w.1 76) c (nI (nxY w l g p o).2) ∧ rowY (v.1 75) c (nxY w l g p o).1 ∧ ∀ j, j < 15 * c ∨ 15 * c + 15 ≤ j → v.1 75 j = w.1 75 j := by
  have b8 := hL.1.2.2.1.2
  obtain ⟨-, ⟨e13, b13⟩, -⟩ := hL.2.2.2.2.2.2.1 l hl
  obtain ⟨e69, b69⟩ := hS.2.2.1
  have k1 : Fr [74, 75, 76] [] w (puI w 74 c (nI o)) := Fr.puI Fr.rf (by decide)
  have hS1 : ILs (puI w 74 c (nI o)) := hS.sm (k1.sm (by decide))
  have out : ∀ (f : Nat → Int32) (g' : Nat → Nat) (j : Nat), j < 15 * c ∨ 15 * c + 15 ≤ j → rwS (15 * c) 15 g' f j = f j := fun f g' j hj => by
    unfold rwS; rw [if_neg (by omega)]
  unfold X10_live_j113 nxY
  by_cases q : o < 3
  · rw [if_neg (show ¬ 3 ≤ o by omega)]
    have k2 : Fr [74, 75, 76] [] w (puI (puI w 74 c (nI o)) 76 c (nI (p + 1))) := Fr.puI k1 (by decide)
    have hS2 : ILs (puI (puI w 74 c (nI o)) 76 c (nI (p + 1))) := hS.sm (k2.sm (by decide))
    have f69 : (puI (puI w 74 c (nI o)) 76 c (nI (p + 1))).1 69 3 = nI (nn w 69 3) := by rw [I_oth (by decide), I_oth (by decide)]; exact e69
    unfold X10_live_j203
    by_cases q2 : nn w 69 3 ≤ p
    · have hf := forget_e hS2 (kv := 75) (nv := 36000) (a := 15 * c) (g := g) (fun k hk => ⟨by rw [I_oth (by decide), I_oth (by decide)]; exact hr k hk, hg k hk⟩) (by omega) (by omega)
      have en : ndF (puI (puI w 74 c (nI o)) 76 c (nI (p + 1))) = ndF w := by funext k; exact nn_eq (by rw [I_oth (by decide), I_oth (by decide)])
      rw [en, I_oth (by decide), I_oth (by decide)] at hf
      refine ⟨_, ?_, k2.seI (f := rwS (15 * c) 15 (mfg (ndF w) g) (w.1 75)) (a := 75) (by decide), ?_, ?_, fun k hk => ?_, fun j hj => ?_⟩
      · simp (disch := omega) only [gdn, gb0, gb1, ixn, nm1, nI_add, nI_mul, nsub, nI_ltI, nI_leI, nI_eq, eqNO, eqNO2, ltNO, NOlt, leNO, NOle, if_pos, if_neg, Option.bind_some, if_true, if_false, and_self, eq_self, l0, l1, l2, l3, l4, l5, l6, l7, l8, l9, l10, l11, l12, l13, l14, l15, l16, l17, l18, l19, l20, l24, l26, l30, l31, l32, l40, l41, l42, l43, l45, l47, l48, l57, l58, l59, l60, l61, l62, l63, l64, l97, l99, l100, l101, l102, l103, l104, l105, l106, l107, l108, l109, l110, l122, l160, l240, l255, l600, l1000, l3000, l10000, l10007, l10116, l67108863, l67108864, nb2, f69, hf]
      · rw [SI_oth (by decide), I_oth (by decide), I_row]
      · rw [SI_oth (by decide), I_row, I_oth (by decide)]
      · rw [SI_row, rwS_in hk, if_pos q2]
      · rw [SI_row]; exact out _ _ j hj
    · refine ⟨_, ?_, k2, ?_, ?_, fun k hk => ?_, fun j hj => ?_⟩
      · simp (disch := omega) only [gdn, gb0, gb1, ixn, nm1, nI_add, nI_mul, nsub, nI_ltI, nI_leI, nI_eq, eqNO, eqNO2, ltNO, NOlt, leNO, NOle, if_pos, if_neg, Option.bind_some, if_true, if_false, and_self, eq_self, l0, l1, l2, l3, l4, l5, l6, l7, l8, l9, l10, l11, l12, l13, l14, l15, l16, l17, l18, l19, l20, l24, l26, l30, l31, l32, l40, l41, l42, l43, l45, l47, l48, l57, l58, l59, l60, l61, l62, l63, l64, l97, l99, l100, l101, l102, l103, l104, l105, l106, l107, l108, l109, l110, l122, l160, l240, l255, l600, l1000, l3000, l10000, l10007, l10116, l67108863, l67108864, nb2, f69]
      · rw [I_oth (by decide), I_row]
      · rw [I_row, I_oth (by decide)]
      · rw [I_oth (by decide), I_oth (by decide), if_neg q2]; exact hr k hk
      · rw [I_oth (by decide), I_oth (by decide)]
  · rw [if_pos (show 3 ≤ o by omega)]
    have hw := worth_e (w := puI w 74 c (nI o)) (age := nn w 13 l) (hours := o - 3) b13 (by omega)
    have hwl := wrt_le (age := nn w 13 l) (hours := o - 3) (by omega)
    have hlr := learn_e hS1 (kv := 75) (nv := 36000) (a := 15 * c) (left := wrt (nn w 13 l) (o - 3)) (g := g) (fun k hk => ⟨by rw [I_oth (by decide)]; exact hr k hk, hg k hk⟩) (by omega) (by omega) hwl (by omega) (by omega)
    have en : ndF (puI w 74 c (nI o)) = ndF w := by funext k; exact nn_row (I_oth (by decide))
    have en2 : lnF (puI w 74 c (nI o)) = lnF w := by funext k; exact nn_row (I_oth (by decide))
    rw [en, en2, I_oth (by decide)] at hlr
    have f13 : (puI w 74 c (nI o)).1 13 l = nI (nn w 13 l) := by rw [I_oth (by decide)]; exact e13
    unfold X10_live_j203
    refine ⟨puI (seI (puI w 74 c (nI o)) 75 (rwS (15 * c) 15 (mlr_ (ndF w) (lnF w) (wrt (nn w 13 l) (o - 3)) g) (w.1 75))) 76 c (nI 0), ?_, Fr.puI (k1.seI (by decide)) (by decide), ?_, ?_, fun k hk => ?_, fun j hj => ?_⟩
    · simp (disch := omega) only [gdn, gb0, gb1, ixn, nm1, nI_add, nI_mul, nsub, nI_ltI, nI_leI, nI_eq, eqNO, eqNO2, ltNO, NOlt, leNO, NOle, if_pos, if_neg, Option.bind_some, if_true, if_false, and_self, eq_self, l0, l1, l2, l3, l4, l5, l6, l7, l8, l9, l10, l11, l12, l13, l14, l15, l16, l17, l18, l19, l20, l24, l26, l30, l31, l32, l40, l41, l42, l43, l45, l47, l48, l57, l58, l59, l60, l61, l62, l63, l64, l97, l99, l100, l101, l102, l103, l104, l105, l106, l107, l108, l109, l110, l122, l160, l240, l255, l600, l1000, l3000, l10000, l10007, l10116, l67108863, l67108864, nb2, narb, f13, hw, hlr]
    · rw [I_oth (by decide), SI_oth (by decide), I_row]
    · rw [I_row, SI_oth (by decide), I_oth (by decide)]
    · rw [I_oth (by decide), SI_row, rwS_in hk]
    · rw [I_oth (by decide), SI_row]; exact out _ _ j hj
def YR (w : Wd) (B : Nat) : Prop := ∀ week, week < B → ∀ l, l < nn w 5 8 → w.1 74 (40 * week + l) = nI (YO w week l) ∧ w.1 76 (40 * week + l) = nI (YG w (week + 1) l).2 ∧ rowY (w.1 75) (40 * week + l) (YH w (week + 1) l)
def sS_L : List Nat := [26, 27, 28, 29, 44, 45, 46, 47, 48, 49, 50, 51, 52, 53, 54, 55, 56, 57, 58, 59, 60, 61, 62, 63, 64, 74, 75, 76, 77, 78]
/-- before a LEARNER is asked, his row of the WEEK ahead is there -/
theorem lv_copy {w : Wd} {week l : Nat} (hw : week < 60) (hl : l < 40) (h0 : week = 0 → True) (hr : 0 < week → rowY (w.1 75) (40 * (week - 1) + l) (YH w week l) ∧ w.1 76 (40 * (week - 1) + l) = nI (YG w week l).2) (hb : ∀ k, k < 15 → YH w week l k ≤ 60) {o : Int32} {a2 : Int32} : ∃ v, (if nI week = 0 then (J7_fill_eb02e 75 36000 (nI (15 * (40 * week + l))) (nI (15 * (40 * week + l)) + (15 : Int32)) (0 : Int32) w).bind fun q19 => X10_live_j113 (nI week) a2 o (nI (40 * week + l)) (nI (15 * (40 * week + l))) (0 : Int32) q19 else (some (X10_cell (nI l) (nI week - (1 : Int32)) w)).bind fun z8 => gd (cpok (z8 * (15 : Int32)) (nI (15 * (40 * week + l))) (15 : Int32) 36000 36000 ∧ fitB (w.1 75) (ix (z8 * (15 : Int32))) (ix (15 : Int32))) <| (some (seI w 75 (va_cpy (w.1 75) (w.1 75) (ix (z8 * (15 : Int32))) (ix (nI (15 * (40 * week + l)))) (ix (15 : Int32))))).bind fun w9 => gd (vp_in z8 2400) <| X10_live_j113 (nI week) a2 o (nI (40 * week + l)) (nI (15 * (40 * week + l))) (w9.1 76 (ix z8)) w9) = X10_live_j113 (nI week) a2 o (nI (40 * week + l)) (nI (15 * (40 * week + l))) (nI (YG w week l).2) v ∧ Fr [75] [] w v ∧ rowY (v.1 75) (40 * week + l) (YH w week l) ∧ ∀ j, j < 15 * (40 * week + l) ∨ 15 * (40 * week + l) + 15 ≤ j → v.1 75 j = w.1 75 j := by
  by_cases q : week = 0
  · subst q
    have hf := fillB (kv := 75) (nv := 36000) (a := 15 * (40 * 0 + l)) (n := 15) (w := w) (by omega) (by omega)
    refine ⟨_, ?_, Fr.seI (f := fun j => if 15 * (40 * 0 + l) ≤ j ∧ j < 15 * (40 * 0 + l) + 15 then nI 0 else w.1 75 j) (a := 75) Fr.rf (by decide), fun k hk => ?_, fun j hj => ?_⟩
    · rw [if_pos (show nI 0 = 0 from rfl), show (15 : Int32) = nI 15 from rfl, nI_add, show (0 : Int32) = nI 0 from rfl, hf]
      rfl
    · rw [SI_row, if_pos (by omega)]; rfl
    · rw [SI_row, if_neg (by omega)]
  · obtain ⟨r1, r2⟩ := hr (by omega)
    refine ⟨seI w 75 (va_cpy (w.1 75) (w.1 75) (15 * (40 * (week - 1) + l)) (15 * (40 * week + l)) 15), ?_, Fr.seI Fr.rf (by decide), fun k hk => ?_, fun j hj => ?_⟩
    · rw [if_neg (show ¬ nI week = 0 by rw [show (0 : Int32) = nI 0 from rfl, nI_eq (by omega) (by omega)]; exact q), show (1 : Int32) = nI 1 from rfl, nsub (by omega), cell_e]
      simp only [Option.bind_some]
      rw [show (15 : Int32) = nI 15 from rfl, nI_mul, Nat.mul_comm (40 * (week - 1) + l) 15, ixn (by omega), ixn (by omega), ixn (by omega), ixn (by omega)]
      rw [gd_t ⟨⟨nI_pos (by omega), nI_pos (by omega), nI_pos (by omega), by rw [ixn (by omega), ixn (by omega)]; omega, by rw [ixn (by omega), ixn (by omega)]; omega⟩, fun i hi => by
        rw [r1 i hi]
        exact fit_n _ (by have := hb i hi; omega)⟩, gdn (by omega) (by omega), SI_oth (by decide), r2]
    · rw [SI_row]
      unfold va_cpy
      rw [if_pos (by omega), show 15 * (40 * week + l) + k - 15 * (40 * week + l) = k by omega]
      exact r1 k hk
    · rw [SI_row]
      unfold va_cpy
      rw [if_neg (by omega)]
theorem live_e {w : Wd} (hL : IL w) (hN : IN w) (hC : IC w) (hB : IBo w) (hG : IG w) (hI : IR w) (hS : ILs w) {week : Nat} (hw : week < 60) (hY : YR w week) : ∃ v, X10_live (nI week) w = some v ∧ Fr sS_L [(19, 8)] w v ∧ IG v ∧ IC v ∧ YR v (week + 1) := by
  have b8 := hL.1.2.2.1.2
  obtain ⟨w1, c1, c2, c3, c4⟩ := callUp_e hL hN hC hw
  have hfill := fillI (kv := 78) (nv := 12) (v := nI 0) (w := w1) (by omega)
  generalize hx : seI w1 78 (fun j => if j < 12 then nI 0 else w1.1 78 j) = x at *
  have fx : Fr sS_L [(19, 8)] w x := by
    rw [← hx]
    exact Fr.seI (c4.wk (by decide) (by simp)) (by decide)
  have hy0 : ∀ {v : Wd}, Fr sS_L [(19, 8)] w v → Sm sR_Y sF_Y w v := fun h => h.sm (by decide)
  have cuE : ∀ {v : Wd}, Fr sS_J [] x v → True := fun _ => trivial
  have key : ok (lp (X10_live_b18 (nI week)) (nI 0, x)) (fun v => Fr sS_L [(19, 8)] w v ∧ IG v ∧ CU v week ∧ v.1 19 8 = nI week ∧ YR v (week + 1)) := by
    refine lp_up (fun l s => s.1 = nI l ∧ Fr sS_L [(19, 8)] w s.2 ∧ IG s.2 ∧ CU s.2 week ∧ s.2.1 19 8 = nI week ∧ (∀ m, m < 12 → s.2.1 78 m = nI (YT w week l m)) ∧ (∀ wk, wk < week → ∀ i, i < nn w 5 8 → s.2.1 74 (40 * wk + i) = nI (YO w wk i) ∧ s.2.1 76 (40 * wk + i) = nI (YG w (wk + 1) i).2 ∧ rowY (s.2.1 75) (40 * wk + i) (YH w (wk + 1) i)) ∧ (∀ i, i < l → s.2.1 74 (40 * week + i) = nI (YO w week i) ∧ s.2.1 76 (40 * week + i) = nI (YG w (week + 1) i).2 ∧ rowY (s.2.1 75) (40 * week + i) (YH w (week + 1) i))) (nn w 5 8) ?_ ?_ 0 _ (Nat.zero_le _) ⟨rfl, fx, ?_, ?_, ?_, fun m hm => ?_, fun wk hwk i hi => ?_, fun i hi => by omega⟩
    · rintro l ⟨z, v⟩ hl ⟨rfl, h1, h2, h3, h4, h5, h6, h7⟩
      simp only at h1 h2 h3 h4 h5 h6 h7
      have hy := hy0 h1
      have hLv : IL v := hL.sm (h1.sm (by decide))
      have hNv : IN v := hN.sm (h1.sm (by decide))
      have hBv : IBo v := hB.sm (h1.sm (by decide))
      have hIv : IR v := hI.sm (h1.sm (by decide))
      have hSv : ILs v := hS.sm (h1.sm (by decide))
      have n8 : nn v 5 8 = nn w 5 8 := nn_row ((h1.row 5 (by decide) (by decide)).1)
      have hlm : litY w week l → lmY w week l < 12 := fun z => by
        obtain ⟨m, t, _, hm12, _, _, _, e2, _⟩ := lit_get hL hN z
        rw [e2]; exact hm12
      have hTl := (YT_le (w := w) (week := week) (l := l) (lmY w week l)).2
      have row0 : 0 < week → rowY (v.1 75) (40 * (week - 1) + l) (YH w week l) ∧ v.1 76 (40 * (week - 1) + l) = nI (YG w week l).2 := fun z => by
        have := h6 (week - 1) (by omega) l hl
        rw [show week - 1 + 1 = week by omega] at this
        exact ⟨this.2.2, this.2.1⟩
      have hYb : ∀ k, k < 15 → YH w week l k ≤ 60 := fun k hk => YH_le hS k hk
      obtain ⟨v1, j1, j2, j3, j4⟩ := judge_e hLv hNv hBv h2 hIv hSv hw (by rw [n8]; exact hl) h3 (g := YH w week l) (fun z k hk => by subst z; rfl) (fun z k hk => ⟨by rw [show 15 * (40 * (week - 1) + l) + k = 15 * (40 * (week - 1) + l) + k from rfl]; exact (row0 z).1 k hk, hYb k hk⟩) (t := YT w week l (lmY w week l)) (fun z => by
        rw [lmY_y hy]
        rw [litY_y hy] at z
        exact h5 _ (hlm z)) (by omega)
      rw [jd_y hy, show jd w week l (YH w week l) (YT w week l (lmY w week l)) = YO w week l from rfl] at j1 j4
      rw [lmY_y hy] at j4
      have f1 : Fr sS_L [(19, 8)] w v1 := h1.next j2 (by decide) (by simp)
      have hy1 := hy0 f1
      have jr : ∀ k, k ∉ sS_J → v1.1 k = v.1 k := fun k hk => (j2.row k hk (by simp)).1
      obtain ⟨v2, l1, l2, l3, l4⟩ := lv_copy (w := v1) (week := week) (l := l) hw (by omega) (fun _ => trivial) (fun z => by
        rw [YH_y hy1, YG_y hy1, jr 75 (by decide), jr 76 (by decide)]; exact row0 z) (fun k hk => by rw [YH_y hy1]; exact hYb k hk) (o := nI (YO w week l)) (a2 := nI l)
      rw [YH_y hy1] at l3
      rw [YG_y hy1] at l1
      have f2 : Fr sS_L [(19, 8)] w v2 := f1.next l2 (by decide) (by simp)
      have hy2 := hy0 f2
      have ho : YO w week l ≤ 63 := by rw [YO_e]; exact jd_le
      have hpp : (YG w week l).2 ≤ 60 := Nat.le_trans YG_p (by omega)
      obtain ⟨v3, m1, m2, m3, m4, m5, m6⟩ := j113_e (w := v2) (hS.sm (f2.sm (by decide))) (hL.sm (f2.sm (by decide))) (week := week) (l := l) (c := 40 * week + l) (o := YO w week l) (p := (YG w week l).2) (g := YH w week l) (by rw [nn_eq (show v2.1 5 8 = w.1 5 8 by rw [(f2.row 5 (by decide) (by decide)).1])]; exact hl) (by omega) ho hpp l3 hYb
      have f3 : Fr sS_L [(19, 8)] w v3 := f2.next m2 (by decide) (by simp)
      have hx : X10_live_b18 (nI week) (nI l, v) = some (.inl (nI (l + 1), v3)) := by
        have e58 : v.1 5 8 = nI (nn w 5 8) := by rw [(h1.row 5 (by decide) (by decide)).1]; exact hL.1.2.2.1.1
        unfold X10_live_b18
        rw [e58, if_neg (show ¬ nI (nn w 5 8) ≤ nI l by rw [nI_leI (by omega) (by omega)]; omega)]
        simp only []
        rw [j1]
        simp only [Option.bind_some]
        rw [cell_e, show nI (40 * week + l) * (15 : Int32) = nI (15 * (40 * week + l)) by rw [show (15 : Int32) = nI 15 from rfl, nI_mul, Nat.mul_comm]]
        simp only [Option.bind_some] at l1
        rw [l1]
        exact m1
      rw [hx]
      have enx : nxY v2 l (YH w week l) (YG w week l).2 (YO w week l) = YG w (week + 1) l := by rw [nxY_y hy2, YG_s]
      rw [enx] at m4 m5
      have r74 : v2.1 74 = v.1 74 := by rw [(l2.row 74 (by decide) (by simp)).1]; exact jr 74 (by decide)
      have r76 : v2.1 76 = v.1 76 := by rw [(l2.row 76 (by decide) (by simp)).1]; exact jr 76 (by decide)
      have r75 : ∀ j, j < 15 * (40 * week + l) ∨ 15 * (40 * week + l) + 15 ≤ j → v3.1 75 j = v.1 75 j := fun j hj => by
        rw [m6 j hj, l4 j hj, jr 75 (by decide)]
      have rw3 : ∀ k, k ∉ [74, 75, 76] → k ∉ sS_J → v3.1 k = v.1 k := fun k k1 k2 => by
        rw [(m2.row k k1 (by simp)).1, (l2.row k (fun z => k1 (by simp only [List.mem_cons, List.not_mem_nil, or_false] at z ⊢; omega)) (by simp)).1]
        exact jr k k2
      have sep : ∀ wk i, wk ≤ week → i < 40 → (wk < week ∨ i < l) → ∀ k, k < 15 → (15 * (40 * wk + i) + k < 15 * (40 * week + l)) := fun wk i a1 a2 a3 k hk => by omega
      have old : ∀ wk i, wk ≤ week → i < 40 → (wk < week ∨ i < l) → (v3.1 74 (40 * wk + i) = v.1 74 (40 * wk + i) ∧ v3.1 76 (40 * wk + i) = v.1 76 (40 * wk + i) ∧ ∀ k, k < 15 → v3.1 75 (15 * (40 * wk + i) + k) = v.1 75 (15 * (40 * wk + i) + k)) := fun wk i a1 a2 a3 => by
        refine ⟨?_, ?_, fun k hk => r75 _ (Or.inl (sep wk i a1 a2 a3 k hk))⟩
        · rw [m3, upd_n (by omega), r74]
        · rw [m4, upd_n (by omega), r76]
      refine ok_i ⟨rfl, f3, ?_, ?_, ?_, fun m hm => ?_, fun wk hwk i hi => ?_, fun i hi => ?_⟩
      · exact IG.sm (hBv.sm (j2.sm (by decide))) j3 ((l2.wk (S' := [74, 75, 76]) (T' := []) (by decide) (by simp)).next m2 (by decide) (by simp) |>.sm (by decide))
      · exact h3.c (fun s t hs => by rw [lampS_y (hy0 f3), lampS_y hy]) (rw3 26 (by decide) (by decide)) (rw3 27 (by decide) (by decide)) (rw3 28 (by decide) (by decide)) (rw3 29 (by decide) (by decide))
      · rw [rw3 19 (by decide) (by decide)]; exact h4
      · have e78 : v3.1 78 = v1.1 78 := by rw [(m2.row 78 (by decide) (by simp)).1, (l2.row 78 (by decide) (by simp)).1]
        rw [show (nI (l + 1), v3).2 = v3 from rfl, e78, j4, YT_s]
        by_cases z : 3 ≤ YO w week l
        · rw [if_pos z]
          by_cases y : m = lmY w week l
          · rw [if_pos ⟨z, y⟩, y, upd_s]
          · rw [if_neg (fun t => y t.2), upd_n y]; exact h5 m hm
        · rw [if_neg z, if_neg (fun t => z t.1)]; exact h5 m hm
      · obtain ⟨o1, o2, o3⟩ := old wk i (by omega) (by omega) (Or.inl hwk)
        obtain ⟨p1, p2, p3⟩ := h6 wk hwk i hi
        exact ⟨o1.trans p1, o2.trans p2, fun k hk => (o3 k hk).trans (p3 k hk)⟩
      · by_cases z : i = l
        · subst z
          exact ⟨by rw [show (nI (i + 1), v3).2 = v3 from rfl, m3, upd_s], by rw [show (nI (i + 1), v3).2 = v3 from rfl, m4, upd_s], m5⟩
        · obtain ⟨o1, o2, o3⟩ := old week i (by omega) (by omega) (Or.inr (by omega))
          obtain ⟨p1, p2, p3⟩ := h7 i (by omega)
          exact ⟨o1.trans p1, o2.trans p2, fun k hk => (o3 k hk).trans (p3 k hk)⟩
    · rintro ⟨z, v⟩ ⟨rfl, h1, h2, h3, h4, h5, h6, h7⟩
      simp only at h1 h2 h3 h4 h5 h6 h7
      have e58 : v.1 5 8 = nI (nn w 5 8) := by rw [(h1.row 5 (by decide) (by decide)).1]; exact hL.1.2.2.1.1
      have hy := hy0 h1
      have n8 : nn v 5 8 = nn w 5 8 := nn_row ((h1.row 5 (by decide) (by decide)).1)
      unfold X10_live_b18
      simp (disch := omega) only [gdn, gb0, gb1, ixn, nm1, nI_add, nI_mul, nsub, nI_ltI, nI_leI, nI_eq, eqNO, eqNO2, ltNO, NOlt, leNO, NOle, if_pos, if_neg, Option.bind_some, if_true, if_false, and_self, eq_self, l0, l1, l2, l3, l4, l5, l6, l7, l8, l9, l10, l11, l12, l13, l14, l15, l16, l17, l18, l19, l20, l24, l26, l30, l31, l32, l40, l41, l42, l43, l45, l47, l48, l57, l58, l59, l60, l61, l62, l63, l64, l97, l99, l100, l101, l102, l103, l104, l105, l106, l107, l108, l109, l110, l122, l160, l240, l255, l600, l1000, l3000, l10000, l10007, l10116, l67108863, l67108864, e58]
      refine ok_i ⟨h1, h2, h3, h4, fun wk hwk i hi => ?_⟩
      rw [n8] at hi
      rw [YO_y hy, YG_y hy, YH_y hy]
      by_cases z : wk = week
      · subst z; exact h7 i hi
      · exact h6 wk (by omega) i hi
    · rw [← hx]
      exact IG.sm hB hG ((Fr.seI (c4.wk (S' := [26, 27, 28, 29, 78]) (T' := [(19, 8)]) (by decide) (by simp)) (by decide) : Fr [26, 27, 28, 29, 78] [(19, 8)] w _).sm (by decide))
    · rw [← hx]
      have f78 : Fr [78] [] w1 (seI w1 78 (fun j => if j < 12 then nI 0 else w1.1 78 j)) := Fr.seI Fr.rf (by decide)
      exact c2.c (fun s t _ => by rw [lampS_sm (f78.sm (by decide))]) (SI_oth (by decide)) (SI_oth (by decide)) (SI_oth (by decide)) (SI_oth (by decide))
    · rw [← hx]; show (seI w1 78 _).1 19 8 = _; rw [SI_oth (by decide)]; exact c3
    · rw [← hx]; show (seI w1 78 _).1 78 m = _; rw [SI_row, if_pos hm]; rfl
    · have n8 := hY wk hwk i hi
      have xr : ∀ k, k ∉ [26, 27, 28, 29, 78, 19] → x.1 k = w.1 k := fun k hk => by
        have e := (Fr.seI (c4.wk (S' := [26, 27, 28, 29, 78]) (T' := [(19, 8)]) (by decide) (by simp)) (by decide) : Fr [26, 27, 28, 29, 78] [(19, 8)] w (seI w1 78 (fun j => if j < 12 then nI 0 else w1.1 78 j)))
        rw [← hx]
        exact (e.row k (fun z => hk (by simp only [List.mem_cons, List.not_mem_nil, or_false] at z ⊢; omega)) (fun z => hk (by simp only [List.map_cons, List.map_nil, List.mem_cons, List.not_mem_nil, or_false] at z ⊢; omega))).1
      show x.1 74 _ = _ ∧ x.1 76 _ = _ ∧ rowY (x.1 75) _ _
      rw [xr 74 (by decide), xr 75 (by decide), xr 76 (by decide)]
      exact n8
  obtain ⟨v, k1, k2, k3, k4, k5, k6⟩ := key
  refine ⟨v, ?_, k2, k3, Or.inr ⟨week, hw, k5, k4⟩, k6⟩
  unfold X10_live
  rw [c1]
  simp only [Option.bind_some]
  rw [show (0 : Int32) = nI 0 from rfl, hfill]
  simp only [Option.bind_some]
  rw [k1]; rfl
def IY (w : Wd) : Prop := ∃ B, B ≤ 60 ∧ w.1 73 4 = nI B ∧ YR w B
theorem YR.c {w w' : Wd} {B : Nat} (h : YR w B) (e : Sm sR_Y sF_Y w w') (e5 : w'.1 5 8 = w.1 5 8) (e74 : w'.1 74 = w.1 74) (e75 : w'.1 75 = w.1 75) (e76 : w'.1 76 = w.1 76) : YR w' B := fun week hw l hl => by
  rw [nn_eq e5] at hl
  rw [YO_y e, YG_y e, YH_y e, e74, e75, e76]
  exact h week hw l hl
/-- reach(): the year is known up to a WEEK -/
theorem reach_e {w : Wd} (hL : IL w) (hN : IN w) (hC : IC w) (hB : IBo w) (hG : IG w) (hI : IR w) (hS : ILs w) (hY : IY w) {week : Nat} (hw : week < 60) : ∃ v, X10_reach (nI week) w = some v ∧ Fr sS_L [(19, 8), (73, 4)] w v ∧ IG v ∧ IC v ∧ IY v ∧ YR v (week + 1) := by
  obtain ⟨B, hB60, e73, hYR⟩ := hY
  have mono : ∀ {v : Wd} {A C : Nat}, A ≤ C → YR v C → YR v A := fun h1 h2 wk hwk => h2 wk (by omega)
  unfold X10_reach
  rw [e73]
  by_cases hq : week + 1 ≤ B
  · refine ⟨w, ?_, Fr.rf, hG, hC, ⟨B, hB60, e73, hYR⟩, mono hq hYR⟩
    rw [lp_exit (e := w) (by unfold X10_reach_b5; simp (disch := omega) only [gdn, gb0, gb1, ixn, nm1, nI_add, nI_mul, nsub, nI_ltI, nI_leI, nI_eq, eqNO, eqNO2, ltNO, NOlt, leNO, NOle, if_pos, if_neg, Option.bind_some, if_true, if_false, and_self, eq_self, l0, l1, l2, l3, l4, l5, l6, l7, l8, l9, l10, l11, l12, l13, l14, l15, l16, l17, l18, l19, l20, l24, l26, l30, l31, l32, l40, l41, l42, l43, l45, l47, l48, l57, l58, l59, l60, l61, l62, l63, l64, l97, l99, l100, l101, l102, l103, l104, l105, l106, l107, l108, l109, l110, l122, l160, l240, l255, l600, l1000, l3000, l10000, l10007, l10116, l67108863, l67108864])]; rfl
  · have key : ok (lp (X10_reach_b5 (nI week)) (nI B, w)) (fun v => Fr sS_L [(19, 8), (73, 4)] w v ∧ IG v ∧ IC v ∧ IY v ∧ YR v (week + 1)) := by
      refine lp_up (fun i s => s.1 = nI (B + i) ∧ Fr sS_L [(19, 8), (73, 4)] w s.2 ∧ IG s.2 ∧ IC s.2 ∧ s.2.1 73 4 = nI (B + i) ∧ YR s.2 (B + i)) (week + 1 - B) ?_ ?_ 0 _ (Nat.zero_le _) ⟨rfl, Fr.rf, hG, hC, e73, hYR⟩
      · rintro i ⟨z, v⟩ hi ⟨rfl, h1, h2, h3, h4, h5⟩
        simp only at h1 h2 h3 h4 h5
        obtain ⟨v1, k1, k2, k3, k4, k5⟩ := live_e (hL.sm (h1.sm (by decide))) (hN.sm (h1.sm (by decide))) h3 (hB.sm (h1.sm (by decide))) h2 (hI.sm (h1.sm (by decide))) (hS.sm (h1.sm (by decide))) (week := B + i) (by omega) h5
        have f2 : Fr [] [(73, 4)] v1 (puI v1 73 4 (nI (B + i + 1))) := Fr.pfI Fr.rf (by decide)
        unfold X10_reach_b5
        simp (disch := omega) only [gdn, gb0, gb1, ixn, nm1, nI_add, nI_mul, nsub, nI_ltI, nI_leI, nI_eq, eqNO, eqNO2, ltNO, NOlt, leNO, NOle, if_pos, if_neg, Option.bind_some, if_true, if_false, and_self, eq_self, l0, l1, l2, l3, l4, l5, l6, l7, l8, l9, l10, l11, l12, l13, l14, l15, l16, l17, l18, l19, l20, l24, l26, l30, l31, l32, l40, l41, l42, l43, l45, l47, l48, l57, l58, l59, l60, l61, l62, l63, l64, l97, l99, l100, l101, l102, l103, l104, l105, l106, l107, l108, l109, l110, l122, l160, l240, l255, l600, l1000, l3000, l10000, l10007, l10116, l67108863, l67108864, k1]
        refine ok_i ⟨by rw [Nat.add_assoc], (h1.next k2 (by decide) (by decide)).next f2 (by simp) (by decide), IG.sm ((hB.sm (h1.sm (by decide))).sm (k2.sm (by decide))) k3 (f2.sm (by decide)), k4.sm (f2.sm (by decide)), ?_, ?_⟩
        · show (puI v1 73 4 _).1 73 4 = _
          rw [I_self, Nat.add_assoc]
        · rw [← Nat.add_assoc]
          exact k5.c (f2.sm (by decide)) (by rw [I_oth (by decide)]) (I_oth (by decide)) (I_oth (by decide)) (I_oth (by decide))
      · rintro ⟨z, v⟩ ⟨rfl, h1, h2, h3, h4, h5⟩
        simp only at h1 h2 h3 h4 h5
        have e : B + (week + 1 - B) = week + 1 := by omega
        rw [e] at h4 h5
        unfold X10_reach_b5
        rw [e]
        simp (disch := omega) only [gdn, gb0, gb1, ixn, nm1, nI_add, nI_mul, nsub, nI_ltI, nI_leI, nI_eq, eqNO, eqNO2, ltNO, NOlt, leNO, NOle, if_pos, if_neg, Option.bind_some, if_true, if_false, and_self, eq_self, l0, l1, l2, l3, l4, l5, l6, l7, l8, l9, l10, l11, l12, l13, l14, l15, l16, l17, l18, l19, l20, l24, l26, l30, l31, l32, l40, l41, l42, l43, l45, l47, l48, l57, l58, l59, l60, l61, l62, l63, l64, l97, l99, l100, l101, l102, l103, l104, l105, l106, l107, l108, l109, l110, l122, l160, l240, l255, l600, l1000, l3000, l10000, l10007, l10116, l67108863, l67108864]
        exact ok_i ⟨h1, h2, h3, ⟨week + 1, by omega, h4, h5⟩, h5⟩
    obtain ⟨v, k1, k2⟩ := key
    refine ⟨v, ?_, k2⟩
    rw [k1]; rfl
