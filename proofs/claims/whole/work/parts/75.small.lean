/-! feed, fault, sent -/
theorem nar_byte (x : Int32) : vp_nar .byte x = (Int32.toInt8 x).toInt32 := rfl
def byt (a : Int32) (k : Nat) : Int32 := vp_nar .byte (Int32.toInt8 (a >>> (nI k &&& nI 31))).toInt32
def ap4 (a : Int32) (n : Nat) (f : Nat → Int32) : Nat → Int32 := upd (upd (upd (upd f n (byt a 24)) (n + 1) (byt a 16)) (n + 2) (byt a 8)) (n + 3) (byt a 0)
def IB (w : Wd) : Prop := isN w 65 2 601 ∧ w.1 97 33 = w.1 65 2 ∧ w.1 120 = w.1 66 ∧ ∀ i, -128 ≤ (w.1 66 i).toInt ∧ (w.1 66 i).toInt ≤ 127
theorem byt_r (a : Int32) (k : Nat) : -128 ≤ (byt a k).toInt ∧ (byt a k).toInt ≤ 127 := by
  unfold byt
  rw [nar_byte]
  rw [Int8.toInt_toInt32]
  have h1 := (Int32.toInt8 ((Int32.toInt8 (a >>> (nI k &&& nI 31))).toInt32)).le_toInt
  have h2 := (Int32.toInt8 ((Int32.toInt8 (a >>> (nI k &&& nI 31))).toInt32)).toInt_lt
  omega
theorem m8 : (-8 : Int32) = -nI 8 := rfl
theorem pp2 {w : Wd} {a b i j : Nat} {F : Nat → Int32} {x y v : Int32} (h : a ≠ b) : puI (puI (puI (seI w a F) b i x) a j v) b i y = puI (seI w a (upd F j v)) b i y := by
  unfold puI seI
  simp only [Prod.mk.injEq, and_true]
  funext k
  simp only [va_up]
  by_cases h1 : k = b
  · have h2 : ¬ k = a := fun z => h (z.symm.trans h1)
    have h3 : ¬ b = a := fun z => h z.symm
    rw [if_pos h1, if_pos h1, if_neg h3, if_neg h3, if_true]
    funext q
    unfold upd
    split <;> rfl
  · by_cases h2 : k = a
    · rw [if_neg h1, if_neg h1, if_pos h2, if_pos h2, if_neg h, if_true, if_neg h1]
    · rw [if_neg h1, if_neg h1, if_neg h2, if_neg h2, if_neg h1, if_neg h2]
theorem pp0 {w : Wd} {a b i : Nat} {x : Int32} (h : w.1 b i = x) : puI (seI w a (w.1 a)) b i x = w := by
  rw [seI_same rfl]
  unfold puI
  refine seI_same ?_
  funext q
  unfold upd
  by_cases z : q = i
  · rw [if_pos z, z, h]
  · rw [if_neg z]
theorem append_e {w : Wd} {a : Int32} {n : Nat} {G : Nat → Int32} (hn : n + 4 ≤ 600) : X6_append a (puI (seI w 66 G) 65 2 (nI n)) = some (puI (seI w 66 (ap4 a n G)) 65 2 (nI (n + 4))) := by
  have st : ∀ (i k : Nat) (F : Nat → Int32), i < 4 → k < 25 → X6_append_b3 a (nI k, puI (seI w 66 F) 65 2 (nI (n + i))) = some (.inl (nI k + -8, puI (seI w 66 (upd F (n + i) (byt a k))) 65 2 (nI (n + (i + 1))))) := by
    intro i k F hi hk
    unfold X6_append_b3
    simp (disch := omega) only [gdn, gb0, gb1, ixn, nm1, nI_add, nI_mul, nsub, nI_ltI, nI_leI, nI_eq, eqNO, eqNO2, ltNO, NOlt, leNO, NOle, if_pos, if_neg, Option.bind_some, if_true, if_false, and_self, eq_self, l0, l1, l2, l3, l4, l5, l6, l7, l8, l9, l10, l11, l12, l13, l14, l15, l16, l17, l18, l19, l20, l24, l26, l30, l31, l32, l40, l41, l42, l43, l45, l47, l48, l57, l58, l59, l60, l61, l62, l63, l64, l97, l99, l100, l101, l102, l103, l104, l105, l106, l107, l108, l109, l110, l122, l160, l240, l255, l600, l1000, l3000, l10000, l10007, l10116, l67108863, l67108864, I_oth, I_J, J_oth, J_I, I_row, J_row, SI_row, SI_oth, SI_J, SJ_row, SJ_oth, SJ_I, upd_s, upd_n, updL_s, updL_n, ne_eq, not_false_eq_true, nar_byte]
    rw [pp2 (by decide)]
    rfl
  unfold X6_append
  rw [show ((24 : Int32), puI (seI w 66 G) 65 2 (nI n)) = (nI 24, puI (seI w 66 G) 65 2 (nI (n + 0))) from rfl]
  rw [lp_step (st 0 24 _ (by omega) (by omega)), show nI 24 + -8 = nI 16 from rfl, lp_step (st 1 16 _ (by omega) (by omega)), show nI 16 + -8 = nI 8 from rfl, lp_step (st 2 8 _ (by omega) (by omega)), show nI 8 + -8 = nI 0 from rfl, lp_step (st 3 0 _ (by omega) (by omega))]
  rw [lp_exit (e := puI (seI w 66 (ap4 a n G)) 65 2 (nI (n + 4))) (by unfold X6_append_b3; rw [if_pos (show nI 0 + (-8 : Int32) < 0 by decide)]; rfl)]
  rfl
theorem four_e {w : Wd} {a : Int32} {n : Nat} {G : Nat → Int32} (hn : n + 4 ≤ 600) : X12_four a (puI (seI w 120 G) 97 33 (nI n)) = some (puI (seI w 120 (ap4 a n G)) 97 33 (nI (n + 4))) := by
  have st : ∀ (i k : Nat) (F : Nat → Int32), i < 4 → k < 25 → X12_four_b3 a (nI k, puI (seI w 120 F) 97 33 (nI (n + i))) = some (.inl (nI k + -8, puI (seI w 120 (upd F (n + i) (byt a k))) 97 33 (nI (n + (i + 1))))) := by
    intro i k F hi hk
    unfold X12_four_b3
    simp (disch := omega) only [gdn, gb0, gb1, ixn, nm1, nI_add, nI_mul, nsub, nI_ltI, nI_leI, nI_eq, eqNO, eqNO2, ltNO, NOlt, leNO, NOle, if_pos, if_neg, Option.bind_some, if_true, if_false, and_self, eq_self, l0, l1, l2, l3, l4, l5, l6, l7, l8, l9, l10, l11, l12, l13, l14, l15, l16, l17, l18, l19, l20, l24, l26, l30, l31, l32, l40, l41, l42, l43, l45, l47, l48, l57, l58, l59, l60, l61, l62, l63, l64, l97, l99, l100, l101, l102, l103, l104, l105, l106, l107, l108, l109, l110, l122, l160, l240, l255, l600, l1000, l3000, l10000, l10007, l10116, l67108863, l67108864, I_oth, I_J, J_oth, J_I, I_row, J_row, SI_row, SI_oth, SI_J, SJ_row, SJ_oth, SJ_I, upd_s, upd_n, updL_s, updL_n, ne_eq, not_false_eq_true, nar_byte]
    rw [pp2 (by decide)]
    rfl
  unfold X12_four
  rw [show ((24 : Int32), puI (seI w 120 G) 97 33 (nI n)) = (nI 24, puI (seI w 120 G) 97 33 (nI (n + 0))) from rfl]
  rw [lp_step (st 0 24 _ (by omega) (by omega)), show nI 24 + -8 = nI 16 from rfl, lp_step (st 1 16 _ (by omega) (by omega)), show nI 16 + -8 = nI 8 from rfl, lp_step (st 2 8 _ (by omega) (by omega)), show nI 8 + -8 = nI 0 from rfl, lp_step (st 3 0 _ (by omega) (by omega))]
  rw [lp_exit (e := puI (seI w 120 (ap4 a n G)) 97 33 (nI (n + 4))) (by unfold X12_four_b3; rw [if_pos (show nI 0 + (-8 : Int32) < 0 by decide)]; rfl)]
  rfl
theorem ap4_r {a : Int32} {n : Nat} {f : Nat → Int32} (h : ∀ i, -128 ≤ (f i).toInt ∧ (f i).toInt ≤ 127) (i : Nat) : -128 ≤ (ap4 a n f i).toInt ∧ (ap4 a n f i).toInt ≤ 127 := by
  unfold ap4 upd
  split
  · exact byt_r _ _
  · split
    · exact byt_r _ _
    · split
      · exact byt_r _ _
      · split
        · exact byt_r _ _
        · exact h i
theorem o_feed (a1 a2 a3 a4 a5 : Int32) {w : Wd} (h : IB w) : two (X11_feed a1 a2 a3 a4 a5) (X12_feed a1 a2 a3 a4 a5) w (fun w' => w' = w ∨ IB w') := by
  obtain ⟨⟨c, b⟩, m, r, hr⟩ := h
  rw [c] at m
  by_cases hv : nn w 65 2 + 20 ≤ 600
  · have p1 := append_e (w := w) (a := a1) (n := nn w 65 2) (G := (w.1 66)) (by omega)
    have p2 := append_e (w := w) (a := a2) (n := nn w 65 2 + 4) (G := (ap4 a1 (nn w 65 2) (w.1 66))) (by omega)
    have p3 := append_e (w := w) (a := a3) (n := nn w 65 2 + 4 + 4) (G := (ap4 a2 (nn w 65 2 + 4) (ap4 a1 (nn w 65 2) (w.1 66)))) (by omega)
    have p4 := append_e (w := w) (a := a4) (n := nn w 65 2 + 4 + 4 + 4) (G := (ap4 a3 (nn w 65 2 + 4 + 4) (ap4 a2 (nn w 65 2 + 4) (ap4 a1 (nn w 65 2) (w.1 66))))) (by omega)
    have p5 := append_e (w := w) (a := a5) (n := nn w 65 2 + 4 + 4 + 4 + 4) (G := (ap4 a4 (nn w 65 2 + 4 + 4 + 4) (ap4 a3 (nn w 65 2 + 4 + 4) (ap4 a2 (nn w 65 2 + 4) (ap4 a1 (nn w 65 2) (w.1 66)))))) (by omega)
    rw [pp0 c] at p1
    have k1 : X11_feed a1 a2 a3 a4 a5 w = some (nI (nn w 65 2 + 4 + 4 + 4 + 4 + 4), puI (seI w 66 (ap4 a5 (nn w 65 2 + 4 + 4 + 4 + 4) (ap4 a4 (nn w 65 2 + 4 + 4 + 4) (ap4 a3 (nn w 65 2 + 4 + 4) (ap4 a2 (nn w 65 2 + 4) (ap4 a1 (nn w 65 2) (w.1 66))))))) 65 2 (nI (nn w 65 2 + 4 + 4 + 4 + 4 + 4))) := by
      unfold X11_feed X6_hasRoomForFive X6_hasRoomForFiveO
      rw [p1]
      simp only [Option.bind_some]
      rw [p2]
      simp only [Option.bind_some]
      rw [p3]
      simp only [Option.bind_some]
      rw [p4]
      simp only [Option.bind_some]
      rw [p5]
      simp (disch := omega) only [gdn, gb0, gb1, ixn, nm1, nI_add, nI_mul, nsub, nI_ltI, nI_leI, nI_eq, eqNO, eqNO2, ltNO, NOlt, leNO, NOle, if_pos, if_neg, Option.bind_some, if_true, if_false, and_self, eq_self, l0, l1, l2, l3, l4, l5, l6, l7, l8, l9, l10, l11, l12, l13, l14, l15, l16, l17, l18, l19, l20, l24, l26, l30, l31, l32, l40, l41, l42, l43, l45, l47, l48, l57, l58, l59, l60, l61, l62, l63, l64, l97, l99, l100, l101, l102, l103, l104, l105, l106, l107, l108, l109, l110, l122, l160, l240, l255, l600, l1000, l3000, l10000, l10007, l10116, l67108863, l67108864, I_oth, I_J, J_oth, J_I, I_row, J_row, SI_row, SI_oth, SI_J, SJ_row, SJ_oth, SJ_I, upd_s, upd_n, updL_s, updL_n, ne_eq, not_false_eq_true, c]
      rfl
    generalize hW : puI (seI w 66 (ap4 a5 (nn w 65 2 + 4 + 4 + 4 + 4) (ap4 a4 (nn w 65 2 + 4 + 4 + 4) (ap4 a3 (nn w 65 2 + 4 + 4) (ap4 a2 (nn w 65 2 + 4) (ap4 a1 (nn w 65 2) (w.1 66))))))) 65 2 (nI (nn w 65 2 + 4 + 4 + 4 + 4 + 4)) = W at k1
    have mW : W.1 97 33 = nI (nn w 65 2) := by rw [← hW]; exact m
    have rW : W.1 120 = w.1 66 := by rw [← hW]; exact r
    have q1 := four_e (w := W) (a := a1) (n := nn w 65 2) (G := (W.1 120)) (by omega)
    have q2 := four_e (w := W) (a := a2) (n := nn w 65 2 + 4) (G := (ap4 a1 (nn w 65 2) (W.1 120))) (by omega)
    have q3 := four_e (w := W) (a := a3) (n := nn w 65 2 + 4 + 4) (G := (ap4 a2 (nn w 65 2 + 4) (ap4 a1 (nn w 65 2) (W.1 120)))) (by omega)
    have q4 := four_e (w := W) (a := a4) (n := nn w 65 2 + 4 + 4 + 4) (G := (ap4 a3 (nn w 65 2 + 4 + 4) (ap4 a2 (nn w 65 2 + 4) (ap4 a1 (nn w 65 2) (W.1 120))))) (by omega)
    have q5 := four_e (w := W) (a := a5) (n := nn w 65 2 + 4 + 4 + 4 + 4) (G := (ap4 a4 (nn w 65 2 + 4 + 4 + 4) (ap4 a3 (nn w 65 2 + 4 + 4) (ap4 a2 (nn w 65 2 + 4) (ap4 a1 (nn w 65 2) (W.1 120)))))) (by omega)
    rw [pp0 mW] at q1
    have k2 : X12_feed a1 a2 a3 a4 a5 W = some (nI (nn w 65 2 + 4 + 4 + 4 + 4 + 4), puI (seI W 120 (ap4 a5 (nn w 65 2 + 4 + 4 + 4 + 4) (ap4 a4 (nn w 65 2 + 4 + 4 + 4) (ap4 a3 (nn w 65 2 + 4 + 4) (ap4 a2 (nn w 65 2 + 4) (ap4 a1 (nn w 65 2) (W.1 120))))))) 97 33 (nI (nn w 65 2 + 4 + 4 + 4 + 4 + 4))) := by
      unfold X12_feed
      rw [q1]
      simp only [Option.bind_some]
      rw [q2]
      simp only [Option.bind_some]
      rw [q3]
      simp only [Option.bind_some]
      rw [q4]
      simp only [Option.bind_some]
      rw [q5]
      simp (disch := omega) only [gdn, gb0, gb1, ixn, nm1, nI_add, nI_mul, nsub, nI_ltI, nI_leI, nI_eq, eqNO, eqNO2, ltNO, NOlt, leNO, NOle, if_pos, if_neg, Option.bind_some, if_true, if_false, and_self, eq_self, l0, l1, l2, l3, l4, l5, l6, l7, l8, l9, l10, l11, l12, l13, l14, l15, l16, l17, l18, l19, l20, l24, l26, l30, l31, l32, l40, l41, l42, l43, l45, l47, l48, l57, l58, l59, l60, l61, l62, l63, l64, l97, l99, l100, l101, l102, l103, l104, l105, l106, l107, l108, l109, l110, l122, l160, l240, l255, l600, l1000, l3000, l10000, l10007, l10116, l67108863, l67108864, I_oth, I_J, J_oth, J_I, I_row, J_row, SI_row, SI_oth, SI_J, SJ_row, SJ_oth, SJ_I, upd_s, upd_n, updL_s, updL_n, ne_eq, not_false_eq_true, mW]
    refine ⟨_, _, _, k1, k2, Or.inr ⟨?_, ?_, ?_, ?_⟩⟩
    · exact isN.of (n := nn w 65 2 + 20) (by rw [← hW]; rfl) (by omega) (by omega)
    · rw [← hW]; rfl
    · rw [rW, ← hW]; rfl
    · rw [← hW]; exact ap4_r (ap4_r (ap4_r (ap4_r (ap4_r hr))))
  · refine ⟨NO, w, w, ?_, ?_, Or.inl rfl⟩
    · unfold X11_feed X6_hasRoomForFive X6_hasRoomForFiveO
      simp (disch := omega) only [gdn, gb0, gb1, ixn, nm1, nI_add, nI_mul, nsub, nI_ltI, nI_leI, nI_eq, eqNO, eqNO2, ltNO, NOlt, leNO, NOle, if_pos, if_neg, Option.bind_some, if_true, if_false, and_self, eq_self, l0, l1, l2, l3, l4, l5, l6, l7, l8, l9, l10, l11, l12, l13, l14, l15, l16, l17, l18, l19, l20, l24, l26, l30, l31, l32, l40, l41, l42, l43, l45, l47, l48, l57, l58, l59, l60, l61, l62, l63, l64, l97, l99, l100, l101, l102, l103, l104, l105, l106, l107, l108, l109, l110, l122, l160, l240, l255, l600, l1000, l3000, l10000, l10007, l10116, l67108863, l67108864, I_oth, I_J, J_oth, J_I, I_row, J_row, SI_row, SI_oth, SI_J, SJ_row, SJ_oth, SJ_I, upd_s, upd_n, updL_s, updL_n, ne_eq, not_false_eq_true, c]
      rfl
    · unfold X12_feed
      simp (disch := omega) only [gdn, gb0, gb1, ixn, nm1, nI_add, nI_mul, nsub, nI_ltI, nI_leI, nI_eq, eqNO, eqNO2, ltNO, NOlt, leNO, NOle, if_pos, if_neg, Option.bind_some, if_true, if_false, and_self, eq_self, l0, l1, l2, l3, l4, l5, l6, l7, l8, l9, l10, l11, l12, l13, l14, l15, l16, l17, l18, l19, l20, l24, l26, l30, l31, l32, l40, l41, l42, l43, l45, l47, l48, l57, l58, l59, l60, l61, l62, l63, l64, l97, l99, l100, l101, l102, l103, l104, l105, l106, l107, l108, l109, l110, l122, l160, l240, l255, l600, l1000, l3000, l10000, l10007, l10116, l67108863, l67108864, I_oth, I_J, J_oth, J_I, I_row, J_row, SI_row, SI_oth, SI_J, SJ_row, SJ_oth, SJ_I, upd_s, upd_n, updL_s, updL_n, ne_eq, not_false_eq_true, m]
theorem o_fault (a1 : Int32) {w : Wd} (h1 : w.1 97 39 = w.1 65 4) (h2 : w.1 97 40 = w.1 65 5) : X11_fault a1 w = X12_fault a1 w := by
  unfold X11_fault X12_fault X11_faultO X12_faultO
  rw [h1, h2]
def ISn (w : Wd) : Prop := isN w 88 6 8 ∧ w.1 97 105 = w.1 88 6 ∧ ∀ i, i < 7 → w.1 175 i = w.1 94 i
theorem o_sent (a1 : Int32) {w : Wd} (h : ISn w) : two (X11_sent a1) (X12_sent a1) w (fun w' => St w w') := by
  obtain ⟨⟨c, b⟩, m, r⟩ := h
  rw [c] at m
  by_cases hv : 0 ≤ a1.toInt
  · obtain ⟨k, hk, rfl⟩ := nI_of (x := a1) (by rw [lt_t, tl_0]; omega)
    by_cases q : k < nn w 88 6
    · refine ⟨w.1 94 k, puI w 0 10 (nI 0), puI (puI w 0 10 (nI 0)) 97 0 (nI 0), ?_, ?_, ⟨_, rfl⟩⟩
      · unfold X11_sent
        simp (disch := omega) only [gdn, gb0, gb1, ixn, nm1, nI_add, nI_mul, nsub, nI_ltI, nI_leI, nI_eq, eqNO, eqNO2, ltNO, NOlt, leNO, NOle, if_pos, if_neg, Option.bind_some, if_true, if_false, and_self, eq_self, l0, l1, l2, l3, l4, l5, l6, l7, l8, l9, l10, l11, l12, l13, l14, l15, l16, l17, l18, l19, l20, l24, l26, l30, l31, l32, l40, l41, l42, l43, l45, l47, l48, l57, l58, l59, l60, l61, l62, l63, l64, l97, l99, l100, l101, l102, l103, l104, l105, l106, l107, l108, l109, l110, l122, l160, l240, l255, l600, l1000, l3000, l10000, l10007, l10116, l67108863, l67108864, I_oth, I_J, J_oth, J_I, I_row, J_row, SI_row, SI_oth, SI_J, SJ_row, SJ_oth, SJ_I, upd_s, upd_n, updL_s, updL_n, ne_eq, not_false_eq_true, c, answer_e]
      · unfold X12_sent
        have r' := r k (by omega)
        simp (disch := omega) only [gdn, gb0, gb1, ixn, nm1, nI_add, nI_mul, nsub, nI_ltI, nI_leI, nI_eq, eqNO, eqNO2, ltNO, NOlt, leNO, NOle, if_pos, if_neg, Option.bind_some, if_true, if_false, and_self, eq_self, l0, l1, l2, l3, l4, l5, l6, l7, l8, l9, l10, l11, l12, l13, l14, l15, l16, l17, l18, l19, l20, l24, l26, l30, l31, l32, l40, l41, l42, l43, l45, l47, l48, l57, l58, l59, l60, l61, l62, l63, l64, l97, l99, l100, l101, l102, l103, l104, l105, l106, l107, l108, l109, l110, l122, l160, l240, l255, l600, l1000, l3000, l10000, l10007, l10116, l67108863, l67108864, I_oth, I_J, J_oth, J_I, I_row, J_row, SI_row, SI_oth, SI_J, SJ_row, SJ_oth, SJ_I, upd_s, upd_n, updL_s, updL_n, ne_eq, not_false_eq_true, m, mgiv_e, r']
    · refine two_ref (nI 6) (r := NO) ?_ ?_ (fun w' z => z)
      · unfold X11_sent
        simp (disch := omega) only [gdn, gb0, gb1, ixn, nm1, nI_add, nI_mul, nsub, nI_ltI, nI_leI, nI_eq, eqNO, eqNO2, ltNO, NOlt, leNO, NOle, if_pos, if_neg, Option.bind_some, if_true, if_false, and_self, eq_self, l0, l1, l2, l3, l4, l5, l6, l7, l8, l9, l10, l11, l12, l13, l14, l15, l16, l17, l18, l19, l20, l24, l26, l30, l31, l32, l40, l41, l42, l43, l45, l47, l48, l57, l58, l59, l60, l61, l62, l63, l64, l97, l99, l100, l101, l102, l103, l104, l105, l106, l107, l108, l109, l110, l122, l160, l240, l255, l600, l1000, l3000, l10000, l10007, l10116, l67108863, l67108864, I_oth, I_J, J_oth, J_I, I_row, J_row, SI_row, SI_oth, SI_J, SJ_row, SJ_oth, SJ_I, upd_s, upd_n, updL_s, updL_n, ne_eq, not_false_eq_true, c, deny_e]
      · unfold X12_sent
        simp (disch := omega) only [gdn, gb0, gb1, ixn, nm1, nI_add, nI_mul, nsub, nI_ltI, nI_leI, nI_eq, eqNO, eqNO2, ltNO, NOlt, leNO, NOle, if_pos, if_neg, Option.bind_some, if_true, if_false, and_self, eq_self, l0, l1, l2, l3, l4, l5, l6, l7, l8, l9, l10, l11, l12, l13, l14, l15, l16, l17, l18, l19, l20, l24, l26, l30, l31, l32, l40, l41, l42, l43, l45, l47, l48, l57, l58, l59, l60, l61, l62, l63, l64, l97, l99, l100, l101, l102, l103, l104, l105, l106, l107, l108, l109, l110, l122, l160, l240, l255, l600, l1000, l3000, l10000, l10007, l10116, l67108863, l67108864, I_oth, I_J, J_oth, J_I, I_row, J_row, SI_row, SI_oth, SI_J, SJ_row, SJ_oth, SJ_I, upd_s, upd_n, updL_s, updL_n, ne_eq, not_false_eq_true, m, mref_e]
  · refine two_ref (nI 1) (r := NO) ?_ ?_ (fun w' z => z)
    · unfold X11_sent
      simp (disch := omega) only [gdn, gb0, gb1, ixn, nm1, nI_add, nI_mul, nsub, nI_ltI, nI_leI, nI_eq, eqNO, eqNO2, ltNO, NOlt, leNO, NOle, if_pos, if_neg, Option.bind_some, if_true, if_false, and_self, eq_self, l0, l1, l2, l3, l4, l5, l6, l7, l8, l9, l10, l11, l12, l13, l14, l15, l16, l17, l18, l19, l20, l24, l26, l30, l31, l32, l40, l41, l42, l43, l45, l47, l48, l57, l58, l59, l60, l61, l62, l63, l64, l97, l99, l100, l101, l102, l103, l104, l105, l106, l107, l108, l109, l110, l122, l160, l240, l255, l600, l1000, l3000, l10000, l10007, l10116, l67108863, l67108864, I_oth, I_J, J_oth, J_I, I_row, J_row, SI_row, SI_oth, SI_J, SJ_row, SJ_oth, SJ_I, upd_s, upd_n, updL_s, updL_n, ne_eq, not_false_eq_true, lt_t, le_t, tI, NO_t, flag0, flag1, ite_or2, ite_self, true_or, or_true, false_or, or_false, true_and, and_true, false_and, and_false, not_true_eq_false, deny_e]
    · unfold X12_sent
      simp (disch := omega) only [gdn, gb0, gb1, ixn, nm1, nI_add, nI_mul, nsub, nI_ltI, nI_leI, nI_eq, eqNO, eqNO2, ltNO, NOlt, leNO, NOle, if_pos, if_neg, Option.bind_some, if_true, if_false, and_self, eq_self, l0, l1, l2, l3, l4, l5, l6, l7, l8, l9, l10, l11, l12, l13, l14, l15, l16, l17, l18, l19, l20, l24, l26, l30, l31, l32, l40, l41, l42, l43, l45, l47, l48, l57, l58, l59, l60, l61, l62, l63, l64, l97, l99, l100, l101, l102, l103, l104, l105, l106, l107, l108, l109, l110, l122, l160, l240, l255, l600, l1000, l3000, l10000, l10007, l10116, l67108863, l67108864, I_oth, I_J, J_oth, J_I, I_row, J_row, SI_row, SI_oth, SI_J, SJ_row, SJ_oth, SJ_I, upd_s, upd_n, updL_s, updL_n, ne_eq, not_false_eq_true, lt_t, le_t, tI, NO_t, flag0, flag1, ite_or2, ite_self, true_or, or_true, false_or, or_false, true_and, and_true, false_and, and_false, not_true_eq_false, mref_e]
/-! sets as numbers -/
theorem shl1 {k : Nat} (h : k < 31) : (nI 1) <<< (nI k &&& nI 31) = nI (2 ^ k) := by
  have : ∀ k : Fin 31, (nI 1) <<< (nI k.1 &&& nI 31) = nI (2 ^ k.1) := by decide
  exact this ⟨k, h⟩
theorem shm {k : Nat} (h : k < 31) : ((nI k &&& nI 31).toBitVec.smod 32).toNat = k := by
  have : ∀ k : Fin 31, ((nI k.1 &&& nI 31).toBitVec.smod 32).toNat = k.1 := by decide
  exact this ⟨k, h⟩
theorem shr1 {D k : Nat} (hD : D < 2 ^ 31) (h : k < 31) : nI D >>> (nI k &&& nI 31) = nI (D / 2 ^ k) := pk_shrN hD _ k (shm h)
theorem and1 {D : Nat} (hD : D < 2 ^ 31) : nI D &&& nI 1 = nI (D % 2) := pk_andN (by omega) 1 (by decide)
theorem bit_e {D k : Nat} (hD : D < 2 ^ 31) (h : k < 31) : (nI D >>> (nI k &&& nI 31)) &&& nI 1 = if D.testBit k then nI 1 else nI 0 := by
  have h1 : D / 2 ^ k < 2 ^ 31 := Nat.lt_of_le_of_lt (Nat.div_le_self _ _) hD
  rw [shr1 hD h, and1 h1]
  by_cases q : D.testBit k = true
  · rw [if_pos q]
    rw [Nat.testBit_eq_decide_div_mod_eq, decide_eq_true_eq] at q
    rw [q]
  · rw [if_neg q]
    rw [Nat.testBit_eq_decide_div_mod_eq, decide_eq_true_eq] at q
    rw [show D / 2 ^ k % 2 = 0 by omega]
theorem or_e (a b : Nat) : nI a ||| nI b = nI (a ||| b) := by
  rw [← Int32.toBitVec_inj, Int32.toBitVec_or]
  rw [show (nI a).toBitVec = BitVec.ofNat 32 a from rfl, show (nI b).toBitVec = BitVec.ofNat 32 b from rfl, show (nI (a ||| b)).toBitVec = BitVec.ofNat 32 (a ||| b) from rfl]
  apply BitVec.eq_of_getLsbD_eq
  intro i hi
  simp only [BitVec.getLsbD_or, BitVec.getLsbD_ofNat, Nat.testBit_or, hi, decide_true, Bool.true_and]
theorem and_e (a b : Nat) : nI a &&& nI b = nI (a &&& b) := by
  rw [← Int32.toBitVec_inj, Int32.toBitVec_and]
  rw [show (nI a).toBitVec = BitVec.ofNat 32 a from rfl, show (nI b).toBitVec = BitVec.ofNat 32 b from rfl, show (nI (a &&& b)).toBitVec = BitVec.ofNat 32 (a &&& b) from rfl]
  apply BitVec.eq_of_getLsbD_eq
  intro i hi
  simp only [BitVec.getLsbD_and, BitVec.getLsbD_ofNat, Nat.testBit_and, hi, decide_true, Bool.true_and]
theorem sub_e {L D : Nat} (hL : L < 2 ^ 31) : (nI L &&& (nI D ^^^ NO) = nI 0) ↔ ∀ k, L.testBit k = true → D.testBit k = true := by
  rw [← Int32.toBitVec_inj, Int32.toBitVec_and, Int32.toBitVec_xor]
  rw [show (nI L).toBitVec = BitVec.ofNat 32 L from rfl, show (nI D).toBitVec = BitVec.ofNat 32 D from rfl, show NO.toBitVec = BitVec.allOnes 32 by decide, show (nI 0).toBitVec = 0#32 from rfl]
  constructor
  · intro h k hk
    have h1 := congrArg (fun b => b.getLsbD k) h
    have hk32 : k < 32 := by
      by_cases q : k < 32
      · exact q
      · rw [Nat.testBit_lt_two_pow (Nat.lt_of_lt_of_le hL (Nat.pow_le_pow_right (by omega) (by omega)))] at hk
        cases hk
    simp only [BitVec.getLsbD_and, BitVec.getLsbD_xor, BitVec.getLsbD_ofNat, BitVec.getLsbD_allOnes, BitVec.getLsbD_zero, hk32, hk, decide_true, Bool.true_and] at h1
    simpa using h1
  · intro h
    apply BitVec.eq_of_getLsbD_eq
    intro i hi
    have := h i
    simp only [BitVec.getLsbD_and, BitVec.getLsbD_xor, BitVec.getLsbD_ofNat, BitVec.getLsbD_allOnes, BitVec.getLsbD_zero, hi, decide_true, Bool.true_and]
    cases hL2 : L.testBit i with
    | false => rw [Nat.zero_testBit]; rfl
    | true => rw [this hL2, Nat.zero_testBit]; rfl
