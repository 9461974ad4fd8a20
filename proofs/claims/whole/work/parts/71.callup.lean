/-! rows of ints -/
def rI (n : Nat) (F : Nat → Int32) (z : Nat → Int32) : Nat → Int32 := fun j => if j < n then F j else z j
theorem rI_lt {n : Nat} {F : Nat → Int32} {z : Nat → Int32} {j : Nat} (h : j < n) : rI n F z j = F j := if_pos h
theorem upd_rI {n b : Nat} {v : Int32} {F : Nat → Int32} {z : Nat → Int32} (h : b < n) : upd (rI n F z) b v = rI n (fun j => if j = b then v else F j) z := by
  funext j
  unfold upd rI
  by_cases q : j = b
  · subst q; simp only [if_true, if_pos h]
  · simp only [if_neg q]
theorem rI_congr {n : Nat} {F G : Nat → Int32} {z : Nat → Int32} (h : ∀ j, j < n → F j = G j) : rI n F z = rI n G z := by
  funext j
  unfold rI
  by_cases q : j < n
  · rw [if_pos q, if_pos q, h j q]
  · rw [if_neg q, if_neg q]
theorem pu_se2 {w : Wd} {a b i : Nat} {f g : Nat → Int32} {v : Int32} (h : a ≠ b) : puI (seI (seI w a f) b g) a i v = seI (seI w a (upd f i v)) b g := by
  unfold puI seI
  simp only [Prod.mk.injEq, and_true]
  funext k
  simp only [va_up]
  by_cases h1 : k = b
  · have h2 : ¬ k = a := fun z => h (z.symm.trans h1)
    rw [if_neg h2, if_pos h1, if_pos h1]
  · by_cases h2 : k = a
    · rw [if_pos h2, if_neg h1, if_pos h2, if_neg (show ¬ a = b from h), if_true]
    · rw [if_neg h2, if_neg h1, if_neg h2, if_neg h1, if_neg h2]
theorem tells_e {w : Wd} (h : IN w) {i week : Nat} (hi : i < nn w 19 0) (hw : week < 60) : X4_tellsOf (nI i) (nI week) w = some (if nn w 23 i ≤ week ∧ week ≤ nn w 24 i ∧ nn w 25 i ≤ nn w 19 7 then nI 1 else nI 0) := by
  obtain ⟨⟨c0, c7⟩, -, -, ht⟩ := h
  obtain ⟨-, -, e23, e24, e25, -⟩ := ht i hi
  have b0 := c0.2
  have b7 := c7.2
  have b23 := e23.2
  have b24 := e24.2
  have b25 := e25.2
  unfold X4_tellsOf
  by_cases q2 : nn w 23 i ≤ week
  · by_cases q3 : week ≤ nn w 24 i
    · by_cases q4 : nn w 25 i ≤ nn w 19 7
      · simp (disch := omega) only [gdn, gb0, gb1, ixn, nm1, nI_add, nI_mul, nsub, nI_ltI, nI_leI, nI_eq, eqNO, eqNO2, ltNO, NOlt, leNO, NOle, if_pos, if_neg, Option.bind_some, if_true, if_false, and_self, eq_self, l0, l1, l2, l3, l4, l5, l6, l7, l8, l9, l10, l11, l12, l13, l14, l15, l16, l17, l18, l19, l20, l24, l26, l30, l31, l32, l40, l41, l42, l43, l45, l47, l48, l57, l58, l59, l60, l61, l62, l63, l64, l97, l99, l100, l101, l102, l103, l104, l105, l106, l107, l108, l109, l110, l122, l160, l240, l255, l600, l1000, l3000, l10000, l10007, l10116, l67108863, l67108864, c7.1, e23.1, e24.1, e25.1]
      · simp (disch := omega) only [gdn, gb0, gb1, ixn, nm1, nI_add, nI_mul, nsub, nI_ltI, nI_leI, nI_eq, eqNO, eqNO2, ltNO, NOlt, leNO, NOle, if_pos, if_neg, Option.bind_some, if_true, if_false, and_self, eq_self, l0, l1, l2, l3, l4, l5, l6, l7, l8, l9, l10, l11, l12, l13, l14, l15, l16, l17, l18, l19, l20, l24, l26, l30, l31, l32, l40, l41, l42, l43, l45, l47, l48, l57, l58, l59, l60, l61, l62, l63, l64, l97, l99, l100, l101, l102, l103, l104, l105, l106, l107, l108, l109, l110, l122, l160, l240, l255, l600, l1000, l3000, l10000, l10007, l10116, l67108863, l67108864, c7.1, e23.1, e24.1, e25.1]
    · simp (disch := omega) only [gdn, gb0, gb1, ixn, nm1, nI_add, nI_mul, nsub, nI_ltI, nI_leI, nI_eq, eqNO, eqNO2, ltNO, NOlt, leNO, NOle, if_pos, if_neg, Option.bind_some, if_true, if_false, and_self, eq_self, l0, l1, l2, l3, l4, l5, l6, l7, l8, l9, l10, l11, l12, l13, l14, l15, l16, l17, l18, l19, l20, l24, l26, l30, l31, l32, l40, l41, l42, l43, l45, l47, l48, l57, l58, l59, l60, l61, l62, l63, l64, l97, l99, l100, l101, l102, l103, l104, l105, l106, l107, l108, l109, l110, l122, l160, l240, l255, l600, l1000, l3000, l10000, l10007, l10116, l67108863, l67108864, c7.1, e23.1, e24.1, e25.1]
  · simp (disch := omega) only [gdn, gb0, gb1, ixn, nm1, nI_add, nI_mul, nsub, nI_ltI, nI_leI, nI_eq, eqNO, eqNO2, ltNO, NOlt, leNO, NOle, if_pos, if_neg, Option.bind_some, if_true, if_false, and_self, eq_self, l0, l1, l2, l3, l4, l5, l6, l7, l8, l9, l10, l11, l12, l13, l14, l15, l16, l17, l18, l19, l20, l24, l26, l30, l31, l32, l40, l41, l42, l43, l45, l47, l48, l57, l58, l59, l60, l61, l62, l63, l64, l97, l99, l100, l101, l102, l103, l104, l105, l106, l107, l108, l109, l110, l122, l160, l240, l255, l600, l1000, l3000, l10000, l10007, l10116, l67108863, l67108864, c7.1, e23.1, e24.1, e25.1]
noncomputable def cuW (w : Wd) (F G : Nat → Int32) : Wd := seI (seI w 26 (rI 20 F (w.1 26))) 27 (rI 40 G (w.1 27))
theorem cu26 {w : Wd} {F G : Nat → Int32} {k : Nat} {v : Int32} (hk : k < 20) : puI (cuW w F G) 26 k v = cuW w (fun j => if j = k then v else F j) G := by
  unfold cuW
  rw [pu_se2 (by decide), upd_rI hk]
theorem cu27 {w : Wd} {F G : Nat → Int32} {k : Nat} {v : Int32} (hk : k < 40) : puI (cuW w F G) 27 k v = cuW w F (fun j => if j = k then v else G j) := by
  unfold cuW
  rw [pu_seI, upd_rI hk]
theorem cu_congr {w : Wd} {F G F' G' : Nat → Int32} (h1 : ∀ j, j < 20 → F j = F' j) (h2 : ∀ j, j < 40 → G j = G' j) : cuW w F G = cuW w F' G' := by
  unfold cuW
  rw [rI_congr h1, rI_congr h2]
theorem cu_pass1 {w : Wd} (hL : IL w) (h : IN w) {week : Nat} (hwk : week < 60) : lp (X4_callUp_b32 (nI week)) (nI 0, cuW w (fun _ => NO) (fun _ => NO)) = some (cuW w (fun t => lat w 0 t week (nn w 19 0)) (fun l => lat w 1 l week (nn w 19 0))) := by
  have bT := hL.1.2.2.2.1.2
  have hL2 := hL.1.2.2.1.2
  have c0 := h.1.1
  have b0 := c0.2
  refine lp_for (b := X4_callUp_b32 (nI week)) (fun i => (nI i, cuW w (fun t => lat w 0 t week i) (fun l => lat w 1 l week i))) (nn w 19 0) (fun i hi => ?_) ?_ 0 (Nat.zero_le _)
  · have hI : IN (cuW w (fun t => lat w 0 t week i) (fun l => lat w 1 l week i)) := h
    have ht := tells_e hI (i := i) hi hwk
    obtain ⟨e20, e21, e23, e24, e25, hw1, hw2, hw3⟩ := h.2.2.2 i hi
    have b20 := e20.2
    have b21 := e21.2
    have r0 : (cuW w (fun t => lat w 0 t week i) (fun l => lat w 1 l week i)).1 19 0 = nI (nn w 19 0) := c0.1
    have r20 : (cuW w (fun t => lat w 0 t week i) (fun l => lat w 1 l week i)).1 20 i = nI (nn w 20 i) := e20.1
    have r21 : (cuW w (fun t => lat w 0 t week i) (fun l => lat w 1 l week i)).1 21 i = nI (nn w 21 i) := e21.1
    have r22 : (cuW w (fun t => lat w 0 t week i) (fun l => lat w 1 l week i)).1 22 i = w.1 22 i := rfl
    unfold X4_callUp_b32 X4_callUp_j78 X4_callUp_j114
    by_cases q : nn w 23 i ≤ week ∧ week ≤ nn w 24 i ∧ nn w 25 i ≤ nn w 19 7
    · have ht' := ht.trans (congrArg some (if_pos (show nn (cuW w (fun t => lat w 0 t week i) (fun l => lat w 1 l week i)) 23 i ≤ week ∧ week ≤ nn (cuW w (fun t => lat w 0 t week i) (fun l => lat w 1 l week i)) 24 i ∧ nn (cuW w (fun t => lat w 0 t week i) (fun l => lat w 1 l week i)) 25 i ≤ nn (cuW w (fun t => lat w 0 t week i) (fun l => lat w 1 l week i)) 19 7 from q)))
      by_cases q0 : nn w 20 i = 0
      · have hwho : nn w 21 i < 20 := by have := hw1 (by omega); omega
        simp (disch := omega) only [gdn, gb0, gb1, ixn, nm1, nI_add, nI_mul, nsub, nI_ltI, nI_leI, nI_eq, eqNO, eqNO2, ltNO, NOlt, leNO, NOle, if_pos, if_neg, Option.bind_some, if_true, if_false, and_self, eq_self, l0, l1, l2, l3, l4, l5, l6, l7, l8, l9, l10, l11, l12, l13, l14, l15, l16, l17, l18, l19, l20, l24, l26, l30, l31, l32, l40, l41, l42, l43, l45, l47, l48, l57, l58, l59, l60, l61, l62, l63, l64, l97, l99, l100, l101, l102, l103, l104, l105, l106, l107, l108, l109, l110, l122, l160, l240, l255, l600, l1000, l3000, l10000, l10007, l10116, l67108863, l67108864, r0, ht', r20, r21, r22, cu26]
        refine congrArg (fun z => some (Sum.inl (nI (i + 1), z))) (cu_congr (fun t ht2 => ?_) (fun l hl => ?_))
        · show (if t = nn w 21 i then w.1 22 i else lat w 0 t week i) = if hitB w 0 t week i = true then w.1 22 i else lat w 0 t week i
          by_cases z : t = nn w 21 i
          · rw [if_pos z, if_pos (show hitB w 0 t week i = true from decide_eq_true (by omega))]
          · rw [if_neg z, if_neg (show ¬ hitB w 0 t week i = true from by unfold hitB; rw [decide_eq_true_eq]; omega)]
        · show lat w 1 l week i = if hitB w 1 l week i = true then w.1 22 i else lat w 1 l week i
          rw [if_neg (show ¬ hitB w 1 l week i = true from by unfold hitB; rw [decide_eq_true_eq]; omega)]
      · by_cases q1 : nn w 20 i = 1
        · simp (disch := omega) only [gdn, gb0, gb1, ixn, nm1, nI_add, nI_mul, nsub, nI_ltI, nI_leI, nI_eq, eqNO, eqNO2, ltNO, NOlt, leNO, NOle, if_pos, if_neg, Option.bind_some, if_true, if_false, and_self, eq_self, l0, l1, l2, l3, l4, l5, l6, l7, l8, l9, l10, l11, l12, l13, l14, l15, l16, l17, l18, l19, l20, l24, l26, l30, l31, l32, l40, l41, l42, l43, l45, l47, l48, l57, l58, l59, l60, l61, l62, l63, l64, l97, l99, l100, l101, l102, l103, l104, l105, l106, l107, l108, l109, l110, l122, l160, l240, l255, l600, l1000, l3000, l10000, l10007, l10116, l67108863, l67108864, r0, ht', r20, r21, r22, cu27]
          refine congrArg (fun z => some (Sum.inl (nI (i + 1), z))) (cu_congr (fun t ht2 => ?_) (fun l hl => ?_))
          · show lat w 0 t week i = if hitB w 0 t week i = true then w.1 22 i else lat w 0 t week i
            rw [if_neg (show ¬ hitB w 0 t week i = true from by unfold hitB; rw [decide_eq_true_eq]; omega)]
          · show (if l = nn w 21 i then w.1 22 i else lat w 1 l week i) = if hitB w 1 l week i = true then w.1 22 i else lat w 1 l week i
            by_cases z : l = nn w 21 i
            · rw [if_pos z, if_pos (show hitB w 1 l week i = true from decide_eq_true (by omega))]
            · rw [if_neg z, if_neg (show ¬ hitB w 1 l week i = true from by unfold hitB; rw [decide_eq_true_eq]; omega)]
        · simp (disch := omega) only [gdn, gb0, gb1, ixn, nm1, nI_add, nI_mul, nsub, nI_ltI, nI_leI, nI_eq, eqNO, eqNO2, ltNO, NOlt, leNO, NOle, if_pos, if_neg, Option.bind_some, if_true, if_false, and_self, eq_self, l0, l1, l2, l3, l4, l5, l6, l7, l8, l9, l10, l11, l12, l13, l14, l15, l16, l17, l18, l19, l20, l24, l26, l30, l31, l32, l40, l41, l42, l43, l45, l47, l48, l57, l58, l59, l60, l61, l62, l63, l64, l97, l99, l100, l101, l102, l103, l104, l105, l106, l107, l108, l109, l110, l122, l160, l240, l255, l600, l1000, l3000, l10000, l10007, l10116, l67108863, l67108864, r0, ht', r20, r21, r22]
          refine congrArg (fun z => some (Sum.inl (nI (i + 1), z))) (cu_congr (fun t ht2 => ?_) (fun l hl => ?_))
          · show lat w 0 t week i = if hitB w 0 t week i = true then w.1 22 i else lat w 0 t week i
            rw [if_neg (show ¬ hitB w 0 t week i = true from by unfold hitB; rw [decide_eq_true_eq]; omega)]
          · show lat w 1 l week i = if hitB w 1 l week i = true then w.1 22 i else lat w 1 l week i
            rw [if_neg (show ¬ hitB w 1 l week i = true from by unfold hitB; rw [decide_eq_true_eq]; omega)]
    · have ht' := ht.trans (congrArg some (if_neg (show ¬ (nn (cuW w (fun t => lat w 0 t week i) (fun l => lat w 1 l week i)) 23 i ≤ week ∧ week ≤ nn (cuW w (fun t => lat w 0 t week i) (fun l => lat w 1 l week i)) 24 i ∧ nn (cuW w (fun t => lat w 0 t week i) (fun l => lat w 1 l week i)) 25 i ≤ nn (cuW w (fun t => lat w 0 t week i) (fun l => lat w 1 l week i)) 19 7) from q)))
      simp (disch := omega) only [gdn, gb0, gb1, ixn, nm1, nI_add, nI_mul, nsub, nI_ltI, nI_leI, nI_eq, eqNO, eqNO2, ltNO, NOlt, leNO, NOle, if_pos, if_neg, Option.bind_some, if_true, if_false, and_self, eq_self, l0, l1, l2, l3, l4, l5, l6, l7, l8, l9, l10, l11, l12, l13, l14, l15, l16, l17, l18, l19, l20, l24, l26, l30, l31, l32, l40, l41, l42, l43, l45, l47, l48, l57, l58, l59, l60, l61, l62, l63, l64, l97, l99, l100, l101, l102, l103, l104, l105, l106, l107, l108, l109, l110, l122, l160, l240, l255, l600, l1000, l3000, l10000, l10007, l10116, l67108863, l67108864, r0, ht', r20, r21, r22]
      refine congrArg (fun z => some (Sum.inl (nI (i + 1), z))) (cu_congr (fun t ht2 => ?_) (fun l hl => ?_))
      · show lat w 0 t week i = if hitB w 0 t week i = true then w.1 22 i else lat w 0 t week i
        rw [if_neg (show ¬ hitB w 0 t week i = true from by unfold hitB; rw [decide_eq_true_eq]; omega)]
      · show lat w 1 l week i = if hitB w 1 l week i = true then w.1 22 i else lat w 1 l week i
        rw [if_neg (show ¬ hitB w 1 l week i = true from by unfold hitB; rw [decide_eq_true_eq]; omega)]
  · unfold X4_callUp_b32
    have r0 : (cuW w (fun t => lat w 0 t week (nn w 19 0)) (fun l => lat w 1 l week (nn w 19 0))).1 19 0 = nI (nn w 19 0) := c0.1
    simp (disch := omega) only [gdn, gb0, gb1, ixn, nm1, nI_add, nI_mul, nsub, nI_ltI, nI_leI, nI_eq, eqNO, eqNO2, ltNO, NOlt, leNO, NOle, if_pos, if_neg, Option.bind_some, if_true, if_false, and_self, eq_self, l0, l1, l2, l3, l4, l5, l6, l7, l8, l9, l10, l11, l12, l13, l14, l15, l16, l17, l18, l19, l20, l24, l26, l30, l31, l32, l40, l41, l42, l43, l45, l47, l48, l57, l58, l59, l60, l61, l62, l63, l64, l97, l99, l100, l101, l102, l103, l104, l105, l106, l107, l108, l109, l110, l122, l160, l240, l255, l600, l1000, l3000, l10000, l10007, l10116, l67108863, l67108864, r0]
theorem cutS_or {p q : Prop} {v : Int32} : cutS (p ∨ q) v = cutS q (cutS p v) := by
  by_cases hp : p
  · rw [cutS_t (Or.inl hp), cutS_t hp]
    by_cases hq : q
    · rw [cutS_t hq]
    · rw [cutS_f hq]
  · by_cases hq : q
    · rw [cutS_t (Or.inr hq), cutS_t hq]
    · rw [cutS_f (fun z => z.elim hp hq), cutS_f hq, cutS_f hp]
theorem cutS_x {w : Wd} {s who week n : Nat} {v : Int32} : cutS (exP w s who week (n + 1)) v = cutS (hitB w s who week n = true) (cutS (exP w s who week n) v) := by
  rw [show exP w s who week (n + 1) = (exP w s who week n ∨ hitB w s who week n = true) from propext exP_s, cutS_or]
theorem cu_pass2 {w : Wd} (hL : IL w) (h : IN w) {week : Nat} (hwk : week < 60) {F G : Nat → Int32} : lp (X4_callUp_b122 (nI week)) (nI 0, cuW w F G) = some (cuW w (fun t => cutS (exP w 3 t week (nn w 19 0)) (F t)) (fun l => cutS (exP w 2 l week (nn w 19 0)) (G l))) := by
  have bT := hL.1.2.2.2.1.2
  have hL2 := hL.1.2.2.1.2
  have c0 := h.1.1
  have b0 := c0.2
  have hlp := lp_for (b := X4_callUp_b122 (nI week)) (fun i => (nI i, cuW w (fun t => cutS (exP w 3 t week i) (F t)) (fun l => cutS (exP w 2 l week i) (G l)))) (nn w 19 0) (e := cuW w (fun t => cutS (exP w 3 t week (nn w 19 0)) (F t)) (fun l => cutS (exP w 2 l week (nn w 19 0)) (G l))) (fun i hi => ?_) ?_ 0 (Nat.zero_le _)
  · rw [show cuW w (fun t => cutS (exP w 3 t week 0) (F t)) (fun l => cutS (exP w 2 l week 0) (G l)) = cuW w F G from cu_congr (fun t _ => cutS_f (by rintro ⟨i, hi, -⟩; omega)) (fun t _ => cutS_f (by rintro ⟨i, hi, -⟩; omega))] at hlp
    exact hlp
  · generalize hF : (fun t => cutS (exP w 3 t week i) (F t)) = F1
    generalize hG : (fun l => cutS (exP w 2 l week i) (G l)) = G1
    have hI : IN (cuW w F1 G1) := h
    have ht := tells_e hI (i := i) hi hwk
    obtain ⟨e20, e21, e23, e24, e25, hw1, hw2, hw3⟩ := h.2.2.2 i hi
    have b20 := e20.2
    have b21 := e21.2
    have r0 : (cuW w F1 G1).1 19 0 = nI (nn w 19 0) := c0.1
    have r20 : (cuW w F1 G1).1 20 i = nI (nn w 20 i) := e20.1
    have r21 : (cuW w F1 G1).1 21 i = nI (nn w 21 i) := e21.1
    have hFn : ∀ t, cutS (exP w 3 t week (i + 1)) (F t) = cutS (hitB w 3 t week i = true) (F1 t) := fun t => by rw [cutS_x, ← hF]
    have hGn : ∀ t, cutS (exP w 2 t week (i + 1)) (G t) = cutS (hitB w 2 t week i = true) (G1 t) := fun t => by rw [cutS_x, ← hG]
    unfold X4_callUp_b122 X4_callUp_j164 X4_callUp_j195
    by_cases q : nn w 23 i ≤ week ∧ week ≤ nn w 24 i ∧ nn w 25 i ≤ nn w 19 7
    · have ht' := ht.trans (congrArg some (if_pos (show nn (cuW w F1 G1) 23 i ≤ week ∧ week ≤ nn (cuW w F1 G1) 24 i ∧ nn (cuW w F1 G1) 25 i ≤ nn (cuW w F1 G1) 19 7 from q)))
      by_cases q0 : nn w 20 i = 2
      · simp (disch := omega) only [gdn, gb0, gb1, ixn, nm1, nI_add, nI_mul, nsub, nI_ltI, nI_leI, nI_eq, eqNO, eqNO2, ltNO, NOlt, leNO, NOle, if_pos, if_neg, Option.bind_some, if_true, if_false, and_self, eq_self, l0, l1, l2, l3, l4, l5, l6, l7, l8, l9, l10, l11, l12, l13, l14, l15, l16, l17, l18, l19, l20, l24, l26, l30, l31, l32, l40, l41, l42, l43, l45, l47, l48, l57, l58, l59, l60, l61, l62, l63, l64, l97, l99, l100, l101, l102, l103, l104, l105, l106, l107, l108, l109, l110, l122, l160, l240, l255, l600, l1000, l3000, l10000, l10007, l10116, l67108863, l67108864, r0, ht', r20, r21, cu27]
        refine congrArg (fun z => some (Sum.inl (nI (i + 1), z))) (cu_congr (fun t ht2 => ?_) (fun l hl => ?_))
        · rw [hFn, cutS_f (show ¬ hitB w 3 t week i = true from by unfold hitB; rw [decide_eq_true_eq]; omega)]
        · rw [hGn]
          by_cases z : l = nn w 21 i
          · rw [if_pos z, cutS_t (show hitB w 2 l week i = true from decide_eq_true (by omega))]
          · rw [if_neg z, cutS_f (show ¬ hitB w 2 l week i = true from by unfold hitB; rw [decide_eq_true_eq]; omega)]
      · by_cases q1 : nn w 20 i = 3
        · have hwho : nn w 21 i < 20 := by have := hw1 (by omega); omega
          simp (disch := omega) only [gdn, gb0, gb1, ixn, nm1, nI_add, nI_mul, nsub, nI_ltI, nI_leI, nI_eq, eqNO, eqNO2, ltNO, NOlt, leNO, NOle, if_pos, if_neg, Option.bind_some, if_true, if_false, and_self, eq_self, l0, l1, l2, l3, l4, l5, l6, l7, l8, l9, l10, l11, l12, l13, l14, l15, l16, l17, l18, l19, l20, l24, l26, l30, l31, l32, l40, l41, l42, l43, l45, l47, l48, l57, l58, l59, l60, l61, l62, l63, l64, l97, l99, l100, l101, l102, l103, l104, l105, l106, l107, l108, l109, l110, l122, l160, l240, l255, l600, l1000, l3000, l10000, l10007, l10116, l67108863, l67108864, r0, ht', r20, r21, cu26]
          refine congrArg (fun z => some (Sum.inl (nI (i + 1), z))) (cu_congr (fun t ht2 => ?_) (fun l hl => ?_))
          · rw [hFn]
            by_cases z : t = nn w 21 i
            · rw [if_pos z, cutS_t (show hitB w 3 t week i = true from decide_eq_true (by omega))]
            · rw [if_neg z, cutS_f (show ¬ hitB w 3 t week i = true from by unfold hitB; rw [decide_eq_true_eq]; omega)]
          · rw [hGn, cutS_f (show ¬ hitB w 2 l week i = true from by unfold hitB; rw [decide_eq_true_eq]; omega)]
        · simp (disch := omega) only [gdn, gb0, gb1, ixn, nm1, nI_add, nI_mul, nsub, nI_ltI, nI_leI, nI_eq, eqNO, eqNO2, ltNO, NOlt, leNO, NOle, if_pos, if_neg, Option.bind_some, if_true, if_false, and_self, eq_self, l0, l1, l2, l3, l4, l5, l6, l7, l8, l9, l10, l11, l12, l13, l14, l15, l16, l17, l18, l19, l20, l24, l26, l30, l31, l32, l40, l41, l42, l43, l45, l47, l48, l57, l58, l59, l60, l61, l62, l63, l64, l97, l99, l100, l101, l102, l103, l104, l105, l106, l107, l108, l109, l110, l122, l160, l240, l255, l600, l1000, l3000, l10000, l10007, l10116, l67108863, l67108864, r0, ht', r20, r21]
          refine congrArg (fun z => some (Sum.inl (nI (i + 1), z))) (cu_congr (fun t ht2 => ?_) (fun l hl => ?_))
          · rw [hFn, cutS_f (show ¬ hitB w 3 t week i = true from by unfold hitB; rw [decide_eq_true_eq]; omega)]
          · rw [hGn, cutS_f (show ¬ hitB w 2 l week i = true from by unfold hitB; rw [decide_eq_true_eq]; omega)]
    · have ht' := ht.trans (congrArg some (if_neg (show ¬ (nn (cuW w F1 G1) 23 i ≤ week ∧ week ≤ nn (cuW w F1 G1) 24 i ∧ nn (cuW w F1 G1) 25 i ≤ nn (cuW w F1 G1) 19 7) from q)))
      simp (disch := omega) only [gdn, gb0, gb1, ixn, nm1, nI_add, nI_mul, nsub, nI_ltI, nI_leI, nI_eq, eqNO, eqNO2, ltNO, NOlt, leNO, NOle, if_pos, if_neg, Option.bind_some, if_true, if_false, and_self, eq_self, l0, l1, l2, l3, l4, l5, l6, l7, l8, l9, l10, l11, l12, l13, l14, l15, l16, l17, l18, l19, l20, l24, l26, l30, l31, l32, l40, l41, l42, l43, l45, l47, l48, l57, l58, l59, l60, l61, l62, l63, l64, l97, l99, l100, l101, l102, l103, l104, l105, l106, l107, l108, l109, l110, l122, l160, l240, l255, l600, l1000, l3000, l10000, l10007, l10116, l67108863, l67108864, r0, ht', r20, r21]
      refine congrArg (fun z => some (Sum.inl (nI (i + 1), z))) (cu_congr (fun t ht2 => ?_) (fun l hl => ?_))
      · rw [hFn, cutS_f (show ¬ hitB w 3 t week i = true from by unfold hitB; rw [decide_eq_true_eq]; omega)]
      · rw [hGn, cutS_f (show ¬ hitB w 2 l week i = true from by unfold hitB; rw [decide_eq_true_eq]; omega)]
  · unfold X4_callUp_b122
    have r0 : (cuW w (fun t => cutS (exP w 3 t week (nn w 19 0)) (F t)) (fun l => cutS (exP w 2 l week (nn w 19 0)) (G l))).1 19 0 = nI (nn w 19 0) := c0.1
    simp (disch := omega) only [gdn, gb0, gb1, ixn, nm1, nI_add, nI_mul, nsub, nI_ltI, nI_leI, nI_eq, eqNO, eqNO2, ltNO, NOlt, leNO, NOle, if_pos, if_neg, Option.bind_some, if_true, if_false, and_self, eq_self, l0, l1, l2, l3, l4, l5, l6, l7, l8, l9, l10, l11, l12, l13, l14, l15, l16, l17, l18, l19, l20, l24, l26, l30, l31, l32, l40, l41, l42, l43, l45, l47, l48, l57, l58, l59, l60, l61, l62, l63, l64, l97, l99, l100, l101, l102, l103, l104, l105, l106, l107, l108, l109, l110, l122, l160, l240, l255, l600, l1000, l3000, l10000, l10007, l10116, l67108863, l67108864, r0]
/-! lamps -/
def ltd (F : Nat → Int32) (lamp : Nat) : Nat → Int32
  | 0 => NO
  | j + 1 => if F (19 - j) = nI lamp then nI (19 - j) else ltd F lamp j
theorem ltd_n {F : Nat → Int32} {lamp : Nat} : ∀ j, j ≤ 20 → (∀ t, 20 - j ≤ t → t < 20 → ¬ F t = nI lamp) → ltd F lamp j = NO
  | 0, _, _ => rfl
  | j + 1, hj, h => by
    unfold ltd
    rw [if_neg (h (19 - j) (by omega) (by omega))]
    exact ltd_n j (by omega) (fun t h1 h2 => h t (by omega) h2)
theorem ltd_t {F : Nat → Int32} {lamp t : Nat} (h : F t = nI lamp) : ∀ j, j ≤ 20 → 20 - j ≤ t → t < 20 → (∀ i, 20 - j ≤ i → i < t → ¬ F i = nI lamp) → ltd F lamp j = nI t
  | 0, _, h1, h2, _ => by omega
  | j + 1, hj, h1, h2, hm => by
    unfold ltd
    by_cases q : 19 - j = t
    · rw [q, if_pos h]
    · rw [if_neg (hm (19 - j) (by omega) (by omega))]
      exact ltd_t h j (by omega) (by omega) h2 (fun i h3 h4 => hm i (by omega) h4)
theorem addNO {n : Nat} (h : 0 < n) : nI n + NO = nI (n - 1) := by
  obtain ⟨m, rfl⟩ : ∃ m, n = m + 1 := ⟨n - 1, by omega⟩
  exact pk_m1 m
theorem add0NO : nI 0 + NO = NO := rfl
noncomputable def gaW (w : Wd) (A B : Nat → Int32) : Wd := seI (seI w 28 (rI 12 A (w.1 28))) 29 (rI 12 B (w.1 29))
theorem ga28 {w : Wd} {F G : Nat → Int32} {k : Nat} {v : Int32} (hk : k < 12) : puI (gaW w F G) 28 k v = gaW w (fun j => if j = k then v else F j) G := by
  unfold gaW
  rw [pu_se2 (by decide), upd_rI hk]
theorem ga29 {w : Wd} {F G : Nat → Int32} {k : Nat} {v : Int32} (hk : k < 12) : puI (gaW w F G) 29 k v = gaW w F (fun j => if j = k then v else G j) := by
  unfold gaW
  rw [pu_seI, upd_rI hk]
theorem ga_congr {w : Wd} {F G F' G' : Nat → Int32} (h1 : ∀ j, j < 12 → F j = F' j) (h2 : ∀ j, j < 12 → G j = G' j) : gaW w F G = gaW w F' G' := by
  unfold gaW
  rw [rI_congr h1, rI_congr h2]
theorem gather_e {w : Wd} {F G : Nat → Int32} (hF : ∀ t, t < 20 → w.1 26 t = F t ∧ (F t = NO ∨ ∃ l, l < 12 ∧ F t = nI l)) (hG : ∀ t, t < 40 → w.1 27 t = G t ∧ (G t = NO ∨ ∃ l, l < 12 ∧ G t = nI l)) : X4_gatherAtLamps w = some (gaW w (fun m => ltd F m 20) (fun m => nI (cnt (fun l => decide (G l = nI m)) 40))) := by
  unfold X4_gatherAtLamps
  rw [fillI (by omega)]
  simp only [Option.bind_some]
  rw [fillI (by omega)]
  simp only [Option.bind_some]
  rw [show seI (seI w 28 fun j => if j < 12 then (-1 : Int32) else w.1 28 j) 29 (fun j => if j < 12 then (0 : Int32) else (seI w 28 fun j => if j < 12 then (-1 : Int32) else w.1 28 j).1 29 j) = gaW w (fun _ => NO) (fun _ => nI 0) from rfl]
  have h1 := lp_for (b := X4_gatherAtLamps_b19) (fun j => (if j = 20 then NO else nI (19 - j), gaW w (fun m => ltd F m j) (fun _ => nI 0))) 20 (e := gaW w (fun m => ltd F m 20) (fun _ => nI 0)) (fun j hj => ?_) ?_ 0 (Nat.zero_le _)
  · rw [if_neg (by omega)] at h1
    rw [show ((19 : Int32), gaW w (fun _ => NO) (fun _ => nI 0)) = (nI (19 - 0), gaW w (fun m => ltd F m 0) (fun _ => nI 0)) from rfl, h1]
    simp only [Option.bind_some]
    have h2 := lp_for (b := X4_gatherAtLamps_b53) (fun i => (nI i, gaW w (fun m => ltd F m 20) (fun m => nI (cnt (fun l => decide (G l = nI m)) i)))) 40 (e := gaW w (fun m => ltd F m 20) (fun m => nI (cnt (fun l => decide (G l = nI m)) 40))) (fun i hi => ?_) ?_ 0 (Nat.zero_le _)
    · rw [show ((0 : Int32), gaW w (fun m => ltd F m 20) (fun _ => nI 0)) = (nI 0, gaW w (fun m => ltd F m 20) (fun m => nI (cnt (fun l => decide (G l = nI m)) 0))) from rfl, h2]
      rfl
    · generalize hB : (fun m => nI (cnt (fun l => decide (G l = nI m)) i)) = B
      have r27 : (gaW w (fun m => ltd F m 20) B).1 27 i = G i := (hG i hi).1
      unfold X4_gatherAtLamps_b53 X4_gatherAtLamps_j84
      rcases (hG i hi).2 with q | ⟨l, hl, q⟩
      · simp (disch := omega) only [gdn, gb0, gb1, ixn, nm1, nI_add, nI_mul, nsub, nI_ltI, nI_leI, nI_eq, eqNO, eqNO2, ltNO, NOlt, leNO, NOle, if_pos, if_neg, Option.bind_some, if_true, if_false, and_self, eq_self, l0, l1, l2, l3, l4, l5, l6, l7, l8, l9, l10, l11, l12, l13, l14, l15, l16, l17, l18, l19, l20, l24, l26, l30, l31, l32, l40, l41, l42, l43, l45, l47, l48, l57, l58, l59, l60, l61, l62, l63, l64, l97, l99, l100, l101, l102, l103, l104, l105, l106, l107, l108, l109, l110, l122, l160, l240, l255, l600, l1000, l3000, l10000, l10007, l10116, l67108863, l67108864, r27, q]
        refine congrArg (fun z => some (Sum.inl (nI (i + 1), z))) (ga_congr (fun _ _ => rfl) (fun m hm => ?_))
        rw [← hB, cnt_s, q, if_neg (by rw [decide_eq_true_eq, eqNO2 (by omega)]; exact id), Nat.add_zero]
      · have r29 : (gaW w (fun m => ltd F m 20) B).1 29 l = nI (cnt (fun l2 => decide (G l2 = nI l)) i) := by
          show rI 12 B (w.1 29) l = _
          rw [rI_lt hl, ← hB]
        simp (disch := omega) only [gdn, gb0, gb1, ixn, nm1, nI_add, nI_mul, nsub, nI_ltI, nI_leI, nI_eq, eqNO, eqNO2, ltNO, NOlt, leNO, NOle, if_pos, if_neg, Option.bind_some, if_true, if_false, and_self, eq_self, l0, l1, l2, l3, l4, l5, l6, l7, l8, l9, l10, l11, l12, l13, l14, l15, l16, l17, l18, l19, l20, l24, l26, l30, l31, l32, l40, l41, l42, l43, l45, l47, l48, l57, l58, l59, l60, l61, l62, l63, l64, l97, l99, l100, l101, l102, l103, l104, l105, l106, l107, l108, l109, l110, l122, l160, l240, l255, l600, l1000, l3000, l10000, l10007, l10116, l67108863, l67108864, r27, q, r29, ga29]
        refine congrArg (fun z => some (Sum.inl (nI (i + 1), z))) (ga_congr (fun _ _ => rfl) (fun m hm => ?_))
        rw [cnt_s, q, ← hB]
        by_cases z : m = l
        · rw [if_pos z, if_pos (by rw [z]; exact decide_eq_true rfl), z]
        · rw [if_neg z, if_neg (by rw [decide_eq_true_eq, nI_eq (by omega) (by omega)]; exact fun y => z y.symm), Nat.add_zero]
    · unfold X4_gatherAtLamps_b53
      simp (disch := omega) only [gdn, gb0, gb1, ixn, nm1, nI_add, nI_mul, nsub, nI_ltI, nI_leI, nI_eq, eqNO, eqNO2, ltNO, NOlt, leNO, NOle, if_pos, if_neg, Option.bind_some, if_true, if_false, and_self, eq_self, l0, l1, l2, l3, l4, l5, l6, l7, l8, l9, l10, l11, l12, l13, l14, l15, l16, l17, l18, l19, l20, l24, l26, l30, l31, l32, l40, l41, l42, l43, l45, l47, l48, l57, l58, l59, l60, l61, l62, l63, l64, l97, l99, l100, l101, l102, l103, l104, l105, l106, l107, l108, l109, l110, l122, l160, l240, l255, l600, l1000, l3000, l10000, l10007, l10116, l67108863, l67108864]
  · have hc : ∀ x, x = (if j + 1 = 20 then NO else nI (19 - (j + 1))) ↔ x = nI (19 - j) + NO := by
      intro x
      by_cases q : j = 19
      · subst q; exact Iff.rfl
      · rw [if_neg (by omega), addNO (by omega), show 19 - (j + 1) = 19 - j - 1 by omega]
    have hc' := (hc _).mp rfl
    generalize hA : (fun m => ltd F m j) = A
    have r26 : (gaW w A (fun _ => nI 0)).1 26 (19 - j) = F (19 - j) := (hF (19 - j) (by omega)).1
    rw [if_neg (by omega), hc']
    unfold X4_gatherAtLamps_b19 X4_gatherAtLamps_j45
    simp only [lit_m1]
    rcases (hF (19 - j) (by omega)).2 with q | ⟨l, hl, q⟩
    · simp (disch := omega) only [gdn, gb0, gb1, ixn, nm1, nI_add, nI_mul, nsub, nI_ltI, nI_leI, nI_eq, eqNO, eqNO2, ltNO, NOlt, leNO, NOle, if_pos, if_neg, Option.bind_some, if_true, if_false, and_self, eq_self, l0, l1, l2, l3, l4, l5, l6, l7, l8, l9, l10, l11, l12, l13, l14, l15, l16, l17, l18, l19, l20, l24, l26, l30, l31, l32, l40, l41, l42, l43, l45, l47, l48, l57, l58, l59, l60, l61, l62, l63, l64, l97, l99, l100, l101, l102, l103, l104, l105, l106, l107, l108, l109, l110, l122, l160, l240, l255, l600, l1000, l3000, l10000, l10007, l10116, l67108863, l67108864, r26, q]
      refine congrArg (fun z => some (Sum.inl (nI (19 - j) + NO, z))) (ga_congr (fun m hm => ?_) (fun _ _ => rfl))
      rw [← hA]
      show ltd F m j = if F (19 - j) = nI m then nI (19 - j) else ltd F m j
      rw [if_neg (by rw [q, eqNO2 (by omega)]; exact id)]
    · simp (disch := omega) only [gdn, gb0, gb1, ixn, nm1, nI_add, nI_mul, nsub, nI_ltI, nI_leI, nI_eq, eqNO, eqNO2, ltNO, NOlt, leNO, NOle, if_pos, if_neg, Option.bind_some, if_true, if_false, and_self, eq_self, l0, l1, l2, l3, l4, l5, l6, l7, l8, l9, l10, l11, l12, l13, l14, l15, l16, l17, l18, l19, l20, l24, l26, l30, l31, l32, l40, l41, l42, l43, l45, l47, l48, l57, l58, l59, l60, l61, l62, l63, l64, l97, l99, l100, l101, l102, l103, l104, l105, l106, l107, l108, l109, l110, l122, l160, l240, l255, l600, l1000, l3000, l10000, l10007, l10116, l67108863, l67108864, r26, q, ga28]
      refine congrArg (fun z => some (Sum.inl (nI (19 - j) + NO, z))) (ga_congr (fun m hm => ?_) (fun _ _ => rfl))
      rw [← hA]
      show (if m = l then nI (19 - j) else ltd F m j) = if F (19 - j) = nI m then nI (19 - j) else ltd F m j
      by_cases z : m = l
      · rw [if_pos z, if_pos (by rw [q, z])]
      · rw [if_neg z, if_neg (by rw [q, nI_eq (by omega) (by omega)]; exact fun y => z y.symm)]
  · unfold X4_gatherAtLamps_b19
    simp (disch := omega) only [gdn, gb0, gb1, ixn, nm1, nI_add, nI_mul, nsub, nI_ltI, nI_leI, nI_eq, eqNO, eqNO2, ltNO, NOlt, leNO, NOle, if_pos, if_neg, Option.bind_some, if_true, if_false, and_self, eq_self, l0, l1, l2, l3, l4, l5, l6, l7, l8, l9, l10, l11, l12, l13, l14, l15, l16, l17, l18, l19, l20, l24, l26, l30, l31, l32, l40, l41, l42, l43, l45, l47, l48, l57, l58, l59, l60, l61, l62, l63, l64, l97, l99, l100, l101, l102, l103, l104, l105, l106, l107, l108, l109, l110, l122, l160, l240, l255, l600, l1000, l3000, l10000, l10007, l10116, l67108863, l67108864]
