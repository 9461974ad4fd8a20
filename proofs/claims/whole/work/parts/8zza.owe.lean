/-! which LESSON a SLIP is owed by -/
def bitL (w : Wd) (c k : Nat) : Prop := (nn w 72 k).testBit c = true
noncomputable def ffS (w : Wd) (c : Nat) : Int32 := @dite _ (∃ k, k < 15 ∧ bitL w c k ∧ ∀ j, j < k → ¬ bitL w c j) (Classical.propDecidable _) (fun e => nI (Classical.choose e)) (fun _ => NO)
theorem ffS_t {w : Wd} {c k : Nat} (hk : k < 15) (h : bitL w c k) (hm : ∀ j, j < k → ¬ bitL w c j) : ffS w c = nI k := by
  have e : ∃ k, k < 15 ∧ bitL w c k ∧ ∀ j, j < k → ¬ bitL w c j := ⟨k, hk, h, hm⟩
  unfold ffS
  rw [dif_pos e]
  obtain ⟨-, e2, e3⟩ := Classical.choose_spec e
  congr 1
  by_cases q1 : Classical.choose e < k
  · exact (hm _ q1 e2).elim
  · by_cases q2 : k < Classical.choose e
    · exact (e3 _ q2 h).elim
    · omega
theorem ffS_n {w : Wd} {c : Nat} (h : ∀ k, k < 15 → ¬ bitL w c k) : ffS w c = NO := dif_neg (fun ⟨k, hk, e, _⟩ => h k hk e)
theorem ffS_in {w : Wd} {c : Nat} : ffS w c = NO ∨ ∃ k, k < 15 ∧ ffS w c = nI k := by
  by_cases q : ∃ k, k < 15 ∧ bitL w c k
  · obtain ⟨k, hk, h1, h2⟩ := least_of q
    exact Or.inr ⟨k, hk, ffS_t hk h1 h2⟩
  · exact Or.inl (ffS_n (fun k hk z => q ⟨k, hk, z⟩))
noncomputable def owS (w : Wd) (D c : Nat) : Int32 := if ffS w c = NO ∨ D.testBit (ix (ffS w c)) = true then NO else ffS w c
theorem owS_in {w : Wd} {D c : Nat} : owS w D c = NO ∨ ∃ k, k < 15 ∧ owS w D c = nI k := by
  unfold owS
  split
  · exact Or.inl rfl
  · exact ffS_in
theorem owS_eq {w : Wd} {D c j : Nat} (hj : j < 15) : (owS w D c = nI j) = (D.testBit j = false ∧ ffS w c = nI j) := by
  rw [eq_iff_iff]
  unfold owS
  rcases ffS_in (w := w) (c := c) with z | ⟨k, hk, z⟩
  · rw [z, if_pos (Or.inl rfl)]
    exact ⟨fun y => ((eqNO2 (by omega)).mp y).elim, fun y => y.2⟩
  · rw [z, ixn (by omega)]
    by_cases q : D.testBit k = true
    · rw [if_pos (Or.inr q)]
      constructor
      · intro y; exact ((eqNO2 (by omega)).mp y).elim
      · rintro ⟨y1, y2⟩
        have := (nI_eq (by omega) (by omega)).mp y2
        subst this
        rw [q] at y1; cases y1
    · rw [if_neg (by rw [eqNO (by omega)]; intro y; exact y.elim id q)]
      constructor
      · intro y
        have := (nI_eq (by omega) (by omega)).mp y
        subst this
        exact ⟨by simpa using q, rfl⟩
      · exact fun y => y.2
theorem first_e {w : Wd} (h : ILs w) {c : Nat} (hc : c < 26) : X3_firstFor (nI c) w = some (ffS w c) := by
  have st : ∀ k, k < 15 → X3_firstFor_b2 (nI c) w (nI k) = if (nn w 72 k).testBit c = true then some (.inr (.inl (nI k))) else some (.inl (nI (k + 1))) := fun k hk => by
    obtain ⟨-, -, -, ⟨e72, b72⟩⟩ := h.1 k hk
    have hb := bit_e (D := nn w 72 k) (k := c) (by omega) (by omega)
    unfold X3_firstFor_b2
    by_cases q : (nn w 72 k).testBit c = true
    · rw [if_pos q] at hb ⊢
      simp (disch := omega) only [gdn, gb0, gb1, ixn, nm1, nI_add, nI_mul, nsub, nI_ltI, nI_leI, nI_eq, eqNO, eqNO2, ltNO, NOlt, leNO, NOle, if_pos, if_neg, Option.bind_some, if_true, if_false, and_self, eq_self, l0, l1, l2, l3, l4, l5, l6, l7, l8, l9, l10, l11, l12, l13, l14, l15, l16, l17, l18, l19, l20, l24, l26, l30, l31, l32, l40, l41, l42, l43, l45, l47, l48, l57, l58, l59, l60, l61, l62, l63, l64, l97, l99, l100, l101, l102, l103, l104, l105, l106, l107, l108, l109, l110, l122, l160, l240, l255, l600, l1000, l3000, l10000, l10007, l10116, l67108863, l67108864, e72, show (31 : Int32) = nI 31 from rfl, hb]
    · rw [if_neg q] at hb ⊢
      simp (disch := omega) only [gdn, gb0, gb1, ixn, nm1, nI_add, nI_mul, nsub, nI_ltI, nI_leI, nI_eq, eqNO, eqNO2, ltNO, NOlt, leNO, NOle, if_pos, if_neg, Option.bind_some, if_true, if_false, and_self, eq_self, l0, l1, l2, l3, l4, l5, l6, l7, l8, l9, l10, l11, l12, l13, l14, l15, l16, l17, l18, l19, l20, l24, l26, l30, l31, l32, l40, l41, l42, l43, l45, l47, l48, l57, l58, l59, l60, l61, l62, l63, l64, l97, l99, l100, l101, l102, l103, l104, l105, l106, l107, l108, l109, l110, l122, l160, l240, l255, l600, l1000, l3000, l10000, l10007, l10116, l67108863, l67108864, e72, show (31 : Int32) = nI 31 from rfl, hb]
  unfold X3_firstFor
  rw [show (0 : Int32) = nI 0 from rfl]
  by_cases q : ∃ k, k < 15 ∧ bitL w c k
  · obtain ⟨k, hk, h1, h2⟩ := least_of q
    have := lp_for (b := X3_firstFor_b2 (nI c) w) (e := .inl (nI k)) (fun i => nI i) k (fun i hi => by rw [st i (by omega), if_neg (show ¬ (nn w 72 i).testBit c = true from h2 i hi)]) (by rw [st k hk, if_pos (show (nn w 72 k).testBit c = true from h1)]) 0 (Nat.zero_le _)
    rw [this, ffS_t hk h1 h2]; rfl
  · have := lp_for (b := X3_firstFor_b2 (nI c) w) (e := .inr ()) (fun i => nI i) 15 (fun i hi => by rw [st i (by omega), if_neg (show ¬ (nn w 72 i).testBit c = true from fun z => q ⟨i, hi, z⟩)]) (by unfold X3_firstFor_b2; simp (disch := omega) only [gdn, gb0, gb1, ixn, nm1, nI_add, nI_mul, nsub, nI_ltI, nI_leI, nI_eq, eqNO, eqNO2, ltNO, NOlt, leNO, NOle, if_pos, if_neg, Option.bind_some, if_true, if_false, and_self, eq_self, l0, l1, l2, l3, l4, l5, l6, l7, l8, l9, l10, l11, l12, l13, l14, l15, l16, l17, l18, l19, l20, l24, l26, l30, l31, l32, l40, l41, l42, l43, l45, l47, l48, l57, l58, l59, l60, l61, l62, l63, l64, l97, l99, l100, l101, l102, l103, l104, l105, l106, l107, l108, l109, l110, l122, l160, l240, l255, l600, l1000, l3000, l10000, l10007, l10116, l67108863, l67108864]) 0 (Nat.zero_le _)
    rw [this, ffS_n (fun k hk z => q ⟨k, hk, z⟩)]; rfl
theorem mfirst_e {w : Wd} (h : ILs w) {c k : Nat} (hc : c < 26) (hk : k < 16) (e166 : w.1 166 k = nI c) {a2 : Int32} : lp (X12_owe_b45 a2 (nI k) w) (NO, nI 14) = some (ffS w c) := by
  have st : ∀ j, j < 15 → ∀ s, X12_owe_b45 a2 (nI k) w (s, nI j) = some (.inl (if (nn w 72 j).testBit c = true then nI j else s, tp j)) := fun j hj s => by
    obtain ⟨-, -, -, ⟨e72, b72⟩⟩ := h.1 j hj
    have e149 : w.1 149 j = nI (nn w 72 j) := by rw [h.2.1.2.2]; exact e72
    have hb := bit_e (D := nn w 72 j) (k := c) (by omega) (by omega)
    have ht : nI j + NO = tp j := by
      cases j with
      | zero => rfl
      | succ n => exact nI_m1
    unfold X12_owe_b45 X12_owe_j77
    rw [show (-1 : Int32) = NO from rfl]
    by_cases q : (nn w 72 j).testBit c = true
    · rw [if_pos q] at hb ⊢
      simp (disch := omega) only [gdn, gb0, gb1, ixn, nm1, nI_add, nI_mul, nsub, nI_ltI, nI_leI, nI_eq, eqNO, eqNO2, ltNO, NOlt, leNO, NOle, if_pos, if_neg, Option.bind_some, if_true, if_false, and_self, eq_self, l0, l1, l2, l3, l4, l5, l6, l7, l8, l9, l10, l11, l12, l13, l14, l15, l16, l17, l18, l19, l20, l24, l26, l30, l31, l32, l40, l41, l42, l43, l45, l47, l48, l57, l58, l59, l60, l61, l62, l63, l64, l97, l99, l100, l101, l102, l103, l104, l105, l106, l107, l108, l109, l110, l122, l160, l240, l255, l600, l1000, l3000, l10000, l10007, l10116, l67108863, l67108864, e149, e166, show (31 : Int32) = nI 31 from rfl, hb, ht]
    · rw [if_neg q] at hb ⊢
      simp (disch := omega) only [gdn, gb0, gb1, ixn, nm1, nI_add, nI_mul, nsub, nI_ltI, nI_leI, nI_eq, eqNO, eqNO2, ltNO, NOlt, leNO, NOle, if_pos, if_neg, Option.bind_some, if_true, if_false, and_self, eq_self, l0, l1, l2, l3, l4, l5, l6, l7, l8, l9, l10, l11, l12, l13, l14, l15, l16, l17, l18, l19, l20, l24, l26, l30, l31, l32, l40, l41, l42, l43, l45, l47, l48, l57, l58, l59, l60, l61, l62, l63, l64, l97, l99, l100, l101, l102, l103, l104, l105, l106, l107, l108, l109, l110, l122, l160, l240, l255, l600, l1000, l3000, l10000, l10007, l10116, l67108863, l67108864, e149, e166, show (31 : Int32) = nI 31 from rfl, hb, ht]
  have key : ok (lp (X12_owe_b45 a2 (nI k) w) (NO, nI 14)) (fun e => e = ffS w c) := by
    refine lp_up (fun i s => s.2 = tp (15 - i) ∧ ((s.1 = NO ∧ ∀ j, 15 - i ≤ j → j < 15 → ¬ bitL w c j) ∨ ∃ k0, 15 - i ≤ k0 ∧ k0 < 15 ∧ s.1 = nI k0 ∧ bitL w c k0 ∧ ∀ j, 15 - i ≤ j → j < k0 → ¬ bitL w c j)) 15 ?_ ?_ 0 _ (Nat.zero_le _) ⟨rfl, Or.inl ⟨rfl, fun j h1 h2 => by omega⟩⟩
    · rintro i ⟨s1, s2⟩ hi ⟨h1, h2⟩
      simp only at h1 h2
      have e : 15 - i = (14 - i) + 1 := by omega
      rw [h1, e, tp_s, st (14 - i) (by omega)]
      refine ok_i ⟨by rw [show 15 - (i + 1) = 14 - i by omega], ?_⟩
      show ((if (nn w 72 (14 - i)).testBit c = true then nI (14 - i) else s1) = NO ∧ _) ∨ ∃ k0, _ ∧ _ ∧ (if (nn w 72 (14 - i)).testBit c = true then nI (14 - i) else s1) = nI k0 ∧ _
      by_cases q : (nn w 72 (14 - i)).testBit c = true
      · rw [if_pos q]
        exact Or.inr ⟨14 - i, by omega, by omega, rfl, q, fun j j1 j2 => by omega⟩
      · rw [if_neg q]
        have q' : ¬ bitL w c (14 - i) := q
        rcases h2 with ⟨z1, z2⟩ | ⟨k0, z1, z2, z3, z4, z5⟩
        · refine Or.inl ⟨z1, fun j j1 j2 => ?_⟩
          by_cases y : j = 14 - i
          · rw [y]; exact q'
          · exact z2 j (by omega) j2
        · refine Or.inr ⟨k0, by omega, z2, z3, z4, fun j j1 j2 => ?_⟩
          by_cases y : j = 14 - i
          · rw [y]; exact q'
          · exact z5 j (by omega) j2
    · rintro ⟨s1, s2⟩ ⟨h1, h2⟩
      simp only at h1 h2
      rw [h1]
      unfold X12_owe_b45
      rw [if_pos (show tp (15 - 15) < 0 by decide)]
      refine ok_i ?_
      rcases h2 with ⟨z1, z2⟩ | ⟨k0, z1, z2, z3, z4, z5⟩
      · rw [z1, ffS_n (fun j hj => z2 j (by omega) hj)]; rfl
      · rw [z3, ffS_t z2 z4 (fun j hj => z5 j (by omega) hj)]; rfl
  obtain ⟨e, k1, rfl⟩ := key
  exact k1
/-! counted by the class -/
theorem countOwed_e {w : Wd} (h : ILs w) {p n D j : Nat} {L : Nat → Nat} (hp : p < 60) (hn : n ≤ 8) (e83 : w.1 83 p = nI n) (e84 : ∀ k, k < n → w.1 84 (8 * p + k) = nI (L k) ∧ L k < 26) (hD : D < 32768) (hj : j < 15) : X5_countOwed (nI p) (nI j) (nI D) w = some (nI (cnt (fun k => decide (owS w D (L k) = nI j)) n)) := by
  have hb := bit_e (D := D) (k := j) (by omega) (by omega)
  unfold X5_countOwed
  by_cases q : D.testBit j = true
  · rw [if_pos q] at hb
    have e0 : cnt (fun k => decide (owS w D (L k) = nI j)) n = 0 := by
      rw [cnt_congr (q := fun _ => false) (fun i hi => by
        rw [decide_eq_false_iff_not, owS_eq hj]
        rintro ⟨y, -⟩
        rw [q] at y; cases y)]
      clear e83 e84 hn
      induction n with
      | zero => rfl
      | succ n ih => rw [cnt_one, ih]; rfl
    rw [e0]
    simp (disch := omega) only [gdn, gb0, gb1, ixn, nm1, nI_add, nI_mul, nsub, nI_ltI, nI_leI, nI_eq, eqNO, eqNO2, ltNO, NOlt, leNO, NOle, if_pos, if_neg, Option.bind_some, if_true, if_false, and_self, eq_self, l0, l1, l2, l3, l4, l5, l6, l7, l8, l9, l10, l11, l12, l13, l14, l15, l16, l17, l18, l19, l20, l24, l26, l30, l31, l32, l40, l41, l42, l43, l45, l47, l48, l57, l58, l59, l60, l61, l62, l63, l64, l97, l99, l100, l101, l102, l103, l104, l105, l106, l107, l108, l109, l110, l122, l160, l240, l255, l600, l1000, l3000, l10000, l10007, l10116, l67108863, l67108864, show (31 : Int32) = nI 31 from rfl, hb]
  · rw [if_neg q] at hb
    have qf : D.testBit j = false := by simpa using q
    have hlp := lp_for (b := X5_countOwed_b17 (nI p) (nI j) w) (e := nI (cnt (fun k => decide (owS w D (L k) = nI j)) n)) (fun i => (nI (cnt (fun k => decide (owS w D (L k) = nI j)) i), nI i)) n (fun i hi => ?_) ?_ 0 (Nat.zero_le _)
    · rw [show (nI (cnt (fun k => decide (owS w D (L k) = nI j)) 0), nI 0) = (nI 0, nI 0) from rfl] at hlp
      simp (disch := omega) only [gdn, gb0, gb1, ixn, nm1, nI_add, nI_mul, nsub, nI_ltI, nI_leI, nI_eq, eqNO, eqNO2, ltNO, NOlt, leNO, NOle, if_pos, if_neg, Option.bind_some, if_true, if_false, and_self, eq_self, l0, l1, l2, l3, l4, l5, l6, l7, l8, l9, l10, l11, l12, l13, l14, l15, l16, l17, l18, l19, l20, l24, l26, l30, l31, l32, l40, l41, l42, l43, l45, l47, l48, l57, l58, l59, l60, l61, l62, l63, l64, l97, l99, l100, l101, l102, l103, l104, l105, l106, l107, l108, l109, l110, l122, l160, l240, l255, l600, l1000, l3000, l10000, l10007, l10116, l67108863, l67108864, show (31 : Int32) = nI 31 from rfl, hb, hlp]
    · obtain ⟨e1, e2⟩ := e84 i hi
      have hf := first_e h e2
      have ei : p * 8 + i = 8 * p + i := by omega
      have hcl : cnt (fun k => decide (owS w D (L k) = nI j)) i ≤ i := cnt_le
      unfold X5_countOwed_b17 X5_countOwed_j51
      rw [cnt_one]
      by_cases z : ffS w (L i) = nI j
      · rw [if_pos (show decide (owS w D (L i) = nI j) = true by rw [decide_eq_true_eq, owS_eq hj]; exact ⟨qf, z⟩)]
        rw [z] at hf
        simp (disch := omega) only [gdn, gb0, gb1, ixn, nm1, nI_add, nI_mul, nsub, nI_ltI, nI_leI, nI_eq, eqNO, eqNO2, ltNO, NOlt, leNO, NOle, if_pos, if_neg, Option.bind_some, if_true, if_false, and_self, eq_self, l0, l1, l2, l3, l4, l5, l6, l7, l8, l9, l10, l11, l12, l13, l14, l15, l16, l17, l18, l19, l20, l24, l26, l30, l31, l32, l40, l41, l42, l43, l45, l47, l48, l57, l58, l59, l60, l61, l62, l63, l64, l97, l99, l100, l101, l102, l103, l104, l105, l106, l107, l108, l109, l110, l122, l160, l240, l255, l600, l1000, l3000, l10000, l10007, l10116, l67108863, l67108864, e83, ei, e1, hf]
      · rw [if_neg (show ¬ decide (owS w D (L i) = nI j) = true by rw [decide_eq_true_eq, owS_eq hj]; exact fun y => z y.2)]
        simp (disch := omega) only [gdn, gb0, gb1, ixn, nm1, nI_add, nI_mul, nsub, nI_ltI, nI_leI, nI_eq, eqNO, eqNO2, ltNO, NOlt, leNO, NOle, if_pos, if_neg, Option.bind_some, if_true, if_false, and_self, eq_self, l0, l1, l2, l3, l4, l5, l6, l7, l8, l9, l10, l11, l12, l13, l14, l15, l16, l17, l18, l19, l20, l24, l26, l30, l31, l32, l40, l41, l42, l43, l45, l47, l48, l57, l58, l59, l60, l61, l62, l63, l64, l97, l99, l100, l101, l102, l103, l104, l105, l106, l107, l108, l109, l110, l122, l160, l240, l255, l600, l1000, l3000, l10000, l10007, l10116, l67108863, l67108864, e83, ei, e1, hf, z]
        rfl
    · unfold X5_countOwed_b17
      simp (disch := omega) only [gdn, gb0, gb1, ixn, nm1, nI_add, nI_mul, nsub, nI_ltI, nI_leI, nI_eq, eqNO, eqNO2, ltNO, NOlt, leNO, NOle, if_pos, if_neg, Option.bind_some, if_true, if_false, and_self, eq_self, l0, l1, l2, l3, l4, l5, l6, l7, l8, l9, l10, l11, l12, l13, l14, l15, l16, l17, l18, l19, l20, l24, l26, l30, l31, l32, l40, l41, l42, l43, l45, l47, l48, l57, l58, l59, l60, l61, l62, l63, l64, l97, l99, l100, l101, l102, l103, l104, l105, l106, l107, l108, l109, l110, l122, l160, l240, l255, l600, l1000, l3000, l10000, l10007, l10116, l67108863, l67108864, e83]
theorem sm_add {A B : Nat → Nat} : ∀ {n : Nat}, sm (fun j => A j + B j) n = sm A n + sm B n
  | 0 => rfl
  | n + 1 => by
    have := sm_add (A := A) (B := B) (n := n)
    unfold sm
    omega
theorem sm_one {j0 : Nat} : ∀ {n : Nat}, sm (fun j => if j = j0 then 1 else 0) n = if j0 < n then 1 else 0
  | 0 => by rw [if_neg (by omega)]; rfl
  | n + 1 => by
    unfold sm
    rw [sm_one (n := n)]
    by_cases q : n = j0
    · rw [if_pos q, if_neg (by omega), if_pos (by omega)]
    · rw [if_neg q]
      by_cases z : j0 < n
      · rw [if_pos z, if_pos (by omega)]
      · rw [if_neg z, if_neg (by omega)]
theorem sm_congr {A B : Nat → Nat} : ∀ {n : Nat}, (∀ i, i < n → A i = B i) → sm A n = sm B n
  | 0, _ => rfl
  | n + 1, h => by unfold sm; rw [sm_congr (fun i hi => h i (by omega)), h n (by omega)]
theorem sm_zero : ∀ {n : Nat}, sm (fun _ => 0) n = 0
  | 0 => rfl
  | n + 1 => by unfold sm; rw [sm_zero]
theorem cnt_sum {f : Nat → Int32} (hf : ∀ k, f k = NO ∨ ∃ j, j < 15 ∧ f k = nI j) : ∀ n, sm (fun j => cnt (fun k => decide (f k = nI j)) n) 15 = cnt (fun k => decide (f k ≠ NO)) n
  | 0 => sm_zero
  | n + 1 => by
    have ih := cnt_sum hf n
    have e : sm (fun j => cnt (fun k => decide (f k = nI j)) (n + 1)) 15 = sm (fun j => cnt (fun k => decide (f k = nI j)) n + (if decide (f n = nI j) = true then 1 else 0)) 15 := rfl
    rw [e, sm_add, ih, cnt_one]
    congr 1
    rcases hf n with z | ⟨j0, hj, z⟩
    · rw [if_neg (by rw [decide_eq_true_eq]; exact fun y => y z), sm_congr (B := fun _ => 0) (fun i hi => by rw [if_neg (by rw [decide_eq_true_eq, z, eqNO2 (by omega)]; exact id)]), sm_zero]
    · rw [if_pos (by rw [decide_eq_true_eq, z, ne_eq, eqNO (by omega)]; exact id), sm_congr (B := fun j => if j = j0 then 1 else 0) (fun i hi => by
        by_cases y : i = j0
        · rw [if_pos y, if_pos (by rw [decide_eq_true_eq, z, y])]
        · rw [if_neg y, if_neg (by rw [decide_eq_true_eq, z, nI_eq (by omega) (by omega)]; omega)]), sm_one, if_pos hj]
theorem sm_bd {A : Nat → Nat} {b : Nat} (h : ∀ i, A i ≤ b) : ∀ n, sm A n ≤ n * b
  | 0 => by rw [Nat.zero_mul]; exact Nat.le_refl _
  | n + 1 => by
    have := sm_bd h n
    have := h n
    unfold sm
    rw [Nat.add_mul]
    omega
