/-! SLIPS -/
def slN (T U : Nat → Nat) (i j : Nat) : Nat := if T i = U j then 0 else 1
def Dw (T U : Nat → Nat) (m n : Nat) : Nat → Nat → Nat
  | 0, b => b
  | a + 1, 0 => a + 1
  | a + 1, b + 1 => min (slN T U (m - (a + 1)) (n - (b + 1)) + Dw T U m n a b) (1 + min (Dw T U m n a (b + 1)) (Dw T U m n (a + 1) b))
def Fw (T U : Nat → Nat) (m n i j : Nat) : Nat := Dw T U m n (m - i) (n - j)
section
variable {T U : Nat → Nat} {m n : Nat}
theorem Dw_0 (b : Nat) : Dw T U m n 0 b = b := by rw [Dw]
theorem Dw_a0 (a : Nat) : Dw T U m n a 0 = a := by cases a <;> rw [Dw]
theorem Fw_end {i j : Nat} (hi : i ≤ m) (hj : j ≤ n) (h : i = m ∨ j = n) : Fw T U m n i j = m - i + n - j := by
  unfold Fw
  rcases h with h | h
  · rw [show m - i = 0 by omega, Dw_0]; omega
  · rw [show n - j = 0 by omega, Dw_a0]; omega
theorem Fw_in {i j : Nat} (hi : i < m) (hj : j < n) : Fw T U m n i j = min (slN T U i j + Fw T U m n (i + 1) (j + 1)) (1 + min (Fw T U m n (i + 1) j) (Fw T U m n i (j + 1))) := by
  unfold Fw
  obtain ⟨a, ha⟩ : ∃ a, m - i = a + 1 := ⟨m - i - 1, by omega⟩
  obtain ⟨b, hb⟩ : ∃ b, n - j = b + 1 := ⟨n - j - 1, by omega⟩
  rw [ha, hb, Dw, show m - (i + 1) = a by omega, show n - (j + 1) = b by omega, show m - (a + 1) = i by omega, show n - (b + 1) = j by omega]
theorem sl_le (i j : Nat) : slN T U i j ≤ 1 := by unfold slN; split <;> omega
theorem Dw_le : ∀ a b, Dw T U m n a b ≤ max a b
  | 0, b => by rw [Dw]; omega
  | a + 1, 0 => by rw [Dw]; omega
  | a + 1, b + 1 => by
    rw [Dw]
    have h1 := Dw_le a b
    have h2 := sl_le (T := T) (U := U) (m - (a + 1)) (n - (b + 1))
    omega
theorem Fw_le (i j : Nat) : Fw T U m n i j ≤ max (m - i) (n - j) := Dw_le _ _
end
def pth (T U : Nat → Nat) (m n : Nat) : Nat → Nat → Nat → List Nat
  | 0, _, _ => []
  | f + 1, i, j => if i < m ∨ j < n then (if i < m ∧ j < n ∧ Fw T U m n i j = slN T U i j + Fw T U m n (i + 1) (j + 1) then (if slN T U i j = 1 then T i :: pth T U m n f (i + 1) (j + 1) else pth T U m n f (i + 1) (j + 1)) else if i < m ∧ Fw T U m n i j = 1 + Fw T U m n (i + 1) j then T i :: pth T U m n f (i + 1) j else U j :: pth T U m n f i (j + 1)) else []
section
variable {T U : Nat → Nat} {m n : Nat}
theorem pth_len : ∀ f i j, i ≤ m → j ≤ n → m - i + (n - j) ≤ f → (pth T U m n f i j).length = Fw T U m n i j
  | 0, i, j, hi, hj, hf => by
    rw [Fw_end hi hj (Or.inl (by omega))]
    show 0 = _
    omega
  | f + 1, i, j, hi, hj, hf => by
    unfold pth
    by_cases h : i < m ∨ j < n
    · rw [if_pos h]
      by_cases h1 : i < m ∧ j < n ∧ Fw T U m n i j = slN T U i j + Fw T U m n (i + 1) (j + 1)
      · rw [if_pos h1]
        have ih := pth_len f (i + 1) (j + 1) (by omega) (by omega) (by omega)
        by_cases h2 : slN T U i j = 1
        · rw [if_pos h2, List.length_cons, ih]; omega
        · rw [if_neg h2, ih]; have := sl_le (T := T) (U := U) i j; omega
      · rw [if_neg h1]
        by_cases h2 : i < m ∧ Fw T U m n i j = 1 + Fw T U m n (i + 1) j
        · rw [if_pos h2, List.length_cons, pth_len f (i + 1) j (by omega) hj (by omega)]; omega
        · rw [if_neg h2]
          by_cases hjn : j < n
          · rw [List.length_cons, pth_len f i (j + 1) hi (by omega) (by omega)]
            by_cases him : i < m
            · have h3 := Fw_in (T := T) (U := U) him hjn
              have h4 : Fw T U m n i j ≠ slN T U i j + Fw T U m n (i + 1) (j + 1) := fun z => h1 ⟨him, hjn, z⟩
              have h5 : Fw T U m n i j ≠ 1 + Fw T U m n (i + 1) j := fun z => h2 ⟨him, z⟩
              omega
            · rw [Fw_end hi hj (Or.inl (by omega)), Fw_end hi (by omega) (Or.inl (by omega))]; omega
          · exfalso
            apply h2
            refine ⟨by omega, ?_⟩
            rw [Fw_end hi hj (Or.inr (by omega)), Fw_end (by omega) hj (Or.inr (by omega))]; omega
    · rw [if_neg h, Fw_end hi hj (Or.inl (by omega))]
      show 0 = _
      omega
/-- the third way is open only where there is a letter written -/
theorem third {i j : Nat} (hi : i ≤ m) (hj : j ≤ n) (h : i < m ∨ j < n) (h2 : ¬ (i < m ∧ Fw T U m n i j = 1 + Fw T U m n (i + 1) j)) : j < n := by
  by_cases hjn : j < n
  · exact hjn
  · exfalso
    apply h2
    refine ⟨by omega, ?_⟩
    rw [Fw_end hi hj (Or.inr (by omega)), Fw_end (by omega) hj (Or.inr (by omega))]; omega
end
theorem rwS_app {a n v : Nat} {A : Nat → Nat} {z : Nat → Int32} (h : A n = v) : upd (rwS a n A z) (a + n) (nI v) = rwS a (n + 1) A z := by
  funext j
  unfold upd rwS
  by_cases q : j = a + n
  · rw [if_pos q, if_pos (by omega), show j - a = n by omega, h]
  · rw [if_neg q]
    by_cases q2 : a ≤ j ∧ j < a + n
    · rw [if_pos q2, if_pos (by omega)]
    · rw [if_neg q2, if_neg (by omega)]
/-! the class: the table -/
def tabOk (T U : Nat → Nat) (m n : Nat) (f : Nat → Int32) (p : Nat → Nat → Prop) : Prop := ∀ i j, i ≤ m → j ≤ n → p i j → f (9 * i + j) = nI (Fw T U m n i j)
theorem meas_in {w : Wd} {T U : Nat → Nat} {m n : Nat} (hm : m ≤ 8) (hn : n ≤ 8) (hT : ∀ i, i < m → w.1 85 i = nI (T i) ∧ T i < 32) (hU : ∀ j, j < n → w.1 86 j = nI (U j) ∧ U j < 32) {i : Nat} (hi : i ≤ m) {f : Nat → Int32} (hf : tabOk T U m n f (fun a _ => i < a)) : ok (lp (X5_measure_b9 (nI m) (nI n) (nI i)) (nI n, seI w 87 f)) (fun e => ∃ f', e = seI w 87 f' ∧ tabOk T U m n f' (fun a _ => i ≤ a)) := by
  refine lp_up (b := X5_measure_b9 (nI m) (nI n) (nI i)) (fun k s => ∃ f', s = (if k = n + 1 then NO else nI (n - k), seI w 87 f') ∧ tabOk T U m n f' (fun a b => i < a ∨ (a = i ∧ n < b + k))) (n + 1) ?_ ?_ 0 _ (Nat.zero_le _) ⟨f, by rw [if_neg (by omega)]; rfl, fun a b ha hb h => hf a b ha hb (by omega)⟩
  · rintro k s hk ⟨f', rfl, hf'⟩
    rw [if_neg (by omega)]
    have hFle := Fw_le (T := T) (U := U) (m := m) (n := n) i (n - k)
    have hc : (if k + 1 = n + 1 then NO else nI (n - (k + 1))) = nI (n - k) + NO := by
      by_cases q : k = n
      · rw [if_pos (by omega), show n - k = 0 by omega]; rfl
      · rw [if_neg (by omega), addNO (by omega), show n - k - 1 = n - (k + 1) by omega]
    have hnew : tabOk T U m n (upd f' (i * 9 + (n - k)) (nI (Fw T U m n i (n - k)))) (fun a b => i < a ∨ (a = i ∧ n < b + (k + 1))) := by
      intro a b ha hb h
      by_cases q : a = i ∧ b = n - k
      · rw [q.1, q.2, show 9 * i + (n - k) = i * 9 + (n - k) by omega, upd_s]
      · rw [upd_n (by omega)]; exact hf' a b ha hb (by omega)
    refine ⟨.inl (nI (n - k) + NO, seI w 87 (upd f' (i * 9 + (n - k)) (nI (Fw T U m n i (n - k))))), ?_, _, by rw [hc], hnew⟩
    unfold X5_measure_b9 X5_measure_j82
    by_cases q1 : m ≤ i
    · have e := Fw_end (T := T) (U := U) hi (show n - k ≤ n by omega) (Or.inl (by omega))
      rw [e]
      simp (disch := omega) only [gdn, gb0, gb1, ixn, nm1, nI_add, nI_mul, nsub, nI_ltI, nI_leI, nI_eq, eqNO, eqNO2, ltNO, NOlt, leNO, NOle, if_pos, if_neg, Option.bind_some, if_true, if_false, and_self, eq_self, l0, l1, l2, l3, l4, l5, l6, l7, l8, l9, l10, l11, l12, l13, l14, l15, l16, l17, l18, l19, l20, l24, l26, l30, l31, l32, l40, l41, l42, l43, l45, l47, l48, l57, l58, l59, l60, l61, l62, l63, l64, l97, l99, l100, l101, l102, l103, l104, l105, l106, l107, l108, l109, l110, l122, l160, l240, l255, l600, l1000, l3000, l10000, l10007, l10116, l67108863, l67108864, I_oth, I_J, J_oth, J_I, I_row, J_row, SI_row, SI_oth, SI_J, SJ_row, SJ_oth, SJ_I, upd_s, upd_n, updL_s, updL_n, ne_eq, not_false_eq_true, pu_seI]
    · by_cases q2 : n ≤ n - k
      · have e := Fw_end (T := T) (U := U) hi (show n - k ≤ n by omega) (Or.inr (by omega))
        rw [e]
        simp (disch := omega) only [gdn, gb0, gb1, ixn, nm1, nI_add, nI_mul, nsub, nI_ltI, nI_leI, nI_eq, eqNO, eqNO2, ltNO, NOlt, leNO, NOle, if_pos, if_neg, Option.bind_some, if_true, if_false, and_self, eq_self, l0, l1, l2, l3, l4, l5, l6, l7, l8, l9, l10, l11, l12, l13, l14, l15, l16, l17, l18, l19, l20, l24, l26, l30, l31, l32, l40, l41, l42, l43, l45, l47, l48, l57, l58, l59, l60, l61, l62, l63, l64, l97, l99, l100, l101, l102, l103, l104, l105, l106, l107, l108, l109, l110, l122, l160, l240, l255, l600, l1000, l3000, l10000, l10007, l10116, l67108863, l67108864, I_oth, I_J, J_oth, J_I, I_row, J_row, SI_row, SI_oth, SI_J, SJ_row, SJ_oth, SJ_I, upd_s, upd_n, updL_s, updL_n, ne_eq, not_false_eq_true, pu_seI]
      · have e := Fw_in (T := T) (U := U) (show i < m by omega) (show n - k < n by omega)
        have t1 : f' ((i + 1) * 9 + (n - k + 1)) = nI (Fw T U m n (i + 1) (n - k + 1)) := by
          have := hf' (i + 1) (n - k + 1) (by omega) (by omega) (Or.inl (by omega))
          rwa [show 9 * (i + 1) + (n - k + 1) = (i + 1) * 9 + (n - k + 1) by omega] at this
        have t2 : f' ((i + 1) * 9 + (n - k)) = nI (Fw T U m n (i + 1) (n - k)) := by
          have := hf' (i + 1) (n - k) (by omega) (by omega) (Or.inl (by omega))
          rwa [show 9 * (i + 1) + (n - k) = (i + 1) * 9 + (n - k) by omega] at this
        have t3 : f' (i * 9 + (n - k + 1)) = nI (Fw T U m n i (n - k + 1)) := by
          have := hf' i (n - k + 1) (by omega) (by omega) (Or.inr (by omega))
          rwa [show 9 * i + (n - k + 1) = i * 9 + (n - k + 1) by omega] at this
        have fl1 := Fw_le (T := T) (U := U) (m := m) (n := n) (i + 1) (n - k + 1)
        have fl2 := Fw_le (T := T) (U := U) (m := m) (n := n) (i + 1) (n - k)
        have fl3 := Fw_le (T := T) (U := U) (m := m) (n := n) i (n - k + 1)
        have hsl : X5_slipOf (nI i) (nI (n - k)) (seI w 87 f') = some (nI (slN T U i (n - k))) := by
          obtain ⟨eT, bT⟩ := hT i (by omega)
          obtain ⟨eU, bU⟩ := hU (n - k) (by omega)
          unfold X5_slipOf slN
          by_cases z : T i = U (n - k)
          · simp (disch := omega) only [gdn, gb0, gb1, ixn, nm1, nI_add, nI_mul, nsub, nI_ltI, nI_leI, nI_eq, eqNO, eqNO2, ltNO, NOlt, leNO, NOle, if_pos, if_neg, Option.bind_some, if_true, if_false, and_self, eq_self, l0, l1, l2, l3, l4, l5, l6, l7, l8, l9, l10, l11, l12, l13, l14, l15, l16, l17, l18, l19, l20, l24, l26, l30, l31, l32, l40, l41, l42, l43, l45, l47, l48, l57, l58, l59, l60, l61, l62, l63, l64, l97, l99, l100, l101, l102, l103, l104, l105, l106, l107, l108, l109, l110, l122, l160, l240, l255, l600, l1000, l3000, l10000, l10007, l10116, l67108863, l67108864, I_oth, I_J, J_oth, J_I, I_row, J_row, SI_row, SI_oth, SI_J, SJ_row, SJ_oth, SJ_I, upd_s, upd_n, updL_s, updL_n, ne_eq, not_false_eq_true, eT, eU]
          · simp (disch := omega) only [gdn, gb0, gb1, ixn, nm1, nI_add, nI_mul, nsub, nI_ltI, nI_leI, nI_eq, eqNO, eqNO2, ltNO, NOlt, leNO, NOle, if_pos, if_neg, Option.bind_some, if_true, if_false, and_self, eq_self, l0, l1, l2, l3, l4, l5, l6, l7, l8, l9, l10, l11, l12, l13, l14, l15, l16, l17, l18, l19, l20, l24, l26, l30, l31, l32, l40, l41, l42, l43, l45, l47, l48, l57, l58, l59, l60, l61, l62, l63, l64, l97, l99, l100, l101, l102, l103, l104, l105, l106, l107, l108, l109, l110, l122, l160, l240, l255, l600, l1000, l3000, l10000, l10007, l10116, l67108863, l67108864, I_oth, I_J, J_oth, J_I, I_row, J_row, SI_row, SI_oth, SI_J, SJ_row, SJ_oth, SJ_I, upd_s, upd_n, updL_s, updL_n, ne_eq, not_false_eq_true, eT, eU]
        have lsl := sl_le (T := T) (U := U) i (n - k)
        rw [e]
        unfold X5_fewestAt
        simp (disch := omega) only [gdn, gb0, gb1, ixn, nm1, nI_add, nI_mul, nsub, nI_ltI, nI_leI, nI_eq, eqNO, eqNO2, ltNO, NOlt, leNO, NOle, if_pos, if_neg, Option.bind_some, if_true, if_false, and_self, eq_self, l0, l1, l2, l3, l4, l5, l6, l7, l8, l9, l10, l11, l12, l13, l14, l15, l16, l17, l18, l19, l20, l24, l26, l30, l31, l32, l40, l41, l42, l43, l45, l47, l48, l57, l58, l59, l60, l61, l62, l63, l64, l97, l99, l100, l101, l102, l103, l104, l105, l106, l107, l108, l109, l110, l122, l160, l240, l255, l600, l1000, l3000, l10000, l10007, l10116, l67108863, l67108864, I_oth, I_J, J_oth, J_I, I_row, J_row, SI_row, SI_oth, SI_J, SJ_row, SJ_oth, SJ_I, upd_s, upd_n, updL_s, updL_n, ne_eq, not_false_eq_true, hsl, t1, t2, t3, mn_nI, pu_seI]
  · rintro s ⟨f', rfl, hf'⟩
    refine ⟨.inr (seI w 87 f'), ?_, f', rfl, fun a b ha hb h => hf' a b ha hb (by omega)⟩
    unfold X5_measure_b9
    simp (disch := omega) only [gdn, gb0, gb1, ixn, nm1, nI_add, nI_mul, nsub, nI_ltI, nI_leI, nI_eq, eqNO, eqNO2, ltNO, NOlt, leNO, NOle, if_pos, if_neg, Option.bind_some, if_true, if_false, and_self, eq_self, l0, l1, l2, l3, l4, l5, l6, l7, l8, l9, l10, l11, l12, l13, l14, l15, l16, l17, l18, l19, l20, l24, l26, l30, l31, l32, l40, l41, l42, l43, l45, l47, l48, l57, l58, l59, l60, l61, l62, l63, l64, l97, l99, l100, l101, l102, l103, l104, l105, l106, l107, l108, l109, l110, l122, l160, l240, l255, l600, l1000, l3000, l10000, l10007, l10116, l67108863, l67108864]
theorem meas_e {w : Wd} {T U : Nat → Nat} {m n : Nat} (hm : m ≤ 8) (hn : n ≤ 8) (hT : ∀ i, i < m → w.1 85 i = nI (T i) ∧ T i < 32) (hU : ∀ j, j < n → w.1 86 j = nI (U j) ∧ U j < 32) : ∃ f, X5_measure (nI m) (nI n) w = some (seI w 87 f) ∧ tabOk T U m n f (fun _ _ => True) := by
  have key := lp_up (b := X5_measure_b2 (nI m) (nI n)) (Q := fun e => ∃ f', e = seI w 87 f' ∧ tabOk T U m n f' (fun _ _ => True)) (fun k s => ∃ f', s = (if k = m + 1 then NO else nI (m - k), seI w 87 f') ∧ tabOk T U m n f' (fun a _ => m < a + k)) (m + 1) ?_ ?_ 0 (nI m, w) (Nat.zero_le _) ⟨w.1 87, by rw [if_neg (by omega), seI_same rfl]; rfl, fun a b ha hb h => by omega⟩
  · obtain ⟨e, he, f', rfl, hf'⟩ := key
    exact ⟨f', by unfold X5_measure; rw [he]; rfl, hf'⟩
  · rintro k s hk ⟨f', rfl, hf'⟩
    rw [if_neg (by omega)]
    obtain ⟨e, he, f2, rfl, hf2⟩ := meas_in hm hn hT hU (i := m - k) (by omega) (f := f') (fun a b ha hb h => hf' a b ha hb (by omega))
    refine ⟨.inl (nI (m - k) + NO, seI w 87 f2), ?_, f2, ?_, fun a b ha hb h => hf2 a b ha hb (by omega)⟩
    · unfold X5_measure_b2
      simp (disch := omega) only [gdn, gb0, gb1, ixn, nm1, nI_add, nI_mul, nsub, nI_ltI, nI_leI, nI_eq, eqNO, eqNO2, ltNO, NOlt, leNO, NOle, if_pos, if_neg, Option.bind_some, if_true, if_false, and_self, eq_self, l0, l1, l2, l3, l4, l5, l6, l7, l8, l9, l10, l11, l12, l13, l14, l15, l16, l17, l18, l19, l20, l24, l26, l30, l31, l32, l40, l41, l42, l43, l45, l47, l48, l57, l58, l59, l60, l61, l62, l63, l64, l97, l99, l100, l101, l102, l103, l104, l105, l106, l107, l108, l109, l110, l122, l160, l240, l255, l600, l1000, l3000, l10000, l10007, l10116, l67108863, l67108864, he]
    · by_cases q : k = m
      · rw [if_pos (by omega), show m - k = 0 by omega]; rfl
      · rw [if_neg (by omega), addNO (by omega), show m - k - 1 = m - (k + 1) by omega]
  · rintro s ⟨f', rfl, hf'⟩
    refine ⟨.inr (seI w 87 f'), ?_, f', rfl, fun a b ha hb _ => hf' a b ha hb (by omega)⟩
    unfold X5_measure_b2
    simp (disch := omega) only [gdn, gb0, gb1, ixn, nm1, nI_add, nI_mul, nsub, nI_ltI, nI_leI, nI_eq, eqNO, eqNO2, ltNO, NOlt, leNO, NOle, if_pos, if_neg, Option.bind_some, if_true, if_false, and_self, eq_self, l0, l1, l2, l3, l4, l5, l6, l7, l8, l9, l10, l11, l12, l13, l14, l15, l16, l17, l18, l19, l20, l24, l26, l30, l31, l32, l40, l41, l42, l43, l45, l47, l48, l57, l58, l59, l60, l61, l62, l63, l64, l97, l99, l100, l101, l102, l103, l104, l105, l106, l107, l108, l109, l110, l122, l160, l240, l255, l600, l1000, l3000, l10000, l10007, l10116, l67108863, l67108864]
