/-! letters of a word -/
noncomputable def ltr (V : Nat) (k : Nat) : Nat := dg V (lW V - 1 - k) - 1
theorem ltr_lt {V : Nat} (k : Nat) : ltr V k < 32 := by
  unfold ltr dg
  have : V / 32 ^ (lW V - 1 - k) % 32 < 32 := Nat.mod_lt _ (by omega)
  omega
theorem dg_ok {V : Nat} (h : okW V) {i : Nat} (hi : i < lW V) : 1 ≤ dg V i ∧ dg V i ≤ 26 := h.2.2 i ((lW_s h.2.1).2.2 i hi)
theorem ltr_26 {V : Nat} (h : okW V) {k : Nat} (hk : k < lW V) : ltr V k < 26 := by
  have := dg_ok h (i := lW V - 1 - k) (by omega)
  unfold ltr; omega
theorem spell_e {V : Nat} (h : okW V) {kv nv : Nat} (hnv : nv = 8) (w : Wd) : X5_spell kv nv (lN V) w = some (nI (lW V), seI w kv (rwN (lW V) (ltr V) (w.1 kv))) := by
  subst hnv
  obtain ⟨b1, b2, b3⟩ := lW_s h.2.1
  have hp := lW_pos h
  have h63 : V < 2 ^ 63 := by have := h.2.1; omega
  have hlp := lp_for (b := X5_spell_b13 kv 8 (nI (lW V))) (fun t => (lN (V / 32 ^ t), if t = lW V then NO else nI (lW V - 1 - t), seI w kv (fun k => if lW V ≤ k + t ∧ k < lW V then nI (ltr V k) else w.1 kv k))) (lW V) (e := seI w kv (rwN (lW V) (ltr V) (w.1 kv))) (fun t ht => ?_) ?_ 0 (Nat.zero_le _)
  · unfold X5_spell
    rw [length_e, lenS_t h]
    simp only [Option.bind_some]
    rw [if_neg (by omega), Nat.pow_zero, Nat.div_one, seI_same (by funext k; rw [if_neg (by omega)])] at hlp
    rw [show nI (lW V) - 1 = nI (lW V - 1 - 0) from nsub (by omega), hlp]
    rfl
  · have hd := dg_ok h ht
    have hv := vdiv (i := t) h63
    have hm : V / 32 ^ t % 32 < 32 := Nat.mod_lt _ (by omega)
    have hd' : 1 ≤ V / 32 ^ t % 32 := hd.1
    have hto := l_to (V := V / 32 ^ t % 32) (by omega)
    have hsub : nI (V / 32 ^ t % 32) - nI 1 = nI (V / 32 ^ t % 32 - 1) := nsub hd'
    have hsh := l_shr5 hv
    have hc : (if t + 1 = lW V then NO else nI (lW V - 1 - (t + 1))) = nI (lW V - 1 - t) + NO := by
      by_cases q : t + 1 = lW V
      · rw [if_pos q, show lW V - 1 - t = 0 by omega]; rfl
      · rw [if_neg q, addNO (by omega), show lW V - 1 - t - 1 = lW V - 1 - (t + 1) by omega]
    rw [hc, div32, if_neg (show ¬ t = lW V by omega)]
    unfold X5_spell_b13
    simp (disch := omega) only [gdn, gb0, gb1, ixn, nm1, nI_add, nI_mul, nsub, nI_ltI, nI_leI, nI_eq, eqNO, eqNO2, ltNO, NOlt, leNO, NOle, if_pos, if_neg, Option.bind_some, if_true, if_false, and_self, eq_self, l0, l1, l2, l3, l4, l5, l6, l7, l8, l9, l10, l11, l12, l13, l14, l15, l16, l17, l18, l19, l20, l24, l26, l30, l31, l32, l40, l41, l42, l43, l45, l47, l48, l57, l58, l59, l60, l61, l62, l63, l64, l97, l99, l100, l101, l102, l103, l104, l105, l106, l107, l108, l109, l110, l122, l160, l240, l255, l600, l1000, l3000, l10000, l10007, l10116, l67108863, l67108864, l_and, hto, hsub, hsh, pu_seI]
    congr 4
    congr 1
    funext k
    unfold upd
    by_cases q : k = lW V - 1 - t
    · rw [if_pos q, if_pos (by omega)]
      unfold ltr dg
      rw [show lW V - 1 - k = t by omega]
    · rw [if_neg q]
      dsimp only
      by_cases z : lW V ≤ k + t ∧ k < lW V
      · rw [if_pos z, if_pos (by omega)]
      · rw [if_neg z, if_neg (by omega)]
  · unfold X5_spell_b13
    simp (disch := omega) only [gdn, gb0, gb1, ixn, nm1, nI_add, nI_mul, nsub, nI_ltI, nI_leI, nI_eq, eqNO, eqNO2, ltNO, NOlt, leNO, NOle, if_pos, if_neg, Option.bind_some, if_true, if_false, and_self, eq_self, l0, l1, l2, l3, l4, l5, l6, l7, l8, l9, l10, l11, l12, l13, l14, l15, l16, l17, l18, l19, l20, l24, l26, l30, l31, l32, l40, l41, l42, l43, l45, l47, l48, l57, l58, l59, l60, l61, l62, l63, l64, l97, l99, l100, l101, l102, l103, l104, l105, l106, l107, l108, l109, l110, l122, l160, l240, l255, l600, l1000, l3000, l10000, l10007, l10116, l67108863, l67108864]
    congr 3
    funext k
    unfold rwN
    by_cases z : k < lW V
    · rw [if_pos (by omega), if_pos z]
    · rw [if_neg (by omega), if_neg z]
theorem sh5 {j : Nat} (h : j < 8) : ((Int32.toInt64 (nI (5 * j)) &&& 63).toBitVec.smod 64).toNat = 5 * j := by
  have : ∀ j : Fin 8, ((Int32.toInt64 (nI (5 * j.1)) &&& 63).toBitVec.smod 64).toNat = 5 * j.1 := by decide
  exact this ⟨j, h⟩
theorem mspell_e {V : Nat} (h : okW V) {kv nv : Nat} (hnv : nv = 8) (w : Wd) : X12_spell kv nv (lN V) w = some (nI (lW V), seI w kv (rwN (lW V) (ltr V) (w.1 kv))) := by
  subst hnv
  obtain ⟨b1, b2, b3⟩ := lW_s h.2.1
  have hp := lW_pos h
  have h63 : V < 2 ^ 63 := by have := h.2.1; omega
  have hq : ∀ q, q < 2 ^ 63 → q ≠ 0 → ∀ i, X12_spell_b5 kv 8 (lN V) w (nI i, lN q) = some (.inl (nI (i + 1), lN (q / 32))) := by
    intro q h1 h2 i
    unfold X12_spell_b5
    simp (disch := omega) only [gdn, gb0, gb1, ixn, nm1, nI_add, nI_mul, nsub, nI_ltI, nI_leI, nI_eq, eqNO, eqNO2, ltNO, NOlt, leNO, NOle, if_pos, if_neg, Option.bind_some, if_true, if_false, and_self, eq_self, l0, l1, l2, l3, l4, l5, l6, l7, l8, l9, l10, l11, l12, l13, l14, l15, l16, l17, l18, l19, l20, l24, l26, l30, l31, l32, l40, l41, l42, l43, l45, l47, l48, l57, l58, l59, l60, l61, l62, l63, l64, l97, l99, l100, l101, l102, l103, l104, l105, l106, l107, l108, l109, l110, l122, l160, l240, l255, l600, l1000, l3000, l10000, l10007, l10116, l67108863, l67108864, j0, l_le, l_shr5]
  have hlp1 := lp_for (b := X12_spell_b5 kv 8 (lN V) w) (fun i => (nI i, lN (V / 32 ^ i))) (lW V) (e := nI (lW V)) (fun i hi => by rw [hq _ (vdiv h63) (b3 i hi), div32]) (by
    rw [b2]
    unfold X12_spell_b5
    simp (disch := omega) only [gdn, gb0, gb1, ixn, nm1, nI_add, nI_mul, nsub, nI_ltI, nI_leI, nI_eq, eqNO, eqNO2, ltNO, NOlt, leNO, NOle, if_pos, if_neg, Option.bind_some, if_true, if_false, and_self, eq_self, l0, l1, l2, l3, l4, l5, l6, l7, l8, l9, l10, l11, l12, l13, l14, l15, l16, l17, l18, l19, l20, l24, l26, l30, l31, l32, l40, l41, l42, l43, l45, l47, l48, l57, l58, l59, l60, l61, l62, l63, l64, l97, l99, l100, l101, l102, l103, l104, l105, l106, l107, l108, l109, l110, l122, l160, l240, l255, l600, l1000, l3000, l10000, l10007, l10116, l67108863, l67108864, j0, l_le]) 0 (Nat.zero_le _)
  have hlp2 := lp_for (b := X12_spell_b27 kv 8 (lN V) (nI (lW V))) (fun k => (nI k, seI w kv (rwN k (ltr V) (w.1 kv)))) (lW V) (e := seI w kv (rwN (lW V) (ltr V) (w.1 kv))) (fun k hk => ?_) ?_ 0 (Nat.zero_le _)
  · unfold X12_spell
    rw [Nat.pow_zero, Nat.div_one] at hlp1
    rw [show ((0 : Int32), lN V) = (nI 0, lN V) from rfl, hlp1]
    simp only [Option.bind_some]
    rw [show rwN 0 (ltr V) (w.1 kv) = w.1 kv from rwN_id (fun j hj => by omega), seI_same rfl] at hlp2
    rw [show ((0 : Int32), w) = (nI 0, w) from rfl, hlp2]
    rfl
  · have hd := dg_ok h (i := lW V - 1 - k) (by omega)
    have hm : dg V (lW V - 1 - k) < 32 := by unfold dg; exact Nat.mod_lt _ (by omega)
    have hsh : lN V >>> (Int32.toInt64 (nI (5 * (lW V - 1 - k))) &&& 63) = lN (V / 32 ^ (lW V - 1 - k)) := by
      rw [l_shr h63 (sh5 (by omega)), Nat.pow_mul]
    have hto : (lN (V / 32 ^ (lW V - 1 - k) % 32)).toInt32 = nI (dg V (lW V - 1 - k)) := l_to (by unfold dg at hm; omega)
    unfold X12_spell_b27
    simp (disch := omega) only [gdn, gb0, gb1, ixn, nm1, nI_add, nI_mul, nsub, nI_ltI, nI_leI, nI_eq, eqNO, eqNO2, ltNO, NOlt, leNO, NOle, if_pos, if_neg, Option.bind_some, if_true, if_false, and_self, eq_self, l0, l1, l2, l3, l4, l5, l6, l7, l8, l9, l10, l11, l12, l13, l14, l15, l16, l17, l18, l19, l20, l24, l26, l30, l31, l32, l40, l41, l42, l43, l45, l47, l48, l57, l58, l59, l60, l61, l62, l63, l64, l97, l99, l100, l101, l102, l103, l104, l105, l106, l107, l108, l109, l110, l122, l160, l240, l255, l600, l1000, l3000, l10000, l10007, l10116, l67108863, l67108864, hsh, l_and, hto, pu_seI]
    congr 4
    funext j
    unfold upd rwN
    by_cases q : j = k
    · rw [if_pos q, if_pos (by omega), q]; rfl
    · rw [if_neg q]
      by_cases z : j < k
      · rw [if_pos z, if_pos (by omega)]
      · rw [if_neg z, if_neg (by omega)]
  · unfold X12_spell_b27
    simp (disch := omega) only [gdn, gb0, gb1, ixn, nm1, nI_add, nI_mul, nsub, nI_ltI, nI_leI, nI_eq, eqNO, eqNO2, ltNO, NOlt, leNO, NOle, if_pos, if_neg, Option.bind_some, if_true, if_false, and_self, eq_self, l0, l1, l2, l3, l4, l5, l6, l7, l8, l9, l10, l11, l12, l13, l14, l15, l16, l17, l18, l19, l20, l24, l26, l30, l31, l32, l40, l41, l42, l43, l45, l47, l48, l57, l58, l59, l60, l61, l62, l63, l64, l97, l99, l100, l101, l102, l103, l104, l105, l106, l107, l108, l109, l110, l122, l160, l240, l255, l600, l1000, l3000, l10000, l10007, l10116, l67108863, l67108864]
/-! the model: table and walk -/
section
variable {T U : Nat → Nat} {m n : Nat} {w : Wd}
theorem mpairs_e {i j : Nat} (hi : i < 8) (hj : j < 8) (eT : w.1 163 i = nI (T i)) (bT : T i < 32) (eU : w.1 164 j = nI (U j)) (bU : U j < 32) : X12_pairs (nI i) (nI j) w = some (nI (slN T U i j)) := by
  unfold X12_pairs slN
  by_cases z : T i = U j
  · simp (disch := omega) only [gdn, gb0, gb1, ixn, nm1, nI_add, nI_mul, nsub, nI_ltI, nI_leI, nI_eq, eqNO, eqNO2, ltNO, NOlt, leNO, NOle, if_pos, if_neg, Option.bind_some, if_true, if_false, and_self, eq_self, l0, l1, l2, l3, l4, l5, l6, l7, l8, l9, l10, l11, l12, l13, l14, l15, l16, l17, l18, l19, l20, l24, l26, l30, l31, l32, l40, l41, l42, l43, l45, l47, l48, l57, l58, l59, l60, l61, l62, l63, l64, l97, l99, l100, l101, l102, l103, l104, l105, l106, l107, l108, l109, l110, l122, l160, l240, l255, l600, l1000, l3000, l10000, l10007, l10116, l67108863, l67108864, eT, eU]
  · simp (disch := omega) only [gdn, gb0, gb1, ixn, nm1, nI_add, nI_mul, nsub, nI_ltI, nI_leI, nI_eq, eqNO, eqNO2, ltNO, NOlt, leNO, NOle, if_pos, if_neg, Option.bind_some, if_true, if_false, and_self, eq_self, l0, l1, l2, l3, l4, l5, l6, l7, l8, l9, l10, l11, l12, l13, l14, l15, l16, l17, l18, l19, l20, l24, l26, l30, l31, l32, l40, l41, l42, l43, l45, l47, l48, l57, l58, l59, l60, l61, l62, l63, l64, l97, l99, l100, l101, l102, l103, l104, l105, l106, l107, l108, l109, l110, l122, l160, l240, l255, l600, l1000, l3000, l10000, l10007, l10116, l67108863, l67108864, eT, eU]
theorem mmeas_in (hm : m ≤ 8) (hn : n ≤ 8) (h96 : w.1 97 96 = nI m) (h97 : w.1 97 97 = nI n) (hT : ∀ i, i < m → w.1 163 i = nI (T i) ∧ T i < 32) (hU : ∀ j, j < n → w.1 164 j = nI (U j) ∧ U j < 32) {i : Nat} (hi : i ≤ m) {f : Nat → Int32} (hf : tabOk T U m n f (fun a _ => i < a)) : ok (lp (X12_spellOut_b48 (nI i)) (nI n, seI w 165 f)) (fun e => ∃ f', e = seI w 165 f' ∧ tabOk T U m n f' (fun a _ => i ≤ a)) := by
  refine lp_up (b := X12_spellOut_b48 (nI i)) (fun k s => ∃ f', s = (if k = n + 1 then NO else nI (n - k), seI w 165 f') ∧ tabOk T U m n f' (fun a b => i < a ∨ (a = i ∧ n < b + k))) (n + 1) ?_ ?_ 0 _ (Nat.zero_le _) ⟨f, by rw [if_neg (by omega)]; rfl, fun a b ha hb h => hf a b ha hb (by omega)⟩
  · rintro k s hk ⟨f', rfl, hf'⟩
    rw [if_neg (by omega)]
    have r96 : (seI w 165 f').1 97 96 = nI m := h96
    have r97 : (seI w 165 f').1 97 97 = nI n := h97
    have hFle := Fw_le (T := T) (U := U) (m := m) (n := n) i (n - k)
    have hc : (if k + 1 = n + 1 then NO else nI (n - (k + 1))) = nI (n - k) + NO := by
      by_cases q : k = n
      · rw [if_pos (by omega), show n - k = 0 by omega]; rfl
      · rw [if_neg (by omega), addNO (by omega), show n - k - 1 = n - (k + 1) by omega]
    have hnew : tabOk T U m n (upd f' (9 * i + (n - k)) (nI (Fw T U m n i (n - k)))) (fun a b => i < a ∨ (a = i ∧ n < b + (k + 1))) := by
      intro a b ha hb h
      by_cases q : a = i ∧ b = n - k
      · rw [q.1, q.2, upd_s]
      · rw [upd_n (by omega)]; exact hf' a b ha hb (by omega)
    refine ⟨.inl (nI (n - k) + NO, seI w 165 (upd f' (9 * i + (n - k)) (nI (Fw T U m n i (n - k))))), ?_, _, by rw [hc], hnew⟩
    unfold X12_spellOut_b48 X12_spellOut_j72 X12_spellOut_j75 X12_spellOut_j117 X12_spellOut_j147 X12_spellOut_j177
    by_cases q1 : m ≤ i
    · have e := Fw_end (T := T) (U := U) hi (show n - k ≤ n by omega) (Or.inl (by omega))
      by_cases q2 : n ≤ n - k
      · rw [show Fw T U m n i (n - k) = 0 by omega]
        simp (disch := omega) only [gdn, gb0, gb1, ixn, nm1, nI_add, nI_mul, nsub, nI_ltI, nI_leI, nI_eq, eqNO, eqNO2, ltNO, NOlt, leNO, NOle, if_pos, if_neg, Option.bind_some, if_true, if_false, and_self, eq_self, l0, l1, l2, l3, l4, l5, l6, l7, l8, l9, l10, l11, l12, l13, l14, l15, l16, l17, l18, l19, l20, l24, l26, l30, l31, l32, l40, l41, l42, l43, l45, l47, l48, l57, l58, l59, l60, l61, l62, l63, l64, l97, l99, l100, l101, l102, l103, l104, l105, l106, l107, l108, l109, l110, l122, l160, l240, l255, l600, l1000, l3000, l10000, l10007, l10116, l67108863, l67108864, r96, r97, pu_seI]
      · have t3 : f' (9 * i + (n - k) + 1) = nI (Fw T U m n i (n - k + 1)) := hf' i (n - k + 1) (by omega) (by omega) (Or.inr (by omega))
        have e3 := Fw_end (T := T) (U := U) hi (show n - k + 1 ≤ n by omega) (Or.inl (by omega))
        rw [show Fw T U m n i (n - k) = min 1000 (1 + Fw T U m n i (n - k + 1)) by omega]
        have b3 : Fw T U m n i (n - k + 1) ≤ 8 := by omega
        simp (disch := omega) only [gdn, gb0, gb1, ixn, nm1, nI_add, nI_mul, nsub, nI_ltI, nI_leI, nI_eq, eqNO, eqNO2, ltNO, NOlt, leNO, NOle, if_pos, if_neg, Option.bind_some, if_true, if_false, and_self, eq_self, l0, l1, l2, l3, l4, l5, l6, l7, l8, l9, l10, l11, l12, l13, l14, l15, l16, l17, l18, l19, l20, l24, l26, l30, l31, l32, l40, l41, l42, l43, l45, l47, l48, l57, l58, l59, l60, l61, l62, l63, l64, l97, l99, l100, l101, l102, l103, l104, l105, l106, l107, l108, l109, l110, l122, l160, l240, l255, l600, l1000, l3000, l10000, l10007, l10116, l67108863, l67108864, I_oth, I_J, J_oth, J_I, I_row, J_row, SI_row, SI_oth, SI_J, SJ_row, SJ_oth, SJ_I, upd_s, upd_n, updL_s, updL_n, ne_eq, not_false_eq_true, r96, r97, t3, mn_nI, pu_seI]
    · have t2 : f' (9 * (i + 1) + (n - k)) = nI (Fw T U m n (i + 1) (n - k)) := hf' (i + 1) (n - k) (by omega) (by omega) (Or.inl (by omega))
      have fl2 := Fw_le (T := T) (U := U) (m := m) (n := n) (i + 1) (n - k)
      by_cases q2 : n ≤ n - k
      · have e := Fw_end (T := T) (U := U) hi (show n - k ≤ n by omega) (Or.inr (by omega))
        have e3 := Fw_end (T := T) (U := U) (show i + 1 ≤ m by omega) (show n - k ≤ n by omega) (Or.inr (by omega))
        rw [show Fw T U m n i (n - k) = min 1000 (1 + Fw T U m n (i + 1) (n - k)) by omega]
        simp (disch := omega) only [gdn, gb0, gb1, ixn, nm1, nI_add, nI_mul, nsub, nI_ltI, nI_leI, nI_eq, eqNO, eqNO2, ltNO, NOlt, leNO, NOle, if_pos, if_neg, Option.bind_some, if_true, if_false, and_self, eq_self, l0, l1, l2, l3, l4, l5, l6, l7, l8, l9, l10, l11, l12, l13, l14, l15, l16, l17, l18, l19, l20, l24, l26, l30, l31, l32, l40, l41, l42, l43, l45, l47, l48, l57, l58, l59, l60, l61, l62, l63, l64, l97, l99, l100, l101, l102, l103, l104, l105, l106, l107, l108, l109, l110, l122, l160, l240, l255, l600, l1000, l3000, l10000, l10007, l10116, l67108863, l67108864, I_oth, I_J, J_oth, J_I, I_row, J_row, SI_row, SI_oth, SI_J, SJ_row, SJ_oth, SJ_I, upd_s, upd_n, updL_s, updL_n, ne_eq, not_false_eq_true, r96, r97, t2, mn_nI, pu_seI]
      · have e := Fw_in (T := T) (U := U) (show i < m by omega) (show n - k < n by omega)
        have t1 : f' (9 * (i + 1) + (n - k) + 1) = nI (Fw T U m n (i + 1) (n - k + 1)) := hf' (i + 1) (n - k + 1) (by omega) (by omega) (Or.inl (by omega))
        have t3 : f' (9 * i + (n - k) + 1) = nI (Fw T U m n i (n - k + 1)) := hf' i (n - k + 1) (by omega) (by omega) (Or.inr (by omega))
        have fl1 := Fw_le (T := T) (U := U) (m := m) (n := n) (i + 1) (n - k + 1)
        have fl3 := Fw_le (T := T) (U := U) (m := m) (n := n) i (n - k + 1)
        obtain ⟨eT, bT⟩ := hT i (by omega)
        obtain ⟨eU, bU⟩ := hU (n - k) (by omega)
        have hsl := mpairs_e (w := seI w 165 f') (T := T) (U := U) (i := i) (j := n - k) (by omega) (by omega) eT bT eU bU
        have lsl := sl_le (T := T) (U := U) i (n - k)
        rw [show Fw T U m n i (n - k) = min (min (slN T U i (n - k) + Fw T U m n (i + 1) (n - k + 1)) (1 + Fw T U m n (i + 1) (n - k))) (1 + Fw T U m n i (n - k + 1)) by omega]
        by_cases q3 : i = m
        · omega
        · simp (disch := omega) only [gdn, gb0, gb1, ixn, nm1, nI_add, nI_mul, nsub, nI_ltI, nI_leI, nI_eq, eqNO, eqNO2, ltNO, NOlt, leNO, NOle, if_pos, if_neg, Option.bind_some, if_true, if_false, and_self, eq_self, l0, l1, l2, l3, l4, l5, l6, l7, l8, l9, l10, l11, l12, l13, l14, l15, l16, l17, l18, l19, l20, l24, l26, l30, l31, l32, l40, l41, l42, l43, l45, l47, l48, l57, l58, l59, l60, l61, l62, l63, l64, l97, l99, l100, l101, l102, l103, l104, l105, l106, l107, l108, l109, l110, l122, l160, l240, l255, l600, l1000, l3000, l10000, l10007, l10116, l67108863, l67108864, I_oth, I_J, J_oth, J_I, I_row, J_row, SI_row, SI_oth, SI_J, SJ_row, SJ_oth, SJ_I, upd_s, upd_n, updL_s, updL_n, ne_eq, not_false_eq_true, r96, r97, hsl, t1, t2, t3, mn_nI, pu_seI]
  · rintro s ⟨f', rfl, hf'⟩
    refine ⟨.inr (seI w 165 f'), ?_, f', rfl, fun a b ha hb h => hf' a b ha hb (by omega)⟩
    unfold X12_spellOut_b48
    simp (disch := omega) only [gdn, gb0, gb1, ixn, nm1, nI_add, nI_mul, nsub, nI_ltI, nI_leI, nI_eq, eqNO, eqNO2, ltNO, NOlt, leNO, NOle, if_pos, if_neg, Option.bind_some, if_true, if_false, and_self, eq_self, l0, l1, l2, l3, l4, l5, l6, l7, l8, l9, l10, l11, l12, l13, l14, l15, l16, l17, l18, l19, l20, l24, l26, l30, l31, l32, l40, l41, l42, l43, l45, l47, l48, l57, l58, l59, l60, l61, l62, l63, l64, l97, l99, l100, l101, l102, l103, l104, l105, l106, l107, l108, l109, l110, l122, l160, l240, l255, l600, l1000, l3000, l10000, l10007, l10116, l67108863, l67108864]
theorem mmeas_e (hm : m ≤ 8) (hn : n ≤ 8) (h96 : w.1 97 96 = nI m) (h97 : w.1 97 97 = nI n) (hT : ∀ i, i < m → w.1 163 i = nI (T i) ∧ T i < 32) (hU : ∀ j, j < n → w.1 164 j = nI (U j) ∧ U j < 32) : ∃ f, lp X12_spellOut_b39 (nI m, w) = some (seI w 165 f) ∧ tabOk T U m n f (fun _ _ => True) := by
  have key := lp_up (b := X12_spellOut_b39) (Q := fun e => ∃ f', e = seI w 165 f' ∧ tabOk T U m n f' (fun _ _ => True)) (fun k s => ∃ f', s = (if k = m + 1 then NO else nI (m - k), seI w 165 f') ∧ tabOk T U m n f' (fun a _ => m < a + k)) (m + 1) ?_ ?_ 0 (nI m, w) (Nat.zero_le _) ⟨w.1 165, by rw [if_neg (by omega), seI_same rfl]; rfl, fun a b ha hb h => by omega⟩
  · obtain ⟨e, he, f', rfl, hf'⟩ := key
    exact ⟨f', he, hf'⟩
  · rintro k s hk ⟨f', rfl, hf'⟩
    rw [if_neg (by omega)]
    have r97 : (seI w 165 f').1 97 97 = nI n := h97
    obtain ⟨e, he, f2, rfl, hf2⟩ := mmeas_in hm hn h96 h97 hT hU (i := m - k) (by omega) (f := f') (fun a b ha hb h => hf' a b ha hb (by omega))
    refine ⟨.inl (nI (m - k) + NO, seI w 165 f2), ?_, f2, ?_, fun a b ha hb h => hf2 a b ha hb (by omega)⟩
    · unfold X12_spellOut_b39
      simp (disch := omega) only [gdn, gb0, gb1, ixn, nm1, nI_add, nI_mul, nsub, nI_ltI, nI_leI, nI_eq, eqNO, eqNO2, ltNO, NOlt, leNO, NOle, if_pos, if_neg, Option.bind_some, if_true, if_false, and_self, eq_self, l0, l1, l2, l3, l4, l5, l6, l7, l8, l9, l10, l11, l12, l13, l14, l15, l16, l17, l18, l19, l20, l24, l26, l30, l31, l32, l40, l41, l42, l43, l45, l47, l48, l57, l58, l59, l60, l61, l62, l63, l64, l97, l99, l100, l101, l102, l103, l104, l105, l106, l107, l108, l109, l110, l122, l160, l240, l255, l600, l1000, l3000, l10000, l10007, l10116, l67108863, l67108864, r97, he]
    · by_cases q : k = m
      · rw [if_pos (by omega), show m - k = 0 by omega]; rfl
      · rw [if_neg (by omega), addNO (by omega), show m - k - 1 = m - (k + 1) by omega]
  · rintro s ⟨f', rfl, hf'⟩
    refine ⟨.inr (seI w 165 f'), ?_, f', rfl, fun a b ha hb _ => hf' a b ha hb (by omega)⟩
    unfold X12_spellOut_b39
    simp (disch := omega) only [gdn, gb0, gb1, ixn, nm1, nI_add, nI_mul, nsub, nI_ltI, nI_leI, nI_eq, eqNO, eqNO2, ltNO, NOlt, leNO, NOle, if_pos, if_neg, Option.bind_some, if_true, if_false, and_self, eq_self, l0, l1, l2, l3, l4, l5, l6, l7, l8, l9, l10, l11, l12, l13, l14, l15, l16, l17, l18, l19, l20, l24, l26, l30, l31, l32, l40, l41, l42, l43, l45, l47, l48, l57, l58, l59, l60, l61, l62, l63, l64, l97, l99, l100, l101, l102, l103, l104, l105, l106, l107, l108, l109, l110, l122, l160, l240, l255, l600, l1000, l3000, l10000, l10007, l10116, l67108863, l67108864]
end
