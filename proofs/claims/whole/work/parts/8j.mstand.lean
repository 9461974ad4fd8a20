/-! the model's standing -/
def FS (w w' : Wd) : Prop := Fr [144, 145, 146] [(97, 70)] w w'
theorem FS.row {w w' : Wd} (h : FS w w') {k : Nat} (h1 : k < 144 ∨ 147 ≤ k) (h2 : k ≠ 97) : w'.1 k = w.1 k ∧ w'.2 k = w.2 k := Fr.row h k (by simp only [List.mem_cons, List.not_mem_nil, or_false]; omega) (by simp only [List.map_cons, List.map_nil, List.mem_cons, List.not_mem_nil, or_false]; omega)
theorem FS.fld {w w' : Wd} (h : FS w w') {j : Nat} (h2 : j ≠ 70) : w'.1 97 j = w.1 97 j := (h 97 (by decide) j (by simp only [List.mem_cons, List.not_mem_nil, or_false, Prod.mk.injEq]; omega)).1
def ord (v : Wd) (f : Nat → Nat) (n : Nat) : Prop := ∀ i, i < n → v.1 145 i = nI (f i)
theorem mins_e {w : Wd} (h : IBo w) {a1 a2 a3 : Int32} {n t : Nat} (ht : t < nn w 30 0) {u : Wd} (hu : FS w u) {f : Nat → Nat} (hf : ord u f n) (hft : ∀ i, i < n → f i < t) (hs : ∀ i j, i < j → j < n → lt2 (wkF w) (f i) (f j)) (hn : n ≤ t) : ok (lp (X12_stand_b45 a1 a2 a3 (nI t)) (nI n, u)) (fun e => ∃ k, k ≤ n ∧ e.1 = nI k ∧ FS w e.2 ∧ (∀ i, i < k → e.2.1 145 i = nI (f i)) ∧ (∀ i, k < i → i ≤ n → e.2.1 145 i = nI (f (i - 1))) ∧ (∀ i, k ≤ i → i < n → wkF w t < wkF w (f i)) ∧ (∀ i, i < k → wkF w (f i) ≤ wkF w t)) := by
  have hT := h.1.1.2
  refine lp_up (fun j s => s.1 = nI (n - j) ∧ FS w s.2 ∧ (∀ i, i < n - j → s.2.1 145 i = nI (f i)) ∧ (∀ i, n - j < i → i ≤ n → s.2.1 145 i = nI (f (i - 1))) ∧ (∀ i, n - j ≤ i → i < n → wkF w t < wkF w (f i))) n ?_ ?_ 0 _ (Nat.zero_le _) ⟨rfl, hu, fun i hi => hf i (by omega), fun i h1 h2 => by omega, fun i h1 h2 => by omega⟩
  · rintro j ⟨s1, v⟩ hj ⟨h1, h2, h3, h4, h5⟩
    simp only at h1 h2 h3 h4 h5
    subst h1
    have e1 := h3 (n - j - 1) (by omega)
    have b1 := hft (n - j - 1) (by omega)
    obtain ⟨⟨e31, b31⟩, m31, -⟩ := h.2.1 (f (n - j - 1)) (by omega)
    obtain ⟨⟨e31t, b31t⟩, m31t, -⟩ := h.2.1 t ht
    have r1 : v.1 122 (f (n - j - 1)) = nI (wkF w (f (n - j - 1))) := by rw [(h2.row (k := 122) (by omega) (by omega)).1, m31, e31]; rfl
    have r2 : v.1 122 t = nI (wkF w t) := by rw [(h2.row (k := 122) (by omega) (by omega)).1, m31t, e31t]; rfl
    have w1 : wkF w (f (n - j - 1)) < 60 := b31
    have w2 : wkF w t < 60 := b31t
    unfold X12_stand_b45
    by_cases q : wkF w (f (n - j - 1)) ≤ wkF w t
    · simp (disch := omega) only [gdn, gb0, gb1, ixn, nm1, nI_add, nI_mul, nsub, nI_ltI, nI_leI, nI_eq, eqNO, eqNO2, ltNO, NOlt, leNO, NOle, if_pos, if_neg, Option.bind_some, if_true, if_false, and_self, eq_self, l0, l1, l2, l3, l4, l5, l6, l7, l8, l9, l10, l11, l12, l13, l14, l15, l16, l17, l18, l19, l20, l24, l26, l30, l31, l32, l40, l41, l42, l43, l45, l47, l48, l57, l58, l59, l60, l61, l62, l63, l64, l97, l99, l100, l101, l102, l103, l104, l105, l106, l107, l108, l109, l110, l122, l160, l240, l255, l600, l1000, l3000, l10000, l10007, l10116, l67108863, l67108864, I_oth, I_J, J_oth, J_I, I_row, J_row, SI_row, SI_oth, SI_J, SJ_row, SJ_oth, SJ_I, upd_s, upd_n, updL_s, updL_n, ne_eq, not_false_eq_true, e1, r1, r2]
      refine ok_i ⟨n - j, by omega, rfl, h2, h3, h4, h5, fun i hi => ?_⟩
      by_cases z : i = n - j - 1
      · rw [z]; exact q
      · have := hs i (n - j - 1) (by omega) (by omega)
        unfold lt2 at this
        omega
    · simp (disch := omega) only [gdn, gb0, gb1, ixn, nm1, nI_add, nI_mul, nsub, nI_ltI, nI_leI, nI_eq, eqNO, eqNO2, ltNO, NOlt, leNO, NOle, if_pos, if_neg, Option.bind_some, if_true, if_false, and_self, eq_self, l0, l1, l2, l3, l4, l5, l6, l7, l8, l9, l10, l11, l12, l13, l14, l15, l16, l17, l18, l19, l20, l24, l26, l30, l31, l32, l40, l41, l42, l43, l45, l47, l48, l57, l58, l59, l60, l61, l62, l63, l64, l97, l99, l100, l101, l102, l103, l104, l105, l106, l107, l108, l109, l110, l122, l160, l240, l255, l600, l1000, l3000, l10000, l10007, l10116, l67108863, l67108864, I_oth, I_J, J_oth, J_I, I_row, J_row, SI_row, SI_oth, SI_J, SJ_row, SJ_oth, SJ_I, upd_s, upd_n, updL_s, updL_n, ne_eq, not_false_eq_true, e1, r1, r2]
      refine ok_i ⟨?_, Fr.puI h2 (by decide), fun i hi => ?_, fun i h6 h7 => ?_, fun i h6 h7 => ?_⟩
      · show nI (n - j) + (-1 : Int32) = _
        rw [show (-1 : Int32) = -nI 1 from rfl, ← Int32.sub_eq_add_neg, nsub (by omega)]
        congr 1
      · simp (disch := omega) only [gdn, gb0, gb1, ixn, nm1, nI_add, nI_mul, nsub, nI_ltI, nI_leI, nI_eq, eqNO, eqNO2, ltNO, NOlt, leNO, NOle, if_pos, if_neg, Option.bind_some, if_true, if_false, and_self, eq_self, l0, l1, l2, l3, l4, l5, l6, l7, l8, l9, l10, l11, l12, l13, l14, l15, l16, l17, l18, l19, l20, l24, l26, l30, l31, l32, l40, l41, l42, l43, l45, l47, l48, l57, l58, l59, l60, l61, l62, l63, l64, l97, l99, l100, l101, l102, l103, l104, l105, l106, l107, l108, l109, l110, l122, l160, l240, l255, l600, l1000, l3000, l10000, l10007, l10116, l67108863, l67108864, I_oth, I_J, J_oth, J_I, I_row, J_row, SI_row, SI_oth, SI_J, SJ_row, SJ_oth, SJ_I, upd_s, upd_n, updL_s, updL_n, ne_eq, not_false_eq_true]
        exact h3 i (by omega)
      · by_cases z : i = n - j
        · subst z; simp (disch := omega) only [gdn, gb0, gb1, ixn, nm1, nI_add, nI_mul, nsub, nI_ltI, nI_leI, nI_eq, eqNO, eqNO2, ltNO, NOlt, leNO, NOle, if_pos, if_neg, Option.bind_some, if_true, if_false, and_self, eq_self, l0, l1, l2, l3, l4, l5, l6, l7, l8, l9, l10, l11, l12, l13, l14, l15, l16, l17, l18, l19, l20, l24, l26, l30, l31, l32, l40, l41, l42, l43, l45, l47, l48, l57, l58, l59, l60, l61, l62, l63, l64, l97, l99, l100, l101, l102, l103, l104, l105, l106, l107, l108, l109, l110, l122, l160, l240, l255, l600, l1000, l3000, l10000, l10007, l10116, l67108863, l67108864, I_oth, I_J, J_oth, J_I, I_row, J_row, SI_row, SI_oth, SI_J, SJ_row, SJ_oth, SJ_I, upd_s, upd_n, updL_s, updL_n, ne_eq, not_false_eq_true]
        · simp (disch := omega) only [gdn, gb0, gb1, ixn, nm1, nI_add, nI_mul, nsub, nI_ltI, nI_leI, nI_eq, eqNO, eqNO2, ltNO, NOlt, leNO, NOle, if_pos, if_neg, Option.bind_some, if_true, if_false, and_self, eq_self, l0, l1, l2, l3, l4, l5, l6, l7, l8, l9, l10, l11, l12, l13, l14, l15, l16, l17, l18, l19, l20, l24, l26, l30, l31, l32, l40, l41, l42, l43, l45, l47, l48, l57, l58, l59, l60, l61, l62, l63, l64, l97, l99, l100, l101, l102, l103, l104, l105, l106, l107, l108, l109, l110, l122, l160, l240, l255, l600, l1000, l3000, l10000, l10007, l10116, l67108863, l67108864, I_oth, I_J, J_oth, J_I, I_row, J_row, SI_row, SI_oth, SI_J, SJ_row, SJ_oth, SJ_I, upd_s, upd_n, updL_s, updL_n, ne_eq, not_false_eq_true]
          exact h4 i (by omega) h7
      · by_cases z : i = n - j - 1
        · rw [z]; omega
        · exact h5 i (by omega) h7
  · rintro ⟨s1, v⟩ ⟨h1, h2, h3, h4, h5⟩
    simp only at h1 h2 h3 h4 h5
    subst h1
    unfold X12_stand_b45
    simp (disch := omega) only [gdn, gb0, gb1, ixn, nm1, nI_add, nI_mul, nsub, nI_ltI, nI_leI, nI_eq, eqNO, eqNO2, ltNO, NOlt, leNO, NOle, if_pos, if_neg, Option.bind_some, if_true, if_false, and_self, eq_self, l0, l1, l2, l3, l4, l5, l6, l7, l8, l9, l10, l11, l12, l13, l14, l15, l16, l17, l18, l19, l20, l24, l26, l30, l31, l32, l40, l41, l42, l43, l45, l47, l48, l57, l58, l59, l60, l61, l62, l63, l64, l97, l99, l100, l101, l102, l103, l104, l105, l106, l107, l108, l109, l110, l122, l160, l240, l255, l600, l1000, l3000, l10000, l10007, l10116, l67108863, l67108864, I_oth, I_J, J_oth, J_I, I_row, J_row, SI_row, SI_oth, SI_J, SJ_row, SJ_oth, SJ_I, upd_s, upd_n, updL_s, updL_n, ne_eq, not_false_eq_true]
    exact ok_i ⟨n - n, by omega, rfl, h2, h3, h4, h5, fun i hi => by omega⟩
theorem mord_e {w : Wd} (h : IBo w) {s week : Nat} (hs : s < 4) (hw : week < 60) : ok (lp (X12_stand_b5 (nI s) (nI week)) (nI 0, nI 0, w)) (fun e => FS w e.2 ∧ e.1 = nI (tl w (inF w s week)).length ∧ RowL (e.2.1 145) (tl w (inF w s week))) := by
  have hT := h.1.1.2
  have eT := h.1.1.1
  refine ok_mono (P := fun e => FS w e.2 ∧ ∃ n f, n ≤ nn w 30 0 ∧ e.1 = nI n ∧ ord e.2 f n ∧ (∀ i j, i < j → j < n → lt2 (wkF w) (f i) (f j)) ∧ (∀ x, (∃ i, i < n ∧ f i = x) ↔ x < nn w 30 0 ∧ inF w s week x = true)) ?_ ?_
  · refine lp_up (fun t (s' : Int32 × Int32 × Wd) => s'.2.1 = nI t ∧ FS w s'.2.2 ∧ ∃ n f, n ≤ t ∧ s'.1 = nI n ∧ ord s'.2.2 f n ∧ (∀ i j, i < j → j < n → lt2 (wkF w) (f i) (f j)) ∧ (∀ x, (∃ i, i < n ∧ f i = x) ↔ x < t ∧ inF w s week x = true)) (nn w 30 0) ?_ ?_ 0 _ (Nat.zero_le _) ⟨rfl, (Fr.rf : FS w w), 0, fun _ => 0, Nat.le_refl _, rfl, fun i hi => by omega, fun i j h1 h2 => by omega, fun x => ⟨fun ⟨i, hi, _⟩ => by omega, fun ⟨hx, _⟩ => by omega⟩⟩
    · rintro t ⟨s1, s2, v⟩ ht ⟨h1, h2, n, f, h3, h4, h5, h6, h7⟩
      simp only at h1 h2 h3 h4 h5 h6 h7
      subst h1
      subst h4
      obtain ⟨⟨e31, b31⟩, m31, ⟨e32, b32⟩, m32, -⟩ := h.2.1 t ht
      have r42 : v.1 97 42 = nI (nn w 30 0) := by rw [h2.fld (by omega), h.1.2, eT]
      have r122 : v.1 122 t = nI (nn w 31 t) := by rw [(h2.row (k := 122) (by omega) (by omega)).1, m31, e31]
      have r123 : v.1 123 t = nI (nn w 32 t) := by rw [(h2.row (k := 123) (by omega) (by omega)).1, m32, e32]
      have skip : inF w s week t = false → ∀ x, (∃ i, i < n ∧ f i = x) ↔ x < t + 1 ∧ inF w s week x = true := by
        intro z x
        rw [h7 x]
        constructor
        · rintro ⟨k1, k2⟩; exact ⟨by omega, k2⟩
        · rintro ⟨k1, k2⟩
          refine ⟨?_, k2⟩
          by_cases y : x = t
          · subst y; rw [z] at k2; cases k2
          · omega
      unfold X12_stand_b5 X12_stand_j108
      by_cases q1 : nn w 31 t ≤ week
      · by_cases q2 : (nn w 32 t).testBit s = true
        · have hq : (nI (nn w 32 t) >>> (nI s &&& nI 31)) &&& nI 1 = nI 1 := by rw [bit_e (by omega) (by omega), if_pos q2]
          have hin : inF w s week t = true := by unfold inF; simp [q1, q2]
          obtain ⟨⟨e1, e2⟩, he, k, g1, g2, g3, g4, g5, g6, g7⟩ := mins_e h (a1 := nI s) (a2 := nI week) (a3 := nI n) ht h2 h5 (fun i hi => ((h7 (f i)).mp ⟨i, hi, rfl⟩).1) h6 h3
          simp only at g2 g3 g4 g5 g6 g7
          subst g2
          simp (disch := omega) only [gdn, gb0, gb1, ixn, nm1, nI_add, nI_mul, nsub, nI_ltI, nI_leI, nI_eq, eqNO, eqNO2, ltNO, NOlt, leNO, NOle, if_pos, if_neg, Option.bind_some, if_true, if_false, and_self, eq_self, l0, l1, l2, l3, l4, l5, l6, l7, l8, l9, l10, l11, l12, l13, l14, l15, l16, l17, l18, l19, l20, l24, l26, l30, l31, l32, l40, l41, l42, l43, l45, l47, l48, l57, l58, l59, l60, l61, l62, l63, l64, l97, l99, l100, l101, l102, l103, l104, l105, l106, l107, l108, l109, l110, l122, l160, l240, l255, l600, l1000, l3000, l10000, l10007, l10116, l67108863, l67108864, I_oth, I_J, J_oth, J_I, I_row, J_row, SI_row, SI_oth, SI_J, SJ_row, SJ_oth, SJ_I, upd_s, upd_n, updL_s, updL_n, ne_eq, not_false_eq_true, r42, r122, r123, show (31 : Int32) = nI 31 from rfl, hq, he]
          refine ok_i ⟨rfl, Fr.puI g3 (by decide), n + 1, insF f k t, by omega, rfl, fun i hi => ?_, ?_, fun x => ?_⟩
          · unfold insF
            by_cases z1 : i < k
            · rw [if_pos z1]; simp (disch := omega) only [gdn, gb0, gb1, ixn, nm1, nI_add, nI_mul, nsub, nI_ltI, nI_leI, nI_eq, eqNO, eqNO2, ltNO, NOlt, leNO, NOle, if_pos, if_neg, Option.bind_some, if_true, if_false, and_self, eq_self, l0, l1, l2, l3, l4, l5, l6, l7, l8, l9, l10, l11, l12, l13, l14, l15, l16, l17, l18, l19, l20, l24, l26, l30, l31, l32, l40, l41, l42, l43, l45, l47, l48, l57, l58, l59, l60, l61, l62, l63, l64, l97, l99, l100, l101, l102, l103, l104, l105, l106, l107, l108, l109, l110, l122, l160, l240, l255, l600, l1000, l3000, l10000, l10007, l10116, l67108863, l67108864, I_oth, I_J, J_oth, J_I, I_row, J_row, SI_row, SI_oth, SI_J, SJ_row, SJ_oth, SJ_I, upd_s, upd_n, updL_s, updL_n, ne_eq, not_false_eq_true]; exact g4 i z1
            · rw [if_neg z1]
              by_cases z2 : i = k
              · rw [if_pos z2]; subst z2; simp (disch := omega) only [gdn, gb0, gb1, ixn, nm1, nI_add, nI_mul, nsub, nI_ltI, nI_leI, nI_eq, eqNO, eqNO2, ltNO, NOlt, leNO, NOle, if_pos, if_neg, Option.bind_some, if_true, if_false, and_self, eq_self, l0, l1, l2, l3, l4, l5, l6, l7, l8, l9, l10, l11, l12, l13, l14, l15, l16, l17, l18, l19, l20, l24, l26, l30, l31, l32, l40, l41, l42, l43, l45, l47, l48, l57, l58, l59, l60, l61, l62, l63, l64, l97, l99, l100, l101, l102, l103, l104, l105, l106, l107, l108, l109, l110, l122, l160, l240, l255, l600, l1000, l3000, l10000, l10007, l10116, l67108863, l67108864, I_oth, I_J, J_oth, J_I, I_row, J_row, SI_row, SI_oth, SI_J, SJ_row, SJ_oth, SJ_I, upd_s, upd_n, updL_s, updL_n, ne_eq, not_false_eq_true]
              · rw [if_neg z2]; simp (disch := omega) only [gdn, gb0, gb1, ixn, nm1, nI_add, nI_mul, nsub, nI_ltI, nI_leI, nI_eq, eqNO, eqNO2, ltNO, NOlt, leNO, NOle, if_pos, if_neg, Option.bind_some, if_true, if_false, and_self, eq_self, l0, l1, l2, l3, l4, l5, l6, l7, l8, l9, l10, l11, l12, l13, l14, l15, l16, l17, l18, l19, l20, l24, l26, l30, l31, l32, l40, l41, l42, l43, l45, l47, l48, l57, l58, l59, l60, l61, l62, l63, l64, l97, l99, l100, l101, l102, l103, l104, l105, l106, l107, l108, l109, l110, l122, l160, l240, l255, l600, l1000, l3000, l10000, l10007, l10116, l67108863, l67108864, I_oth, I_J, J_oth, J_I, I_row, J_row, SI_row, SI_oth, SI_J, SJ_row, SJ_oth, SJ_I, upd_s, upd_n, updL_s, updL_n, ne_eq, not_false_eq_true]; exact g5 i (by omega) (by omega)
          · exact ins_sorted h6 (fun i hi => ((h7 (f i)).mp ⟨i, hi, rfl⟩).1) g1 g6 g7
          · rw [ins_mem g1, h7 x]
            constructor
            · rintro (z | ⟨z1, z2⟩)
              · subst z; exact ⟨by omega, hin⟩
              · exact ⟨by omega, z2⟩
            · rintro ⟨z1, z2⟩
              by_cases y : x = t
              · exact Or.inl y
              · exact Or.inr ⟨by omega, z2⟩
        · have hq : (nI (nn w 32 t) >>> (nI s &&& nI 31)) &&& nI 1 = nI 0 := by rw [bit_e (by omega) (by omega), if_neg q2]
          simp (disch := omega) only [gdn, gb0, gb1, ixn, nm1, nI_add, nI_mul, nsub, nI_ltI, nI_leI, nI_eq, eqNO, eqNO2, ltNO, NOlt, leNO, NOle, if_pos, if_neg, Option.bind_some, if_true, if_false, and_self, eq_self, l0, l1, l2, l3, l4, l5, l6, l7, l8, l9, l10, l11, l12, l13, l14, l15, l16, l17, l18, l19, l20, l24, l26, l30, l31, l32, l40, l41, l42, l43, l45, l47, l48, l57, l58, l59, l60, l61, l62, l63, l64, l97, l99, l100, l101, l102, l103, l104, l105, l106, l107, l108, l109, l110, l122, l160, l240, l255, l600, l1000, l3000, l10000, l10007, l10116, l67108863, l67108864, I_oth, I_J, J_oth, J_I, I_row, J_row, SI_row, SI_oth, SI_J, SJ_row, SJ_oth, SJ_I, upd_s, upd_n, updL_s, updL_n, ne_eq, not_false_eq_true, r42, r122, r123, show (31 : Int32) = nI 31 from rfl, hq]
          exact ok_i ⟨rfl, h2, n, f, by omega, rfl, h5, h6, skip (by unfold inF; simp [q2])⟩
      · simp (disch := omega) only [gdn, gb0, gb1, ixn, nm1, nI_add, nI_mul, nsub, nI_ltI, nI_leI, nI_eq, eqNO, eqNO2, ltNO, NOlt, leNO, NOle, if_pos, if_neg, Option.bind_some, if_true, if_false, and_self, eq_self, l0, l1, l2, l3, l4, l5, l6, l7, l8, l9, l10, l11, l12, l13, l14, l15, l16, l17, l18, l19, l20, l24, l26, l30, l31, l32, l40, l41, l42, l43, l45, l47, l48, l57, l58, l59, l60, l61, l62, l63, l64, l97, l99, l100, l101, l102, l103, l104, l105, l106, l107, l108, l109, l110, l122, l160, l240, l255, l600, l1000, l3000, l10000, l10007, l10116, l67108863, l67108864, I_oth, I_J, J_oth, J_I, I_row, J_row, SI_row, SI_oth, SI_J, SJ_row, SJ_oth, SJ_I, upd_s, upd_n, updL_s, updL_n, ne_eq, not_false_eq_true, r42, r122, r123]
        exact ok_i ⟨rfl, h2, n, f, by omega, rfl, h5, h6, skip (by unfold inF; simp [q1])⟩
    · rintro ⟨s1, s2, v⟩ ⟨h1, h2, n, f, h3, h4, h5, h6, h7⟩
      simp only at h1 h2 h3 h4 h5 h6 h7
      subst h1
      have r42 : v.1 97 42 = nI (nn w 30 0) := by rw [h2.fld (by omega), h.1.2, eT]
      unfold X12_stand_b5
      simp (disch := omega) only [gdn, gb0, gb1, ixn, nm1, nI_add, nI_mul, nsub, nI_ltI, nI_leI, nI_eq, eqNO, eqNO2, ltNO, NOlt, leNO, NOle, if_pos, if_neg, Option.bind_some, if_true, if_false, and_self, eq_self, l0, l1, l2, l3, l4, l5, l6, l7, l8, l9, l10, l11, l12, l13, l14, l15, l16, l17, l18, l19, l20, l24, l26, l30, l31, l32, l40, l41, l42, l43, l45, l47, l48, l57, l58, l59, l60, l61, l62, l63, l64, l97, l99, l100, l101, l102, l103, l104, l105, l106, l107, l108, l109, l110, l122, l160, l240, l255, l600, l1000, l3000, l10000, l10007, l10116, l67108863, l67108864, I_oth, I_J, J_oth, J_I, I_row, J_row, SI_row, SI_oth, SI_J, SJ_row, SJ_oth, SJ_I, upd_s, upd_n, updL_s, updL_n, ne_eq, not_false_eq_true, r42]
      exact ok_i ⟨h2, n, f, h3, h4, h5, h6, h7⟩
  · rintro ⟨e1, e2⟩ ⟨h2, n, f, h3, h4, h5, h6, h7⟩
    have hl : (List.range n).map f = tl w (inF w s week) := by
      refine sorted_eq (lt := lt2 (wkF w)) lt2_irr lt2_tr _ _ (pairwise_range h6) (tl_sorted h) (fun x => ?_)
      rw [tl_mem h, ← h7 x, List.mem_map]
      constructor
      · rintro ⟨i, hi, e⟩; exact ⟨i, List.mem_range.mp hi, e⟩
      · rintro ⟨i, hi, e⟩; exact ⟨i, List.mem_range.mpr hi, e⟩
    rw [← hl]
    refine ⟨h2, ?_, fun i hi => ?_⟩
    · rw [h4, List.length_map, List.length_range]
    · rw [List.length_map, List.length_range] at hi
      rw [getD_map (d := 0) (by rw [List.length_range]; exact hi), getD_range hi]
      exact h5 i hi

theorem mgin_e {w : Wd} (h : IBo w) {a3 : Int32} {i t : Nat} (hi : i < 5) (ht : t < nn w 30 0) {u : Wd} (hu : FS w u) (h145 : u.1 145 i = nI t) {R : List (Nat × Nat)} (hR : R.length + nn w 124 t ≤ 100) (hg : u.1 97 70 = nI R.length) (hr : RowL (u.1 144) (R.map mI)) : ok (lp (X12_stand_b140 a3 (nI i)) (nI (20 * t), u)) (fun e => FS w e ∧ e.1 145 = u.1 145 ∧ e.1 97 70 = nI (R.length + nn w 124 t) ∧ RowL (e.1 144) ((R ++ (List.range (nn w 124 t)).map (fun k => (t, k))).map mI)) := by
  have hT := h.1.1.2
  obtain ⟨-, -, -, -, ⟨e124, b124⟩, -⟩ := h.2.1 t ht
  refine lp_up (fun k s => s.1 = nI (20 * t + k) ∧ FS w s.2 ∧ s.2.1 145 = u.1 145 ∧ s.2.1 97 70 = nI (R.length + k) ∧ RowL (s.2.1 144) ((R ++ (List.range k).map (fun k => (t, k))).map mI)) (nn w 124 t) ?_ ?_ 0 _ (Nat.zero_le _) ⟨rfl, hu, rfl, hg, by simpa using hr⟩
  · rintro k ⟨s1, v⟩ hk ⟨h1, h2, h3, h4, h5⟩
    simp only at h1 h2 h3 h4 h5
    subst h1
    have r145 : v.1 145 i = nI t := by rw [h3]; exact h145
    have r124 : v.1 124 t = nI (nn w 124 t) := by rw [(h2.row (k := 124) (by omega) (by omega)).1]; exact e124
    unfold X12_stand_b140
    simp (disch := omega) only [gdn, gb0, gb1, ixn, nm1, nI_add, nI_mul, nsub, nI_ltI, nI_leI, nI_eq, eqNO, eqNO2, ltNO, NOlt, leNO, NOle, if_pos, if_neg, Option.bind_some, if_true, if_false, and_self, eq_self, l0, l1, l2, l3, l4, l5, l6, l7, l8, l9, l10, l11, l12, l13, l14, l15, l16, l17, l18, l19, l20, l24, l26, l30, l31, l32, l40, l41, l42, l43, l45, l47, l48, l57, l58, l59, l60, l61, l62, l63, l64, l97, l99, l100, l101, l102, l103, l104, l105, l106, l107, l108, l109, l110, l122, l160, l240, l255, l600, l1000, l3000, l10000, l10007, l10116, l67108863, l67108864, I_oth, I_J, J_oth, J_I, I_row, J_row, SI_row, SI_oth, SI_J, SJ_row, SJ_oth, SJ_I, upd_s, upd_n, updL_s, updL_n, ne_eq, not_false_eq_true, r145, r124, h4]
    refine ok_i ⟨by rw [Nat.add_assoc], Fr.pfI (Fr.puI h2 (by decide)) (by decide), ?_, ?_, ?_⟩
    · rw [I_oth (by omega), I_oth (by omega)]; exact h3
    · rw [I_self]; rfl
    · rw [I_oth (by omega), I_row, show R ++ (List.range (k + 1)).map (fun k => (t, k)) = (R ++ (List.range k).map (fun k => (t, k))) ++ [(t, k)] from by rw [List.range_succ]; simp, List.map_append]
      have hl : ((R ++ (List.range k).map (fun k => (t, k))).map mI).length = R.length + k := by simp
      have := h5.app (v := 20 * t + k)
      rw [hl] at this
      exact this
  · rintro ⟨s1, v⟩ ⟨h1, h2, h3, h4, h5⟩
    simp only at h1 h2 h3 h4 h5
    subst h1
    have r145 : v.1 145 i = nI t := by rw [h3]; exact h145
    have r124 : v.1 124 t = nI (nn w 124 t) := by rw [(h2.row (k := 124) (by omega) (by omega)).1]; exact e124
    unfold X12_stand_b140
    simp (disch := omega) only [gdn, gb0, gb1, ixn, nm1, nI_add, nI_mul, nsub, nI_ltI, nI_leI, nI_eq, eqNO, eqNO2, ltNO, NOlt, leNO, NOle, if_pos, if_neg, Option.bind_some, if_true, if_false, and_self, eq_self, l0, l1, l2, l3, l4, l5, l6, l7, l8, l9, l10, l11, l12, l13, l14, l15, l16, l17, l18, l19, l20, l24, l26, l30, l31, l32, l40, l41, l42, l43, l45, l47, l48, l57, l58, l59, l60, l61, l62, l63, l64, l97, l99, l100, l101, l102, l103, l104, l105, l106, l107, l108, l109, l110, l122, l160, l240, l255, l600, l1000, l3000, l10000, l10007, l10116, l67108863, l67108864, I_oth, I_J, J_oth, J_I, I_row, J_row, SI_row, SI_oth, SI_J, SJ_row, SJ_oth, SJ_I, upd_s, upd_n, updL_s, updL_n, ne_eq, not_false_eq_true, r145, r124, h4]
    exact ok_i ⟨h2, h3, h4, h5⟩
theorem take_snoc {L : List Nat} {i : Nat} (h : i < L.length) : L.take (i + 1) = L.take i ++ [L.getD i 0] := by
  rw [List.take_succ, List.getD_eq_getElem?_getD, List.getElem?_eq_getElem h]; rfl
theorem mgout_e {w : Wd} (h : IBo w) {L : List Nat} (hL : L.length ≤ 5) (hLt : ∀ t ∈ L, t < nn w 30 0) {u : Wd} (hu : FS w u) (h145 : RowL (u.1 145) L) (hg : u.1 97 70 = nI 0) : ok (lp (X12_stand_b122 (nI L.length)) (nI 0, u)) (fun e => FS w e ∧ e.1 97 70 = nI (rl w L).length ∧ RowL (e.1 144) ((rl w L).map mI)) := by
  have hT := h.1.1.2
  refine ok_mono (P := fun e => FS w e ∧ e.1 97 70 = nI (rl w (L.take L.length)).length ∧ RowL (e.1 144) ((rl w (L.take L.length)).map mI)) ?_ (fun e he => by rw [List.take_length] at he; exact he)
  refine lp_up (fun i s => s.1 = nI i ∧ FS w s.2 ∧ s.2.1 145 = u.1 145 ∧ s.2.1 97 70 = nI (rl w (L.take i)).length ∧ RowL (s.2.1 144) ((rl w (L.take i)).map mI) ∧ (rl w (L.take i)).length ≤ 20 * i) L.length ?_ ?_ 0 _ (Nat.zero_le _) ⟨rfl, hu, rfl, hg, RowL.nil, Nat.zero_le _⟩
  · rintro i ⟨s1, v⟩ hi ⟨h1, h2, h3, h4, h5, h6⟩
    simp only at h1 h2 h3 h4 h5 h6
    subst h1
    have r145 : v.1 145 i = nI (L.getD i 0) := by rw [h3]; exact h145 i hi
    have ht := hLt _ (getD_mem (d := 0) hi)
    have b124 := (h.2.1 _ ht).2.2.2.2.1.2
    obtain ⟨e, he, g1, g2, g3, g4⟩ := mgin_e h (a3 := nI L.length) (i := i) (by omega) ht h2 r145 (R := rl w (L.take i)) (by omega) h4 h5
    rw [take_snoc hi, rl_app]
    unfold X12_stand_b122
    simp (disch := omega) only [gdn, gb0, gb1, ixn, nm1, nI_add, nI_mul, nsub, nI_ltI, nI_leI, nI_eq, eqNO, eqNO2, ltNO, NOlt, leNO, NOle, if_pos, if_neg, Option.bind_some, if_true, if_false, and_self, eq_self, l0, l1, l2, l3, l4, l5, l6, l7, l8, l9, l10, l11, l12, l13, l14, l15, l16, l17, l18, l19, l20, l24, l26, l30, l31, l32, l40, l41, l42, l43, l45, l47, l48, l57, l58, l59, l60, l61, l62, l63, l64, l97, l99, l100, l101, l102, l103, l104, l105, l106, l107, l108, l109, l110, l122, l160, l240, l255, l600, l1000, l3000, l10000, l10007, l10116, l67108863, l67108864, I_oth, I_J, J_oth, J_I, I_row, J_row, SI_row, SI_oth, SI_J, SJ_row, SJ_oth, SJ_I, upd_s, upd_n, updL_s, updL_n, ne_eq, not_false_eq_true, r145, he]
    refine ok_i ⟨rfl, g1, g2.trans h3, ?_, g4, ?_⟩
    · rw [g3, List.length_append, List.length_map, List.length_range]
    · rw [List.length_append, List.length_map, List.length_range]; omega
  · rintro ⟨s1, v⟩ ⟨h1, h2, h3, h4, h5, h6⟩
    simp only at h1 h2 h3 h4 h5 h6
    subst h1
    unfold X12_stand_b122
    simp (disch := omega) only [gdn, gb0, gb1, ixn, nm1, nI_add, nI_mul, nsub, nI_ltI, nI_leI, nI_eq, eqNO, eqNO2, ltNO, NOlt, leNO, NOle, if_pos, if_neg, Option.bind_some, if_true, if_false, and_self, eq_self, l0, l1, l2, l3, l4, l5, l6, l7, l8, l9, l10, l11, l12, l13, l14, l15, l16, l17, l18, l19, l20, l24, l26, l30, l31, l32, l40, l41, l42, l43, l45, l47, l48, l57, l58, l59, l60, l61, l62, l63, l64, l97, l99, l100, l101, l102, l103, l104, l105, l106, l107, l108, l109, l110, l122, l160, l240, l255, l600, l1000, l3000, l10000, l10007, l10116, l67108863, l67108864, I_oth, I_J, J_oth, J_I, I_row, J_row, SI_row, SI_oth, SI_J, SJ_row, SJ_oth, SJ_I, upd_s, upd_n, updL_s, updL_n, ne_eq, not_false_eq_true]
    exact ok_i ⟨h2, h4, h5⟩
theorem eqs_e {w : Wd} (h : IBo w) {R : List (Nat × Nat)} (hR : okRl w R) {i j : Nat} (hi : i < R.length) (hj : j < R.length) : w.2 133 (mI (rr R j)) = w.2 132 (mI (rr R i)) ↔ w.2 36 (cI w (rr R j)) = w.2 35 (cI w (rr R i)) := by
  obtain ⟨-, -, -, a1, -⟩ := hR.at h hi
  obtain ⟨-, -, -, -, a2, -⟩ := hR.at h hj
  rcases a2 with a2 | ⟨a2, a3⟩
  · exact (a2.eq a1).symm
  · rw [a2, a3]
    exact ⟨fun z => (a1.m1.2 z.symm).elim, fun z => (a1.m1.1 z.symm).elim⟩
theorem mstr_e {w : Wd} (h : IBo w) {R : List (Nat × Nat)} (hR : okRl w R) {u : Wd} (hu : FS w u) (hg : u.1 97 70 = nI R.length) (hr : RowL (u.1 144) (R.map mI)) : ok (lp X12_stand_b204 (nI 0, u)) (fun e => FS w e ∧ e.1 97 70 = nI R.length ∧ RowL (e.1 144) (R.map mI) ∧ ∀ i, i < R.length → e.1 146 i = fg (stk w R i)) := by
  have hl := hR.2
  refine lp_up (fun i s => s.1 = nI i ∧ FS w s.2 ∧ s.2.1 97 70 = nI R.length ∧ s.2.1 144 = u.1 144 ∧ ∀ j, j < i → s.2.1 146 j = fg (stk w R j)) R.length ?_ ?_ 0 _ (Nat.zero_le _) ⟨rfl, hu, hg, rfl, fun j hj => by omega⟩
  · rintro i ⟨s1, v⟩ hi ⟨h1, h2, h3, h4, h5⟩
    simp only at h1 h2 h3 h4 h5
    subst h1
    have g144 : ∀ j, j < R.length → v.1 144 j = nI (mI (rr R j)) := fun j hj => by
      rw [h4, hr j (by rw [List.length_map]; omega), getD_map (d := (0, 0)) (by omega)]; rfl
    have hT := h.1.1.2
    have bi := (hR.at h hi).2.2.1
    have hin : ok (lp (X12_stand_b227 (nI i)) (nI (i + 1), puI v 146 i (nI 0))) (fun e => FS w e ∧ e.1 97 70 = nI R.length ∧ e.1 144 = u.1 144 ∧ ∀ j, j < i + 1 → e.1 146 j = fg (stk w R j)) := by
      refine lp_up (fun j (s : Int32 × Wd) => ∃ p : Prop, s.1 = nI (i + 1 + j) ∧ FS w s.2 ∧ s.2.1 97 70 = nI R.length ∧ s.2.1 144 = u.1 144 ∧ (∀ j, j < i → s.2.1 146 j = fg (stk w R j)) ∧ s.2.1 146 i = fg p ∧ (p → stk w R i) ∧ (¬ p → ∀ k, i < k → k < i + 1 + j → ¬ w.2 36 (cI w (rr R k)) = w.2 35 (cI w (rr R i)))) (R.length - (i + 1)) ?_ ?_ 0 _ (Nat.zero_le _) ⟨False, rfl, Fr.puI h2 (by decide), h3, ?_, fun j hj => ?_, ?_, False.elim, fun _ k k1 k2 => by omega⟩
      · rintro j ⟨t1, y⟩ hj ⟨p, k1, k2, k3, k4, k5, k6, k7, k8⟩
        simp only at k1 k2 k3 k4 k5 k6 k7 k8
        subst k1
        have gi : y.1 144 i = nI (mI (rr R i)) := by rw [k4, ← h4]; exact g144 i hi
        have gj : y.1 144 (i + 1 + j) = nI (mI (rr R (i + 1 + j))) := by rw [k4, ← h4]; exact g144 _ (by omega)
        have bj := (hR.at h (i := i + 1 + j) (by omega)).2.2.1
        have r132 := congrFun (k2.row (k := 132) (by omega) (by omega)).2 (mI (rr R i))
        have r133 := congrFun (k2.row (k := 133) (by omega) (by omega)).2 (mI (rr R (i + 1 + j)))
        have hq := eqs_e h hR hi (j := i + 1 + j) (by omega)
        unfold X12_stand_b227 X12_stand_j280 X12_stand_j285
        have nar1 : vp_nar .boolean (nI 1) = nI 1 := by decide
        have nar0 : vp_nar .boolean (nI 0) = nI 0 := by decide
        have keep : ∀ (x : Int32) (r : Prop), x = fg r → (r → stk w R i) → (¬ r → ∀ k, i < k → k < i + 1 + (j + 1) → ¬ w.2 36 (cI w (rr R k)) = w.2 35 (cI w (rr R i))) → ∃ p : Prop, nI (i + 1 + j + 1) = nI (i + 1 + (j + 1)) ∧ FS w (puI y 146 i x) ∧ (puI y 146 i x).1 97 70 = nI R.length ∧ (puI y 146 i x).1 144 = u.1 144 ∧ (∀ j, j < i → (puI y 146 i x).1 146 j = fg (stk w R j)) ∧ (puI y 146 i x).1 146 i = fg p ∧ (p → stk w R i) ∧ (¬ p → ∀ k, i < k → k < i + 1 + (j + 1) → ¬ w.2 36 (cI w (rr R k)) = w.2 35 (cI w (rr R i))) := by
          intro x r hx hr1 hr2
          refine ⟨r, by rw [Nat.add_assoc], Fr.puI k2 (by decide), ?_, ?_, fun j' hj' => ?_, ?_, hr1, hr2⟩
          · rw [I_oth (by omega)]; exact k3
          · rw [I_oth (by omega)]; exact k4
          · rw [I_row, upd_n (by omega)]; exact k5 j' hj'
          · rw [I_self]; exact hx
        by_cases hp : p
        · rw [fg_t hp] at k6
          simp (disch := omega) only [gdn, gb0, gb1, ixn, nm1, nI_add, nI_mul, nsub, nI_ltI, nI_leI, nI_eq, eqNO, eqNO2, ltNO, NOlt, leNO, NOle, if_pos, if_neg, Option.bind_some, if_true, if_false, and_self, eq_self, l0, l1, l2, l3, l4, l5, l6, l7, l8, l9, l10, l11, l12, l13, l14, l15, l16, l17, l18, l19, l20, l24, l26, l30, l31, l32, l40, l41, l42, l43, l45, l47, l48, l57, l58, l59, l60, l61, l62, l63, l64, l97, l99, l100, l101, l102, l103, l104, l105, l106, l107, l108, l109, l110, l122, l160, l240, l255, l600, l1000, l3000, l10000, l10007, l10116, l67108863, l67108864, I_oth, I_J, J_oth, J_I, I_row, J_row, SI_row, SI_oth, SI_J, SJ_row, SJ_oth, SJ_I, upd_s, upd_n, updL_s, updL_n, ne_eq, not_false_eq_true, k3, k6, nar1]
          exact ok_i (keep (nI 1) True (by rw [fg_t trivial]) (fun _ => k7 hp) (fun z => (z trivial).elim))
        · rw [fg_f hp] at k6
          by_cases q : w.2 133 (mI (rr R (i + 1 + j))) = w.2 132 (mI (rr R i))
          · simp (disch := omega) only [gdn, gb0, gb1, ixn, nm1, nI_add, nI_mul, nsub, nI_ltI, nI_leI, nI_eq, eqNO, eqNO2, ltNO, NOlt, leNO, NOle, if_pos, if_neg, Option.bind_some, if_true, if_false, and_self, eq_self, l0, l1, l2, l3, l4, l5, l6, l7, l8, l9, l10, l11, l12, l13, l14, l15, l16, l17, l18, l19, l20, l24, l26, l30, l31, l32, l40, l41, l42, l43, l45, l47, l48, l57, l58, l59, l60, l61, l62, l63, l64, l97, l99, l100, l101, l102, l103, l104, l105, l106, l107, l108, l109, l110, l122, l160, l240, l255, l600, l1000, l3000, l10000, l10007, l10116, l67108863, l67108864, I_oth, I_J, J_oth, J_I, I_row, J_row, SI_row, SI_oth, SI_J, SJ_row, SJ_oth, SJ_I, upd_s, upd_n, updL_s, updL_n, ne_eq, not_false_eq_true, k3, k6, gi, gj, r132, r133, cmpz, q, nar1]
            exact ok_i (keep (nI 1) True (by rw [fg_t trivial]) (fun _ => ⟨i + 1 + j, by omega, by omega, hq.mp q⟩) (fun z => (z trivial).elim))
          · simp (disch := omega) only [gdn, gb0, gb1, ixn, nm1, nI_add, nI_mul, nsub, nI_ltI, nI_leI, nI_eq, eqNO, eqNO2, ltNO, NOlt, leNO, NOle, if_pos, if_neg, Option.bind_some, if_true, if_false, and_self, eq_self, l0, l1, l2, l3, l4, l5, l6, l7, l8, l9, l10, l11, l12, l13, l14, l15, l16, l17, l18, l19, l20, l24, l26, l30, l31, l32, l40, l41, l42, l43, l45, l47, l48, l57, l58, l59, l60, l61, l62, l63, l64, l97, l99, l100, l101, l102, l103, l104, l105, l106, l107, l108, l109, l110, l122, l160, l240, l255, l600, l1000, l3000, l10000, l10007, l10116, l67108863, l67108864, I_oth, I_J, J_oth, J_I, I_row, J_row, SI_row, SI_oth, SI_J, SJ_row, SJ_oth, SJ_I, upd_s, upd_n, updL_s, updL_n, ne_eq, not_false_eq_true, k3, k6, gi, gj, r132, r133, cmpz, q, nar0]
            refine ok_i (keep (nI 0) False (by rw [fg_f id]) False.elim (fun _ k z1 z2 => ?_))
            by_cases z : k = i + 1 + j
            · rw [z]; exact fun y => q (hq.mpr y)
            · exact k8 hp k z1 (by omega)
      · rintro ⟨t1, y⟩ ⟨p, k1, k2, k3, k4, k5, k6, k7, k8⟩
        simp only at k1 k2 k3 k4 k5 k6 k7 k8
        subst k1
        unfold X12_stand_b227
        simp (disch := omega) only [gdn, gb0, gb1, ixn, nm1, nI_add, nI_mul, nsub, nI_ltI, nI_leI, nI_eq, eqNO, eqNO2, ltNO, NOlt, leNO, NOle, if_pos, if_neg, Option.bind_some, if_true, if_false, and_self, eq_self, l0, l1, l2, l3, l4, l5, l6, l7, l8, l9, l10, l11, l12, l13, l14, l15, l16, l17, l18, l19, l20, l24, l26, l30, l31, l32, l40, l41, l42, l43, l45, l47, l48, l57, l58, l59, l60, l61, l62, l63, l64, l97, l99, l100, l101, l102, l103, l104, l105, l106, l107, l108, l109, l110, l122, l160, l240, l255, l600, l1000, l3000, l10000, l10007, l10116, l67108863, l67108864, I_oth, I_J, J_oth, J_I, I_row, J_row, SI_row, SI_oth, SI_J, SJ_row, SJ_oth, SJ_I, upd_s, upd_n, updL_s, updL_n, ne_eq, not_false_eq_true, k3]
        refine ok_i ⟨k2, k3, k4, fun j hj => ?_⟩
        by_cases z : j = i
        · rw [z, k6]
          refine fg_c ⟨k7, fun ⟨k, z1, z2, z3⟩ => ?_⟩
          by_cases hp : p
          · exact hp
          · exact (k8 hp k z1 (by omega) z3).elim
        · exact k5 j (by omega)
      · simp (disch := omega) only [gdn, gb0, gb1, ixn, nm1, nI_add, nI_mul, nsub, nI_ltI, nI_leI, nI_eq, eqNO, eqNO2, ltNO, NOlt, leNO, NOle, if_pos, if_neg, Option.bind_some, if_true, if_false, and_self, eq_self, l0, l1, l2, l3, l4, l5, l6, l7, l8, l9, l10, l11, l12, l13, l14, l15, l16, l17, l18, l19, l20, l24, l26, l30, l31, l32, l40, l41, l42, l43, l45, l47, l48, l57, l58, l59, l60, l61, l62, l63, l64, l97, l99, l100, l101, l102, l103, l104, l105, l106, l107, l108, l109, l110, l122, l160, l240, l255, l600, l1000, l3000, l10000, l10007, l10116, l67108863, l67108864, I_oth, I_J, J_oth, J_I, I_row, J_row, SI_row, SI_oth, SI_J, SJ_row, SJ_oth, SJ_I, upd_s, upd_n, updL_s, updL_n, ne_eq, not_false_eq_true]
        exact h4
      · simp (disch := omega) only [gdn, gb0, gb1, ixn, nm1, nI_add, nI_mul, nsub, nI_ltI, nI_leI, nI_eq, eqNO, eqNO2, ltNO, NOlt, leNO, NOle, if_pos, if_neg, Option.bind_some, if_true, if_false, and_self, eq_self, l0, l1, l2, l3, l4, l5, l6, l7, l8, l9, l10, l11, l12, l13, l14, l15, l16, l17, l18, l19, l20, l24, l26, l30, l31, l32, l40, l41, l42, l43, l45, l47, l48, l57, l58, l59, l60, l61, l62, l63, l64, l97, l99, l100, l101, l102, l103, l104, l105, l106, l107, l108, l109, l110, l122, l160, l240, l255, l600, l1000, l3000, l10000, l10007, l10116, l67108863, l67108864, I_oth, I_J, J_oth, J_I, I_row, J_row, SI_row, SI_oth, SI_J, SJ_row, SJ_oth, SJ_I, upd_s, upd_n, updL_s, updL_n, ne_eq, not_false_eq_true]
        exact h5 j hj
      · simp (disch := omega) only [gdn, gb0, gb1, ixn, nm1, nI_add, nI_mul, nsub, nI_ltI, nI_leI, nI_eq, eqNO, eqNO2, ltNO, NOlt, leNO, NOle, if_pos, if_neg, Option.bind_some, if_true, if_false, and_self, eq_self, l0, l1, l2, l3, l4, l5, l6, l7, l8, l9, l10, l11, l12, l13, l14, l15, l16, l17, l18, l19, l20, l24, l26, l30, l31, l32, l40, l41, l42, l43, l45, l47, l48, l57, l58, l59, l60, l61, l62, l63, l64, l97, l99, l100, l101, l102, l103, l104, l105, l106, l107, l108, l109, l110, l122, l160, l240, l255, l600, l1000, l3000, l10000, l10007, l10116, l67108863, l67108864, I_oth, I_J, J_oth, J_I, I_row, J_row, SI_row, SI_oth, SI_J, SJ_row, SJ_oth, SJ_I, upd_s, upd_n, updL_s, updL_n, ne_eq, not_false_eq_true]
        rw [fg_f id]
    obtain ⟨e, he, q1, q2, q3, q4⟩ := hin
    unfold X12_stand_b204
    have nar0 : vp_nar .boolean (nI 0) = nI 0 := by decide
    simp (disch := omega) only [gdn, gb0, gb1, ixn, nm1, nI_add, nI_mul, nsub, nI_ltI, nI_leI, nI_eq, eqNO, eqNO2, ltNO, NOlt, leNO, NOle, if_pos, if_neg, Option.bind_some, if_true, if_false, and_self, eq_self, l0, l1, l2, l3, l4, l5, l6, l7, l8, l9, l10, l11, l12, l13, l14, l15, l16, l17, l18, l19, l20, l24, l26, l30, l31, l32, l40, l41, l42, l43, l45, l47, l48, l57, l58, l59, l60, l61, l62, l63, l64, l97, l99, l100, l101, l102, l103, l104, l105, l106, l107, l108, l109, l110, l122, l160, l240, l255, l600, l1000, l3000, l10000, l10007, l10116, l67108863, l67108864, I_oth, I_J, J_oth, J_I, I_row, J_row, SI_row, SI_oth, SI_J, SJ_row, SJ_oth, SJ_I, upd_s, upd_n, updL_s, updL_n, ne_eq, not_false_eq_true, h3, nar0, he]
    exact ok_i ⟨rfl, q1, q2, q3, q4⟩
  · rintro ⟨s1, v⟩ ⟨h1, h2, h3, h4, h5⟩
    simp only at h1 h2 h3 h4 h5
    subst h1
    unfold X12_stand_b204
    simp (disch := omega) only [gdn, gb0, gb1, ixn, nm1, nI_add, nI_mul, nsub, nI_ltI, nI_leI, nI_eq, eqNO, eqNO2, ltNO, NOlt, leNO, NOle, if_pos, if_neg, Option.bind_some, if_true, if_false, and_self, eq_self, l0, l1, l2, l3, l4, l5, l6, l7, l8, l9, l10, l11, l12, l13, l14, l15, l16, l17, l18, l19, l20, l24, l26, l30, l31, l32, l40, l41, l42, l43, l45, l47, l48, l57, l58, l59, l60, l61, l62, l63, l64, l97, l99, l100, l101, l102, l103, l104, l105, l106, l107, l108, l109, l110, l122, l160, l240, l255, l600, l1000, l3000, l10000, l10007, l10116, l67108863, l67108864, I_oth, I_J, J_oth, J_I, I_row, J_row, SI_row, SI_oth, SI_J, SJ_row, SJ_oth, SJ_I, upd_s, upd_n, updL_s, updL_n, ne_eq, not_false_eq_true, h3]
    exact ok_i ⟨h2, h3, by rw [h4]; exact hr, h5⟩
def MS (w : Wd) (R : List (Nat × Nat)) (e : Wd) : Prop := e.1 97 70 = nI R.length ∧ RowL (e.1 144) (R.map mI) ∧ ∀ i, i < R.length → e.1 146 i = fg (stk w R i)
theorem stand_e {w : Wd} (h : IBo w) {s week : Nat} (hs : s < 4) (hw : week < 60) : ∃ w', X12_stand (nI s) (nI week) w = some w' ∧ FS w w' ∧ MS w (RS w s week) w' := by
  obtain ⟨⟨e1, e2⟩, he, a1, a2, a3⟩ := mord_e h hs hw
  simp only at a1 a2 a3
  subst a2
  obtain ⟨e3, he3, b1, b2, b3⟩ := mgout_e h (tl_len h) (fun t ht => ((tl_mem h).mp ht).1) (u := puI e2 97 70 (nI 0)) (Fr.pfI a1 (by decide)) (by rw [I_oth (by omega)]; exact a3) (by rw [I_self])
  obtain ⟨e4, he4, c1, c2, c3, c4⟩ := mstr_e h (okRl_tl h (p := inF w s week)) b1 b2 b3
  refine ⟨e4, ?_, c1, c2, c3, c4⟩
  unfold X12_stand
  simp (disch := omega) only [gdn, gb0, gb1, ixn, nm1, nI_add, nI_mul, nsub, nI_ltI, nI_leI, nI_eq, eqNO, eqNO2, ltNO, NOlt, leNO, NOle, if_pos, if_neg, Option.bind_some, if_true, if_false, and_self, eq_self, l0, l1, l2, l3, l4, l5, l6, l7, l8, l9, l10, l11, l12, l13, l14, l15, l16, l17, l18, l19, l20, l24, l26, l30, l31, l32, l40, l41, l42, l43, l45, l47, l48, l57, l58, l59, l60, l61, l62, l63, l64, l97, l99, l100, l101, l102, l103, l104, l105, l106, l107, l108, l109, l110, l122, l160, l240, l255, l600, l1000, l3000, l10000, l10007, l10116, l67108863, l67108864, he, he3, he4]
