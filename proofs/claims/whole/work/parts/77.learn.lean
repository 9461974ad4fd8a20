/-! hours go to LESSONS -/
def opn (nd ln g : Nat → Nat) (k : Nat) : Prop := g k < nd k ∧ ∀ j, (ln k).testBit j = true → nd j ≤ g j
def setF (g : Nat → Nat) (k v : Nat) : Nat → Nat := fun j => if j = k then v else g j
theorem setF_s {g : Nat → Nat} {k v : Nat} : setF g k v k = v := if_pos rfl
theorem setF_n {g : Nat → Nat} {k v j : Nat} (h : j ≠ k) : setF g k v j = g j := if_neg h
theorem setF_ss {g : Nat → Nat} {k u v : Nat} : setF (setF g k u) k v = setF g k v := by
  funext j
  unfold setF
  by_cases q : j = k
  · rw [if_pos q, if_pos q]
  · rw [if_neg q, if_neg q, if_neg q]
noncomputable def mlr_ (nd ln : Nat → Nat) : Nat → (Nat → Nat) → (Nat → Nat)
  | 0, g => g
  | h + 1, g => @dite _ (∃ k, k < 15 ∧ opn nd ln g k ∧ ∀ j, j < k → ¬ opn nd ln g j) (Classical.propDecidable _) (fun e => mlr_ nd ln h (setF g (Classical.choose e) (g (Classical.choose e) + 1))) (fun _ => g)
section
variable {nd ln : Nat → Nat}
theorem mlr_t {h k : Nat} {g : Nat → Nat} (hk : k < 15) (h1 : opn nd ln g k) (h2 : ∀ j, j < k → ¬ opn nd ln g j) : mlr_ nd ln (h + 1) g = mlr_ nd ln h (setF g k (g k + 1)) := by
  have e : ∃ k, k < 15 ∧ opn nd ln g k ∧ ∀ j, j < k → ¬ opn nd ln g j := ⟨k, hk, h1, h2⟩
  have h3 : mlr_ nd ln (h + 1) g = mlr_ nd ln h (setF g (Classical.choose e) (g (Classical.choose e) + 1)) := dif_pos e
  obtain ⟨-, a1, a2⟩ := Classical.choose_spec e
  have : Classical.choose e = k := by
    by_cases q : Classical.choose e < k
    · exact (h2 _ q a1).elim
    · by_cases q2 : k < Classical.choose e
      · exact (a2 _ q2 h1).elim
      · omega
  rw [h3, this]
theorem mlr_n {h : Nat} {g : Nat → Nat} (hn : ∀ j, j < 15 → ¬ opn nd ln g j) : mlr_ nd ln h g = g := by
  cases h with
  | zero => rfl
  | succ h => exact dif_neg (fun ⟨k, hk, h1, _⟩ => hn k hk h1)
theorem bit_lt {x k j : Nat} (h : x < 2 ^ k) (hj : x.testBit j = true) : j < k := by
  by_cases q : j < k
  · exact q
  · rw [Nat.testBit_lt_two_pow (Nat.lt_of_lt_of_le h (Nat.pow_le_pow_right (by omega) (by omega)))] at hj
    cases hj
theorem opn_low {g : Nat → Nat} {k v j : Nat} (hj : j < k) (hln : ln j < 2 ^ j) : opn nd ln (setF g k v) j ↔ opn nd ln g j := by
  unfold opn
  rw [setF_n (by omega)]
  constructor
  · rintro ⟨a, b⟩
    exact ⟨a, fun i hi => by have h1 := b i hi; rw [setF_n (by have := bit_lt hln hi; omega)] at h1; exact h1⟩
  · rintro ⟨a, b⟩
    exact ⟨a, fun i hi => by rw [setF_n (by have := bit_lt hln hi; omega)]; exact b i hi⟩
theorem mlr_run {g : Nat → Nat} {k : Nat} (hln : ∀ j, j < 15 → ln j < 2 ^ j) (hk : k < 15) (h1 : opn nd ln g k) (h2 : ∀ j, j < k → ¬ opn nd ln g j) {left : Nat} : ∀ m, m ≤ nd k - g k → m ≤ left → mlr_ nd ln left g = mlr_ nd ln (left - m) (setF g k (g k + m))
  | 0, _, _ => by
    rw [Nat.sub_zero, Nat.add_zero]
    congr 1
    funext j
    unfold setF
    by_cases q : j = k
    · rw [if_pos q, q]
    · rw [if_neg q]
  | m + 1, hm, hl => by
    rw [mlr_run hln hk h1 h2 m (by omega) (by omega), show left - m = left - (m + 1) + 1 by omega]
    rw [mlr_t (k := k) hk ⟨by rw [setF_s]; omega, fun j hj => by
        rw [setF_n (by have := bit_lt (hln k hk) hj; omega)]; exact h1.2 j hj⟩ (fun j hj z => h2 j hj ((opn_low hj (hln j (by omega))).mp z)), setF_s, setF_ss]
    rfl
theorem mlr_le {B : Nat} (hnd : ∀ j, j < 15 → nd j ≤ B) : ∀ (h : Nat) (g : Nat → Nat), (∀ j, j < 15 → g j ≤ B) → ∀ j, j < 15 → mlr_ nd ln h g j ≤ B
  | 0, g, hg => hg
  | h + 1, g, hg => by
    by_cases e : ∃ k, k < 15 ∧ opn nd ln g k
    · obtain ⟨k, hk, a1, a2⟩ := least_of e
      rw [mlr_t hk a1 a2]
      refine mlr_le hnd h _ (fun j hj => ?_)
      by_cases q : j = k
      · rw [q, setF_s]; have := a1.1; have := hnd k hk; omega
      · rw [setF_n q]; exact hg j hj
    · rw [mlr_n (fun j hj z => e ⟨j, hj, z⟩)]; exact hg
end
/-! a piece of a row -/
def rwS (a n : Nat) (A : Nat → Nat) (z : Nat → Int32) : Nat → Int32 := fun j => if a ≤ j ∧ j < a + n then nI (A (j - a)) else z j
theorem rwS_in {a n k : Nat} {A : Nat → Nat} {z : Nat → Int32} (h : k < n) : rwS a n A z (a + k) = nI (A k) := by
  unfold rwS
  rw [if_pos (by omega), show a + k - a = k by omega]
theorem upd_rwS {a n k v : Nat} {A : Nat → Nat} {z : Nat → Int32} (h : k < n) : upd (rwS a n A z) (a + k) (nI v) = rwS a n (setF A k v) z := by
  funext j
  unfold upd rwS setF
  by_cases q : j = a + k
  · rw [if_pos q, if_pos (by omega), if_pos (by omega)]
  · rw [if_neg q]
    by_cases q2 : a ≤ j ∧ j < a + n
    · rw [if_pos q2, if_pos q2, if_neg (by omega)]
    · rw [if_neg q2, if_neg q2]
theorem rwS_congr {a n : Nat} {A B : Nat → Nat} {z : Nat → Int32} (h : ∀ k, k < n → A k = B k) : rwS a n A z = rwS a n B z := by
  funext j
  unfold rwS
  by_cases q : a ≤ j ∧ j < a + n
  · rw [if_pos q, if_pos q, h _ (by omega)]
  · rw [if_neg q, if_neg q]
theorem rwS_id {a n : Nat} {A : Nat → Nat} {z : Nat → Int32} (h : ∀ k, k < n → z (a + k) = nI (A k)) : rwS a n A z = z := by
  funext j
  unfold rwS
  by_cases q : a ≤ j ∧ j < a + n
  · rw [if_pos q, ← h _ (by omega), show a + (j - a) = j by omega]
  · rw [if_neg q]
theorem byte_n {n : Nat} (h : n < 128) : (Int32.toInt8 (nI n)).toInt32 = nI n := by
  have : ∀ n : Fin 128, (Int32.toInt8 (nI n.1)).toInt32 = nI n.1 := by decide
  exact this ⟨n, h⟩
theorem and_pow {D k : Nat} (hD : D < 2 ^ 31) (hk : k < 31) : (nI D &&& nI (2 ^ k) = nI 0) = (D.testBit k = false) := by
  have h2 : D &&& 2 ^ k ≤ D := Nat.and_le_left
  rw [and_e, eq_iff_iff, nI_eq (by omega) (by omega)]
  constructor
  · intro h
    have h3 := congrArg (fun x => x.testBit k) h
    simp only [Nat.testBit_and, Nat.testBit_two_pow, Nat.zero_testBit, decide_true, Bool.and_true] at h3
    exact h3
  · intro h
    apply Nat.eq_of_testBit_eq
    intro j
    rw [Nat.testBit_and, Nat.testBit_two_pow, Nat.zero_testBit]
    by_cases q : k = j
    · subst q; rw [h]; rfl
    · rw [decide_eq_false q, Bool.and_false]
/-! the class -/
abbrev ndF (w : Wd) : Nat → Nat := fun k => nn w 70 k
abbrev lnF (w : Wd) : Nat → Nat := fun k => nn w 71 k
theorem done_e {w : Wd} (h : ILs w) {kv nv a : Nat} {g : Nat → Nat} (hg : ∀ k, k < 15 → w.1 kv (a + k) = nI (g k) ∧ g k ≤ 60) (ha : a + 15 ≤ nv) (hn : nv < 2 ^ 31) : X3_doneIn kv nv (nI a) w = some (nI (dnS (ndF w) g)) := by
  unfold X3_doneIn
  have hlp := lp_for (b := X3_doneIn_b5 kv nv (nI a) w) (fun k => (nI (mkS (fun k => decide (nn w 70 k ≤ g k)) k), nI k)) 15 (e := nI (dnS (ndF w) g)) (fun k hk => ?_) ?_ 0 (Nat.zero_le _)
  · rw [show ((0 : Int32), (0 : Int32)) = (nI (mkS (fun k => decide (nn w 70 k ≤ g k)) 0), nI 0) from rfl, hlp]
    rfl
  · obtain ⟨⟨e70, b70⟩, -⟩ := h.1 k hk
    obtain ⟨eg, bg⟩ := hg k hk
    unfold X3_doneIn_b5 X3_doneIn_j35
    by_cases q : nn w 70 k ≤ g k
    · rw [show mkS (fun k => decide (nn w 70 k ≤ g k)) (k + 1) = mkS (fun k => decide (nn w 70 k ≤ g k)) k ||| 2 ^ k from by rw [mkS, if_pos (by simpa using q)]]
      simp (disch := omega) only [gdn, gb0, gb1, ixn, nm1, nI_add, nI_mul, nsub, nI_ltI, nI_leI, nI_eq, eqNO, eqNO2, ltNO, NOlt, leNO, NOle, if_pos, if_neg, Option.bind_some, if_true, if_false, and_self, eq_self, l0, l1, l2, l3, l4, l5, l6, l7, l8, l9, l10, l11, l12, l13, l14, l15, l16, l17, l18, l19, l20, l24, l26, l30, l31, l32, l40, l41, l42, l43, l45, l47, l48, l57, l58, l59, l60, l61, l62, l63, l64, l97, l99, l100, l101, l102, l103, l104, l105, l106, l107, l108, l109, l110, l122, l160, l240, l255, l600, l1000, l3000, l10000, l10007, l10116, l67108863, l67108864, eg, e70, shl1, or_e]
    · rw [show mkS (fun k => decide (nn w 70 k ≤ g k)) (k + 1) = mkS (fun k => decide (nn w 70 k ≤ g k)) k from by rw [mkS, if_neg (by simpa using q)]]
      simp (disch := omega) only [gdn, gb0, gb1, ixn, nm1, nI_add, nI_mul, nsub, nI_ltI, nI_leI, nI_eq, eqNO, eqNO2, ltNO, NOlt, leNO, NOle, if_pos, if_neg, Option.bind_some, if_true, if_false, and_self, eq_self, l0, l1, l2, l3, l4, l5, l6, l7, l8, l9, l10, l11, l12, l13, l14, l15, l16, l17, l18, l19, l20, l24, l26, l30, l31, l32, l40, l41, l42, l43, l45, l47, l48, l57, l58, l59, l60, l61, l62, l63, l64, l97, l99, l100, l101, l102, l103, l104, l105, l106, l107, l108, l109, l110, l122, l160, l240, l255, l600, l1000, l3000, l10000, l10007, l10116, l67108863, l67108864, eg, e70]
  · unfold X3_doneIn_b5
    simp (disch := omega) only [gdn, gb0, gb1, ixn, nm1, nI_add, nI_mul, nsub, nI_ltI, nI_leI, nI_eq, eqNO, eqNO2, ltNO, NOlt, leNO, NOle, if_pos, if_neg, Option.bind_some, if_true, if_false, and_self, eq_self, l0, l1, l2, l3, l4, l5, l6, l7, l8, l9, l10, l11, l12, l13, l14, l15, l16, l17, l18, l19, l20, l24, l26, l30, l31, l32, l40, l41, l42, l43, l45, l47, l48, l57, l58, l59, l60, l61, l62, l63, l64, l97, l99, l100, l101, l102, l103, l104, l105, l106, l107, l108, l109, l110, l122, l160, l240, l255, l600, l1000, l3000, l10000, l10007, l10116, l67108863, l67108864]
    rfl
theorem learn_e {w : Wd} (h : ILs w) {kv nv a left : Nat} {g : Nat → Nat} (hg : ∀ k, k < 15 → w.1 kv (a + k) = nI (g k) ∧ g k ≤ 60) (ha : a + 15 ≤ nv) (hn : nv < 2 ^ 31) (hl : left ≤ 60) (k70 : kv ≠ 70) (k71 : kv ≠ 71) : X3_learn kv nv (nI a) (nI left) w = some (seI w kv (rwS a 15 (mlr_ (ndF w) (lnF w) left g) (w.1 kv))) := by
  have hln : ∀ j, j < 15 → lnF w j < 2 ^ j := fun j hj => (h.1 j hj).2.2.1.2
  have hw0 : w = seI w kv (rwS a 15 g (w.1 kv)) := (seI_same (rwS_id (fun k hk => (hg k hk).1))).symm
  have key := lp_up (b := X3_learn_b14 kv nv (nI a)) (Q := fun e => e = seI w kv (rwS a 15 (mlr_ (ndF w) (lnF w) left g) (w.1 kv))) (fun k s => ∃ (g' : Nat → Nat) (l : Nat), s = (nI (dnS (ndF w) g'), nI l, nI k, seI w kv (rwS a 15 g' (w.1 kv))) ∧ l ≤ 60 ∧ (∀ j, j < 15 → g' j ≤ 60) ∧ (l = 0 ∨ ∀ j, j < k → ¬ opn (ndF w) (lnF w) g' j) ∧ mlr_ (ndF w) (lnF w) l g' = mlr_ (ndF w) (lnF w) left g) 15 ?_ ?_ 0 (nI (dnS (ndF w) g), nI left, nI 0, w) (Nat.zero_le _) ⟨g, left, by rw [← hw0], hl, fun j hj => (hg j hj).2, Or.inr (fun j hj => by omega), rfl⟩
  · obtain ⟨e, he, hq⟩ := key
    unfold X3_learn
    rw [done_e h hg ha hn]
    simp only [Option.bind_some]
    rw [show (0 : Int32) = nI 0 from rfl, he, hq]
    rfl
  · rintro k s hk ⟨g', l, rfl, hl60, hg60, hop, hG⟩
    obtain ⟨⟨e70, b70⟩, b1, ⟨e71, b71⟩, -⟩ := h.1 k hk
    have hp := pow15 hk
    have hD := dnS_lt (ndF w) g'
    have hbit := dnS_bit (nd := ndF w) (g := g') hk
    have hg60k := hg60 k hk
    have r70 : (seI w kv (rwS a 15 g' (w.1 kv))).1 70 k = nI (nn w 70 k) := by rw [SI_oth (Ne.symm k70)]; exact e70
    have r71 : (seI w kv (rwS a 15 g' (w.1 kv))).1 71 k = nI (nn w 71 k) := by rw [SI_oth (Ne.symm k71)]; exact e71
    have rkv : (seI w kv (rwS a 15 g' (w.1 kv))).1 kv (a + k) = nI (g' k) := by rw [SI_row]; exact rwS_in hk
    unfold X3_learn_b14 X3_learn_j119
    by_cases q0 : l = 0
    · subst q0
      refine ⟨.inr (seI w kv (rwS a 15 g' (w.1 kv))), by simp (disch := omega) only [gdn, gb0, gb1, ixn, nm1, nI_add, nI_mul, nsub, nI_ltI, nI_leI, nI_eq, eqNO, eqNO2, ltNO, NOlt, leNO, NOle, if_pos, if_neg, Option.bind_some, if_true, if_false, and_self, eq_self, l0, l1, l2, l3, l4, l5, l6, l7, l8, l9, l10, l11, l12, l13, l14, l15, l16, l17, l18, l19, l20, l24, l26, l30, l31, l32, l40, l41, l42, l43, l45, l47, l48, l57, l58, l59, l60, l61, l62, l63, l64, l97, l99, l100, l101, l102, l103, l104, l105, l106, l107, l108, l109, l110, l122, l160, l240, l255, l600, l1000, l3000, l10000, l10007, l10116, l67108863, l67108864], ?_⟩
      show _ = _
      rw [← hG]
      rfl
    · have hop := hop.resolve_left q0
      by_cases qd : nn w 70 k ≤ g' k
      · refine ⟨.inl (nI (dnS (ndF w) g'), nI l, nI (k + 1), seI w kv (rwS a 15 g' (w.1 kv))), ?_, g', l, rfl, hl60, hg60, Or.inr (fun j hj => ?_), hG⟩
        · have hz : ((dnS (ndF w) g').testBit k = false) = False := by rw [hbit, decide_eq_true qd]; simp
          simp (disch := omega) only [gdn, gb0, gb1, ixn, nm1, nI_add, nI_mul, nsub, nI_ltI, nI_leI, nI_eq, eqNO, eqNO2, ltNO, NOlt, leNO, NOle, if_pos, if_neg, Option.bind_some, if_true, if_false, and_self, eq_self, l0, l1, l2, l3, l4, l5, l6, l7, l8, l9, l10, l11, l12, l13, l14, l15, l16, l17, l18, l19, l20, l24, l26, l30, l31, l32, l40, l41, l42, l43, l45, l47, l48, l57, l58, l59, l60, l61, l62, l63, l64, l97, l99, l100, l101, l102, l103, l104, l105, l106, l107, l108, l109, l110, l122, l160, l240, l255, l600, l1000, l3000, l10000, l10007, l10116, l67108863, l67108864, shl1, and_pow, hz]
        · by_cases z : j = k
          · subst z; exact fun y => by have : g' j < nn w 70 j := y.1; omega
          · exact hop j (by omega)
      · have hz : ((dnS (ndF w) g').testBit k = false) = True := by rw [hbit, decide_eq_false qd]; simp
        by_cases qo : ∀ j, (nn w 71 k).testBit j = true → (dnS (ndF w) g').testBit j = true
        · have hopn : opn (ndF w) (lnF w) g' k := ⟨show g' k < nn w 70 k by omega, fun j hj => by
            have h1 := qo j hj
            rw [dnS_bit (by have := bit_lt b71 hj; omega)] at h1
            exact of_decide_eq_true h1⟩
          have hsub : (nI (nn w 71 k) &&& (nI (dnS (ndF w) g') ^^^ NO) = nI 0) = True := eq_true ((sub_e (by omega)).mpr qo)
          have hgv : g' k + min l (nn w 70 k - g' k) ≤ 60 := by omega
          have hrun := mlr_run hln hk hopn hop (left := l) (min l (nn w 70 k - g' k)) (Nat.min_le_right _ _) (Nat.min_le_left _ _)
          rw [hrun] at hG
          have rnew : rwS a 15 (setF g' k (g' k + min l (nn w 70 k - g' k))) (w.1 kv) (a + k) = nI (g' k + min l (nn w 70 k - g' k)) := by rw [rwS_in hk, setF_s]
          have r70' : (seI w kv (rwS a 15 (setF g' k (g' k + min l (nn w 70 k - g' k))) (w.1 kv))).1 70 k = nI (nn w 70 k) := by rw [SI_oth (Ne.symm k70)]; exact e70
          have hbnd : ∀ j, j < 15 → setF g' k (g' k + min l (nn w 70 k - g' k)) j ≤ 60 := by
            intro j hj
            by_cases y : j = k
            · rw [y, setF_s]; exact hgv
            · rw [setF_n y]; exact hg60 j hj
          by_cases qn : nn w 70 k ≤ g' k + min l (nn w 70 k - g' k)
          · have hdn : dnS (ndF w) g' ||| 2 ^ k = dnS (ndF w) (setF g' k (g' k + min l (nn w 70 k - g' k))) := by
              apply Nat.eq_of_testBit_eq
              intro j
              rw [Nat.testBit_or, Nat.testBit_two_pow]
              unfold dnS
              rw [mkS_bit, mkS_bit]
              by_cases y : j = k
              · subst y
                rw [setF_s, decide_eq_true hk, decide_eq_true qn]
                simp
              · rw [setF_n y, decide_eq_false (show ¬ k = j from fun x => y x.symm), Bool.or_false]
            refine ⟨.inl (nI (dnS (ndF w) (setF g' k (g' k + min l (nn w 70 k - g' k)))), nI (l - min l (nn w 70 k - g' k)), nI (k + 1), seI w kv (rwS a 15 (setF g' k (g' k + min l (nn w 70 k - g' k))) (w.1 kv))), ?_, _, _, rfl, by omega, hbnd, Or.inr (fun j hj => ?_), hG⟩
            · simp (disch := omega) only [gdn, gb0, gb1, ixn, nm1, nI_add, nI_mul, nsub, nI_ltI, nI_leI, nI_eq, eqNO, eqNO2, ltNO, NOlt, leNO, NOle, if_pos, if_neg, Option.bind_some, if_true, if_false, and_self, eq_self, l0, l1, l2, l3, l4, l5, l6, l7, l8, l9, l10, l11, l12, l13, l14, l15, l16, l17, l18, l19, l20, l24, l26, l30, l31, l32, l40, l41, l42, l43, l45, l47, l48, l57, l58, l59, l60, l61, l62, l63, l64, l97, l99, l100, l101, l102, l103, l104, l105, l106, l107, l108, l109, l110, l122, l160, l240, l255, l600, l1000, l3000, l10000, l10007, l10116, l67108863, l67108864, shl1, and_pow, hz, r71, hsub, r70, rkv, mn_nI, byte_n, nar_byte, pu_seI, SI_row, upd_rwS, rnew, r70', or_e, hdn]
            · by_cases y : j = k
              · subst y; exact fun x => by have : setF g' j _ j < nn w 70 j := x.1; rw [setF_s] at this; omega
              · exact fun x => hop j (by omega) ((opn_low (by omega) (hln j (by omega))).mp x)
          · have hdn : dnS (ndF w) (setF g' k (g' k + min l (nn w 70 k - g' k))) = dnS (ndF w) g' := by
              refine mkS_congr (fun j hj => ?_)
              by_cases y : j = k
              · subst y; rw [setF_s, decide_eq_false qn, decide_eq_false qd]
              · rw [setF_n y]
            refine ⟨.inl (nI (dnS (ndF w) (setF g' k (g' k + min l (nn w 70 k - g' k)))), nI (l - min l (nn w 70 k - g' k)), nI (k + 1), seI w kv (rwS a 15 (setF g' k (g' k + min l (nn w 70 k - g' k))) (w.1 kv))), ?_, _, _, rfl, by omega, hbnd, Or.inl (by omega), hG⟩
            rw [hdn]
            simp (disch := omega) only [gdn, gb0, gb1, ixn, nm1, nI_add, nI_mul, nsub, nI_ltI, nI_leI, nI_eq, eqNO, eqNO2, ltNO, NOlt, leNO, NOle, if_pos, if_neg, Option.bind_some, if_true, if_false, and_self, eq_self, l0, l1, l2, l3, l4, l5, l6, l7, l8, l9, l10, l11, l12, l13, l14, l15, l16, l17, l18, l19, l20, l24, l26, l30, l31, l32, l40, l41, l42, l43, l45, l47, l48, l57, l58, l59, l60, l61, l62, l63, l64, l97, l99, l100, l101, l102, l103, l104, l105, l106, l107, l108, l109, l110, l122, l160, l240, l255, l600, l1000, l3000, l10000, l10007, l10116, l67108863, l67108864, shl1, and_pow, hz, r71, hsub, r70, rkv, mn_nI, byte_n, nar_byte, pu_seI, SI_row, upd_rwS, rnew, r70']
        · have hsub : (nI (nn w 71 k) &&& (nI (dnS (ndF w) g') ^^^ NO) = nI 0) = False := eq_false (fun z => qo ((sub_e (by omega)).mp z))
          refine ⟨.inl (nI (dnS (ndF w) g'), nI l, nI (k + 1), seI w kv (rwS a 15 g' (w.1 kv))), ?_, g', l, rfl, hl60, hg60, Or.inr (fun j hj => ?_), hG⟩
          · simp (disch := omega) only [gdn, gb0, gb1, ixn, nm1, nI_add, nI_mul, nsub, nI_ltI, nI_leI, nI_eq, eqNO, eqNO2, ltNO, NOlt, leNO, NOle, if_pos, if_neg, Option.bind_some, if_true, if_false, and_self, eq_self, l0, l1, l2, l3, l4, l5, l6, l7, l8, l9, l10, l11, l12, l13, l14, l15, l16, l17, l18, l19, l20, l24, l26, l30, l31, l32, l40, l41, l42, l43, l45, l47, l48, l57, l58, l59, l60, l61, l62, l63, l64, l97, l99, l100, l101, l102, l103, l104, l105, l106, l107, l108, l109, l110, l122, l160, l240, l255, l600, l1000, l3000, l10000, l10007, l10116, l67108863, l67108864, shl1, and_pow, hz, r71, hsub]
          · by_cases z : j = k
            · subst z
              exact fun y => qo (fun i hi => by rw [dnS_bit (by have := bit_lt b71 hi; omega)]; exact decide_eq_true (y.2 i hi))
            · exact hop j (by omega)
  · rintro s ⟨g', l, rfl, hl60, hg60, hop, hG⟩
    refine ⟨.inr (seI w kv (rwS a 15 g' (w.1 kv))), by unfold X3_learn_b14; simp (disch := omega) only [gdn, gb0, gb1, ixn, nm1, nI_add, nI_mul, nsub, nI_ltI, nI_leI, nI_eq, eqNO, eqNO2, ltNO, NOlt, leNO, NOle, if_pos, if_neg, Option.bind_some, if_true, if_false, and_self, eq_self, l0, l1, l2, l3, l4, l5, l6, l7, l8, l9, l10, l11, l12, l13, l14, l15, l16, l17, l18, l19, l20, l24, l26, l30, l31, l32, l40, l41, l42, l43, l45, l47, l48, l57, l58, l59, l60, l61, l62, l63, l64, l97, l99, l100, l101, l102, l103, l104, l105, l106, l107, l108, l109, l110, l122, l160, l240, l255, l600, l1000, l3000, l10000, l10007, l10116, l67108863, l67108864], ?_⟩
    show _ = _
    rcases hop with z | z
    · subst z; rw [← hG]; rfl
    · rw [mlr_n z] at hG; rw [hG]
