/-! GAPS -/
noncomputable def mfg (nd : Nat → Nat) (g : Nat → Nat) : Nat → Nat := @dite _ (∃ k, k < 15 ∧ nd k ≤ g k ∧ ∀ j, k < j → j < 15 → ¬ nd j ≤ g j) (Classical.propDecidable _) (fun e => setF g (Classical.choose e) 0) (fun _ => g)
theorem mfg_t {nd g : Nat → Nat} {k : Nat} (hk : k < 15) (h : nd k ≤ g k) (hm : ∀ j, k < j → j < 15 → ¬ nd j ≤ g j) : mfg nd g = setF g k 0 := by
  have e : ∃ k, k < 15 ∧ nd k ≤ g k ∧ ∀ j, k < j → j < 15 → ¬ nd j ≤ g j := ⟨k, hk, h, hm⟩
  have h1 : mfg nd g = setF g (Classical.choose e) 0 := dif_pos e
  obtain ⟨a0, a1, a2⟩ := Classical.choose_spec e
  have : Classical.choose e = k := by
    by_cases q : Classical.choose e < k
    · exact (a2 k q hk h).elim
    · by_cases q2 : k < Classical.choose e
      · exact (hm _ q2 a0 a1).elim
      · omega
  rw [h1, this]
theorem mfg_n {nd g : Nat → Nat} (h : ∀ k, k < 15 → ¬ nd k ≤ g k) : mfg nd g = g := dif_neg (fun ⟨k, hk, h1, _⟩ => h k hk h1)
theorem mfg_le {nd g : Nat → Nat} {B : Nat} (hg : ∀ j, j < 15 → g j ≤ B) : ∀ j, j < 15 → mfg nd g j ≤ B := by
  by_cases e : ∃ k, k ≤ 14 ∧ nd k ≤ g k
  · obtain ⟨k, hk, a1, a2⟩ := max_of e
    rw [mfg_t (by omega) a1 (fun j h1 h2 => a2 j h1 (by omega))]
    intro j hj
    by_cases q : j = k
    · rw [q, setF_s]; omega
    · rw [setF_n q]; exact hg j hj
  · rw [mfg_n (fun k hk z => e ⟨k, by omega, z⟩)]; exact hg
theorem forget_e {w : Wd} (h : ILs w) {kv nv a : Nat} {g : Nat → Nat} (hg : ∀ k, k < 15 → w.1 kv (a + k) = nI (g k) ∧ g k ≤ 60) (ha : a + 15 ≤ nv) (hn : nv < 2 ^ 31) : X3_forget kv nv (nI a) w = some (seI w kv (rwS a 15 (mfg (ndF w) g) (w.1 kv))) := by
  have hD := dnS_lt (ndF w) g
  have hs : ∀ k, k < 15 → X3_forget_b11 kv nv (nI a) (nI (dnS (ndF w) g)) w (nI k) = if nn w 70 k ≤ g k then some (.inr (.inl (nI k))) else some (.inl (nI k + NO)) := by
    intro k hk
    unfold X3_forget_b11
    have hb := bit_e (D := dnS (ndF w) g) (k := k) (by omega) (by omega)
    rw [dnS_bit hk] at hb
    by_cases q : nn w 70 k ≤ g k
    · rw [if_pos (by simpa using q)] at hb
      rw [if_pos q]
      simp (disch := omega) only [gdn, gb0, gb1, ixn, nm1, nI_add, nI_mul, nsub, nI_ltI, nI_leI, nI_eq, eqNO, eqNO2, ltNO, NOlt, leNO, NOle, if_pos, if_neg, Option.bind_some, if_true, if_false, and_self, eq_self, l0, l1, l2, l3, l4, l5, l6, l7, l8, l9, l10, l11, l12, l13, l14, l15, l16, l17, l18, l19, l20, l24, l26, l30, l31, l32, l40, l41, l42, l43, l45, l47, l48, l57, l58, l59, l60, l61, l62, l63, l64, l97, l99, l100, l101, l102, l103, l104, l105, l106, l107, l108, l109, l110, l122, l160, l240, l255, l600, l1000, l3000, l10000, l10007, l10116, l67108863, l67108864, hb]
    · rw [if_neg (by simpa using q)] at hb
      rw [if_neg q]
      simp (disch := omega) only [gdn, gb0, gb1, ixn, nm1, nI_add, nI_mul, nsub, nI_ltI, nI_leI, nI_eq, eqNO, eqNO2, ltNO, NOlt, leNO, NOle, if_pos, if_neg, Option.bind_some, if_true, if_false, and_self, eq_self, l0, l1, l2, l3, l4, l5, l6, l7, l8, l9, l10, l11, l12, l13, l14, l15, l16, l17, l18, l19, l20, l24, l26, l30, l31, l32, l40, l41, l42, l43, l45, l47, l48, l57, l58, l59, l60, l61, l62, l63, l64, l97, l99, l100, l101, l102, l103, l104, l105, l106, l107, l108, l109, l110, l122, l160, l240, l255, l600, l1000, l3000, l10000, l10007, l10116, l67108863, l67108864, hb]
  unfold X3_forget
  rw [done_e h hg ha hn]
  simp only [Option.bind_some]
  by_cases e : ∃ k, k ≤ 14 ∧ nn w 70 k ≤ g k
  · obtain ⟨k, hk, a1, a2⟩ := max_of e
    have hlp := lp_for (b := X3_forget_b11 kv nv (nI a) (nI (dnS (ndF w) g)) w) (fun i => nI (14 - i)) (14 - k) (e := .inl (nI k)) (fun i hi => by
      rw [hs (14 - i) (by omega), if_neg (a2 (14 - i) (by omega) (by omega)), addNO (by omega), show 14 - i - 1 = 14 - (i + 1) by omega]) (by rw [show 14 - (14 - k) = k by omega, hs k (by omega), if_pos a1]) 0 (Nat.zero_le _)
    rw [show (14 : Int32) = nI (14 - 0) from rfl, hlp, mfg_t (nd := ndF w) (by omega) a1 (fun j h1 h2 => a2 j h1 (by omega))]
    have hup := upd_rwS (a := a) (n := 15) (k := k) (v := 0) (A := g) (z := w.1 kv) (by omega)
    rw [rwS_id (fun k hk => (hg k hk).1)] at hup
    simp (disch := omega) only [gdn, gb0, gb1, ixn, nm1, nI_add, nI_mul, nsub, nI_ltI, nI_leI, nI_eq, eqNO, eqNO2, ltNO, NOlt, leNO, NOle, if_pos, if_neg, Option.bind_some, if_true, if_false, and_self, eq_self, l0, l1, l2, l3, l4, l5, l6, l7, l8, l9, l10, l11, l12, l13, l14, l15, l16, l17, l18, l19, l20, l24, l26, l30, l31, l32, l40, l41, l42, l43, l45, l47, l48, l57, l58, l59, l60, l61, l62, l63, l64, l97, l99, l100, l101, l102, l103, l104, l105, l106, l107, l108, l109, l110, l122, l160, l240, l255, l600, l1000, l3000, l10000, l10007, l10116, l67108863, l67108864, nar_byte, byte_n]
    unfold puI
    rw [hup]
  · have hlp := lp_for (b := X3_forget_b11 kv nv (nI a) (nI (dnS (ndF w) g)) w) (fun i => if i = 15 then NO else nI (14 - i)) 15 (e := .inr ()) (fun i hi => by
      rw [if_neg (by omega), hs (14 - i) (by omega), if_neg (fun z => e ⟨14 - i, by omega, z⟩)]
      by_cases q : i = 14
      · subst q; rfl
      · rw [if_neg (by omega), addNO (by omega), show 14 - i - 1 = 14 - (i + 1) by omega]) (by unfold X3_forget_b11; simp (disch := omega) only [gdn, gb0, gb1, ixn, nm1, nI_add, nI_mul, nsub, nI_ltI, nI_leI, nI_eq, eqNO, eqNO2, ltNO, NOlt, leNO, NOle, if_pos, if_neg, Option.bind_some, if_true, if_false, and_self, eq_self, l0, l1, l2, l3, l4, l5, l6, l7, l8, l9, l10, l11, l12, l13, l14, l15, l16, l17, l18, l19, l20, l24, l26, l30, l31, l32, l40, l41, l42, l43, l45, l47, l48, l57, l58, l59, l60, l61, l62, l63, l64, l97, l99, l100, l101, l102, l103, l104, l105, l106, l107, l108, l109, l110, l122, l160, l240, l255, l600, l1000, l3000, l10000, l10007, l10116, l67108863, l67108864]) 0 (Nat.zero_le _)
    rw [if_neg (by omega)] at hlp
    rw [show (14 : Int32) = nI (14 - 0) from rfl, hlp, mfg_n (nd := ndF w) (fun k hk z => e ⟨k, by omega, z⟩), seI_same (rwS_id (fun k hk => (hg k hk).1))]
    rfl
/-! the model -/
theorem mdone_e {w : Wd} (h : ILs w) {l : Nat} (hl : l < 40) {g : Nat → Nat} (hg : ∀ k, k < 15 → w.1 150 (15 * l + k) = nI (g k) ∧ g k ≤ 60) : X12_doneSet (nI l) w = some (nI (dnS (ndF w) g)) := by
  have m70 := h.2.1.1
  unfold X12_doneSet
  have hlp := lp_for (b := X12_doneSet_b4 (nI l) w) (fun k => (nI (mkS (fun k => decide (nn w 70 k ≤ g k)) k), nI k)) 15 (e := nI (dnS (ndF w) g)) (fun k hk => ?_) ?_ 0 (Nat.zero_le _)
  · rw [show ((0 : Int32), (0 : Int32)) = (nI (mkS (fun k => decide (nn w 70 k ≤ g k)) 0), nI 0) from rfl, hlp]
    rfl
  · obtain ⟨⟨e70, b70⟩, -⟩ := h.1 k hk
    obtain ⟨eg, bg⟩ := hg k hk
    unfold X12_doneSet_b4 X12_doneSet_j27 X12_isDone
    rw [m70]
    by_cases q : nn w 70 k ≤ g k
    · rw [show mkS (fun k => decide (nn w 70 k ≤ g k)) (k + 1) = mkS (fun k => decide (nn w 70 k ≤ g k)) k ||| 2 ^ k from by rw [mkS, if_pos (by simpa using q)]]
      simp (disch := omega) only [gdn, gb0, gb1, ixn, nm1, nI_add, nI_mul, nsub, nI_ltI, nI_leI, nI_eq, eqNO, eqNO2, ltNO, NOlt, leNO, NOle, if_pos, if_neg, Option.bind_some, if_true, if_false, and_self, eq_self, l0, l1, l2, l3, l4, l5, l6, l7, l8, l9, l10, l11, l12, l13, l14, l15, l16, l17, l18, l19, l20, l24, l26, l30, l31, l32, l40, l41, l42, l43, l45, l47, l48, l57, l58, l59, l60, l61, l62, l63, l64, l97, l99, l100, l101, l102, l103, l104, l105, l106, l107, l108, l109, l110, l122, l160, l240, l255, l600, l1000, l3000, l10000, l10007, l10116, l67108863, l67108864, eg, e70, shl1, or_e]
    · rw [show mkS (fun k => decide (nn w 70 k ≤ g k)) (k + 1) = mkS (fun k => decide (nn w 70 k ≤ g k)) k from by rw [mkS, if_neg (by simpa using q)]]
      simp (disch := omega) only [gdn, gb0, gb1, ixn, nm1, nI_add, nI_mul, nsub, nI_ltI, nI_leI, nI_eq, eqNO, eqNO2, ltNO, NOlt, leNO, NOle, if_pos, if_neg, Option.bind_some, if_true, if_false, and_self, eq_self, l0, l1, l2, l3, l4, l5, l6, l7, l8, l9, l10, l11, l12, l13, l14, l15, l16, l17, l18, l19, l20, l24, l26, l30, l31, l32, l40, l41, l42, l43, l45, l47, l48, l57, l58, l59, l60, l61, l62, l63, l64, l97, l99, l100, l101, l102, l103, l104, l105, l106, l107, l108, l109, l110, l122, l160, l240, l255, l600, l1000, l3000, l10000, l10007, l10116, l67108863, l67108864, eg, e70, or_e, Nat.or_zero]
  · unfold X12_doneSet_b4
    simp (disch := omega) only [gdn, gb0, gb1, ixn, nm1, nI_add, nI_mul, nsub, nI_ltI, nI_leI, nI_eq, eqNO, eqNO2, ltNO, NOlt, leNO, NOle, if_pos, if_neg, Option.bind_some, if_true, if_false, and_self, eq_self, l0, l1, l2, l3, l4, l5, l6, l7, l8, l9, l10, l11, l12, l13, l14, l15, l16, l17, l18, l19, l20, l24, l26, l30, l31, l32, l40, l41, l42, l43, l45, l47, l48, l57, l58, l59, l60, l61, l62, l63, l64, l97, l99, l100, l101, l102, l103, l104, l105, l106, l107, l108, l109, l110, l122, l160, l240, l255, l600, l1000, l3000, l10000, l10007, l10116, l67108863, l67108864]
    rfl
theorem mlearn_e {w : Wd} (h : ILs w) {l : Nat} (hl : l < 40) : ∀ (left : Nat) (g : Nat → Nat), left ≤ 60 → (∀ k, k < 15 → g k ≤ 60) → ∃ e, lp (X12_learns_b36 (nI l)) (nI left, seI w 150 (rwS (15 * l) 15 g (w.1 150))) = some e ∧ (e = .inl (seI w 150 (rwS (15 * l) 15 (mlr_ (ndF w) (lnF w) left g) (w.1 150))) ∨ e = .inr (seI w 150 (rwS (15 * l) 15 (mlr_ (ndF w) (lnF w) left g) (w.1 150))))
  | 0, g, _, hg => by
    refine ⟨.inr (seI w 150 (rwS (15 * l) 15 g (w.1 150))), lp_exit ?_, Or.inr rfl⟩
    unfold X12_learns_b36
    simp (disch := omega) only [gdn, gb0, gb1, ixn, nm1, nI_add, nI_mul, nsub, nI_ltI, nI_leI, nI_eq, eqNO, eqNO2, ltNO, NOlt, leNO, NOle, if_pos, if_neg, Option.bind_some, if_true, if_false, and_self, eq_self, l0, l1, l2, l3, l4, l5, l6, l7, l8, l9, l10, l11, l12, l13, l14, l15, l16, l17, l18, l19, l20, l24, l26, l30, l31, l32, l40, l41, l42, l43, l45, l47, l48, l57, l58, l59, l60, l61, l62, l63, l64, l97, l99, l100, l101, l102, l103, l104, l105, l106, l107, l108, l109, l110, l122, l160, l240, l255, l600, l1000, l3000, l10000, l10007, l10116, l67108863, l67108864]
  | left + 1, g, hleft, hg => by
    have hD := dnS_lt (ndF w) g
    have hW : ILs (seI w 150 (rwS (15 * l) 15 g (w.1 150))) := h
    have hdn := mdone_e hW hl (g := g) (fun k hk => ⟨by rw [SI_row]; exact rwS_in hk, hg k hk⟩)
    rw [show ndF (seI w 150 (rwS (15 * l) 15 g (w.1 150))) = ndF w from rfl] at hdn
    have m71 : (seI w 150 (rwS (15 * l) 15 g (w.1 150))).1 148 = w.1 71 := h.2.1.2.1
    have hb : ∀ k, k < 15 → ∀ p : Prop, (p ↔ opn (ndF w) (lnF w) g k) → (p → X12_learns_b51 (nI l) (nI (left + 1)) (nI (dnS (ndF w) g)) (seI w 150 (rwS (15 * l) 15 g (w.1 150))) (nI k) = some (.inr (nI k))) ∧ (¬ p → X12_learns_b51 (nI l) (nI (left + 1)) (nI (dnS (ndF w) g)) (seI w 150 (rwS (15 * l) 15 g (w.1 150))) (nI k) = some (.inl (nI (k + 1)))) := by
      intro k hk p hp
      obtain ⟨⟨e70, b70⟩, b1, ⟨e71, b71⟩, -⟩ := h.1 k hk
      have hpw := pow15 hk
      have hbit := bit_e (D := dnS (ndF w) g) (k := k) (by omega) (by omega)
      rw [dnS_bit hk] at hbit
      unfold X12_learns_b51 X12_learns_j84
      rw [m71]
      by_cases qd : nn w 70 k ≤ g k
      · rw [if_pos (by simpa using qd)] at hbit
        refine ⟨fun z => ?_, fun _ => ?_⟩
        · have := (hp.mp z).1
          exact absurd qd (by show ¬ nn w 70 k ≤ g k; have : g k < nn w 70 k := this; omega)
        · simp (disch := omega) only [gdn, gb0, gb1, ixn, nm1, nI_add, nI_mul, nsub, nI_ltI, nI_leI, nI_eq, eqNO, eqNO2, ltNO, NOlt, leNO, NOle, if_pos, if_neg, Option.bind_some, if_true, if_false, and_self, eq_self, l0, l1, l2, l3, l4, l5, l6, l7, l8, l9, l10, l11, l12, l13, l14, l15, l16, l17, l18, l19, l20, l24, l26, l30, l31, l32, l40, l41, l42, l43, l45, l47, l48, l57, l58, l59, l60, l61, l62, l63, l64, l97, l99, l100, l101, l102, l103, l104, l105, l106, l107, l108, l109, l110, l122, l160, l240, l255, l600, l1000, l3000, l10000, l10007, l10116, l67108863, l67108864, hbit]
      · rw [if_neg (by simpa using qd)] at hbit
        by_cases qo : ∀ j, (nn w 71 k).testBit j = true → (dnS (ndF w) g).testBit j = true
        · have hsub : (nI (nn w 71 k) &&& (nI (dnS (ndF w) g) ^^^ NO) = nI 0) = True := eq_true ((sub_e (by omega)).mpr qo)
          refine ⟨fun _ => ?_, fun z => ?_⟩
          · simp (disch := omega) only [gdn, gb0, gb1, ixn, nm1, nI_add, nI_mul, nsub, nI_ltI, nI_leI, nI_eq, eqNO, eqNO2, ltNO, NOlt, leNO, NOle, if_pos, if_neg, Option.bind_some, if_true, if_false, and_self, eq_self, l0, l1, l2, l3, l4, l5, l6, l7, l8, l9, l10, l11, l12, l13, l14, l15, l16, l17, l18, l19, l20, l24, l26, l30, l31, l32, l40, l41, l42, l43, l45, l47, l48, l57, l58, l59, l60, l61, l62, l63, l64, l97, l99, l100, l101, l102, l103, l104, l105, l106, l107, l108, l109, l110, l122, l160, l240, l255, l600, l1000, l3000, l10000, l10007, l10116, l67108863, l67108864, hbit, e71, hsub]
          · exact (z (hp.mpr ⟨show g k < nn w 70 k by omega, fun j hj => by
              have h1 := qo j hj
              rw [dnS_bit (by have := bit_lt b71 hj; omega)] at h1
              exact of_decide_eq_true h1⟩)).elim
        · have hsub : (nI (nn w 71 k) &&& (nI (dnS (ndF w) g) ^^^ NO) = nI 0) = False := eq_false (fun z => qo ((sub_e (by omega)).mp z))
          refine ⟨fun z => ?_, fun _ => ?_⟩
          · exact (qo (fun i hi => by rw [dnS_bit (by have := bit_lt b71 hi; omega)]; exact decide_eq_true ((hp.mp z).2 i hi))).elim
          · simp (disch := omega) only [gdn, gb0, gb1, ixn, nm1, nI_add, nI_mul, nsub, nI_ltI, nI_leI, nI_eq, eqNO, eqNO2, ltNO, NOlt, leNO, NOle, if_pos, if_neg, Option.bind_some, if_true, if_false, and_self, eq_self, l0, l1, l2, l3, l4, l5, l6, l7, l8, l9, l10, l11, l12, l13, l14, l15, l16, l17, l18, l19, l20, l24, l26, l30, l31, l32, l40, l41, l42, l43, l45, l47, l48, l57, l58, l59, l60, l61, l62, l63, l64, l97, l99, l100, l101, l102, l103, l104, l105, l106, l107, l108, l109, l110, l122, l160, l240, l255, l600, l1000, l3000, l10000, l10007, l10116, l67108863, l67108864, hbit, e71, hsub]
    by_cases e : ∃ k, k < 15 ∧ opn (ndF w) (lnF w) g k
    · obtain ⟨k, hk, a1, a2⟩ := least_of e
      have hin := lp_for (b := X12_learns_b51 (nI l) (nI (left + 1)) (nI (dnS (ndF w) g)) (seI w 150 (rwS (15 * l) 15 g (w.1 150)))) (fun i => nI i) k (e := nI k) (fun i hi => ((hb i (by omega)) _ Iff.rfl).2 (a2 i hi)) (((hb k hk) _ Iff.rfl).1 a1) 0 (Nat.zero_le _)
      have hgk : g k < nn w 70 k := a1.1
      have hnk := (h.1 k hk).1.2
      obtain ⟨r, hr, hq⟩ := mlearn_e h hl left (setF g k (g k + 1)) (by omega) (fun j hj => by
        by_cases y : j = k
        · rw [y, setF_s]; omega
        · rw [setF_n y]; exact hg j hj)
      refine ⟨r, (lp_step ?_).trans hr, ?_⟩
      · have rk : rwS (15 * l) 15 g (w.1 150) (15 * l + k) = nI (g k) := rwS_in hk
        unfold X12_learns_b36
        simp (disch := omega) only [gdn, gb0, gb1, ixn, nm1, nI_add, nI_mul, nsub, nI_ltI, nI_leI, nI_eq, eqNO, eqNO2, ltNO, NOlt, leNO, NOle, if_pos, if_neg, Option.bind_some, if_true, if_false, and_self, eq_self, l0, l1, l2, l3, l4, l5, l6, l7, l8, l9, l10, l11, l12, l13, l14, l15, l16, l17, l18, l19, l20, l24, l26, l30, l31, l32, l40, l41, l42, l43, l45, l47, l48, l57, l58, l59, l60, l61, l62, l63, l64, l97, l99, l100, l101, l102, l103, l104, l105, l106, l107, l108, l109, l110, l122, l160, l240, l255, l600, l1000, l3000, l10000, l10007, l10116, l67108863, l67108864, I_oth, I_J, J_oth, J_I, I_row, J_row, SI_row, SI_oth, SI_J, SJ_row, SJ_oth, SJ_I, upd_s, upd_n, updL_s, updL_n, ne_eq, not_false_eq_true, hdn, hin, addNO, rk, pu_seI, upd_rwS, show left + 1 - 1 = left by omega]
      · rw [mlr_t hk a1 a2]; exact hq
    · have hin := lp_for (b := X12_learns_b51 (nI l) (nI (left + 1)) (nI (dnS (ndF w) g)) (seI w 150 (rwS (15 * l) 15 g (w.1 150)))) (fun i => nI i) 15 (e := nI 15) (fun i hi => ((hb i (by omega)) _ Iff.rfl).2 (fun z => e ⟨i, hi, z⟩)) (by unfold X12_learns_b51; simp (disch := omega) only [gdn, gb0, gb1, ixn, nm1, nI_add, nI_mul, nsub, nI_ltI, nI_leI, nI_eq, eqNO, eqNO2, ltNO, NOlt, leNO, NOle, if_pos, if_neg, Option.bind_some, if_true, if_false, and_self, eq_self, l0, l1, l2, l3, l4, l5, l6, l7, l8, l9, l10, l11, l12, l13, l14, l15, l16, l17, l18, l19, l20, l24, l26, l30, l31, l32, l40, l41, l42, l43, l45, l47, l48, l57, l58, l59, l60, l61, l62, l63, l64, l97, l99, l100, l101, l102, l103, l104, l105, l106, l107, l108, l109, l110, l122, l160, l240, l255, l600, l1000, l3000, l10000, l10007, l10116, l67108863, l67108864]) 0 (Nat.zero_le _)
      refine ⟨.inl (seI w 150 (rwS (15 * l) 15 g (w.1 150))), lp_exit ?_, Or.inl ?_⟩
      · unfold X12_learns_b36
        simp (disch := omega) only [gdn, gb0, gb1, ixn, nm1, nI_add, nI_mul, nsub, nI_ltI, nI_leI, nI_eq, eqNO, eqNO2, ltNO, NOlt, leNO, NOle, if_pos, if_neg, Option.bind_some, if_true, if_false, and_self, eq_self, l0, l1, l2, l3, l4, l5, l6, l7, l8, l9, l10, l11, l12, l13, l14, l15, l16, l17, l18, l19, l20, l24, l26, l30, l31, l32, l40, l41, l42, l43, l45, l47, l48, l57, l58, l59, l60, l61, l62, l63, l64, l97, l99, l100, l101, l102, l103, l104, l105, l106, l107, l108, l109, l110, l122, l160, l240, l255, l600, l1000, l3000, l10000, l10007, l10116, l67108863, l67108864, hdn, hin]
      · rw [mlr_n (fun j hj z => e ⟨j, hj, z⟩)]
/-- what HOURS are worth -/
def wrt (age hours : Nat) : Nat := if age < 40 then hours else if age < 60 then hours * 3 / 4 else hours / 2
theorem worth_e {age hours : Nat} {w : Wd} (ha : age < 100) (hh : hours ≤ 60) : X3_worthAt (nI age) (nI hours) w = some (nI (wrt age hours)) := by
  unfold X3_worthAt wrt
  by_cases q1 : age < 40
  · simp (disch := omega) only [gdn, gb0, gb1, ixn, nm1, nI_add, nI_mul, nsub, nI_ltI, nI_leI, nI_eq, eqNO, eqNO2, ltNO, NOlt, leNO, NOle, if_pos, if_neg, Option.bind_some, if_true, if_false, and_self, eq_self, l0, l1, l2, l3, l4, l5, l6, l7, l8, l9, l10, l11, l12, l13, l14, l15, l16, l17, l18, l19, l20, l24, l26, l30, l31, l32, l40, l41, l42, l43, l45, l47, l48, l57, l58, l59, l60, l61, l62, l63, l64, l97, l99, l100, l101, l102, l103, l104, l105, l106, l107, l108, l109, l110, l122, l160, l240, l255, l600, l1000, l3000, l10000, l10007, l10116, l67108863, l67108864]
  · by_cases q2 : age < 60
    · rw [gd_t (by decide), gd_t (by decide)]
      simp (disch := omega) only [gdn, gb0, gb1, ixn, nm1, nI_add, nI_mul, nsub, nI_ltI, nI_leI, nI_eq, eqNO, eqNO2, ltNO, NOlt, leNO, NOle, if_pos, if_neg, Option.bind_some, if_true, if_false, and_self, eq_self, l0, l1, l2, l3, l4, l5, l6, l7, l8, l9, l10, l11, l12, l13, l14, l15, l16, l17, l18, l19, l20, l24, l26, l30, l31, l32, l40, l41, l42, l43, l45, l47, l48, l57, l58, l59, l60, l61, l62, l63, l64, l97, l99, l100, l101, l102, l103, l104, l105, l106, l107, l108, l109, l110, l122, l160, l240, l255, l600, l1000, l3000, l10000, l10007, l10116, l67108863, l67108864, pk_div]
    · rw [gd_t (by decide), gd_t (by decide)]
      simp (disch := omega) only [gdn, gb0, gb1, ixn, nm1, nI_add, nI_mul, nsub, nI_ltI, nI_leI, nI_eq, eqNO, eqNO2, ltNO, NOlt, leNO, NOle, if_pos, if_neg, Option.bind_some, if_true, if_false, and_self, eq_self, l0, l1, l2, l3, l4, l5, l6, l7, l8, l9, l10, l11, l12, l13, l14, l15, l16, l17, l18, l19, l20, l24, l26, l30, l31, l32, l40, l41, l42, l43, l45, l47, l48, l57, l58, l59, l60, l61, l62, l63, l64, l97, l99, l100, l101, l102, l103, l104, l105, l106, l107, l108, l109, l110, l122, l160, l240, l255, l600, l1000, l3000, l10000, l10007, l10116, l67108863, l67108864, pk_div]
theorem wrt_le {age hours : Nat} (hh : hours ≤ 60) : wrt age hours ≤ 60 := by
  unfold wrt
  split
  · exact hh
  · split <;> omega
theorem mlearns_e {w : Wd} (h : ILs w) {l hours age : Nat} (hl : l < 40) {g : Nat → Nat} (hg : ∀ k, k < 15 → w.1 150 (15 * l + k) = nI (g k) ∧ g k ≤ 60) (ha : w.1 109 l = nI age) (ha100 : age < 100) (hh : hours ≤ 60) : X12_learns (nI l) (nI hours) w = some (seI w 150 (rwS (15 * l) 15 (mlr_ (ndF w) (lnF w) (wrt age hours) g) (w.1 150))) := by
  have hw0 : w = seI w 150 (rwS (15 * l) 15 g (w.1 150)) := (seI_same (rwS_id (fun k hk => (hg k hk).1))).symm
  have hj : ∀ left, left ≤ 60 → X12_learns_j34 (nI l) (nI left) w = some (seI w 150 (rwS (15 * l) 15 (mlr_ (ndF w) (lnF w) left g) (w.1 150))) := by
    intro left hleft
    obtain ⟨e, he, hq⟩ := mlearn_e h hl left g hleft (fun k hk => (hg k hk).2)
    rw [← hw0] at he
    unfold X12_learns_j34
    rw [he]
    rcases hq with rfl | rfl
    · rfl
    · rfl
  unfold X12_learns wrt
  by_cases q1 : age < 40
  · have := hj hours hh
    simp (disch := omega) only [gdn, gb0, gb1, ixn, nm1, nI_add, nI_mul, nsub, nI_ltI, nI_leI, nI_eq, eqNO, eqNO2, ltNO, NOlt, leNO, NOle, if_pos, if_neg, Option.bind_some, if_true, if_false, and_self, eq_self, l0, l1, l2, l3, l4, l5, l6, l7, l8, l9, l10, l11, l12, l13, l14, l15, l16, l17, l18, l19, l20, l24, l26, l30, l31, l32, l40, l41, l42, l43, l45, l47, l48, l57, l58, l59, l60, l61, l62, l63, l64, l97, l99, l100, l101, l102, l103, l104, l105, l106, l107, l108, l109, l110, l122, l160, l240, l255, l600, l1000, l3000, l10000, l10007, l10116, l67108863, l67108864, ha, this]
  · by_cases q2 : age < 60
    · have := hj (hours * 3 / 4) (by omega)
      rw [gd_t (show ¬ (2 : Int32) = 0 by decide), gd_t (show ¬ (4 : Int32) = 0 by decide)]
      simp (disch := omega) only [gdn, gb0, gb1, ixn, nm1, nI_add, nI_mul, nsub, nI_ltI, nI_leI, nI_eq, eqNO, eqNO2, ltNO, NOlt, leNO, NOle, if_pos, if_neg, Option.bind_some, if_true, if_false, and_self, eq_self, l0, l1, l2, l3, l4, l5, l6, l7, l8, l9, l10, l11, l12, l13, l14, l15, l16, l17, l18, l19, l20, l24, l26, l30, l31, l32, l40, l41, l42, l43, l45, l47, l48, l57, l58, l59, l60, l61, l62, l63, l64, l97, l99, l100, l101, l102, l103, l104, l105, l106, l107, l108, l109, l110, l122, l160, l240, l255, l600, l1000, l3000, l10000, l10007, l10116, l67108863, l67108864, ha, pk_div, this]
    · have := hj (hours / 2) (by omega)
      rw [gd_t (show ¬ (2 : Int32) = 0 by decide), gd_t (show ¬ (4 : Int32) = 0 by decide)]
      simp (disch := omega) only [gdn, gb0, gb1, ixn, nm1, nI_add, nI_mul, nsub, nI_ltI, nI_leI, nI_eq, eqNO, eqNO2, ltNO, NOlt, leNO, NOle, if_pos, if_neg, Option.bind_some, if_true, if_false, and_self, eq_self, l0, l1, l2, l3, l4, l5, l6, l7, l8, l9, l10, l11, l12, l13, l14, l15, l16, l17, l18, l19, l20, l24, l26, l30, l31, l32, l40, l41, l42, l43, l45, l47, l48, l57, l58, l59, l60, l61, l62, l63, l64, l97, l99, l100, l101, l102, l103, l104, l105, l106, l107, l108, l109, l110, l122, l160, l240, l255, l600, l1000, l3000, l10000, l10007, l10116, l67108863, l67108864, ha, pk_div, this]
