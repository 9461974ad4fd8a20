def OP (w w' : Wd) : Prop := IS w' ∧ IBo w' ∧ IG w' ∧ IR w' ∧ IB w' ∧ (IF w → IF w') ∧ ORD w w'
theorem nar_by {x : Int32} (h : -128 ≤ x.toInt ∧ x.toInt ≤ 127) : vp_nar .byte x = x := by
  rw [nar_byte]
  apply Int32.toInt_inj.mp
  rw [Int8.toInt_toInt32, Int32.toInt_toInt8]
  exact Int.bmod_eq_of_le (by omega) (by omega)
theorem St.op {w w' : Wd} (hB : IBo w) (hG : IG w) (hR : IR w) (hT : IB w) (z : St w w') : OP w w' := by
  have hf := z.fr
  have f97 : ∀ j, j ≠ 0 → w'.1 97 j = w.1 97 j := fun j hj => (hf 97 (by decide) j (by simp only [List.mem_cons, List.not_mem_nil, or_false, Prod.mk.injEq]; omega)).1
  have fr : ∀ k, k ≠ 0 → k ≠ 97 → w'.1 k = w.1 k ∧ w'.2 k = w.2 k := fun k h1 h2 => hf.row k (by simp) (by simp only [List.map_cons, List.map_nil, List.mem_cons, List.not_mem_nil, or_false]; omega)
  have hBK : BKK w w' := ⟨fun t _ => ⟨by rw [(fr 31 (by omega) (by omega)).1], by rw [(fr 32 (by omega) (by omega)).1], by rw [(fr 33 (by omega) (by omega)).1], by rw [(fr 124 (by omega) (by omega)).1], by rw [(fr 122 (by omega) (by omega)).1], by rw [(fr 123 (by omega) (by omega)).1]⟩, by rw [(fr 33 (by omega) (by omega)).1], fun r _ k k1 k2 => by rw [(fr k (by omega) (by omega)).1, (fr k (by omega) (by omega)).2]; exact ⟨rfl, rfl⟩, fun r _ k k1 k2 => by rw [(fr k (by omega) (by omega)).1, (fr k (by omega) (by omega)).2]; exact ⟨rfl, rfl⟩, fun i _ => by rw [(fr 42 (by omega) (by omega)).1], fun i _ => ⟨by rw [(fr 140 (by omega) (by omega)).1], by rw [(fr 141 (by omega) (by omega)).1]⟩, fun i _ k k1 k2 => by rw [(fr k (by omega) (by omega)).1]⟩
  have e30 : ∀ j, w'.1 30 j = w.1 30 j := fun j => by rw [(fr 30 (by omega) (by omega)).1]
  have hB' : IBo w' := hB.sm (hf.sm (by decide))
  have n0 : nn w' 30 0 = nn w 30 0 := nn_eq (e30 0)
  refine ⟨z.is, hB', IG.sm hB hG z.smG, ?_, ?_, fun h => ?_, hBK, Or.inl ⟨by rw [(fr 73 (by omega) (by omega)).1], fun s wk => RS_keep hB hB' hBK (by omega) (fun t h1 h2 => by omega)⟩⟩
  · obtain ⟨A, S, O, h1, h2, h3⟩ := hR
    have hb := hB.1.1.2
    have nA : nn w 30 13 = A := nn_of h1.1 (by omega)
    have nS : nn w 97 43 = S := nn_of h1.2.1 (by omega)
    have nO : nn w 97 44 = O := nn_of h1.2.2 (by omega)
    refine ⟨A, S, O, ⟨by rw [e30]; exact h1.1, by rw [f97 43 (by omega)]; exact h1.2.1, by rw [f97 44 (by omega)]; exact h1.2.2⟩, by rw [n0]; exact h2, fun t ht k hk => ?_⟩
    rw [n0] at ht
    rw [nn_eq (hBK.1 t ht).2.2.2.1] at hk
    rw [nn_eq (hBK.1 t ht).2.2.1, nn_eq (hBK.2.2.1 _ (hB.old ht hk).1 37 (by omega) (by omega)).1]
    exact fun y => hBK.rcx hB nA nS nO ht hk (h3 t ht k hk y) (Nat.le_refl _) (Nat.le_refl _) (Nat.le_refl _)
  · obtain ⟨t1, t2, t3, t4⟩ := hT
    have e65 : ∀ j, w'.1 65 j = w.1 65 j := fun j => by rw [(fr 65 (by omega) (by omega)).1]
    exact ⟨t1.eq (e65 2), by rw [f97 33 (by omega), e65]; exact t2, by rw [(fr 120 (by omega) (by omega)).1, (fr 66 (by omega) (by omega)).1]; exact t3, fun i => by rw [(fr 66 (by omega) (by omega)).1]; exact t4 i⟩
  · exact ⟨by rw [f97 39 (by omega), (fr 65 (by omega) (by omega)).1]; exact h.1, by rw [f97 40 (by omega), (fr 65 (by omega) (by omega)).1]; exact h.2⟩
theorem parse_s {w : Wd} {n A : Nat} (h13 : w.1 30 13 = nI A) : X6_parse (nI n) w = PS n 0 (puI (puI (puI (puI (puI (puI w 30 14 (nI 0)) 30 15 (nI A)) 65 6 (nI 0)) 65 11 (nI 0)) 65 4 (nI 0)) 65 5 NO) := by
  have g : (puI w 30 14 (nI 0)).1 30 13 = nI A := by rw [puI_ne (by decide)]; exact h13
  unfold X6_parse X0_openText PS
  rw [show (0 : Int32) = nI 0 from rfl, show (-1 : Int32) = NO from rfl]
  simp only [Option.bind_some]
  rw [g]
  cases lp (X6_parse_b31 (nI n)) (nI 0, nI 0, puI (puI (puI (puI (puI (puI w 30 14 (nI 0)) 30 15 (nI A)) 65 6 (nI 0)) 65 11 (nI 0)) 65 4 (nI 0)) 65 5 NO) with
  | none => rfl
  | some _ => rfl
theorem o_orders (a1 a2 a3 : Int32) {w : Wd} (hW : IW w) (hB : IBo w) (hG : IG w) (hR : IR w) (hT : IB w) : two (X11_orders a1 a2 a3) (X12_orders a1 a2 a3) w (OP w) := by
  have hT' := hT
  obtain ⟨⟨t1, t1b⟩, t2, t3, t4⟩ := hT
  have hb := hB.1.1.2
  have h30 := hB.1.1.1
  have h42 : w.1 97 42 = nI (nn w 30 0) := by rw [hB.1.2]; exact h30
  rw [t1] at t2
  by_cases hv : (0 ≤ a1.toInt ∧ a1.toInt < ((nn w 65 2 + 1 : Nat) : Int)) ∧ (0 ≤ a2.toInt ∧ a2.toInt < ((60 : Nat) : Int)) ∧ ((1 : Nat) ≤ a3.toInt ∧ a3.toInt ≤ ((15 : Nat) : Int))
  · obtain ⟨v1, v2, v3⟩ := hv
    by_cases hF5 : nn w 30 0 < 5
    · obtain ⟨n, hn, rfl⟩ := of_t v1
      obtain ⟨A, S, O, hA, hbd, hRx⟩ := hR
      have nA : nn w 30 13 = A := nn_of hA.1 (by omega)
      have nS : nn w 97 43 = S := nn_of hA.2.1 (by omega)
      have nO : nn w 97 44 = O := nn_of hA.2.2 (by omega)
      have h33 : w.1 33 (nn w 30 0) = nI (nn w 33 (nn w 30 0)) := (hB.2.2.1 _ (Nat.le_refl _)).1
      have hF20 := hB.fr20 _ (Nat.le_refl (nn w 30 0))
      -- bytes
      have hc : ∀ i, ∃ k, BY (w.1 66 i) k ∧ w.1 66 i &&& nI 255 = nI k ∧ k < 256 := fun i => BY_of (t4 i)
      obtain ⟨c, hc⟩ : ∃ c : Nat → Nat, ∀ i, BY (w.1 66 i) (c i) ∧ w.1 66 i &&& nI 255 = nI (c i) ∧ c i < 256 := ⟨fun i => Classical.choose (hc i), fun i => Classical.choose_spec (hc i)⟩
      generalize hw0 : puI (puI (puI (puI (puI (puI w 30 14 (nI 0)) 30 15 (nI A)) 65 6 (nI 0)) 65 11 (nI 0)) 65 4 (nI 0)) 65 5 NO = w0c at *
      have hps : X6_parse (nI n) w = PS n 0 w0c := by rw [← hw0]; exact parse_s hA.1
      have hk0 : Kg fR (nn w 33 (nn w 30 0)) A w w0c := by
        rw [← hw0]
        exact (((((Kg.rf.fI (by decide) (Or.inl rfl)).fI (by decide) (Or.inl rfl)).fI (by decide) (Or.inr rfl)).fI (by decide) (Or.inr rfl)).fI (by decide) (Or.inr rfl)).fI (by decide) (Or.inr rfl)
      have z6 : w0c.1 65 6 = nI 0 := by rw [← hw0]; simp (disch := omega) only [gdn, gb0, gb1, ixn, nm1, nI_add, nI_mul, nsub, nI_ltI, nI_leI, nI_eq, eqNO, eqNO2, ltNO, NOlt, leNO, NOle, if_pos, if_neg, Option.bind_some, if_true, if_false, and_self, eq_self, l0, l1, l2, l3, l4, l5, l6, l7, l8, l9, l10, l11, l12, l13, l14, l15, l16, l17, l18, l19, l20, l24, l26, l30, l31, l32, l40, l41, l42, l43, l45, l47, l48, l57, l58, l59, l60, l61, l62, l63, l64, l97, l99, l100, l101, l102, l103, l104, l105, l106, l107, l108, l109, l110, l122, l160, l240, l255, l600, l1000, l3000, l10000, l10007, l10116, l67108863, l67108864, I_oth, I_J, J_oth, J_I, I_row, J_row, SI_row, SI_oth, SI_J, SJ_row, SJ_oth, SJ_I, upd_s, upd_n, updL_s, updL_n, ne_eq, not_false_eq_true]
      have z11 : w0c.1 65 11 = nI 0 := by rw [← hw0]; simp (disch := omega) only [gdn, gb0, gb1, ixn, nm1, nI_add, nI_mul, nsub, nI_ltI, nI_leI, nI_eq, eqNO, eqNO2, ltNO, NOlt, leNO, NOle, if_pos, if_neg, Option.bind_some, if_true, if_false, and_self, eq_self, l0, l1, l2, l3, l4, l5, l6, l7, l8, l9, l10, l11, l12, l13, l14, l15, l16, l17, l18, l19, l20, l24, l26, l30, l31, l32, l40, l41, l42, l43, l45, l47, l48, l57, l58, l59, l60, l61, l62, l63, l64, l97, l99, l100, l101, l102, l103, l104, l105, l106, l107, l108, l109, l110, l122, l160, l240, l255, l600, l1000, l3000, l10000, l10007, l10116, l67108863, l67108864, I_oth, I_J, J_oth, J_I, I_row, J_row, SI_row, SI_oth, SI_J, SJ_row, SJ_oth, SJ_I, upd_s, upd_n, updL_s, updL_n, ne_eq, not_false_eq_true]
      have z14 : w0c.1 30 14 = nI 0 := by rw [← hw0]; simp (disch := omega) only [gdn, gb0, gb1, ixn, nm1, nI_add, nI_mul, nsub, nI_ltI, nI_leI, nI_eq, eqNO, eqNO2, ltNO, NOlt, leNO, NOle, if_pos, if_neg, Option.bind_some, if_true, if_false, and_self, eq_self, l0, l1, l2, l3, l4, l5, l6, l7, l8, l9, l10, l11, l12, l13, l14, l15, l16, l17, l18, l19, l20, l24, l26, l30, l31, l32, l40, l41, l42, l43, l45, l47, l48, l57, l58, l59, l60, l61, l62, l63, l64, l97, l99, l100, l101, l102, l103, l104, l105, l106, l107, l108, l109, l110, l122, l160, l240, l255, l600, l1000, l3000, l10000, l10007, l10116, l67108863, l67108864, I_oth, I_J, J_oth, J_I, I_row, J_row, SI_row, SI_oth, SI_J, SJ_row, SJ_oth, SJ_I, upd_s, upd_n, updL_s, updL_n, ne_eq, not_false_eq_true]
      have z15 : w0c.1 30 15 = nI A := by rw [← hw0]; simp (disch := omega) only [gdn, gb0, gb1, ixn, nm1, nI_add, nI_mul, nsub, nI_ltI, nI_leI, nI_eq, eqNO, eqNO2, ltNO, NOlt, leNO, NOle, if_pos, if_neg, Option.bind_some, if_true, if_false, and_self, eq_self, l0, l1, l2, l3, l4, l5, l6, l7, l8, l9, l10, l11, l12, l13, l14, l15, l16, l17, l18, l19, l20, l24, l26, l30, l31, l32, l40, l41, l42, l43, l45, l47, l48, l57, l58, l59, l60, l61, l62, l63, l64, l97, l99, l100, l101, l102, l103, l104, l105, l106, l107, l108, l109, l110, l122, l160, l240, l255, l600, l1000, l3000, l10000, l10007, l10116, l67108863, l67108864, I_oth, I_J, J_oth, J_I, I_row, J_row, SI_row, SI_oth, SI_J, SJ_row, SJ_oth, SJ_I, upd_s, upd_n, updL_s, updL_n, ne_eq, not_false_eq_true]
      have z4 : w0c.1 65 4 = nI 0 := by rw [← hw0]; simp (disch := omega) only [gdn, gb0, gb1, ixn, nm1, nI_add, nI_mul, nsub, nI_ltI, nI_leI, nI_eq, eqNO, eqNO2, ltNO, NOlt, leNO, NOle, if_pos, if_neg, Option.bind_some, if_true, if_false, and_self, eq_self, l0, l1, l2, l3, l4, l5, l6, l7, l8, l9, l10, l11, l12, l13, l14, l15, l16, l17, l18, l19, l20, l24, l26, l30, l31, l32, l40, l41, l42, l43, l45, l47, l48, l57, l58, l59, l60, l61, l62, l63, l64, l97, l99, l100, l101, l102, l103, l104, l105, l106, l107, l108, l109, l110, l122, l160, l240, l255, l600, l1000, l3000, l10000, l10007, l10116, l67108863, l67108864, I_oth, I_J, J_oth, J_I, I_row, J_row, SI_row, SI_oth, SI_J, SJ_row, SJ_oth, SJ_I, upd_s, upd_n, updL_s, updL_n, ne_eq, not_false_eq_true]
      have z5 : w0c.1 65 5 = NO := by rw [← hw0]; simp (disch := omega) only [gdn, gb0, gb1, ixn, nm1, nI_add, nI_mul, nsub, nI_ltI, nI_leI, nI_eq, eqNO, eqNO2, ltNO, NOlt, leNO, NOle, if_pos, if_neg, Option.bind_some, if_true, if_false, and_self, eq_self, l0, l1, l2, l3, l4, l5, l6, l7, l8, l9, l10, l11, l12, l13, l14, l15, l16, l17, l18, l19, l20, l24, l26, l30, l31, l32, l40, l41, l42, l43, l45, l47, l48, l57, l58, l59, l60, l61, l62, l63, l64, l97, l99, l100, l101, l102, l103, l104, l105, l106, l107, l108, l109, l110, l122, l160, l240, l255, l600, l1000, l3000, l10000, l10007, l10116, l67108863, l67108864, I_oth, I_J, J_oth, J_I, I_row, J_row, SI_row, SI_oth, SI_J, SJ_row, SJ_oth, SJ_I, upd_s, upd_n, updL_s, updL_n, ne_eq, not_false_eq_true]
      have core : ∀ v : Wd, v.1 120 = w.1 120 → v.1 97 33 = w.1 97 33 → v.1 97 42 = w.1 97 42 → v.1 97 43 = w.1 97 43 → v.1 97 44 = w.1 97 44 → ∃ w0 wm e, X12_orders (nI n) a2 a3 v = X12_orders_j142 a2 a3 (nI S) (nI O) (nI (if tk c n 0 = 1 then 0 else 1)) wm ∧ Fr [121] [(97, 33), (97, 34), (97, 37), (97, 40), (97, 41), (124, nn w 30 0)] v w0 ∧ (w0.1 97 33 = nI 0) ∧ lp (X12_orders_b144 a2 a3 (nI S) (nI O)) (nI (if tk c n 0 = 1 then 0 else 1), wm) = some e ∧ (TXG w0c w0 (nn w 30 0) (nn w 33 (nn w 30 0)) A S O (600 * nn w 30 0) (600 * nn w 30 0) (200 * nn w 30 0) (PS n 0 w0c) e ∨ FP (Kg fR (nn w 33 (nn w 30 0)) A w0c) (KU (nn w 30 0) (20 * nn w 30 0) O S w0) (PS n 0 w0c) (nI 0, e)) := by
        intro v e120 e33 e42 e43 e44
        obtain ⟨w0, wm, m1, m2, m3, ⟨m4, m5, m6, m7⟩, m8, m9⟩ := mord_s (v := v) (n := n) (t := nn w 30 0) (S := S) (O := O) (a2 := a2) (a3 := a3) (c := c) (by omega) hF5 (fun i hi => by rw [e120, t3]; exact ⟨(hc i).2.1, (hc i).2.2, nar_by (t4 i)⟩) ⟨nn w 65 2, by omega, by omega, by rw [e33]; exact t2⟩ (by rw [e42]; exact h42) (by rw [e43]; exact hA.2.1) (by rw [e44]; exact hA.2.2) v2 (by omega)
        have q97 : ∀ j, 42 ≤ j → j ≤ 44 → w0.1 97 j = v.1 97 j := fun j j1 j2 => (m2 97 (by decide) j (by simp only [List.mem_cons, List.not_mem_nil, or_false, Prod.mk.injEq]; omega)).1
        have p97 : ∀ j, 39 ≤ j → wm.1 97 j = w0.1 97 j := fun j hj => (m8 97 (by decide) j (by simp only [List.mem_cons, List.not_mem_nil, or_false, Prod.mk.injEq]; omega)).1
        obtain ⟨e, he, ho⟩ := text_lp (a2 := a2) (a3 := a3) (a4 := nI S) (a5 := nI O) (P := PS n 0 w0c) (c := c) (n := n) (by omega) (w0c := w0c) (w0m := w0) (hk0.iw hW) (hk0.by (fun i _ => (hc i).1)) m3 (t := nn w 30 0) (F := nn w 33 (nn w 30 0)) (A0 := A) (S0 := S) (O0 := O) (KA := 600 * nn w 30 0) (KB := 600 * nn w 30 0) (KO := 200 * nn w 30 0) (by omega) (by omega) (by omega) (by rw [hk0.f6.1]; exact h30) hF5 (by rw [hk0.f6.2]; exact h33) hF20 (by rw [q97 42 (by omega) (by omega), e42]; exact h42) 0 0 w0c wm 0 A S O (Nat.le_refl _) (by omega) z6 z11 z14 z15 Kg.rf ⟨z4, z5⟩ (KU.rf.nx m8) m9 ⟨by rw [p97 41 (by omega)]; exact m5, by rw [p97 40 (by omega)]; exact m6⟩ (by rw [p97 43 (by omega), q97 43 (by omega) (by omega), e43]; exact hA.2.1) (by rw [p97 44 (by omega), q97 44 (by omega) (by omega), e44]; exact hA.2.2) (by rw [(m8.row 124 (by decide) (by decide)).1]; exact m7) (by omega) (fun k hk => by omega) ⟨Nat.le_refl _, Nat.le_refl _, Nat.le_refl _⟩ ⟨by omega, by omega, by omega⟩ rfl
        exact ⟨w0, wm, e, m1, m2, m4, he, ho⟩
      obtain ⟨w0', wm', e0', -, -, -, -, ho0⟩ := core w rfl rfl rfl rfl rfl
      -- class: checks
      have hcls : X11_orders (nI n) a2 a3 w = (X6_parse (nI n) w).bind fun q3 => (some (puI q3 65 2 (0 : Int32))).bind fun w5 => (if (w5.1 65 4) = 0 then (X10_relive a2 w5).bind fun q6 => (X0_keepText a2 a3 q6).bind fun q8 => (X11_answer q8.1 q8.2).bind fun q10 => some (q10.1, q10.2) else (X11_deny (9 : Int32) w5).bind fun q12 => some (q12.1, q12.2)) := by
        unfold X11_orders
        rw [wil (nI n) (nn w 65 2) w t1 (by omega), if_pos v1, if_neg (by decide), week_e, if_pos v2, if_neg (by decide), show (1 : Int32) = nI 1 from rfl, show (15 : Int32) = nI 15 from rfl, win (lo := 1) (hi := 15) a3 w (by omega) (by omega), if_pos v3, if_neg (by decide), h30, if_pos (show nI (nn w 30 0) < (5 : Int32) by rw [show (5 : Int32) = nI 5 from rfl, nI_ltI (by omega) (by omega)]; exact hF5)]
      rcases ho0 with ⟨ec, D, A1, S1, O1, g1, ⟨g2, g3⟩, g4, g5, g6, -, -, -, g9, -, -, g12⟩ | ⟨-, k, pl, ec, g1, g2, g3, -, -, -, g4, g5, g6, g7⟩
      · -- the TEXT is kept
        obtain ⟨week, hweek, rfl⟩ := of_t v2
        obtain ⟨sh, hsh, rfl⟩ := of_t (x := a3) (n := 16) ⟨by omega, by omega⟩
        have kE : Kg fR (nn w 33 (nn w 30 0)) A w ec := hk0.tr g6
        generalize hu : puI (puI ec 65 2 (nI 0)) 73 4 (mnI ((puI ec 65 2 (nI 0)).1 73 4) (nI week)) = u at *
        have u30 : ∀ j, u.1 30 j = ec.1 30 j := fun j => by rw [← hu, I_oth (by decide), I_oth (by decide)]
        have ur : ∀ q, q ≠ 65 → q ≠ 73 → u.1 q = ec.1 q ∧ u.2 q = ec.2 q := fun q q1 q2 => by rw [← hu, I_oth q2, I_oth q1, I_J, I_J]; exact ⟨rfl, rfl⟩
        have er : ∀ q, q < 35 → q ≠ 30 → ec.1 q = w.1 q ∧ ec.2 q = w.2 q := fun q q1 q2 => kE.1.row q (by unfold RQ; simp only [List.mem_cons, List.not_mem_nil, or_false]; omega) (by simp only [fR, List.map_cons, List.map_nil, List.mem_cons, List.not_mem_nil, or_false]; omega)
        obtain ⟨u', kk, y1, y2, y3, y4, y5, y6, y7, y8, y9, y10, y11⟩ := keepT_e (u := u) (T := nn w 30 0) (F := nn w 33 (nn w 30 0)) (D := D) (A := A1) (f := nn w 34) (wk := nn w 31) (week := week) (sh := sh) hF5 (by rw [u30, kE.f6.1]; exact h30) (by rw [(ur 33 (by omega) (by omega)).1, kE.f6.2]; exact h33) (by rw [u30]; exact g4) (by rw [u30]; exact g5) (fun i hi => by rw [(ur 34 (by omega) (by omega)).1, (er 34 (by omega) (by omega)).1]; exact (hB.2.2.2.2.1 i hi).1) (fun i hi => (hB.2.2.2.2.1 i hi).2) (fun i hi => by rw [(ur 31 (by omega) (by omega)).1, (er 31 (by omega) (by omega)).1]; exact (hB.2.1 i hi).1.1) (fun i hi => (hB.2.1 i hi).1.2) hweek (fun i j h1 h2 => hB.2.2.2.2.2.1 i j h1 h2)
        have k1 : X11_orders (nI n) (nI week) (nI sh) w = some (nI D, puI u' 0 10 (nI 0)) := by
          have f4 : (puI ec 65 2 (nI 0)).1 65 4 = nI 0 := by rw [puI_ne (by decide)]; exact g2
          rw [hcls, hps, g1]
          simp only [Option.bind_some]
          rw [show puI ec 65 2 (0 : Int32) = puI ec 65 2 (nI 0) from rfl, f4, if_pos (show nI 0 = (0 : Int32) from rfl), relive_e]
          simp only [Option.bind_some]
          rw [hu, y1]
          rfl
        -- rows that the class leaves
        have cr : ∀ q, 98 ≤ q → (puI u' 0 10 (nI 0)).1 q = w.1 q ∧ (puI u' 0 10 (nI 0)).2 q = w.2 q := fun q hq => by
          have e1 := y2.row q (by simp only [List.mem_cons, List.not_mem_nil, or_false]; omega) (by simp only [List.map_cons, List.map_nil, List.mem_cons, List.not_mem_nil, or_false]; omega)
          have e2 := ur q (by omega) (by omega)
          have e3 := kE.1.row q (by unfold RQ; simp only [List.mem_cons, List.not_mem_nil, or_false]; omega) (by simp only [fR, List.map_cons, List.map_nil, List.mem_cons, List.not_mem_nil, or_false]; omega)
          rw [I_oth (by omega), I_J, e1.1, e1.2, e2.1, e2.2, e3.1, e3.2]; exact ⟨rfl, rfl⟩
        have cr97 : ∀ j, (puI u' 0 10 (nI 0)).1 97 j = w.1 97 j := fun j => by
          have e1 := y2.row 97 (by decide) (by decide)
          have e3 := kE.1.row 97 (by decide) (by decide)
          rw [I_oth (by omega), e1.1, (ur 97 (by omega) (by omega)).1, e3.1]
        have cx : ∀ q, 35 ≤ q → q ≤ 42 → (puI u' 0 10 (nI 0)).1 q = ec.1 q ∧ (puI u' 0 10 (nI 0)).2 q = ec.2 q := fun q q1 q2 => by
          have e1 := y2.row q (by simp only [List.mem_cons, List.not_mem_nil, or_false]; omega) (by simp only [List.map_cons, List.map_nil, List.mem_cons, List.not_mem_nil, or_false]; omega)
          have e2 := ur q (by omega) (by omega)
          rw [I_oth (by omega), I_J, e1.1, e1.2, e2.1, e2.2]; exact ⟨rfl, rfl⟩
        obtain ⟨w0, wm, e, m1, m2, m3, m4, m5⟩ := core (puI u' 0 10 (nI 0)) (cr 120 (by omega)).1 (cr97 33) (cr97 42) (cr97 43) (cr97 44)
        rcases m5 with ⟨ec2, D2, A2, S2, O2, x1, ⟨x2, x3⟩, x4, x5, x6, x7, x8, x9, x10, x11, x12, x13⟩ | ⟨-, k, pl, ec2, x1, x2, x3, -, -, -, x4, x5, x6, x7⟩
        · rw [g1] at x1
          injection x1 with x1
          subst x1
          have hD2 : D2 = D := by
            rw [g4] at x4
            have := (nI_eq (a := D) (b := D2) (by omega) (by omega)).mp x4
            omega
          subst hD2
          have hA2 : A2 = A1 := by
            rw [g5] at x5
            have := (nI_eq (a := A1) (b := A2) (by omega) (by omega)).mp x5
            omega
          subst hA2
          have e42 : e.1 97 42 = nI (nn w 30 0) := by rw [x7.f42, (m2 97 (by decide) 42 (by simp)).1, cr97]; exact h42
          generalize hw1 : puI u' 0 10 (nI 0) = w1 at *
          have k2 : X12_orders (nI n) (nI week) (nI sh) w1 = some (nI D2, puI (puI (puI (puI (puI e 97 39 (nI 0)) 122 (nn w 30 0) (nI week)) 123 (nn w 30 0) (nI sh)) 97 42 (nI (nn w 30 0 + 1))) 97 0 (nI 0)) := by
            rw [m1]
            unfold X12_orders_j142
            rw [m4]
            simp only [Option.bind_some]
            rw [x8.1, show (puI e 97 39 (nI 0)).1 97 41 = nI 0 by rw [puI_ne (by decide)]; exact x8.1, if_pos (show nI 0 ≤ (0 : Int32) by decide)]
            have d1 : (puI e 97 39 (nI 0)).1 97 42 = nI (nn w 30 0) := by rw [puI_ne (by decide)]; exact e42
            have d2 : (puI (puI e 97 39 (nI 0)) 122 (nn w 30 0) (nI week)).1 97 42 = nI (nn w 30 0) := by rw [I_oth (by decide)]; exact d1
            have d3 : (puI (puI (puI e 97 39 (nI 0)) 122 (nn w 30 0) (nI week)) 123 (nn w 30 0) (nI sh)).1 97 42 = nI (nn w 30 0) := by rw [I_oth (by decide)]; exact d2
            have d4 : (puI (puI (puI (puI e 97 39 (nI 0)) 122 (nn w 30 0) (nI week)) 123 (nn w 30 0) (nI sh)) 97 42 (nI (nn w 30 0 + 1))).1 97 42 = nI (nn w 30 0 + 1) := I_self
            have d5 : (puI (puI (puI (puI e 97 39 (nI 0)) 122 (nn w 30 0) (nI week)) 123 (nn w 30 0) (nI sh)) 97 42 (nI (nn w 30 0 + 1))).1 124 (nn w 30 0) = nI D2 := by rw [I_oth (by decide), I_oth (by decide), I_oth (by decide), I_oth (by decide)]; exact x9.2.2
            simp (disch := omega) only [gdn, gb0, gb1, ixn, nm1, nI_add, nI_mul, nsub, nI_ltI, nI_leI, nI_eq, eqNO, eqNO2, ltNO, NOlt, leNO, NOle, if_pos, if_neg, Option.bind_some, if_true, if_false, and_self, eq_self, l0, l1, l2, l3, l4, l5, l6, l7, l8, l9, l10, l11, l12, l13, l14, l15, l16, l17, l18, l19, l20, l24, l26, l30, l31, l32, l40, l41, l42, l43, l45, l47, l48, l57, l58, l59, l60, l61, l62, l63, l64, l97, l99, l100, l101, l102, l103, l104, l105, l106, l107, l108, l109, l110, l122, l160, l240, l255, l600, l1000, l3000, l10000, l10007, l10116, l67108863, l67108864, d1, d2, d3, d4, d5, show nn w 30 0 + 1 - 1 = nn w 30 0 by omega, mgiv_e]
          refine ⟨_, _, _, k1, k2, ?_⟩
          -- what the last world has
          have wr : ∀ q, q ≠ 97 → (q < 121 ∨ 144 ≤ q) → (puI (puI (puI (puI (puI e 97 39 (nI 0)) 122 (nn w 30 0) (nI week)) 123 (nn w 30 0) (nI sh)) 97 42 (nI (nn w 30 0 + 1))) 97 0 (nI 0)).1 q = w1.1 q ∧ (puI (puI (puI (puI (puI e 97 39 (nI 0)) 122 (nn w 30 0) (nI week)) 123 (nn w 30 0) (nI sh)) 97 42 (nI (nn w 30 0 + 1))) 97 0 (nI 0)).2 q = w1.2 q := fun q q1 q2 => by
            have e1 := x7.1.row q (by unfold RU; simp only [List.mem_cons, List.not_mem_nil, or_false]; omega) (by simp only [fV, List.map_cons, List.map_nil, List.mem_cons, List.not_mem_nil, or_false]; omega)
            have e2 := m2.row q (by simp only [List.mem_cons, List.not_mem_nil, or_false]; omega) (by simp only [List.map_cons, List.map_nil, List.mem_cons, List.not_mem_nil, or_false]; omega)
            rw [I_oth q1, I_oth q1, I_oth (by omega), I_oth (by omega), I_oth q1, I_J, I_J, I_J, I_J, I_J, e1.1, e1.2, e2.1, e2.2]; exact ⟨rfl, rfl⟩
          have wm_ : ∀ q, 124 ≤ q → q ≤ 143 → (puI (puI (puI (puI (puI e 97 39 (nI 0)) 122 (nn w 30 0) (nI week)) 123 (nn w 30 0) (nI sh)) 97 42 (nI (nn w 30 0 + 1))) 97 0 (nI 0)).1 q = e.1 q ∧ (puI (puI (puI (puI (puI e 97 39 (nI 0)) 122 (nn w 30 0) (nI week)) 123 (nn w 30 0) (nI sh)) 97 42 (nI (nn w 30 0 + 1))) 97 0 (nI 0)).2 q = e.2 q := fun q q1 q2 => by
            rw [I_oth (by omega), I_oth (by omega), I_oth (by omega), I_oth (by omega), I_oth (by omega)]; exact ⟨rfl, rfl⟩
          have w122 : (puI (puI (puI (puI (puI e 97 39 (nI 0)) 122 (nn w 30 0) (nI week)) 123 (nn w 30 0) (nI sh)) 97 42 (nI (nn w 30 0 + 1))) 97 0 (nI 0)).1 122 = upd (w.1 122) (nn w 30 0) (nI week) := by
            rw [I_oth (by decide), I_oth (by decide), I_oth (by decide), I_row, I_oth (by decide), (x7.1.row 122 (by decide) (by decide)).1, (m2.row 122 (by decide) (by simp)).1, (cr 122 (by omega)).1]
          have w123 : (puI (puI (puI (puI (puI e 97 39 (nI 0)) 122 (nn w 30 0) (nI week)) 123 (nn w 30 0) (nI sh)) 97 42 (nI (nn w 30 0 + 1))) 97 0 (nI 0)).1 123 = upd (w.1 123) (nn w 30 0) (nI sh) := by
            rw [I_oth (by decide), I_oth (by decide), I_row, I_oth (by decide), I_oth (by decide), (x7.1.row 123 (by decide) (by decide)).1, (m2.row 123 (by decide) (by simp)).1, (cr 123 (by omega)).1]
          have w42 : (puI (puI (puI (puI (puI e 97 39 (nI 0)) 122 (nn w 30 0) (nI week)) 123 (nn w 30 0) (nI sh)) 97 42 (nI (nn w 30 0 + 1))) 97 0 (nI 0)).1 97 42 = nI (nn w 30 0 + 1) := by rw [puI_ne (by decide), I_self]
          have w97 : ∀ j, 33 ≤ j → j ≠ 39 → j ≠ 42 → (puI (puI (puI (puI (puI e 97 39 (nI 0)) 122 (nn w 30 0) (nI week)) 123 (nn w 30 0) (nI sh)) 97 42 (nI (nn w 30 0 + 1))) 97 0 (nI 0)).1 97 j = e.1 97 j := fun j j0 j1 j2 => by
            rw [puI_ne (by intro z; injection z; omega), puI_ne (by intro z; injection z; omega), I_oth (by decide), I_oth (by decide), puI_ne (by intro z; injection z; omega)]
          have w39 : (puI (puI (puI (puI (puI e 97 39 (nI 0)) 122 (nn w 30 0) (nI week)) 123 (nn w 30 0) (nI sh)) 97 42 (nI (nn w 30 0 + 1))) 97 0 (nI 0)).1 97 39 = nI 0 := by
            rw [puI_ne (by decide), puI_ne (by decide), I_oth (by decide), I_oth (by decide), I_self]
          have w00 : (puI (puI (puI (puI (puI e 97 39 (nI 0)) 122 (nn w 30 0) (nI week)) 123 (nn w 30 0) (nI sh)) 97 42 (nI (nn w 30 0 + 1))) 97 0 (nI 0)).1 97 0 = nI 0 := I_self
          generalize puI (puI (puI (puI (puI e 97 39 (nI 0)) 122 (nn w 30 0) (nI week)) 123 (nn w 30 0) (nI sh)) 97 42 (nI (nn w 30 0 + 1))) 97 0 (nI 0) = w2 at wr wm_ w122 w123 w42 w97 w39 w00
          have c30 : ∀ j, w1.1 30 j = u'.1 30 j := fun j => by rw [← hw1, I_oth (by decide)]
          have s31 : w2.1 31 = upd (w.1 31) (nn w 30 0) (nI week) := by rw [(wr 31 (by omega) (by omega)).1, ← hw1, I_oth (by decide), y3, (ur 31 (by omega) (by omega)).1, (er 31 (by omega) (by omega)).1]
          have s32 : w2.1 32 = upd (w.1 32) (nn w 30 0) (nI sh) := by rw [(wr 32 (by omega) (by omega)).1, ← hw1, I_oth (by decide), y4, (ur 32 (by omega) (by omega)).1, (er 32 (by omega) (by omega)).1]
          have s33 : w2.1 33 = upd (w.1 33) (nn w 30 0 + 1) (nI (nn w 33 (nn w 30 0) + D2)) := by rw [(wr 33 (by omega) (by omega)).1, ← hw1, I_oth (by decide), y5, (ur 33 (by omega) (by omega)).1, (er 33 (by omega) (by omega)).1]
          have s34 : ∀ i, i < nn w 30 0 + 1 → w2.1 34 i = nI (insF (nn w 34) kk (nn w 30 0) i) := fun i hi => by rw [(wr 34 (by omega) (by omega)).1, ← hw1, I_oth (by decide)]; exact y9 i hi
          have s300 : w2.1 30 0 = nI (nn w 30 0 + 1) := by rw [(wr 30 (by omega) (by omega)).1, c30]; exact y7
          have s3013 : w2.1 30 13 = nI A2 := by rw [(wr 30 (by omega) (by omega)).1, c30]; exact y6
          have sx : ∀ q, 35 ≤ q → q ≤ 42 → w2.1 q = ec.1 q ∧ w2.2 q = ec.2 q := fun q q1 q2 => by rw [(wr q (by omega) (by omega)).1, (wr q (by omega) (by omega)).2]; exact cx q q1 q2
          have s124 : ∀ j, j ≠ nn w 30 0 → w2.1 124 j = w.1 124 j := fun j hj => by
            rw [(wm_ 124 (by omega) (by omega)).1, x7.2.2.2.2 j hj, (m2 124 (by decide) j (by simp only [List.mem_cons, List.not_mem_nil, or_false, Prod.mk.injEq]; omega)).1, (cr 124 (by omega)).1]
          have s124T : w2.1 124 (nn w 30 0) = nI D2 := by rw [(wm_ 124 (by omega) (by omega)).1]; exact x9.2.2
          have m2r : ∀ q, 122 ≤ q → q ≠ 124 → w0.1 q = w.1 q ∧ w0.2 q = w.2 q := fun q q1 q2 => by
            have e2 := m2.row q (by simp only [List.mem_cons, List.not_mem_nil, or_false]; omega) (by simp only [List.map_cons, List.map_nil, List.mem_cons, List.not_mem_nil, or_false]; omega)
            rw [e2.1, e2.2]; exact cr q (by omega)
          have n0 : nn w2 30 0 = nn w 30 0 + 1 := nn_of s300 (by omega)
          have hBK : BKK w w2 := by
            refine ⟨fun t ht => ⟨by rw [s31, upd_n (by omega)], by rw [s32, upd_n (by omega)], by rw [s33, upd_n (by omega)], s124 t (by omega), by rw [w122, upd_n (by omega)], by rw [w123, upd_n (by omega)]⟩, by rw [s33, upd_n (by omega)], fun r hr q q1 q2 => ?_, fun g hg q q1 q2 => ?_, fun i hi => ?_, fun i hi => ?_, fun i hi q q1 q2 => ?_⟩
            · rw [(sx q q1 (by omega)).1, (sx q q1 (by omega)).2]; exact kE.2.1 r hr q q1 q2
            · rw [(wm_ q (by omega) (by omega)).1, (wm_ q (by omega) (by omega)).2, (x7.2.1 g hg q q1 q2).1, (x7.2.1 g hg q q1 q2).2, (m2r q (by omega) (by omega)).1, (m2r q (by omega) (by omega)).2]; exact ⟨rfl, rfl⟩
            · rw [(sx 42 (by omega) (by omega)).1]; exact kE.2.2 i (by omega)
            · rw [(wm_ 140 (by omega) (by omega)).1, (wm_ 141 (by omega) (by omega)).1, (x7.2.2.1 i (by omega)).1, (x7.2.2.1 i (by omega)).2, (m2r 140 (by omega) (by omega)).1, (m2r 141 (by omega) (by omega)).1]; exact ⟨rfl, rfl⟩
            · rw [(wm_ q (by omega) (by omega)).1, x7.2.2.2.1 i (by omega) q q1 q2, (m2r q (by omega) (by omega)).1]
          have i31 : isN w2 31 (nn w 30 0) 60 := isN.of (n := week) (by rw [s31, upd_s]) hweek (by omega)
          have n31 : nn w2 31 (nn w 30 0) = week := nn_of (by rw [s31, upd_s]) (by omega)
          have i33 : w2.1 33 (nn w 30 0 + 1) = nI (nn w 33 (nn w 30 0) + D2) := by rw [s33, upd_s]
          have n124 : nn w2 124 (nn w 30 0) = D2 := nn_of s124T (by omega)
          have n33T : nn w2 33 (nn w 30 0) = nn w 33 (nn w 30 0) := nn_eq hBK.2.1
          have hnew : ∀ k, k < D2 → RuleOK2 w2 w2 (nn w 33 (nn w 30 0) + k) (20 * nn w 30 0 + k) ∧ (nn w2 37 (nn w 33 (nn w 30 0) + k) = 101 ∨ nn w2 37 (nn w 33 (nn w 30 0) + k) = 103 → RCx w2 w2 (nn w 33 (nn w 30 0) + k) (20 * nn w 30 0 + k) A2 S2 O2) := fun k hk => by
            obtain ⟨r1, r2⟩ := x11 k hk
            have n37 : nn w2 37 (nn w 33 (nn w 30 0) + k) = nn ec 37 (nn w 33 (nn w 30 0) + k) := nn_eq (by rw [(sx 37 (by omega) (by omega)).1])
            refine ⟨r1.c (fun q q1 q2 => by rw [(sx q q1 (by omega)).1, (sx q q1 (by omega)).2]; exact ⟨rfl, rfl⟩) (fun q q1 q2 => by rw [(wm_ q (by omega) (by omega)).1, (wm_ q (by omega) (by omega)).2]; exact ⟨rfl, rfl⟩), fun z => ?_⟩
            rw [n37] at z
            exact (r2 z).c (fun q q1 q2 => by rw [(sx q (by omega) (by omega)).1]) (fun i _ => by rw [(sx 42 (by omega) (by omega)).1]) (fun q q1 q2 => by rw [(wm_ q (by omega) (by omega)).1]) (fun i _ => ⟨by rw [(wm_ 140 (by omega) (by omega)).1], by rw [(wm_ 141 (by omega) (by omega)).1]⟩) (fun i _ q q1 q2 => by rw [(wm_ q (by omega) (by omega)).1]) (Nat.le_refl _) (Nat.le_refl _) (Nat.le_refl _)
          have hins : ∀ i, i < nn w 30 0 + 1 → nn w2 34 i = insF (nn w 34) kk (nn w 30 0) i ∧ insF (nn w 34) kk (nn w 30 0) i < nn w 30 0 + 1 := fun i hi => by
            have hlt : insF (nn w 34) kk (nn w 30 0) i < nn w 30 0 + 1 := by
              unfold insF
              by_cases z1 : i < kk
              · rw [if_pos z1]; have := (hB.2.2.2.2.1 i (by omega)).2; omega
              · rw [if_neg z1]
                by_cases z2 : i = kk
                · rw [if_pos z2]; omega
                · rw [if_neg z2]; have := (hB.2.2.2.2.1 (i - 1) (by omega)).2; omega
            exact ⟨nn_of (s34 i hi) (by omega), hlt⟩
          have wkold : ∀ t, t < nn w 30 0 → wkF w2 t = wkF w t := fun t ht => nn_eq (hBK.1 t ht).1
          have wknew : wkF w2 (nn w 30 0) = week := n31
          have hB2 : IBo w2 := by
            refine ⟨⟨isN.of s300 (by omega) (by omega), by rw [w42, s300]⟩, fun t ht => ?_, fun t ht => ?_, ?_, fun i hi => ?_, fun i j hi hj => ?_, fun t ht => ?_, fun t ht k hk => ?_⟩
            · rw [n0] at ht
              by_cases z : t = nn w 30 0
              · subst z
                refine ⟨i31, by rw [w122, s31, upd_s, upd_s], isN.of (n := sh) (by rw [s32, upd_s]) hsh (by omega), by rw [w123, s32, upd_s, upd_s], isN.of s124T (by omega) (by omega), ?_⟩
                rw [nn_of i33 (by omega), n33T, n124]
              · obtain ⟨c1, c2, c3, c4, c5, c6⟩ := hB.2.1 t (by omega)
                obtain ⟨d1, d2, d3, d4, d5, d6⟩ := hBK.1 t (by omega)
                have e33 : w2.1 33 (t + 1) = w.1 33 (t + 1) := by rw [s33, upd_n (by omega)]
                exact ⟨c1.eq d1, by rw [d5, d1]; exact c2, c3.eq d2, by rw [d6, d2]; exact c4, c5.eq d4, by rw [nn_eq e33, nn_eq d3, nn_eq d4]; exact c6⟩
            · rw [n0] at ht
              by_cases z : t = nn w 30 0 + 1
              · subst z; exact isN.of i33 (by omega) (by omega)
              · exact (hB.2.2.1 t (by omega)).eq (by rw [s33, upd_n z])
            · rw [nn_eq (show w2.1 33 0 = w.1 33 0 by rw [s33, upd_n (by omega)])]; exact hB.2.2.2.1
            · rw [n0] at hi ⊢
              exact isN.of (s34 i hi) (hins i hi).2 (by omega)
            · rw [n0] at hj
              rw [(hins i (by omega)).1, (hins j hj).1]
              refine ins_sorted (f := nn w 34) (n := nn w 30 0) (k := kk) (t := nn w 30 0) (wk := wkF w2) (fun i j h1 h2 => ?_) (fun i hi => (hB.2.2.2.2.1 i hi).2) y8 (fun i h1 h2 => ?_) (fun i h1 => ?_) i j hi hj
              · have := hB.2.2.2.2.2.1 i j h1 h2
                unfold lt2 at this ⊢
                rw [wkold _ (hB.2.2.2.2.1 i (by omega)).2, wkold _ (hB.2.2.2.2.1 j h2).2]; exact this
              · rw [wknew, wkold _ (hB.2.2.2.2.1 i h2).2]; exact y10 i h1 h2
              · rw [wknew, wkold _ (hB.2.2.2.2.1 i (by omega)).2]; exact y11 i h1
            · rw [n0] at ht ⊢
              have : ∃ i, i < nn w 30 0 + 1 ∧ insF (nn w 34) kk (nn w 30 0) i = t := by
                refine (ins_mem y8).mpr ?_
                by_cases z : t = nn w 30 0
                · exact Or.inl z
                · obtain ⟨i, hi, e⟩ := hB.2.2.2.2.2.2.1 t (by omega)
                  exact Or.inr ⟨i, hi, e⟩
              obtain ⟨i, hi, e⟩ := this
              exact ⟨i, hi, by rw [(hins i hi).1]; exact e⟩
            · rw [n0] at ht
              by_cases z : t = nn w 30 0
              · subst z
                rw [n124] at hk
                rw [n33T]
                exact (hnew k hk).1
              · rw [nn_eq (hBK.1 t (by omega)).2.2.2.1] at hk
                rw [nn_eq (hBK.1 t (by omega)).2.2.1]
                exact BKK.rule hB hBK (by omega) hk
          have c65 : ∀ j, j ≠ 2 → w2.1 65 j = ec.1 65 j := fun j hj => by
            rw [(wr 65 (by omega) (by omega)).1, ← hw1, I_oth (by decide), (y2.row 65 (by decide) (by decide)).1, ← hu, I_oth (by decide), puI_ne (by intro z; injection z; omega)]
          have c652 : w2.1 65 2 = nI 0 := by
            rw [(wr 65 (by omega) (by omega)).1, ← hw1, I_oth (by decide), (y2.row 65 (by decide) (by decide)).1, ← hu, I_oth (by decide), I_self]
          have c66 : w2.1 66 = w.1 66 := by
            rw [(wr 66 (by omega) (by omega)).1, ← hw1, I_oth (by decide), (y2.row 66 (by decide) (by decide)).1, (ur 66 (by omega) (by omega)).1, kE.rows.1]
          refine ⟨?_, hB2, IG.keep hB hB2 hG hBK (by omega) (fun q q1 q2 => ?_), ⟨A2, S2, O2, ⟨s3013, by rw [w97 43 (by omega) (by omega) (by omega)]; exact x9.1, by rw [w97 44 (by omega) (by omega) (by omega)]; exact x9.2.1⟩, by rw [n0]; omega, fun t ht k hk => ?_⟩, ⟨isN.of c652 (by omega) (by omega), ?_, ?_, fun i => by rw [c66]; exact t4 i⟩, fun _ => ⟨?_, ?_⟩, hBK, Or.inr ⟨week, hweek, ?_, fun s wk hwk => RS_keep hB hB2 hBK (by omega) (fun t h1 h2 => ?_)⟩⟩
          · unfold IS
            rw [w00, (wr 0 (by omega) (by omega)).1, ← hw1, I_self]
          · rw [(wr q (by omega) (by omega)).1, ← hw1, I_oth (by omega), (y2.row q (by simp only [List.mem_cons, List.not_mem_nil, or_false]; omega) (by simp only [List.map_cons, List.map_nil, List.mem_cons, List.not_mem_nil, or_false]; omega)).1, (ur q (by omega) (by omega)).1, (kE.1.row q (by unfold RQ; simp only [List.mem_cons, List.not_mem_nil, or_false]; omega) (by simp only [fR, List.map_cons, List.map_nil, List.mem_cons, List.not_mem_nil, or_false]; omega)).1]
          · rw [n0] at ht
            by_cases z : t = nn w 30 0
            · subst z
              rw [n124] at hk
              rw [n33T]
              exact (hnew k hk).2
            · rw [nn_eq (hBK.1 t (by omega)).2.2.2.1] at hk
              rw [nn_eq (hBK.1 t (by omega)).2.2.1, nn_eq (hBK.2.2.1 _ (hB.old (t := t) (by omega) hk).1 37 (by omega) (by omega)).1]
              exact fun y => hBK.rcx hB nA nS nO (by omega) hk (hRx t (by omega) k hk y) x12.1 x12.2.1 x12.2.2
          · rw [w97 33 (by omega) (by omega) (by omega), c652, (x7.1 97 (by decide) 33 (by decide)).1]; exact m3
          · rw [(wr 120 (by omega) (by omega)).1, c66, (cr 120 (by omega)).1]; exact t3
          · rw [w39, c65 4 (by omega)]; exact g2.symm
          · rw [w97 40 (by omega) (by omega) (by omega), c65 5 (by omega), x8.2]; exact g3.symm
          · rw [(wr 73 (by omega) (by omega)).1, ← hw1, I_oth (by decide), (y2.row 73 (by decide) (by decide)).1, ← hu, I_self, I_oth (by decide), (kE.1.row 73 (by decide) (by decide)).1]
          · rw [n0] at h2
            have : t = nn w 30 0 := by omega
            subst this
            rw [n31]; exact hwk
        · exfalso
          rw [g1] at x4
          injection x4 with x4
          subst x4
          rw [g2] at x5
          have := (nI_eq (a := 0) (b := k) (by omega) (by omega)).mp x5
          omega
      · -- a FAULT
        have kE : Kg fR (nn w 33 (nn w 30 0)) A w ec := hk0.tr g7
        have f4 : (puI ec 65 2 (nI 0)).1 65 4 = nI k := by rw [puI_ne (by decide)]; exact g5
        have k1 : X11_orders (nI n) a2 a3 w = some (NO, puI (puI ec 65 2 (nI 0)) 0 10 (nI 9)) := by
          rw [hcls, hps, g4]
          simp only [Option.bind_some]
          rw [show puI ec 65 2 (0 : Int32) = puI ec 65 2 (nI 0) from rfl, f4, if_neg (show ¬ nI k = (0 : Int32) by rw [show (0 : Int32) = nI 0 from rfl, nI_eq (by omega) (by omega)]; omega)]
          rfl
        generalize hw1 : puI (puI ec 65 2 (nI 0)) 0 10 (nI 9) = w1 at *
        have c1 : ∀ q, q ≠ 0 → q ≠ 65 → w1.1 q = ec.1 q ∧ w1.2 q = ec.2 q := fun q q1 q2 => by rw [← hw1, I_oth q1, I_oth q2, I_J, I_J]; exact ⟨rfl, rfl⟩
        have ce : ∀ q, ¬ (35 ≤ q ∧ q ≤ 42) → q ≠ 68 → q ≠ 30 → q ≠ 65 → ec.1 q = w.1 q ∧ ec.2 q = w.2 q := fun q q1 q2 q3 q4 => kE.1.row q (by unfold RQ; simp only [List.mem_cons, List.not_mem_nil, or_false]; omega) (by simp only [fR, List.map_cons, List.map_nil, List.mem_cons, List.not_mem_nil, or_false]; omega)
        have cw : ∀ q, q ≠ 0 → ¬ (35 ≤ q ∧ q ≤ 42) → q ≠ 68 → q ≠ 30 → q ≠ 65 → w1.1 q = w.1 q ∧ w1.2 q = w.2 q := fun q q0 q1 q2 q3 q4 => by rw [(c1 q q0 q4).1, (c1 q q0 q4).2]; exact ce q q1 q2 q3 q4
        have c97 : ∀ j, w1.1 97 j = w.1 97 j := fun j => by rw [(cw 97 (by omega) (by omega) (by omega) (by omega) (by omega)).1]
        obtain ⟨w0, wm, e, m1, m2, m3, m4, m5⟩ := core w1 (cw 120 (by omega) (by omega) (by omega) (by omega) (by omega)).1 (c97 33) (c97 42) (c97 43) (c97 44)
        rcases m5 with ⟨ec2, D2, A2, S2, O2, x1, ⟨x2, x3⟩, -⟩ | ⟨-, k', pl', ec2, x1, x2, x3, b1, b2, b3, x4, x5, x6, x7⟩
        · exfalso
          rw [g4] at x1
          injection x1 with x1
          subst x1
          rw [g5] at x2
          have := (nI_eq (a := k) (b := 0) (by omega) (by omega)).mp x2
          omega
        · rw [g4] at x4
          injection x4 with x4
          subst x4
          simp only at b1 b2 b3
          have k2 : X12_orders (nI n) a2 a3 w1 = some (NO, puI (puI (puI (puI e 97 39 (nI k')) 97 43 (nI S)) 97 44 (nI O)) 97 0 (nI 9)) := by
            rw [m1]
            unfold X12_orders_j142
            rw [m4]
            simp only [Option.bind_some]
            rw [b1, show (puI e 97 39 (nI k')).1 97 41 = nI k' by rw [puI_ne (by decide)]; exact b1, if_neg (show ¬ nI k' ≤ (0 : Int32) by rw [show (0 : Int32) = nI 0 from rfl, nI_leI (by omega) (by omega)]; omega)]
            rfl
          refine ⟨_, _, _, k1, k2, ?_⟩
          have e0 : ∀ q, q ≠ 97 → (puI (puI (puI (puI e 97 39 (nI k')) 97 43 (nI S)) 97 44 (nI O)) 97 0 (nI 9)).1 q = e.1 q ∧ (puI (puI (puI (puI e 97 39 (nI k')) 97 43 (nI S)) 97 44 (nI O)) 97 0 (nI 9)).2 q = e.2 q := fun q hq => by rw [I_oth hq, I_oth hq, I_oth hq, I_oth hq]; exact ⟨rfl, rfl⟩
          have d43 : (puI (puI (puI (puI e 97 39 (nI k')) 97 43 (nI S)) 97 44 (nI O)) 97 0 (nI 9)).1 97 43 = nI S := by simp (disch := omega) only [gdn, gb0, gb1, ixn, nm1, nI_add, nI_mul, nsub, nI_ltI, nI_leI, nI_eq, eqNO, eqNO2, ltNO, NOlt, leNO, NOle, if_pos, if_neg, Option.bind_some, if_true, if_false, and_self, eq_self, l0, l1, l2, l3, l4, l5, l6, l7, l8, l9, l10, l11, l12, l13, l14, l15, l16, l17, l18, l19, l20, l24, l26, l30, l31, l32, l40, l41, l42, l43, l45, l47, l48, l57, l58, l59, l60, l61, l62, l63, l64, l97, l99, l100, l101, l102, l103, l104, l105, l106, l107, l108, l109, l110, l122, l160, l240, l255, l600, l1000, l3000, l10000, l10007, l10116, l67108863, l67108864, I_oth, I_J, J_oth, J_I, I_row, J_row, SI_row, SI_oth, SI_J, SJ_row, SJ_oth, SJ_I, upd_s, upd_n, updL_s, updL_n, ne_eq, not_false_eq_true]
          have d44 : (puI (puI (puI (puI e 97 39 (nI k')) 97 43 (nI S)) 97 44 (nI O)) 97 0 (nI 9)).1 97 44 = nI O := by simp (disch := omega) only [gdn, gb0, gb1, ixn, nm1, nI_add, nI_mul, nsub, nI_ltI, nI_leI, nI_eq, eqNO, eqNO2, ltNO, NOlt, leNO, NOle, if_pos, if_neg, Option.bind_some, if_true, if_false, and_self, eq_self, l0, l1, l2, l3, l4, l5, l6, l7, l8, l9, l10, l11, l12, l13, l14, l15, l16, l17, l18, l19, l20, l24, l26, l30, l31, l32, l40, l41, l42, l43, l45, l47, l48, l57, l58, l59, l60, l61, l62, l63, l64, l97, l99, l100, l101, l102, l103, l104, l105, l106, l107, l108, l109, l110, l122, l160, l240, l255, l600, l1000, l3000, l10000, l10007, l10116, l67108863, l67108864, I_oth, I_J, J_oth, J_I, I_row, J_row, SI_row, SI_oth, SI_J, SJ_row, SJ_oth, SJ_I, upd_s, upd_n, updL_s, updL_n, ne_eq, not_false_eq_true]
          have d39 : (puI (puI (puI (puI e 97 39 (nI k')) 97 43 (nI S)) 97 44 (nI O)) 97 0 (nI 9)).1 97 39 = nI k' := by simp (disch := omega) only [gdn, gb0, gb1, ixn, nm1, nI_add, nI_mul, nsub, nI_ltI, nI_leI, nI_eq, eqNO, eqNO2, ltNO, NOlt, leNO, NOle, if_pos, if_neg, Option.bind_some, if_true, if_false, and_self, eq_self, l0, l1, l2, l3, l4, l5, l6, l7, l8, l9, l10, l11, l12, l13, l14, l15, l16, l17, l18, l19, l20, l24, l26, l30, l31, l32, l40, l41, l42, l43, l45, l47, l48, l57, l58, l59, l60, l61, l62, l63, l64, l97, l99, l100, l101, l102, l103, l104, l105, l106, l107, l108, l109, l110, l122, l160, l240, l255, l600, l1000, l3000, l10000, l10007, l10116, l67108863, l67108864, I_oth, I_J, J_oth, J_I, I_row, J_row, SI_row, SI_oth, SI_J, SJ_row, SJ_oth, SJ_I, upd_s, upd_n, updL_s, updL_n, ne_eq, not_false_eq_true]
          have d0 : (puI (puI (puI (puI e 97 39 (nI k')) 97 43 (nI S)) 97 44 (nI O)) 97 0 (nI 9)).1 97 0 = nI 9 := I_self
          have d97 : ∀ j, j ≠ 0 → j ≠ 39 → j ≠ 43 → j ≠ 44 → (puI (puI (puI (puI e 97 39 (nI k')) 97 43 (nI S)) 97 44 (nI O)) 97 0 (nI 9)).1 97 j = e.1 97 j := fun j j1 j2 j3 j4 => by
            rw [puI_ne (by intro z; injection z; omega), puI_ne (by intro z; injection z; omega), puI_ne (by intro z; injection z; omega), puI_ne (by intro z; injection z; omega)]
          generalize puI (puI (puI (puI e 97 39 (nI k')) 97 43 (nI S)) 97 44 (nI O)) 97 0 (nI 9) = w2 at e0 d43 d44 d39 d0 d97
          have e1 : ∀ q, q ≠ 97 → (q < 121 ∨ 144 ≤ q ∨ q = 122 ∨ q = 123) → w2.1 q = w1.1 q ∧ w2.2 q = w1.2 q := fun q q1 q2 => by
            have z1 := b3.1.row q (by unfold RU; simp only [List.mem_cons, List.not_mem_nil, or_false]; omega) (by simp only [fV, List.map_cons, List.map_nil, List.mem_cons, List.not_mem_nil, or_false]; omega)
            have z2 := m2.row q (by simp only [List.mem_cons, List.not_mem_nil, or_false]; omega) (by simp only [List.map_cons, List.map_nil, List.mem_cons, List.not_mem_nil, or_false]; omega)
            rw [(e0 q q1).1, (e0 q q1).2, z1.1, z1.2, z2.1, z2.2]; exact ⟨rfl, rfl⟩
          have e2 : ∀ q, q ≠ 0 → ¬ (35 ≤ q ∧ q ≤ 42) → q ≠ 68 → q ≠ 30 → q ≠ 65 → q ≠ 97 → (q < 121 ∨ 144 ≤ q ∨ q = 122 ∨ q = 123) → w2.1 q = w.1 q ∧ w2.2 q = w.2 q := fun q q0 q1 q2 q3 q4 q5 q6 => by rw [(e1 q q5 q6).1, (e1 q q5 q6).2]; exact cw q q0 q1 q2 q3 q4
          have m2r : ∀ q, 122 ≤ q → q ≠ 124 → w0.1 q = w.1 q ∧ w0.2 q = w.2 q := fun q q1 q2 => by
            have z2 := m2.row q (by simp only [List.mem_cons, List.not_mem_nil, or_false]; omega) (by simp only [List.map_cons, List.map_nil, List.mem_cons, List.not_mem_nil, or_false]; omega)
            rw [z2.1, z2.2]; exact cw q (by omega) (by omega) (by omega) (by omega) (by omega)
          have sx : ∀ q, 35 ≤ q → q ≤ 42 → w2.1 q = ec.1 q ∧ w2.2 q = ec.2 q := fun q q1 q2 => by rw [(e1 q (by omega) (by omega)).1, (e1 q (by omega) (by omega)).2]; exact c1 q (by omega) (by omega)
          have s30 : ∀ j, j ≠ 14 → j ≠ 15 → w2.1 30 j = w.1 30 j := fun j j1 j2 => by
            rw [(e1 30 (by omega) (by omega)).1, (c1 30 (by omega) (by omega)).1]
            exact (kE.1 30 (by decide) j (by unfold fR; simp only [List.mem_cons, List.not_mem_nil, or_false, Prod.mk.injEq]; omega)).1
          have s124 : ∀ j, j ≠ nn w 30 0 → w2.1 124 j = w.1 124 j := fun j hj => by
            rw [(e0 124 (by omega)).1, b3.2.2.2.2 j hj, (m2 124 (by decide) j (by simp only [List.mem_cons, List.not_mem_nil, or_false, Prod.mk.injEq]; omega)).1, (cw 124 (by omega) (by omega) (by omega) (by omega) (by omega)).1]
          have hBK : BKK w w2 := by
            refine ⟨fun t ht => ⟨by rw [(e2 31 (by omega) (by omega) (by omega) (by omega) (by omega) (by omega) (by omega)).1], by rw [(e2 32 (by omega) (by omega) (by omega) (by omega) (by omega) (by omega) (by omega)).1], by rw [(e2 33 (by omega) (by omega) (by omega) (by omega) (by omega) (by omega) (by omega)).1], s124 t (by omega), by rw [(e2 122 (by omega) (by omega) (by omega) (by omega) (by omega) (by omega) (by omega)).1], by rw [(e2 123 (by omega) (by omega) (by omega) (by omega) (by omega) (by omega) (by omega)).1]⟩, by rw [(e2 33 (by omega) (by omega) (by omega) (by omega) (by omega) (by omega) (by omega)).1], fun r hr q q1 q2 => ?_, fun g hg q q1 q2 => ?_, fun i hi => ?_, fun i hi => ?_, fun i hi q q1 q2 => ?_⟩
            · rw [(sx q q1 (by omega)).1, (sx q q1 (by omega)).2]; exact kE.2.1 r hr q q1 q2
            · rw [(e0 q (by omega)).1, (e0 q (by omega)).2, (b3.2.1 g hg q q1 q2).1, (b3.2.1 g hg q q1 q2).2, (m2r q (by omega) (by omega)).1, (m2r q (by omega) (by omega)).2]; exact ⟨rfl, rfl⟩
            · rw [(sx 42 (by omega) (by omega)).1]; exact kE.2.2 i (by omega)
            · rw [(e0 140 (by omega)).1, (e0 141 (by omega)).1, (b3.2.2.1 i (by omega)).1, (b3.2.2.1 i (by omega)).2, (m2r 140 (by omega) (by omega)).1, (m2r 141 (by omega) (by omega)).1]; exact ⟨rfl, rfl⟩
            · rw [(e0 q (by omega)).1, b3.2.2.2.1 i (by omega) q q1 q2, (m2r q (by omega) (by omega)).1]
          have n0 : nn w2 30 0 = nn w 30 0 := nn_eq (s30 0 (by omega) (by omega))
          have hB2 : IBo w2 := hB.same hBK (s30 0 (by omega) (by omega)) (by rw [d97 42 (by omega) (by omega) (by omega) (by omega), b3.f42, (m2 97 (by decide) 42 (by simp)).1, c97]) (e2 34 (by omega) (by omega) (by omega) (by omega) (by omega) (by omega) (by omega)).1
          have c65 : ∀ j, j ≠ 2 → w2.1 65 j = ec.1 65 j := fun j hj => by
            rw [(e1 65 (by omega) (by omega)).1, ← hw1, I_oth (by decide), puI_ne (by intro z; injection z; omega)]
          have c652 : w2.1 65 2 = nI 0 := by
            rw [(e1 65 (by omega) (by omega)).1, ← hw1, I_oth (by decide), I_self]
          have c66 : w2.1 66 = w.1 66 := (e2 66 (by omega) (by omega) (by omega) (by omega) (by omega) (by omega) (by omega)).1
          refine ⟨?_, hB2, IG.keep hB hB2 hG hBK (by omega) (fun q q1 q2 => (e2 q (by omega) (by omega) (by omega) (by omega) (by omega) (by omega) (by omega)).1), ⟨A, S, O, ⟨by rw [s30 13 (by omega) (by omega)]; exact hA.1, d43, d44⟩, by rw [n0]; exact hbd, fun t ht kk hk => ?_⟩, ⟨isN.of c652 (by omega) (by omega), ?_, ?_, fun i => by rw [c66]; exact t4 i⟩, fun _ => ⟨?_, ?_⟩, hBK, Or.inl ⟨(show w2.1 73 4 = w.1 73 4 by rw [(e2 73 (by omega) (by omega) (by omega) (by omega) (by omega) (by omega) (by omega)).1]), fun s wk => RS_keep hB hB2 hBK (by omega) (fun t h1 h2 => by omega)⟩⟩
          · unfold IS
            rw [d0, (e1 0 (by omega) (by omega)).1, ← hw1, I_self]
          · rw [n0] at ht
            rw [nn_eq (hBK.1 t ht).2.2.2.1] at hk
            rw [nn_eq (hBK.1 t ht).2.2.1, nn_eq (hBK.2.2.1 _ (hB.old ht hk).1 37 (by omega) (by omega)).1]
            exact fun y => hBK.rcx hB nA nS nO ht hk (hRx t ht kk hk y) (Nat.le_refl _) (Nat.le_refl _) (Nat.le_refl _)
          · rw [d97 33 (by omega) (by omega) (by omega) (by omega), c652, (b3.1 97 (by decide) 33 (by decide)).1]; exact m3
          · rw [(e2 120 (by omega) (by omega) (by omega) (by omega) (by omega) (by omega) (by omega)).1, c66]; exact t3
          · rw [d39, c65 4 (by omega)]; exact x5.symm
          · rw [d97 40 (by omega) (by omega) (by omega) (by omega), c65 5 (by omega), b2]; exact x6.symm
    · refine two_ref (nI 4) (r := NO) ?_ ?_ (fun w' z => z.op hB hG hR hT')
      · have h5 : nn w 30 0 = 5 := by omega
        rw [h5] at h30
        unfold X11_orders
        rw [wil a1 (nn w 65 2) w t1 (by omega), if_pos v1, if_neg (by decide), week_e, if_pos v2, if_neg (by decide), show (1 : Int32) = nI 1 from rfl, show (15 : Int32) = nI 15 from rfl, win (lo := 1) (hi := 15) a3 w (by omega) (by omega), if_pos v3, if_neg (by decide), h30]
        rfl
      · have h5 : nn w 30 0 = 5 := by omega
        rw [h5] at h42
        have f42 : (puI w 0 10 (nI 4)).1 97 42 = nI 5 := by rw [I_oth (by decide)]; exact h42
        have f33 : (puI w 0 10 (nI 4)).1 97 33 = nI (nn w 65 2) := by rw [I_oth (by decide)]; exact t2
        unfold X12_orders
        rw [if_neg (show ¬ a1 < (0 : Int32) by rw [lt_t, tl_0]; omega), f33, if_neg (show ¬ nI (nn w 65 2) < a1 by rw [lt_t, tI (by omega)]; omega), mweek_e, if_pos v2, if_neg (by decide), if_neg (show ¬ a3 < (1 : Int32) by rw [lt_t, tl_1]; omega), if_pos (show a3 ≤ (15 : Int32) by rw [le_t, show (15 : Int32).toInt = 15 by decide]; omega), f42]
        rfl
  · refine two_ref (nI 1) (r := NO) ?_ ?_ (fun w' z => z.op hB hG hR hT')
    · unfold X11_orders X11_orders_j32
      rw [wil a1 (nn w 65 2) w t1 (by omega), week_e, show (1 : Int32) = nI 1 from rfl, show (15 : Int32) = nI 15 from rfl, win (lo := 1) (hi := 15) a3 w (by omega) (by omega)]
      by_cases q1 : 0 ≤ a1.toInt ∧ a1.toInt < ((nn w 65 2 + 1 : Nat) : Int)
      · rw [if_pos q1, if_neg (by decide)]
        by_cases q2 : 0 ≤ a2.toInt ∧ a2.toInt < ((60 : Nat) : Int)
        · rw [if_pos q2, if_neg (by decide), if_neg (fun z => hv ⟨q1, q2, z⟩), if_pos (show nI 0 = (0 : Int32) from rfl)]; rfl
        · rw [if_neg q2, if_pos (show nI 0 = (0 : Int32) from rfl)]; rfl
      · rw [if_neg q1, if_pos (show nI 0 = (0 : Int32) from rfl)]; rfl
    · have f33 : (puI w 0 10 (nI 1)).1 97 33 = nI (nn w 65 2) := by rw [I_oth (by decide)]; exact t2
      have hj : X12_orders_j30 (puI w 0 10 (nI 1)) = some (NO, puI (puI w 0 10 (nI 1)) 97 0 (nI 1)) := rfl
      unfold X12_orders
      rw [f33, mweek_e, hj]
      by_cases q1 : a1 < (0 : Int32)
      · rw [if_pos q1]
      · rw [if_neg q1]
        by_cases q2 : nI (nn w 65 2) < a1
        · rw [if_pos q2]
        · rw [if_neg q2]
          rw [lt_t, tl_0] at q1
          rw [lt_t, tI (by omega)] at q2
          by_cases q3 : 0 ≤ a2.toInt ∧ a2.toInt < ((60 : Nat) : Int)
          · rw [if_pos q3, if_neg (by decide)]
            by_cases q4 : a3 < (1 : Int32)
            · rw [if_pos q4]
            · rw [if_neg q4]
              rw [lt_t, tl_1] at q4
              rw [if_neg (show ¬ a3 ≤ (15 : Int32) by
                rw [le_t, show (15 : Int32).toInt = 15 by decide]
                intro z
                exact hv ⟨by omega, q3, by omega⟩)]
          · rw [if_neg q3, if_pos (show nI 0 = (0 : Int32) from rfl)]
