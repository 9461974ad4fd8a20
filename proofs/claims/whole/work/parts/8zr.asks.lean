/-! the model asks its RULES -/
theorem ifp {α : Type} {c : Prop} {d : Decidable c} {a b : α} (h : c) : @ite α c d a b = a := if_pos h
theorem ifn {α : Type} {c : Prop} {d : Decidable c} {a b : α} (h : ¬ c) : @ite α c d a b = b := if_neg h
theorem j240_o {a1 a5 a6 a7 : Int32} {a8 : Int64} {k z d : Nat} {v : Wd} (hz : z < 120) (h : v.1 125 z = nI d) (hd : d < 100) (h2 : d ≠ 2) : X12_asks_j240 a1 a5 a6 a7 a8 (nI k) (nI z) v = some (.inl (a5, a6, a7, a8, nI (k + 1), v)) := by
  unfold X12_asks_j240 X12_asks_j302
  simp (disch := omega) only [gdn, gb0, gb1, ixn, nm1, nI_add, nI_mul, nsub, nI_ltI, nI_leI, nI_eq, eqNO, eqNO2, ltNO, NOlt, leNO, NOle, if_pos, if_neg, Option.bind_some, if_true, if_false, and_self, eq_self, l0, l1, l2, l3, l4, l5, l6, l7, l8, l9, l10, l11, l12, l13, l14, l15, l16, l17, l18, l19, l20, l24, l26, l30, l31, l32, l40, l41, l42, l43, l45, l47, l48, l57, l58, l59, l60, l61, l62, l63, l64, l97, l99, l100, l101, l102, l103, l104, l105, l106, l107, l108, l109, l110, l122, l160, l240, l255, l600, l1000, l3000, l10000, l10007, l10116, l67108863, l67108864, h, h2]
def fo160 : List Nat := [160]
theorem asks_lp {u : Wd} (hB : IBo u) (hI : IR u) {R : List (Nat × Nat)} (hR : okRl u R) (hM : MS u R u) {F : Nat → Int64} (hF : ∀ i, i < 7 → u.2 159 i = F i) {a1 : Int32} : ∃ v, lp (X12_asks_b153 a1) (nI 0, nI 0, nI 0, (0 : Int64), nI 0, u) = some (bI (decide (slc u R 101 R.length ≠ [])), bI ((slc u R 101 R.length).any (mayR u F)), (oJ (hrL u F (slc u R 103 R.length))).1, (oJ (hrL u F (slc u R 103 R.length))).2, v) ∧ Fr [160] [] u v := by
  obtain ⟨A, S, O, ⟨hA, hS, hO⟩, hx⟩ := hI.at hB
  obtain ⟨m1, m2, m3⟩ := hM
  have hl := hR.2
  have hT := hB.1.1.2
  have key : ok (lp (X12_asks_b153 a1) (nI 0, nI 0, nI 0, (0 : Int64), nI 0, u)) (fun e => ∃ v, Fr [160] [] u v ∧ e = (bI (decide (slc u R 101 R.length ≠ [])), bI ((slc u R 101 R.length).any (mayR u F)), (oJ (hrL u F (slc u R 103 R.length))).1, (oJ (hrL u F (slc u R 103 R.length))).2, v)) := by
    refine lp_up (fun k s => s.1 = bI (decide (slc u R 101 k ≠ [])) ∧ s.2.1 = bI ((slc u R 101 k).any (mayR u F)) ∧ s.2.2.1 = (oJ (hrL u F (slc u R 103 k))).1 ∧ s.2.2.2.1 = (oJ (hrL u F (slc u R 103 k))).2 ∧ s.2.2.2.2.1 = nI k ∧ Fr [160] [] u s.2.2.2.2.2) R.length ?_ ?_ 0 _ (Nat.zero_le _) ⟨rfl, rfl, rfl, rfl, rfl, Fr.rf⟩
    · rintro k ⟨p1, p2, p3, p4, p5, v⟩ hk ⟨h1, h2, h3, h4, h5, h6⟩
      simp only at h1 h2 h3 h4 h5 h6
      subst h5
      obtain ⟨-, b2, b3, -, -, ⟨⟨e37, b37⟩, hdo, m125⟩, -⟩ := hR.at hB hk
      have rv : ∀ q, q ≠ 160 → v.1 q = u.1 q := fun q hq => (h6.row q (by simpa using hq) (by simp)).1
      have fv : ∀ x : Wd, Fr [160] [] u x → ∀ i, i < 7 → x.2 159 i = F i := fun x hx2 i hi => by rw [(hx2 159 (by decide) i (by simp)).2]; exact hF i hi
      have ra : ∀ x : Wd, Fr [160] [] u x → RA u x := fun x hx2 q hq => (hx2.row q (by simp only [List.mem_cons, List.not_mem_nil, or_false]; omega) (by simp)).1
      have hcx : (nn u 37 (cI u (rr R k)) = 101 ∨ nn u 37 (cI u (rr R k)) = 103) → RCx u u (cI u (rr R k)) (mI (rr R k)) A S O := hx R hR k hk
      have r144 : v.1 144 k = nI (mI (rr R k)) := by rw [rv 144 (by omega), m2 k (by rw [List.length_map]; omega), getD_map (d := (0, 0)) (by omega)]; rfl
      have r146 : v.1 146 k = fg (stk u R k) := by rw [rv 146 (by omega)]; exact m3 k hk
      have r97 : v.1 97 70 = nI R.length := by rw [rv 97 (by omega)]; exact m1
      have r125 : v.1 125 (mI (rr R k)) = nI (dm (nn u 37 (cI u (rr R k)))) := by rw [rv 125 (by omega)]; exact m125
      have hdlt : dm (nn u 37 (cI u (rr R k))) < 100 := by unfold dm; split <;> omega
      generalize hc : cI u (rr R k) = c at *
      generalize hz : mI (rr R k) = z at *
      have hz120 : z < 120 := by omega
      by_cases q : stk u R k
      · have n1 : slc u R 101 (k + 1) = slc u R 101 k := slc_f (fun y => (hit_iff.mp y).1 q)
        have n3 : slc u R 103 (k + 1) = slc u R 103 k := slc_f (fun y => (hit_iff.mp y).1 q)
        rw [fg_t q] at r146
        unfold X12_asks_b153 X12_asks_j302
        simp (disch := omega) only [gdn, gb0, gb1, ixn, nm1, nI_add, nI_mul, nsub, nI_ltI, nI_leI, nI_eq, eqNO, eqNO2, ltNO, NOlt, leNO, NOle, if_pos, if_neg, Option.bind_some, if_true, if_false, and_self, eq_self, l0, l1, l2, l3, l4, l5, l6, l7, l8, l9, l10, l11, l12, l13, l14, l15, l16, l17, l18, l19, l20, l24, l26, l30, l31, l32, l40, l41, l42, l43, l45, l47, l48, l57, l58, l59, l60, l61, l62, l63, l64, l97, l99, l100, l101, l102, l103, l104, l105, l106, l107, l108, l109, l110, l122, l160, l240, l255, l600, l1000, l3000, l10000, l10007, l10116, l67108863, l67108864, r97, r144, r146]
        exact ok_i ⟨by rw [n1]; exact h1, by rw [n1]; exact h2, by rw [n3]; exact h3, by rw [n3]; exact h4, rfl, h6⟩
      · rw [fg_f q] at r146
        by_cases q1 : nn u 37 c = 101
        · have n1 : slc u R 101 (k + 1) = slc u R 101 k ++ [c] := by rw [slc_t (hit_iff.mpr ⟨q, by rw [hc]; exact q1⟩), hc]
          have n3 : slc u R 103 (k + 1) = slc u R 103 k := slc_f (fun y => by have := (hit_iff.mp y).2; rw [hc] at this; omega)
          have hdm : dm (nn u 37 c) = 1 := by rw [q1]; rfl
          rw [hdm] at r125
          have cx := hcx (Or.inl q1)
          have fin : ∀ (b : Bool) (x : Wd), Fr [160] [] u x → ((slc u R 101 (k + 1)).any (mayR u F)) = b → ok (X12_asks_j240 a1 (nI 1) (bI b) p3 p4 (nI k) (nI z) x) (sel (fun s => s.1 = bI (decide (slc u R 101 (k + 1) ≠ [])) ∧ s.2.1 = bI ((slc u R 101 (k + 1)).any (mayR u F)) ∧ s.2.2.1 = (oJ (hrL u F (slc u R 103 (k + 1)))).1 ∧ s.2.2.2.1 = (oJ (hrL u F (slc u R 103 (k + 1)))).2 ∧ s.2.2.2.2.1 = nI (k + 1) ∧ Fr [160] [] u s.2.2.2.2.2) (fun e => ∃ v, Fr [160] [] u v ∧ e = (bI (decide (slc u R 101 R.length ≠ [])), bI ((slc u R 101 R.length).any (mayR u F)), (oJ (hrL u F (slc u R 103 R.length))).1, (oJ (hrL u F (slc u R 103 R.length))).2, v))) := by
            intro b x g1 g2
            have x125 : x.1 125 z = nI 1 := by rw [(g1 125 (by decide) z (by simp)).1, ← rv 125 (by omega)]; exact r125
            rw [j240_o hz120 x125 (by omega) (by omega)]
            refine ok_i ⟨?_, by rw [g2], by rw [n3]; exact h3, by rw [n3]; exact h4, rfl, g1⟩
            rw [decide_eq_true (by rw [n1]; simp)]; rfl
          have hany : (slc u R 101 (k + 1)).any (mayR u F) = ((slc u R 101 k).any (mayR u F) || mayR u F c) := by rw [n1, List.any_append]; simp
          have hm : mayR u F c = (decide (vS F (cdA u c) ≠ 0) && decide (vS F (cdB u c) = 0)) := rfl
          unfold X12_asks_b153 X12_asks_j233 X12_asks_j237 X12_asks_j238
          simp (disch := omega) only [gdn, gb0, gb1, ixn, nm1, nI_add, nI_mul, nsub, nI_ltI, nI_leI, nI_eq, eqNO, eqNO2, ltNO, NOlt, leNO, NOle, if_pos, if_neg, Option.bind_some, if_true, if_false, and_self, eq_self, l0, l1, l2, l3, l4, l5, l6, l7, l8, l9, l10, l11, l12, l13, l14, l15, l16, l17, l18, l19, l20, l24, l26, l30, l31, l32, l40, l41, l42, l43, l45, l47, l48, l57, l58, l59, l60, l61, l62, l63, l64, l97, l99, l100, l101, l102, l103, l104, l105, l106, l107, l108, l109, l110, l122, l160, l240, l255, l600, l1000, l3000, l10000, l10007, l10116, l67108863, l67108864, r97, r144, r146, r125]
          cases hb : (slc u R 101 k).any (mayR u F) with
          | true =>
            rw [hb] at h2
            rw [h2, if_neg (show ¬ bI true = nI 0 by decide)]
            exact fin true v h6 (by rw [hany, hb, Bool.true_or])
          | false =>
            rw [hb] at h2
            rw [h2, if_pos (show bI false = nI 0 from rfl)]
            obtain ⟨v1, x1, x2⟩ := rvH (cx.ra (ra v h6)) hA hS hO (by rw [nn_row (rv 37 (by omega))]; exact q1) (fv v h6)
            rw [cdA_ra (ra v h6)] at x1
            have h61 := h6.tr x2
            rw [x1]
            simp only [Option.bind_some]
            by_cases y1 : vS F (cdA u c) = 0
            · rw [decide_eq_false (fun y => y y1)]
              refine ok_ii (fun _ => ?_) (fun y => (y (show bI false = nI 0 from rfl)).elim)
              exact fin false v1 h61 (by rw [hany, hb, hm, decide_eq_false (fun y => y y1)]; rfl)
            · rw [decide_eq_true y1]
              refine ok_ii (fun y => (absurd y (show ¬ bI true = nI 0 by decide))) (fun _ => ?_)
              obtain ⟨v2, x3, x4⟩ := rvU (cx.ra (ra v1 h61)) hz120 hA hS hO (Or.inl (by rw [nn_row ((h61.row 37 (by decide) (by simp)).1)]; exact q1)) (fv v1 h61)
              rw [cdB_ra (ra v1 h61)] at x3
              have h62 := h61.tr x4
              rw [x3]
              simp only [Option.bind_some]
              by_cases y2 : vS F (cdB u c) = 0
              · rw [decide_eq_false (fun y => y y2)]
                refine ok_ii (fun _ => ?_) (fun y => (y (show bI false = nI 0 from rfl)).elim)
                exact fin true v2 h62 (by rw [hany, hb, hm, decide_eq_true y1, decide_eq_true y2]; rfl)
              · rw [decide_eq_true y2]
                refine ok_ii (fun y => (absurd y (show ¬ bI true = nI 0 by decide))) (fun _ => ?_)
                exact fin false v2 h62 (by rw [hany, hb, hm, decide_eq_true y1, decide_eq_false y2]; rfl)
        · have n1 : slc u R 101 (k + 1) = slc u R 101 k := slc_f (fun y => by have := (hit_iff.mp y).2; rw [hc] at this; omega)
          have hne1 : ¬ dm (nn u 37 c) = 1 := by unfold dm; rw [if_neg q1]; unfold isDoes at hdo; omega
          unfold X12_asks_b153
          simp (disch := omega) only [gdn, gb0, gb1, ixn, nm1, nI_add, nI_mul, nsub, nI_ltI, nI_leI, nI_eq, eqNO, eqNO2, ltNO, NOlt, leNO, NOle, if_pos, if_neg, Option.bind_some, if_true, if_false, and_self, eq_self, l0, l1, l2, l3, l4, l5, l6, l7, l8, l9, l10, l11, l12, l13, l14, l15, l16, l17, l18, l19, l20, l24, l26, l30, l31, l32, l40, l41, l42, l43, l45, l47, l48, l57, l58, l59, l60, l61, l62, l63, l64, l97, l99, l100, l101, l102, l103, l104, l105, l106, l107, l108, l109, l110, l122, l160, l240, l255, l600, l1000, l3000, l10000, l10007, l10116, l67108863, l67108864, r97, r144, r146, r125, hne1]
          by_cases q3 : nn u 37 c = 103
          · have n3 : slc u R 103 (k + 1) = slc u R 103 k ++ [c] := by rw [slc_t (hit_iff.mpr ⟨q, by rw [hc]; exact q3⟩), hc]
            have hdm : dm (nn u 37 c) = 2 := by rw [q3]; rfl
            rw [hdm] at r125
            have cx := hcx (Or.inr q3)
            have hs : hrL u F (slc u R 103 (k + 1)) = hst u F (hrL u F (slc u R 103 k)) c := by
              unfold hrL
              rw [n3, List.foldl_append]; rfl
            obtain ⟨v1, x1, x2⟩ := rvU (cx.ra (ra v h6)) hz120 hA hS hO (Or.inr (by rw [nn_row (rv 37 (by omega))]; exact q3)) (fv v h6)
            rw [cdB_ra (ra v h6)] at x1
            have h61 := h6.tr x2
            unfold X12_asks_j240 X12_asks_j302 X12_asks_j297 X12_asks_j302
            simp (disch := omega) only [gdn, gb0, gb1, ixn, nm1, nI_add, nI_mul, nsub, nI_ltI, nI_leI, nI_eq, eqNO, eqNO2, ltNO, NOlt, leNO, NOle, if_pos, if_neg, Option.bind_some, if_true, if_false, and_self, eq_self, l0, l1, l2, l3, l4, l5, l6, l7, l8, l9, l10, l11, l12, l13, l14, l15, l16, l17, l18, l19, l20, l24, l26, l30, l31, l32, l40, l41, l42, l43, l45, l47, l48, l57, l58, l59, l60, l61, l62, l63, l64, l97, l99, l100, l101, l102, l103, l104, l105, l106, l107, l108, l109, l110, l122, l160, l240, l255, l600, l1000, l3000, l10000, l10007, l10116, l67108863, l67108864, r125, x1]
            by_cases y2 : vS F (cdB u c) = 0
            · rw [decide_eq_false (fun y => y y2), if_pos (show bI false = nI 0 from rfl)]
              obtain ⟨v2, x3, x4⟩ := rvS (cx.ra (ra v1 h61)) hA hS (by rw [nn_row ((h61.row 37 (by decide) (by simp)).1)]; exact q3) (fv v1 h61)
              rw [cdA_ra (ra v1 h61)] at x3
              have h62 := h61.tr x4
              rw [x3]
              simp only [Option.bind_some]
              unfold hst at hs
              rw [if_pos y2] at hs
              cases ha : hrL u F (slc u R 103 k) with
              | none =>
                rw [ha] at h3 h4 hs
                rw [h3, if_pos (show (oJ none).1 = nI 0 from rfl)]
                exact ok_i ⟨by rw [n1]; exact h1, by rw [n1]; exact h2, by rw [hs]; rfl, by rw [hs]; rfl, rfl, h62⟩
              | some x =>
                rw [ha] at h3 h4 hs
                rw [h3, h4, if_neg (show ¬ (oJ (some x)).1 = nI 0 by show ¬ nI 1 = nI 0; decide)]
                exact ok_i ⟨by rw [n1]; exact h1, by rw [n1]; exact h2, by rw [hs]; rfl, by rw [hs]; rfl, rfl, h62⟩
            · rw [decide_eq_true y2, if_neg (show ¬ bI true = nI 0 by decide)]
              unfold hst at hs
              rw [if_neg y2] at hs
              exact ok_i ⟨by rw [n1]; exact h1, by rw [n1]; exact h2, by rw [hs]; exact h3, by rw [hs]; exact h4, rfl, h61⟩
          · have n3 : slc u R 103 (k + 1) = slc u R 103 k := slc_f (fun y => by have := (hit_iff.mp y).2; rw [hc] at this; omega)
            have hne2 : ¬ dm (nn u 37 c) = 2 := by unfold dm; rw [if_neg q1]; unfold isDoes at hdo; omega
            rw [j240_o hz120 r125 hdlt hne2]
            exact ok_i ⟨by rw [n1]; exact h1, by rw [n1]; exact h2, by rw [n3]; exact h3, by rw [n3]; exact h4, rfl, h6⟩
    · rintro ⟨p1, p2, p3, p4, p5, v⟩ ⟨h1, h2, h3, h4, h5, h6⟩
      simp only at h1 h2 h3 h4 h5 h6
      subst h5
      have r97 : v.1 97 70 = nI R.length := by rw [(h6 97 (by decide) 70 (by simp)).1]; exact m1
      unfold X12_asks_b153
      simp (disch := omega) only [gdn, gb0, gb1, ixn, nm1, nI_add, nI_mul, nsub, nI_ltI, nI_leI, nI_eq, eqNO, eqNO2, ltNO, NOlt, leNO, NOle, if_pos, if_neg, Option.bind_some, if_true, if_false, and_self, eq_self, l0, l1, l2, l3, l4, l5, l6, l7, l8, l9, l10, l11, l12, l13, l14, l15, l16, l17, l18, l19, l20, l24, l26, l30, l31, l32, l40, l41, l42, l43, l45, l47, l48, l57, l58, l59, l60, l61, l62, l63, l64, l97, l99, l100, l101, l102, l103, l104, l105, l106, l107, l108, l109, l110, l122, l160, l240, l255, l600, l1000, l3000, l10000, l10007, l10116, l67108863, l67108864, r97]
      exact ok_i ⟨v, h6, by rw [h1, h2, h3, h4]⟩
  obtain ⟨e, k1, v, k2, rfl⟩ := key
  exact ⟨v, k1, k2⟩
