/-! what the year's WEEKS are made of -/
def sR_Y : List Nat := [6, 7, 8, 10, 11, 13, 14, 15, 17, 20, 21, 22, 23, 24, 25, 31, 32, 33, 34, 35, 36, 37, 38, 39, 40, 41, 42, 70, 71, 124]
def sF_Y : List (Nat × Nat) := [(5, 2), (19, 0), (19, 7), (30, 0), (69, 3)]
section
variable {w w' : Wd}
theorem stk_y (e : Sm sR_Y sF_Y w w') : stk w' = stk w := by
  funext R i
  unfold stk cI nn
  rw [(e.1 33 (by decide)).1, (e.1 35 (by decide)).2, (e.1 36 (by decide)).2]
theorem cI_y (e : Sm sR_Y sF_Y w w') : cI w' = cI w := by
  funext q
  unfold cI nn
  rw [(e.1 33 (by decide)).1]
theorem hit_y (e : Sm sR_Y sF_Y w w') : hit w' = hit w := by
  funext R d j
  have h : nn w' 37 = nn w 37 := by funext i; unfold nn; rw [(e.1 37 (by decide)).1]
  unfold hit
  rw [stk_y e, cI_y e, h]
theorem slc_y (e : Sm sR_Y sF_Y w w') : slc w' = slc w := by
  funext R d n
  unfold slc
  rw [hit_y e, cI_y e]
theorem lst_y (e : Sm sR_Y sF_Y w w') : lst w' = lst w := by
  funext R d z n
  have h : nn w' 38 = nn w 38 := by funext i; unfold nn; rw [(e.1 38 (by decide)).1]
  induction n with
  | zero => rfl
  | succ n ih => rw [lst, lst, ih, hit_y e, cI_y e, h]
theorem RS_y (e : Sm sR_Y sF_Y w w') : RS w' = RS w := by
  funext s week
  have h30 : nn w' 30 0 = nn w 30 0 := nn_eq (e.2 (30, 0) (by decide)).1
  have h31 : nn w' 31 = nn w 31 := by funext i; unfold nn; rw [(e.1 31 (by decide)).1]
  have h32 : nn w' 32 = nn w 32 := by funext i; unfold nn; rw [(e.1 32 (by decide)).1]
  have h34 : nn w' 34 = nn w 34 := by funext i; unfold nn; rw [(e.1 34 (by decide)).1]
  have h124 : nn w' 124 = nn w 124 := by funext i; unfold nn; rw [(e.1 124 (by decide)).1]
  have hi : inF w' s week = inF w s week := by funext t; unfold inF; rw [h31, h32]
  unfold RS rl tl
  rw [hi, h30, h34, h124]
theorem cdA_y (e : Sm sR_Y sF_Y w w') : cdA w' = cdA w := by
  funext r
  unfold cdA cdR nn
  rw [(e.1 39 (by decide)).1, (e.1 40 (by decide)).1, (e.1 42 (by decide)).1]
theorem cdB_y (e : Sm sR_Y sF_Y w w') : cdB w' = cdB w := by
  funext r
  unfold cdB cdR nn
  rw [(e.1 40 (by decide)).1, (e.1 41 (by decide)).1, (e.1 42 (by decide)).1]
theorem mayS_y (e : Sm sR_Y sF_Y w w') : mayS w' = mayS w := by
  funext R F
  have h : mayR w' = mayR w := by funext F r; unfold mayR; rw [cdA_y e, cdB_y e]
  unfold mayS
  rw [slc_y e, h]
theorem hrsS_y (e : Sm sR_Y sF_Y w w') : hrsS w' = hrsS w := by
  funext R F
  have h : hst w' = hst w := by funext F a r; unfold hst; rw [cdA_y e, cdB_y e]
  unfold hrsS hrL
  rw [slc_y e, h]
theorem lampS_y (e : Sm sR_Y sF_Y w w') : lampS w' = lampS w := by
  funext s t week
  exact lampS_sm (e.sub (by decide) (by decide)) s t week
theorem tchS_y (e : Sm sR_Y sF_Y w w') : tchS w' = tchS w := by
  funext m week
  exact tchS_c (fun t _ => by rw [lampS_y e])
theorem crwS_y (e : Sm sR_Y sF_Y w w') : crwS w' = crwS w := by
  funext m week
  exact crwS_c (fun t _ => by rw [lampS_y e])
theorem nn_y (e : Sm sR_Y sF_Y w w') {k : Nat} (hk : k ∈ sR_Y) : nn w' k = nn w k := by
  funext i; unfold nn; rw [(e.1 k hk).1]
theorem shY_y (e : Sm sR_Y sF_Y w w') : shY w' = shY w := by
  funext m; unfold shY; rw [nn_y e (k := 6) (by decide), nn_y e (k := 17) (by decide)]
theorem rain_y (e : Sm sR_Y sF_Y w w') : rainP w' = rainP w := by
  funext p week
  unfold rainP atP shutP
  rw [nn_y e (k := 7) (by decide), nn_y e (k := 8) (by decide), nn_y e (k := 10) (by decide), nn_y e (k := 11) (by decide), (e.1 10 (by decide)).1, nn_eq (e.2 (5, 2) (by decide)).1]
theorem ndF_y (e : Sm sR_Y sF_Y w w') : ndF w' = ndF w := nn_y e (k := 70) (by decide)
theorem lnF_y (e : Sm sR_Y sF_Y w w') : lnF w' = lnF w := nn_y e (k := 71) (by decide)
theorem fct_y (e : Sm sR_Y sF_Y w w') : fct w' = fct w := by
  funext week l m g i
  unfold fct
  rw [nn_y e (k := 13) (by decide), nn_y e (k := 14) (by decide), nn_y e (k := 15) (by decide), nn_y e (k := 17) (by decide), tchS_y e, crwS_y e, ndF_y e, rain_y e, shY_y e]
theorem lmY_y (e : Sm sR_Y sF_Y w w') : lmY w' = lmY w := by
  funext week l; unfold lmY; rw [lampS_y e]
theorem litY_y (e : Sm sR_Y sF_Y w w') : litY w' = litY w := by
  funext week l; unfold litY; rw [lampS_y e, tchS_y e, lmY_y e]
theorem rsY_y (e : Sm sR_Y sF_Y w w') : rsY w' = rsY w := by
  funext week l; unfold rsY; rw [RS_y e, shY_y e, lmY_y e]
theorem rmY_y (e : Sm sR_Y sF_Y w w') : rmY w' = rmY w := by
  funext week m; unfold rmY; rw [lst_y e, RS_y e, shY_y e]
theorem myY_y (e : Sm sR_Y sF_Y w w') : myY w' = myY w := by
  funext week l g; unfold myY; rw [mayS_y e, rsY_y e, fct_y e, lmY_y e]
theorem hrY_y (e : Sm sR_Y sF_Y w w') : hrY w' = hrY w := by
  funext week l g; unfold hrY; rw [hrsS_y e, rsY_y e, fct_y e, lmY_y e]
theorem jd_y (e : Sm sR_Y sF_Y w w') : jd w' = jd w := by
  funext week l g t; unfold jd; rw [litY_y e, myY_y e, rmY_y e, hrY_y e, lmY_y e]
theorem nxY_y (e : Sm sR_Y sF_Y w w') : nxY w' = nxY w := by
  funext l g p o; unfold nxY; rw [ndF_y e, lnF_y e, nn_y e (k := 13) (by decide), nn_eq (e.2 (69, 3) (by decide)).1]
theorem YG_y (e : Sm sR_Y sF_Y w w') : YG w' = YG w := by
  unfold YG; rw [jd_y e, lmY_y e, nxY_y e]
theorem YH_y (e : Sm sR_Y sF_Y w w') : YH w' = YH w := by
  funext k l; unfold YH; rw [YG_y e]
theorem YT_y (e : Sm sR_Y sF_Y w w') : YT w' = YT w := by
  funext k l m; unfold YT; rw [jd_y e, lmY_y e, YH_y e]
theorem YO_y (e : Sm sR_Y sF_Y w w') : YO w' = YO w := by
  funext k l; unfold YO; rw [jd_y e, lmY_y e, YH_y e]
end
theorem FG.sm {c : Nat} {w w' : Wd} (h : FG c w w') (h1 : 45 ≤ c) (h2 : c + 5 ≤ 65) {S : List Nat} {T : List (Nat × Nat)} (hS : S.all (fun k => decide (k < 45 ∨ 65 ≤ k)) = true) (hT : T.all (fun q => decide (q.1 < 45 ∨ 65 ≤ q.1)) = true) : Sm S T w w' := by
  refine ⟨fun k hk => h k ?_, fun q hq => ?_⟩
  · have := of_decide_eq_true (List.all_eq_true.mp hS k hk)
    omega
  · have := of_decide_eq_true (List.all_eq_true.mp hT q hq)
    have e := h q.1 (by omega)
    rw [e.1, e.2]; exact ⟨rfl, rfl⟩
/-! rain -/
theorem rains_e {w : Wd} (h : IL w) {p week : Nat} (hp : p < 16) (hw : week < 60) : X2_rainsIn (nI p) (nI week) w = some (fg (rainP w p week)) := by
  have hn := h.1.2.1.2
  have e5 := h.1.2.1.1
  have h16 := h.1.1.2
  have key : ok (lp (X2_rainsIn_b5 (nI p) (nI week) w) (fg False, nI 0)) (fun e => (e = .inl () ∧ ¬ rainP w p week) ∨ e = .inr (fg (rainP w p week))) := by
    refine lp_up (fun i s => s = (fg (∃ j, j < i ∧ atP w p j), nI i) ∧ ∀ j, j < i → atP w p j → shutP w j week) (nn w 5 2) ?_ ?_ 0 _ (Nat.zero_le _) ⟨by rw [fg_f id, fg_f (p := ∃ j, j < 0 ∧ atP w p j) (fun ⟨j, hj, _⟩ => by omega)], fun j hj => by omega⟩
    · rintro i _ hi ⟨rfl, h2⟩
      obtain ⟨⟨a1, a2⟩, ⟨b1, b2⟩, -⟩ := h.2.2.2.2.2.1 i hi
      have hs := shut_e h hi (x := week) (by omega)
      unfold X2_rainsIn_b5 X2_rainsIn_j36 X2_rainsIn_j50
      by_cases q : atP w p i
      · have e0 : ∀ (A B : Option ((Int32 × Int32) ⊕ (Unit ⊕ Int32))), (if nn w 7 i = p then A else if nn w 8 i = p then A else B) = A := fun A B => by
          by_cases z : nn w 7 i = p
          · rw [if_pos z]
          · rw [if_neg z, if_pos (q.resolve_left z)]
        by_cases q2 : shutP w i week
        · have q2' : w.1 10 i ≠ NO ∧ nn w 10 i ≤ week ∧ week ≤ nn w 11 i := q2
          rw [if_pos q2'] at hs
          simp (disch := omega) only [gdn, gb0, gb1, ixn, nm1, nI_add, nI_mul, nsub, nI_ltI, nI_leI, nI_eq, eqNO, eqNO2, ltNO, NOlt, leNO, NOle, if_pos, if_neg, Option.bind_some, if_true, if_false, and_self, eq_self, l0, l1, l2, l3, l4, l5, l6, l7, l8, l9, l10, l11, l12, l13, l14, l15, l16, l17, l18, l19, l20, l24, l26, l30, l31, l32, l40, l41, l42, l43, l45, l47, l48, l57, l58, l59, l60, l61, l62, l63, l64, l97, l99, l100, l101, l102, l103, l104, l105, l106, l107, l108, l109, l110, l122, l160, l240, l255, l600, l1000, l3000, l10000, l10007, l10116, l67108863, l67108864, e5, a1, b1, hs]
          rw [e0]
          refine ok_i ⟨?_, fun j hj hj2 => ?_⟩
          · rw [fg_t (⟨i, by omega, q⟩ : ∃ j, j < i + 1 ∧ atP w p j)]
          · by_cases z : j = i
            · subst z; exact q2
            · exact h2 j (by omega) hj2
        · have q2' : ¬ (w.1 10 i ≠ NO ∧ nn w 10 i ≤ week ∧ week ≤ nn w 11 i) := q2
          rw [if_neg q2'] at hs
          simp (disch := omega) only [gdn, gb0, gb1, ixn, nm1, nI_add, nI_mul, nsub, nI_ltI, nI_leI, nI_eq, eqNO, eqNO2, ltNO, NOlt, leNO, NOle, if_pos, if_neg, Option.bind_some, if_true, if_false, and_self, eq_self, l0, l1, l2, l3, l4, l5, l6, l7, l8, l9, l10, l11, l12, l13, l14, l15, l16, l17, l18, l19, l20, l24, l26, l30, l31, l32, l40, l41, l42, l43, l45, l47, l48, l57, l58, l59, l60, l61, l62, l63, l64, l97, l99, l100, l101, l102, l103, l104, l105, l106, l107, l108, l109, l110, l122, l160, l240, l255, l600, l1000, l3000, l10000, l10007, l10116, l67108863, l67108864, e5, a1, b1, hs]
          rw [e0]
          exact ok_i (Or.inl ⟨rfl, fun z => q2 (z.2 i hi q)⟩)
      · have q1 : ¬ nn w 7 i = p := fun z => q (Or.inl z)
        have q2 : ¬ nn w 8 i = p := fun z => q (Or.inr z)
        simp (disch := omega) only [gdn, gb0, gb1, ixn, nm1, nI_add, nI_mul, nsub, nI_ltI, nI_leI, nI_eq, eqNO, eqNO2, ltNO, NOlt, leNO, NOle, if_pos, if_neg, Option.bind_some, if_true, if_false, and_self, eq_self, l0, l1, l2, l3, l4, l5, l6, l7, l8, l9, l10, l11, l12, l13, l14, l15, l16, l17, l18, l19, l20, l24, l26, l30, l31, l32, l40, l41, l42, l43, l45, l47, l48, l57, l58, l59, l60, l61, l62, l63, l64, l97, l99, l100, l101, l102, l103, l104, l105, l106, l107, l108, l109, l110, l122, l160, l240, l255, l600, l1000, l3000, l10000, l10007, l10116, l67108863, l67108864, e5, a1, b1, q1, q2]
        refine ok_i ⟨?_, fun j hj hj2 => ?_⟩
        · rw [fg_c (p := ∃ j, j < i ∧ atP w p j) (q := ∃ j, j < i + 1 ∧ atP w p j)]
          constructor
          · rintro ⟨j, hj, hj2⟩; exact ⟨j, by omega, hj2⟩
          · rintro ⟨j, hj, hj2⟩
            by_cases z : j = i
            · subst z; exact (q hj2).elim
            · exact ⟨j, by omega, hj2⟩
        · by_cases z : j = i
          · subst z; exact (q hj2).elim
          · exact h2 j (by omega) hj2
    · rintro _ ⟨rfl, h2⟩
      unfold X2_rainsIn_b5
      simp (disch := omega) only [gdn, gb0, gb1, ixn, nm1, nI_add, nI_mul, nsub, nI_ltI, nI_leI, nI_eq, eqNO, eqNO2, ltNO, NOlt, leNO, NOle, if_pos, if_neg, Option.bind_some, if_true, if_false, and_self, eq_self, l0, l1, l2, l3, l4, l5, l6, l7, l8, l9, l10, l11, l12, l13, l14, l15, l16, l17, l18, l19, l20, l24, l26, l30, l31, l32, l40, l41, l42, l43, l45, l47, l48, l57, l58, l59, l60, l61, l62, l63, l64, l97, l99, l100, l101, l102, l103, l104, l105, l106, l107, l108, l109, l110, l122, l160, l240, l255, l600, l1000, l3000, l10000, l10007, l10116, l67108863, l67108864, e5]
      refine ok_i (Or.inr ?_)
      rw [fg_c (p := ∃ j, j < nn w 5 2 ∧ atP w p j) (q := rainP w p week) ⟨fun z => ⟨z, h2⟩, fun z => z.1⟩]
  obtain ⟨e, k1, k2⟩ := key
  unfold X2_rainsIn
  rw [show ((0 : Int32), (0 : Int32)) = (fg False, nI 0) by rw [fg_f id]; rfl, k1]
  rcases k2 with ⟨rfl, k2⟩ | rfl
  · rw [fg_f k2]; rfl
  · simp only [Option.bind_some]
    by_cases z : rainP w p week
    · rw [fg_t z, gb1]
    · rw [fg_f z, gb0]
theorem allShut_e {w : Wd} (h : IL w) {p week : Nat} (hp : p < 16) (hw : week < 60) : X12_allShut (nI p) (nI week) w = some (fg (rainP w p week)) := by
  have hn := h.1.2.1.2
  have e5 : w.1 97 5 = nI (nn w 5 2) := by rw [h.2.1.2.1]; exact h.1.2.1.1
  have h16 := h.1.1.2
  have r102 := h.2.2.1.2.1
  have r103 := h.2.2.1.2.2.1
  have key : ok (lp (X12_allShut_b5 (nI p) (nI week) w) (nI 0, nI 0)) (fun e => (e = .inl () ∧ ¬ rainP w p week) ∨ ∃ n, n < 100 ∧ e = .inr (nI n) ∧ (0 < n ↔ rainP w p week)) := by
    refine lp_up (fun i s => (∃ n, n ≤ i ∧ s = (nI n, nI i) ∧ (0 < n ↔ ∃ j, j < i ∧ atP w p j)) ∧ ∀ j, j < i → atP w p j → shutP w j week) (nn w 5 2) ?_ ?_ 0 _ (Nat.zero_le _) ⟨⟨0, Nat.le_refl _, rfl, ⟨fun z => by omega, fun ⟨j, hj, _⟩ => by omega⟩⟩, fun j hj => by omega⟩
    · rintro i _ hi ⟨⟨n, hn2, rfl, hx⟩, h2⟩
      obtain ⟨⟨a1, a2⟩, ⟨b1, b2⟩, -⟩ := h.2.2.2.2.2.1 i hi
      have c1 : w.1 102 i = nI (nn w 7 i) := by rw [r102]; exact a1
      have c2 : w.1 103 i = nI (nn w 8 i) := by rw [r103]; exact b1
      have hs := mshut_e h hi (x := week) (by omega)
      unfold X12_allShut_b5 X12_allShut_j39 X12_allShut_j54
      by_cases q : atP w p i
      · have e0 : ∀ (A B : Option ((Int32 × Int32) ⊕ (Unit ⊕ Int32))), (if nn w 7 i = p then A else if nn w 8 i = p then A else B) = A := fun A B => by
          by_cases z : nn w 7 i = p
          · rw [if_pos z]
          · rw [if_neg z, if_pos (q.resolve_left z)]
        by_cases q2 : shutP w i week
        · have q2' : w.1 10 i ≠ NO ∧ nn w 10 i ≤ week ∧ week ≤ nn w 11 i := q2
          rw [if_pos q2'] at hs
          simp (disch := omega) only [gdn, gb0, gb1, ixn, nm1, nI_add, nI_mul, nsub, nI_ltI, nI_leI, nI_eq, eqNO, eqNO2, ltNO, NOlt, leNO, NOle, if_pos, if_neg, Option.bind_some, if_true, if_false, and_self, eq_self, l0, l1, l2, l3, l4, l5, l6, l7, l8, l9, l10, l11, l12, l13, l14, l15, l16, l17, l18, l19, l20, l24, l26, l30, l31, l32, l40, l41, l42, l43, l45, l47, l48, l57, l58, l59, l60, l61, l62, l63, l64, l97, l99, l100, l101, l102, l103, l104, l105, l106, l107, l108, l109, l110, l122, l160, l240, l255, l600, l1000, l3000, l10000, l10007, l10116, l67108863, l67108864, e5, c1, c2, hs]
          rw [e0]
          refine ok_i ⟨⟨n + 1, by omega, rfl, ⟨fun _ => ⟨i, by omega, q⟩, fun _ => by omega⟩⟩, fun j hj hj2 => ?_⟩
          by_cases z : j = i
          · subst z; exact q2
          · exact h2 j (by omega) hj2
        · have q2' : ¬ (w.1 10 i ≠ NO ∧ nn w 10 i ≤ week ∧ week ≤ nn w 11 i) := q2
          rw [if_neg q2'] at hs
          simp (disch := omega) only [gdn, gb0, gb1, ixn, nm1, nI_add, nI_mul, nsub, nI_ltI, nI_leI, nI_eq, eqNO, eqNO2, ltNO, NOlt, leNO, NOle, if_pos, if_neg, Option.bind_some, if_true, if_false, and_self, eq_self, l0, l1, l2, l3, l4, l5, l6, l7, l8, l9, l10, l11, l12, l13, l14, l15, l16, l17, l18, l19, l20, l24, l26, l30, l31, l32, l40, l41, l42, l43, l45, l47, l48, l57, l58, l59, l60, l61, l62, l63, l64, l97, l99, l100, l101, l102, l103, l104, l105, l106, l107, l108, l109, l110, l122, l160, l240, l255, l600, l1000, l3000, l10000, l10007, l10116, l67108863, l67108864, e5, c1, c2, hs]
          rw [e0]
          exact ok_i (Or.inl ⟨rfl, fun z => q2 (z.2 i hi q)⟩)
      · have q1 : ¬ nn w 7 i = p := fun z => q (Or.inl z)
        have q2 : ¬ nn w 8 i = p := fun z => q (Or.inr z)
        simp (disch := omega) only [gdn, gb0, gb1, ixn, nm1, nI_add, nI_mul, nsub, nI_ltI, nI_leI, nI_eq, eqNO, eqNO2, ltNO, NOlt, leNO, NOle, if_pos, if_neg, Option.bind_some, if_true, if_false, and_self, eq_self, l0, l1, l2, l3, l4, l5, l6, l7, l8, l9, l10, l11, l12, l13, l14, l15, l16, l17, l18, l19, l20, l24, l26, l30, l31, l32, l40, l41, l42, l43, l45, l47, l48, l57, l58, l59, l60, l61, l62, l63, l64, l97, l99, l100, l101, l102, l103, l104, l105, l106, l107, l108, l109, l110, l122, l160, l240, l255, l600, l1000, l3000, l10000, l10007, l10116, l67108863, l67108864, e5, c1, c2, q1, q2]
        refine ok_i ⟨⟨n, by omega, rfl, ?_⟩, fun j hj hj2 => ?_⟩
        · rw [hx]
          constructor
          · rintro ⟨j, hj, hj2⟩; exact ⟨j, by omega, hj2⟩
          · rintro ⟨j, hj, hj2⟩
            by_cases z : j = i
            · subst z; exact (q hj2).elim
            · exact ⟨j, by omega, hj2⟩
        · by_cases z : j = i
          · subst z; exact (q hj2).elim
          · exact h2 j (by omega) hj2
    · rintro _ ⟨⟨n, hn2, rfl, hx⟩, h2⟩
      unfold X12_allShut_b5
      simp (disch := omega) only [gdn, gb0, gb1, ixn, nm1, nI_add, nI_mul, nsub, nI_ltI, nI_leI, nI_eq, eqNO, eqNO2, ltNO, NOlt, leNO, NOle, if_pos, if_neg, Option.bind_some, if_true, if_false, and_self, eq_self, l0, l1, l2, l3, l4, l5, l6, l7, l8, l9, l10, l11, l12, l13, l14, l15, l16, l17, l18, l19, l20, l24, l26, l30, l31, l32, l40, l41, l42, l43, l45, l47, l48, l57, l58, l59, l60, l61, l62, l63, l64, l97, l99, l100, l101, l102, l103, l104, l105, l106, l107, l108, l109, l110, l122, l160, l240, l255, l600, l1000, l3000, l10000, l10007, l10116, l67108863, l67108864, e5]
      refine ok_i (Or.inr ⟨n, by omega, rfl, ?_⟩)
      rw [hx]
      exact ⟨fun z => ⟨z, h2⟩, fun z => z.1⟩
  obtain ⟨e, k1, k2⟩ := key
  unfold X12_allShut
  rw [show ((0 : Int32), (0 : Int32)) = (nI 0, nI 0) from rfl, k1]
  rcases k2 with ⟨rfl, k2⟩ | ⟨n, hn2, rfl, k2⟩
  · rw [fg_f k2]; rfl
  · simp only [Option.bind_some]
    by_cases z : rainP w p week
    · have := k2.mpr z
      rw [if_neg (by rw [show (0 : Int32) = nI 0 from rfl, nI_leI (by omega) (by omega)]; omega), fg_t z]; rfl
    · have : ¬ 0 < n := fun y => z (k2.mp y)
      rw [if_pos (by rw [show (0 : Int32) = nI 0 from rfl, nI_leI (by omega) (by omega)]; omega), fg_f z]; rfl
