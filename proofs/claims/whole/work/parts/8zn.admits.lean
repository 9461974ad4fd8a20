/-! the class asks its RULES -/
theorem slc_mem {w : Wd} {R : List (Nat × Nat)} {d n r : Nat} (h : r ∈ slc w R d n) : ∃ i, i < n ∧ hit w R d i = true ∧ r = cI w (rr R i) := by
  unfold slc at h
  obtain ⟨i, hi, rfl⟩ := List.mem_map.mp h
  obtain ⟨h1, h2⟩ := List.mem_filter.mp hi
  exact ⟨i, List.mem_range.mp h1, h2, rfl⟩
theorem IR.at {w : Wd} (hB : IBo w) (h : IR w) : ∃ A S O, (A ≤ 3000 ∧ S ≤ 4000 ∧ O ≤ 1500) ∧ ∀ R, okRl w R → ∀ i, i < R.length → (nn w 37 (cI w (rr R i)) = 101 ∨ nn w 37 (cI w (rr R i)) = 103) → RCx w w (cI w (rr R i)) (mI (rr R i)) A S O := by
  obtain ⟨A, S, O, -, h2, h3⟩ := h
  have hb := hB.1.1.2
  refine ⟨A, S, O, ⟨by omega, by omega, by omega⟩, fun R hR i hi hd => ?_⟩
  obtain ⟨q1, q2⟩ := hR.1 (rr R i) (getD_mem hi)
  exact h3 _ q1 _ q2 hd
theorem slc_rcx {w : Wd} (hB : IBo w) {R : List (Nat × Nat)} (hR : okRl w R) {A S O : Nat} (hx : ∀ R, okRl w R → ∀ i, i < R.length → (nn w 37 (cI w (rr R i)) = 101 ∨ nn w 37 (cI w (rr R i)) = 103) → RCx w w (cI w (rr R i)) (mI (rr R i)) A S O) {d : Nat} (hd : d = 101 ∨ d = 103) {r : Nat} (hr : r ∈ slc w R d R.length) : r < 100 ∧ nn w 37 r = d ∧ ∃ m, RCx w w r m A S O := by
  obtain ⟨i, h1, h2, rfl⟩ := slc_mem hr
  have h3 := (hit_iff.mp h2).2
  exact ⟨(hR.at hB h1).2.1, h3, _, hx R hR i h1 (by rw [h3]; exact hd)⟩
theorem ra44 {w v : Wd} (h : Fr [44] [] w v) : RA w v := fun k hk => (h.row k (by simp only [List.mem_cons, List.not_mem_nil, or_false]; omega) (by simp)).1
theorem getD_in {L : List Nat} {i : Nat} (h : i < L.length) : L.getD i 0 ∈ L := by
  rw [getD_el h]; exact List.getElem_mem h
theorem any_idx {L : List Nat} {p : Nat → Bool} : L.any p = true ↔ ∃ i, i < L.length ∧ p (L.getD i 0) = true := by
  rw [List.any_eq_true]
  constructor
  · rintro ⟨x, hx, hp⟩
    obtain ⟨i, hi, rfl⟩ := List.getElem_of_mem hx
    exact ⟨i, hi, by rw [getD_el hi]; exact hp⟩
  · rintro ⟨i, hi, hp⟩
    exact ⟨_, getD_in hi, hp⟩
theorem admits_e {w : Wd} (hB : IBo w) (hI : IR w) {R : List (Nat × Nat)} (hR : okRl w R) {si : Nat} (hsi : si < 4) (hG : GAl w w (stc si) R R.length) {F : Nat → Int64} (hF : slc w R 101 R.length ≠ [] → ∀ i, i < 7 → w.2 77 i = F i) : ∃ v, X8_admits si w = some (bI (mayS w R F), v) ∧ Fr [44] [] w v := by
  obtain ⟨A, S, O, ⟨hA, -, -⟩, hx⟩ := hI.at hB
  obtain ⟨⟨g1, g2⟩, -⟩ := hG
  have hc : stc si = 45 + 5 * si := rfl
  have hl : (slc w R 101 R.length).length ≤ 100 := Nat.le_trans slc_len hR.2
  have hxx := fun r hr => slc_rcx hB hR hx (d := 101) (Or.inl rfl) (r := r) hr
  unfold mayS
  generalize slc w R 101 R.length = L at *
  have key : ok (lp (X8_admits_b2 si) (nI 0, w)) (fun e => ∃ v, Fr [44] [] w v ∧ ((e = .inl v ∧ L.any (mayR w F) = true) ∨ (e = .inr v ∧ L.any (mayR w F) = false))) := by
    refine lp_up (fun i s => s.1 = nI i ∧ Fr [44] [] w s.2 ∧ ∀ j, j < i → mayR w F (L.getD j 0) = false) L.length ?_ ?_ 0 _ (Nat.zero_le _) ⟨rfl, Fr.rf, fun j hj => by omega⟩
    · rintro i ⟨z, v⟩ hi ⟨rfl, h1, h2⟩
      simp only at h1 h2
      have hF' : ∀ i, i < 7 → w.2 77 i = F i := hF (fun z => by rw [z] at hi; simp at hi)
      obtain ⟨r1, r2, m, r3⟩ := hxx _ (getD_in hi)
      have rc : ∀ k, k ≠ 44 → v.1 k = w.1 k := fun k hk => (h1.row k (by simpa using hk) (by simp)).1
      have c4 : v.1 (stc si) 4 = nI L.length := by rw [rc _ (by omega)]; exact g1
      have c3 : v.1 (stc si + 3) i = nI (L.getD i 0) := by rw [rc _ (by omega)]; exact g2 i hi
      have ra := ra44 h1
      have rx := r3.ra ra
      have r37 : nn v 37 (L.getD i 0) = 101 := by rw [nn_row (rc 37 (by omega))]; exact r2
      obtain ⟨v1, x1, x2⟩ := rvA rx hA (Or.inl r37) (F := F) (fun i hi => by rw [(h1 77 (by decide) i (by simp)).2]; exact hF' i hi)
      have h1' := h1.tr x2
      have ra' := ra44 h1'
      have rc' : ∀ k, k ≠ 44 → v1.1 k = w.1 k := fun k hk => (h1'.row k (by simpa using hk) (by simp)).1
      obtain ⟨v2, y1, y2⟩ := rvB (r3.ra ra') hA (Or.inl (by rw [nn_row (rc' 37 (by omega))]; exact r2)) (F := F) (fun i hi => by rw [(h1' 77 (by decide) i (by simp)).2]; exact hF' i hi)
      have h1'' := h1'.tr y2
      rw [cdA_ra ra] at x1
      rw [cdB_ra ra'] at y1
      have hm : mayR w F (L.getD i 0) = (decide (vS F (cdA w (L.getD i 0)) ≠ 0) && decide (vS F (cdB w (L.getD i 0)) = 0)) := rfl
      unfold X8_admits_b2 X8_admits_j68
      simp (disch := omega) only [gdn, gb0, gb1, ixn, nm1, nI_add, nI_mul, nsub, nI_ltI, nI_leI, nI_eq, eqNO, eqNO2, ltNO, NOlt, leNO, NOle, if_pos, if_neg, Option.bind_some, if_true, if_false, and_self, eq_self, l0, l1, l2, l3, l4, l5, l6, l7, l8, l9, l10, l11, l12, l13, l14, l15, l16, l17, l18, l19, l20, l24, l26, l30, l31, l32, l40, l41, l42, l43, l45, l47, l48, l57, l58, l59, l60, l61, l62, l63, l64, l97, l99, l100, l101, l102, l103, l104, l105, l106, l107, l108, l109, l110, l122, l160, l240, l255, l600, l1000, l3000, l10000, l10007, l10116, l67108863, l67108864, c4, c3, x1]
      rw [show (0 : Int64) = (0 : Int64) from rfl]
      by_cases z1 : vS F (cdA w (L.getD i 0)) = 0
      · rw [if_pos (by rw [cmpz]; exact z1)]
        refine ok_i ⟨rfl, h1', fun j hj => ?_⟩
        by_cases e : j = i
        · subst e; rw [hm, decide_eq_false (fun y => y z1), Bool.false_and]
        · exact h2 j (by omega)
      · rw [if_neg (by rw [cmpz]; exact z1)]
        simp (disch := omega) only [gdn, gb0, gb1, ixn, nm1, nI_add, nI_mul, nsub, nI_ltI, nI_leI, nI_eq, eqNO, eqNO2, ltNO, NOlt, leNO, NOle, if_pos, if_neg, Option.bind_some, if_true, if_false, and_self, eq_self, l0, l1, l2, l3, l4, l5, l6, l7, l8, l9, l10, l11, l12, l13, l14, l15, l16, l17, l18, l19, l20, l24, l26, l30, l31, l32, l40, l41, l42, l43, l45, l47, l48, l57, l58, l59, l60, l61, l62, l63, l64, l97, l99, l100, l101, l102, l103, l104, l105, l106, l107, l108, l109, l110, l122, l160, l240, l255, l600, l1000, l3000, l10000, l10007, l10116, l67108863, l67108864, y1]
        by_cases z2 : vS F (cdB w (L.getD i 0)) = 0
        · rw [if_pos (by rw [cmpz]; exact z2)]
          refine ok_i ⟨v2, h1'', Or.inl ⟨rfl, any_idx.mpr ⟨i, hi, ?_⟩⟩⟩
          rw [hm, decide_eq_true z1, decide_eq_true z2]; rfl
        · rw [if_neg (by rw [cmpz]; exact z2)]
          refine ok_i ⟨rfl, h1'', fun j hj => ?_⟩
          by_cases e : j = i
          · subst e; rw [hm, decide_eq_false z2, Bool.and_false]
          · exact h2 j (by omega)
    · rintro ⟨z, v⟩ ⟨rfl, h1, h2⟩
      simp only at h1 h2
      have c4 : v.1 (stc si) 4 = nI L.length := by rw [(h1.row _ (by simp only [List.mem_cons, List.not_mem_nil, or_false]; omega) (by simp)).1]; exact g1
      unfold X8_admits_b2
      simp (disch := omega) only [gdn, gb0, gb1, ixn, nm1, nI_add, nI_mul, nsub, nI_ltI, nI_leI, nI_eq, eqNO, eqNO2, ltNO, NOlt, leNO, NOle, if_pos, if_neg, Option.bind_some, if_true, if_false, and_self, eq_self, l0, l1, l2, l3, l4, l5, l6, l7, l8, l9, l10, l11, l12, l13, l14, l15, l16, l17, l18, l19, l20, l24, l26, l30, l31, l32, l40, l41, l42, l43, l45, l47, l48, l57, l58, l59, l60, l61, l62, l63, l64, l97, l99, l100, l101, l102, l103, l104, l105, l106, l107, l108, l109, l110, l122, l160, l240, l255, l600, l1000, l3000, l10000, l10007, l10116, l67108863, l67108864, c4]
      refine ok_i ⟨v, h1, Or.inr ⟨rfl, ?_⟩⟩
      cases ha : L.any (mayR w F) with
      | false => rfl
      | true =>
        obtain ⟨i, hi, hp⟩ := any_idx.mp ha
        rw [h2 i hi] at hp; cases hp
  obtain ⟨e, k1, v, k2, k3⟩ := key
  have c4 : v.1 (stc si) 4 = nI L.length := by rw [(k2.row _ (by simp only [List.mem_cons, List.not_mem_nil, or_false]; omega) (by simp)).1]; exact g1
  refine ⟨v, ?_, k2⟩
  unfold X8_admits
  rw [show ((0 : Int32), w) = (nI 0, w) from rfl, k1]
  rcases k3 with ⟨rfl, k3⟩ | ⟨rfl, k3⟩
  · rw [k3, Bool.or_true]; rfl
  · rw [k3, Bool.or_false]
    simp only [Option.bind_some]
    rw [c4]
    by_cases z : L = []
    · subst z
      rw [if_pos (show nI ([] : List Nat).length = 0 from rfl)]; rfl
    · have : L.length ≠ 0 := fun y => z (List.length_eq_zero_iff.mp y)
      rw [if_neg (by rw [show (0 : Int32) = nI 0 from rfl, nI_eq (by omega) (by omega)]; exact this), decide_eq_false z]; rfl
def oJ (a : Option Int64) : Int32 × Int64 := match a with
  | none => (nI 0, 0)
  | some x => (nI 1, x)
theorem take_s {L : List Nat} {i : Nat} (h : i < L.length) : L.take (i + 1) = L.take i ++ [L.getD i 0] := by
  rw [List.take_succ_eq_append_getElem h, getD_el h]
theorem hoursFor_e {w : Wd} (hB : IBo w) (hI : IR w) {R : List (Nat × Nat)} (hR : okRl w R) {si : Nat} (hsi : si < 4) (hG : GAl w w (stc si) R R.length) {F : Nat → Int64} (hF : slc w R 103 R.length ≠ [] → ∀ i, i < 7 → w.2 77 i = F i) : ∃ v, X8_hoursFor si w = some (nI (hrsS w R F), v) ∧ Fr [44] [] w v := by
  obtain ⟨A, S, O, ⟨hA, -, -⟩, hx⟩ := hI.at hB
  obtain ⟨-, ⟨g1, g2⟩, -⟩ := hG
  have hc : stc si = 45 + 5 * si := rfl
  have hl : (slc w R 103 R.length).length ≤ 100 := Nat.le_trans slc_len hR.2
  have hxx := fun r hr => slc_rcx hB hR hx (d := 103) (Or.inr rfl) (r := r) hr
  unfold hrsS
  generalize slc w R 103 R.length = L at *
  have key : ok (lp (X8_hoursFor_b8 si) (nI 0, (0 : Int64), nI 0, w)) (fun e => ∃ v, Fr [44] [] w v ∧ e = ((oJ (hrL w F L)).1, (oJ (hrL w F L)).2, v)) := by
    refine lp_up (fun i s => s.1 = (oJ (hrL w F (L.take i))).1 ∧ s.2.1 = (oJ (hrL w F (L.take i))).2 ∧ s.2.2.1 = nI i ∧ Fr [44] [] w s.2.2.2) L.length ?_ ?_ 0 _ (Nat.zero_le _) ⟨rfl, rfl, rfl, Fr.rf⟩
    · rintro i ⟨p1, p2, p3, v⟩ hi ⟨h3, h4, h5, h1⟩
      simp only at h1 h3 h4 h5
      subst h5
      have hF' : ∀ i, i < 7 → w.2 77 i = F i := hF (fun z => by rw [z] at hi; simp at hi)
      obtain ⟨r1, r2, m, r3⟩ := hxx _ (getD_in hi)
      have rc : ∀ k, k ≠ 44 → v.1 k = w.1 k := fun k hk => (h1.row k (by simpa using hk) (by simp)).1
      have c4 : v.1 (stc si) 6 = nI L.length := by rw [rc _ (by omega)]; exact g1
      have c3 : v.1 (stc si + 4) i = nI (L.getD i 0) := by rw [rc _ (by omega)]; exact g2 i hi
      have ra := ra44 h1
      have r37 : nn v 37 (L.getD i 0) = 103 := by rw [nn_row (rc 37 (by omega))]; exact r2
      obtain ⟨v1, x1, x2⟩ := rvB (r3.ra ra) hA (Or.inr r37) (F := F) (fun i hi => by rw [(h1 77 (by decide) i (by simp)).2]; exact hF' i hi)
      have h1' := h1.tr x2
      have ra' := ra44 h1'
      have rc' : ∀ k, k ≠ 44 → v1.1 k = w.1 k := fun k hk => (h1'.row k (by simpa using hk) (by simp)).1
      obtain ⟨v2, y1, y2⟩ := rvA (r3.ra ra') hA (Or.inr (by rw [nn_row (rc' 37 (by omega))]; exact r2)) (F := F) (fun i hi => by rw [(h1' 77 (by decide) i (by simp)).2]; exact hF' i hi)
      have h1'' := h1'.tr y2
      rw [cdB_ra ra] at x1
      rw [cdA_ra ra'] at y1
      have hs : hrL w F (L.take (i + 1)) = hst w F (hrL w F (L.take i)) (L.getD i 0) := by
        unfold hrL
        rw [take_s hi, List.foldl_append]; rfl
      unfold X8_hoursFor_b8 X8_hoursFor_j87 X8_hoursFor_j91
      simp (disch := omega) only [gdn, gb0, gb1, ixn, nm1, nI_add, nI_mul, nsub, nI_ltI, nI_leI, nI_eq, eqNO, eqNO2, ltNO, NOlt, leNO, NOle, if_pos, if_neg, Option.bind_some, if_true, if_false, and_self, eq_self, l0, l1, l2, l3, l4, l5, l6, l7, l8, l9, l10, l11, l12, l13, l14, l15, l16, l17, l18, l19, l20, l24, l26, l30, l31, l32, l40, l41, l42, l43, l45, l47, l48, l57, l58, l59, l60, l61, l62, l63, l64, l97, l99, l100, l101, l102, l103, l104, l105, l106, l107, l108, l109, l110, l122, l160, l240, l255, l600, l1000, l3000, l10000, l10007, l10116, l67108863, l67108864, c4, c3, x1]
      by_cases z1 : vS F (cdB w (L.getD i 0)) = 0
      · rw [if_pos (by rw [cmpz]; exact z1)]
        simp (disch := omega) only [gdn, gb0, gb1, ixn, nm1, nI_add, nI_mul, nsub, nI_ltI, nI_leI, nI_eq, eqNO, eqNO2, ltNO, NOlt, leNO, NOle, if_pos, if_neg, Option.bind_some, if_true, if_false, and_self, eq_self, l0, l1, l2, l3, l4, l5, l6, l7, l8, l9, l10, l11, l12, l13, l14, l15, l16, l17, l18, l19, l20, l24, l26, l30, l31, l32, l40, l41, l42, l43, l45, l47, l48, l57, l58, l59, l60, l61, l62, l63, l64, l97, l99, l100, l101, l102, l103, l104, l105, l106, l107, l108, l109, l110, l122, l160, l240, l255, l600, l1000, l3000, l10000, l10007, l10116, l67108863, l67108864, y1]
        have hs2 := hs
        unfold hst at hs2
        rw [if_pos z1] at hs2
        cases ha : hrL w F (L.take i) with
        | none =>
          rw [ha] at h3 h4 hs2
          rw [h3, if_pos (show (oJ none).1 = nI 0 from rfl)]
          refine ok_i ⟨?_, ?_, rfl, h1''⟩
          · rw [hs2]; rfl
          · rw [hs2]; rfl
        | some x =>
          rw [ha] at h3 h4 hs2
          rw [h3, h4, if_neg (show ¬ (oJ (some x)).1 = nI 0 by show ¬ nI 1 = nI 0; decide)]
          refine ok_i ⟨?_, ?_, rfl, h1''⟩
          · rw [hs2]; rfl
          · rw [hs2]; rfl
      · rw [if_neg (by rw [cmpz]; exact z1)]
        unfold hst at hs
        rw [if_neg z1] at hs
        exact ok_i ⟨by rw [hs]; exact h3, by rw [hs]; exact h4, rfl, h1'⟩
    · rintro ⟨p1, p2, p3, v⟩ ⟨h3, h4, h5, h1⟩
      simp only at h1 h3 h4 h5
      subst h5
      have c4 : v.1 (stc si) 6 = nI L.length := by rw [(h1.row _ (by simp only [List.mem_cons, List.not_mem_nil, or_false]; omega) (by simp)).1]; exact g1
      rw [List.take_length] at h3 h4
      unfold X8_hoursFor_b8
      simp (disch := omega) only [gdn, gb0, gb1, ixn, nm1, nI_add, nI_mul, nsub, nI_ltI, nI_leI, nI_eq, eqNO, eqNO2, ltNO, NOlt, leNO, NOle, if_pos, if_neg, Option.bind_some, if_true, if_false, and_self, eq_self, l0, l1, l2, l3, l4, l5, l6, l7, l8, l9, l10, l11, l12, l13, l14, l15, l16, l17, l18, l19, l20, l24, l26, l30, l31, l32, l40, l41, l42, l43, l45, l47, l48, l57, l58, l59, l60, l61, l62, l63, l64, l97, l99, l100, l101, l102, l103, l104, l105, l106, l107, l108, l109, l110, l122, l160, l240, l255, l600, l1000, l3000, l10000, l10007, l10116, l67108863, l67108864, c4]
      exact ok_i ⟨v, h1, by rw [h3, h4]⟩
  obtain ⟨e, k1, v, k2, rfl⟩ := key
  refine ⟨v, ?_, k2⟩
  unfold X8_hoursFor
  rw [show ((0 : Int32), (0 : Int64), (0 : Int32), w) = (nI 0, (0 : Int64), nI 0, w) from rfl, k1]
  simp only [Option.bind_some]
  cases hrL w F L with
  | none => rfl
  | some x =>
    rw [if_neg (show ¬ (oJ (some x)).1 = 0 by show ¬ nI 1 = 0; decide)]
    show some (Int64.toInt32 (mxJ 0 (mnJ x 60)), v) = _
    rw [clm_c]; rfl
