/-! at the beginning all holds -/
def LLs : List (Nat × Nat × Int32) := l_X12 l_X11
theorem look_no {k : Nat} : ∀ {l : List (Nat × Nat × Int32)}, l.all (fun e => decide (e.1 ≠ k)) = true → ∀ j, look l k j = 0
  | [], _, _ => rfl
  | (a, i, v) :: l, h, j => by
    rw [List.all_cons, Bool.and_eq_true] at h
    have h1 : a ≠ k := of_decide_eq_true h.1
    show (if k = a ∧ j = i then v else look l k j) = 0
    rw [if_neg (fun z => h1 z.1.symm)]
    exact look_no h.2 j
theorem look_ge {k n : Nat} : ∀ {l : List (Nat × Nat × Int32)}, l.all (fun e => decide (e.1 = k → e.2.1 < n)) = true → ∀ j, n ≤ j → look l k j = 0
  | [], _, _, _ => rfl
  | (a, i, v) :: l, h, j, hj => by
    rw [List.all_cons, Bool.and_eq_true] at h
    have h1 : a = k → i < n := of_decide_eq_true h.1
    show (if k = a ∧ j = i then v else look l k j) = 0
    rw [if_neg (fun z => by have := h1 z.1.symm; omega)]
    exact look_ge h.2 j hj
def Full (w : Wd) : Prop := (∀ k j, k < 178 → j < nf k → 2 ≤ fk k j → w.1 k j ≠ 0) ∧ ∀ i, i < 4 → w.1 43 i ≠ 0
theorem full_k : ∀ k, k < 178 → ∀ j, j < nf k → 2 ≤ fk k j → look LLs k j ≠ 0 := by decide +kernel
theorem full_3 : nf 4 = 0 ∧ nf 70 = 0 ∧ nf 72 = 0 := by decide +kernel
theorem full_43 : ∀ i, i < 4 → look LLs 43 i ≠ 0 := by decide +kernel
theorem r147 : ∀ j, j < 15 → look LLs 147 j = nI 6 := by decide +kernel
theorem r149 : ∀ j, j < 15 → look LLs 149 j = nI (ltsI.getD j 0) := by decide +kernel
theorem r99 : ∀ j, j < 4 → look LLs 99 j = NO := by decide +kernel
theorem lts_lt : ∀ j, j < 15 → ltsI.getD j 0 < 67108864 := by decide +kernel
theorem r147g : LLs.all (fun e => decide (e.1 = 147 → e.2.1 < 15)) = true := by decide +kernel
theorem r149g : LLs.all (fun e => decide (e.1 = 149 → e.2.1 < 15)) = true := by decide +kernel
theorem r99g : LLs.all (fun e => decide (e.1 = 99 → e.2.1 < 4)) = true := by decide +kernel
def zRows : List Nat := [3, 6, 7, 8, 9, 10, 11, 12, 13, 14, 15, 16, 17, 20, 21, 22, 23, 24, 25, 33, 66, 71, 98, 101, 102, 103, 104, 105, 106, 108, 109, 110, 111, 112, 113, 114, 115, 116, 117, 118, 119, 120, 148]
theorem zrow : zRows.all (fun k => decide (k ≠ 4) && decide (k ≠ 70) && decide (k ≠ 72) && LLs.all (fun e => decide (e.1 ≠ k))) = true := by decide +kernel
def vals : List (Nat × Nat × Int32) := [(0, 10, nI 0), (97, 0, nI 0), (5, 0, nI 0), (5, 2, nI 0), (5, 8, nI 0), (5, 12, nI 0), (5, 15, nI 0), (97, 4, nI 0), (97, 5, nI 0), (97, 6, nI 0), (97, 7, nI 0), (97, 8, nI 0), (19, 0, nI 0), (19, 7, nI 59), (97, 9, nI 0), (97, 11, nI 59), (97, 10, nI 0), (19, 8, NO), (65, 2, nI 0), (97, 33, nI 0), (97, 39, NO), (65, 4, NO), (97, 40, NO), (65, 5, NO), (88, 6, nI 0), (97, 105, nI 0), (69, 3, nI 4), (97, 83, nI 4), (80, 0, nI 0), (97, 86, nI 0), (30, 0, nI 0), (97, 42, nI 0), (45, 0, NO), (50, 0, NO), (55, 0, NO), (60, 0, NO), (30, 13, nI 0), (97, 43, nI 0), (97, 44, nI 0), (73, 4, nI 0)]
theorem vals_e : vals.all (fun e => decide (e.1 ≠ 4) && decide (e.1 ≠ 70) && decide (e.1 ≠ 72) && decide (look LLs e.1 e.2.1 = e.2.2)) = true := by decide +kernel
theorem ia_0 {J : Nat → Nat → Int64} {w : Wd} (h : R0 LLs f4I (f70I 15) (f72I 15) J w) (hJ : ∀ k, k ≠ 67 → k ≠ 96 → J k = fun _ => 0) (h67 : J 67 = j67 17) (h96 : J 96 = tbl 3721 z64) : IA w := by
  obtain ⟨h1, h4, h70, h72, h2⟩ := h
  have rz : ∀ k, k ∈ zRows → w.1 k = fun _ => 0 := fun k hk => by
    have := List.all_eq_true.mp zrow k hk
    simp only [Bool.and_eq_true, decide_eq_true_eq] at this
    obtain ⟨⟨⟨a, b⟩, c⟩, d⟩ := this
    funext j
    rw [h1 k a b c j, look_no d]
  have v : ∀ e ∈ vals, w.1 e.1 e.2.1 = e.2.2 := fun e he => by
    have := List.all_eq_true.mp vals_e e he
    simp only [Bool.and_eq_true, decide_eq_true_eq] at this
    obtain ⟨⟨⟨a, b⟩, c⟩, d⟩ := this
    rw [h1 _ a b c, d]
  have n0 : ∀ k i, (k, i, nI 0) ∈ vals → nn w k i = 0 := fun k i hm => nn_of (v _ hm) (by omega)
  have is0 : ∀ k i b, (k, i, nI 0) ∈ vals → 0 < b → b ≤ 2 ^ 31 → isN w k i b := fun k i b hm hb hb2 => isN.of (v _ hm) hb hb2
  have e50 := n0 5 0 (by decide)
  have e52 := n0 5 2 (by decide)
  have e58 := n0 5 8 (by decide)
  have e512 := n0 5 12 (by decide)
  have e515 := n0 5 15 (by decide)
  have e190 := n0 19 0 (by decide)
  have e300 := n0 30 0 (by decide)
  have e886 := n0 88 6 (by decide)
  have e800 := n0 80 0 (by decide)
  have w70 : ∀ k, k < 15 → w.1 70 k = nI 6 := fun k hk => by rw [h70]; exact if_pos hk
  have w72 : ∀ k, k < 15 → w.1 72 k = nI (ltsI.getD k 0) := fun k hk => by rw [h72]; exact if_pos hk
  refine ⟨?_, ?_, ?_, ?_, ?_, ?_, ?_, ?_, ?_, ?_, ?_, ?_, ?_, ?_, ?_, ?_⟩
  · unfold IS
    rw [v (0, 10, nI 0) (by decide), v (97, 0, nI 0) (by decide)]
  · refine ⟨⟨is0 5 0 _ (by decide) (by omega) (by omega), is0 5 2 _ (by decide) (by omega) (by omega), is0 5 8 _ (by decide) (by omega) (by omega), is0 5 12 _ (by decide) (by omega) (by omega), is0 5 15 _ (by decide) (by omega) (by omega)⟩, ⟨?_, ?_, ?_, ?_, ?_⟩, ⟨?_, ?_, ?_, ?_, ?_, ?_⟩, ⟨?_, ?_, ?_, ?_, ?_, ?_⟩, fun i hi => by omega, fun i hi => by omega, fun i hi => by omega, fun i hi => by omega, fun i hi => by omega⟩
    · rw [v (97, 4, nI 0) (by decide), v (5, 0, nI 0) (by decide)]
    · rw [v (97, 5, nI 0) (by decide), v (5, 2, nI 0) (by decide)]
    · rw [v (97, 6, nI 0) (by decide), v (5, 8, nI 0) (by decide)]
    · rw [v (97, 7, nI 0) (by decide), v (5, 12, nI 0) (by decide)]
    · rw [v (97, 8, nI 0) (by decide), v (5, 15, nI 0) (by decide)]
    · rw [rz 101 (by decide), rz 6 (by decide)]
    · rw [rz 102 (by decide), rz 7 (by decide)]
    · rw [rz 103 (by decide), rz 8 (by decide)]
    · rw [rz 104 (by decide), rz 9 (by decide)]
    · rw [rz 105 (by decide), rz 10 (by decide)]
    · rw [rz 106 (by decide), rz 11 (by decide)]
    · rw [rz 108 (by decide), rz 12 (by decide)]
    · rw [rz 109 (by decide), rz 13 (by decide)]
    · rw [rz 110 (by decide), rz 14 (by decide)]
    · rw [rz 111 (by decide), rz 15 (by decide)]
    · rw [rz 112 (by decide), rz 16 (by decide)]
    · rw [rz 113 (by decide), rz 17 (by decide)]
  · refine ⟨⟨is0 19 0 _ (by decide) (by omega) (by omega), isN.of (n := 59) (v (19, 7, nI 59) (by decide)) (by omega) (by omega)⟩, ⟨?_, ?_, ?_⟩, ⟨?_, ?_, ?_, ?_, ?_, ?_⟩, fun i hi => by omega⟩
    · rw [v (97, 9, nI 0) (by decide), v (19, 0, nI 0) (by decide)]
    · rw [v (97, 11, nI 59) (by decide), v (19, 7, nI 59) (by decide)]
    · rw [if_pos e190]; exact v (97, 10, nI 0) (by decide)
    · rw [rz 114 (by decide), rz 20 (by decide)]
    · rw [rz 115 (by decide), rz 21 (by decide)]
    · rw [rz 116 (by decide), rz 22 (by decide)]
    · rw [rz 117 (by decide), rz 23 (by decide)]
    · rw [rz 118 (by decide), rz 24 (by decide)]
    · rw [rz 119 (by decide), rz 25 (by decide)]
  · exact Or.inl (v (19, 8, NO) (by decide))
  · refine ⟨by rw [h2, hJ 100 (by decide) (by decide), hJ 2 (by decide) (by decide)], by rw [rz 98 (by decide), rz 3 (by decide)], ?_, fun t ht => Or.inl (by rw [h4]; exact if_pos ht)⟩
    funext j
    rw [h1 99 (by decide) (by decide) (by decide) j, h4]
    unfold f4I
    by_cases q : j < 4
    · rw [if_pos q, r99 j q]
    · rw [if_neg q, look_ge r99g j (by omega)]
  · refine ⟨is0 65 2 _ (by decide) (by omega) (by omega), by rw [v (97, 33, nI 0) (by decide), v (65, 2, nI 0) (by decide)], by rw [rz 120 (by decide), rz 66 (by decide)], fun i => ?_⟩
    rw [rz 66 (by decide)]
    show -128 ≤ (0 : Int32).toInt ∧ (0 : Int32).toInt ≤ 127
    decide
  · exact ⟨by rw [v (97, 39, NO) (by decide), v (65, 4, NO) (by decide)], by rw [v (97, 40, NO) (by decide), v (65, 5, NO) (by decide)]⟩
  · exact ⟨is0 88 6 _ (by decide) (by omega) (by omega), by rw [v (97, 105, nI 0) (by decide), v (88, 6, nI 0) (by decide)], fun i hi => by omega⟩
  · refine ⟨fun k hk => ⟨isN.of (w70 k hk) (by omega) (by omega), by rw [nn_of (w70 k hk) (by omega)]; omega, isN.of (n := 0) (by rw [rz 71 (by decide)]; rfl) (Nat.two_pow_pos k) (Nat.pow_le_pow_right (by omega) (by omega)), isN.of (w72 k hk) (lts_lt k hk) (by omega)⟩, ⟨?_, by rw [rz 148 (by decide), rz 71 (by decide)], ?_⟩, isN.of (n := 4) (v (69, 3, nI 4) (by decide)) (by omega) (by omega), by rw [nn_of (v (69, 3, nI 4) (by decide)) (by omega)]; omega, by rw [v (97, 83, nI 4) (by decide), v (69, 3, nI 4) (by decide)]⟩
    · funext j
      rw [h1 147 (by decide) (by decide) (by decide) j, h70]
      unfold f70I
      by_cases q : j < 15
      · rw [if_pos q, r147 j q]
      · rw [if_neg q, look_ge r147g j (by omega)]
    · funext j
      rw [h1 149 (by decide) (by decide) (by decide) j, h72]
      unfold f72I
      by_cases q : j < 15
      · rw [if_pos q, r149 j q]
      · rw [if_neg q, look_ge r149g j (by omega)]
  · intro n k hn hk
    rw [h2, h96]
    exact tbl_at (by omega) (by omega)
  · exact ⟨is0 80 0 _ (by decide) (by omega) (by omega), by rw [v (97, 86, nI 0) (by decide), v (80, 0, nI 0) (by decide)], fun p hp => by omega⟩
  · intro i hi
    rw [h2, h67]
    exact if_pos hi
  · have z33 : ∀ t, w.1 33 t = nI 0 := fun t => by rw [rz 33 (by decide)]; rfl
    refine ⟨⟨is0 30 0 _ (by decide) (by omega) (by omega), by rw [v (97, 42, nI 0) (by decide), v (30, 0, nI 0) (by decide)]⟩, fun t ht => by omega, fun t _ => isN.of (z33 t) (by omega) (by omega), nn_of (z33 0) (by omega), fun i hi => by omega, fun i j _ hj => by omega, fun t ht => by omega, fun t ht => by omega⟩
  · intro s hs
    refine Or.inl ?_
    have hs4 : s = 0 ∨ s = 1 ∨ s = 2 ∨ s = 3 := by omega
    rcases hs4 with rfl | rfl | rfl | rfl
    · exact v (45, 0, NO) (by decide)
    · exact v (50, 0, NO) (by decide)
    · exact v (55, 0, NO) (by decide)
    · exact v (60, 0, NO) (by decide)
  · exact ⟨0, 0, 0, ⟨v (30, 13, nI 0) (by decide), v (97, 43, nI 0) (by decide), v (97, 44, nI 0) (by decide)⟩, ⟨by omega, by omega, by omega⟩, fun t ht => by omega⟩
  · exact ⟨0, by omega, v (73, 4, nI 0) (by decide), fun week hw => by omega⟩
theorem pure_main (b L : Nat) (xs : Nat → Int32) (hL : L ≤ 3584) : ∃ w1 w2, X11_init zw = some w1 ∧ X12_init w1 = some w2 ∧ Full w2 ∧ ok (lp (L_law_b18 b L xs) ((0 : Int32), w2)) (fun _ => True) := by
  obtain ⟨w1, k1, J, k2, k3, k4, k5⟩ := i_X11
  obtain ⟨w2, m1, m2⟩ := i_X12 k2
  refine ⟨w1, w2, k1, m1, ⟨fun k j hk hj hf => ?_, fun i hi => ?_⟩, law_all hL (ia_0 m2 k3 k4 k5)⟩
  · have h4 : k ≠ 4 := fun z => by rw [z, full_3.1] at hj; omega
    have h70 : k ≠ 70 := fun z => by rw [z, full_3.2.1] at hj; omega
    have h72 : k ≠ 72 := fun z => by rw [z, full_3.2.2] at hj; omega
    rw [m2.1 k h4 h70 h72 j]
    exact full_k k hk j hj hf
  · rw [m2.1 43 (by decide) (by decide) (by decide) i]
    exact full_43 i hi
