/-! what a RULE comes to -/
theorem nn_row {w w' : Wd} {k i : Nat} (e : w'.1 k = w.1 k) : nn w' k i = nn w k i := nn_eq (by rw [e])
theorem getD_el {L : List Nat} {i : Nat} (h : i < L.length) : L.getD i 0 = L[i] := by
  rw [List.getD_eq_getElem?_getD, List.getElem?_eq_getElem h]; rfl
theorem getD_a {L M : List Nat} {i : Nat} (h : i < L.length) : (L ++ M).getD i 0 = L.getD i 0 := by
  rw [List.getD_eq_getElem?_getD, List.getD_eq_getElem?_getD, List.getElem?_append_left h]
theorem getD_ar {L M : List Nat} {i : Nat} : (L ++ M).getD (L.length + i) 0 = M.getD i 0 := by
  rw [List.getD_eq_getElem?_getD, List.getD_eq_getElem?_getD, List.getElem?_append_right (by omega), show L.length + i - L.length = i by omega]
def cdR (w : Wd) (a b : Nat) : List Nat := (List.range (b - a)).map (fun i => nn w 42 (a + i))
def cdA (w : Wd) (r : Nat) : List Nat := cdR w (nn w 39 r) (nn w 40 r)
def cdB (w : Wd) (r : Nat) : List Nat := cdR w (nn w 40 r) (nn w 41 r)
def RA (w v : Wd) : Prop := ∀ k, (37 ≤ k ∧ k ≤ 42) ∨ (124 ≤ k ∧ k ≤ 141) → v.1 k = w.1 k
theorem cdA_ra {w v : Wd} (h : RA w v) {r : Nat} : cdA v r = cdA w r := by
  unfold cdA cdR nn
  rw [h 39 (by omega), h 40 (by omega), h 42 (by omega)]
theorem cdB_ra {w v : Wd} (h : RA w v) {r : Nat} : cdB v r = cdB w r := by
  unfold cdB cdR nn
  rw [h 40 (by omega), h 41 (by omega), h 42 (by omega)]
theorem RCx.ra {w v : Wd} {r m A S O : Nat} (h : RCx w w r m A S O) (e : RA w v) : RCx v v r m A S O :=
  h.c (fun k k1 k2 => by rw [e k (by omega)]) (fun i _ => by rw [e 42 (by omega)]) (fun k k1 k2 => by rw [e k (by omega)]) (fun i _ => by rw [e 140 (by omega), e 141 (by omega)]; exact ⟨rfl, rfl⟩) (fun i _ k k1 k2 => by rw [e k (by omega)]) (Nat.le_refl _) (Nat.le_refl _) (Nat.le_refl _)
theorem cdR_e {w : Wd} {b : Nat} {C : List Nat} (h : CB w b C) (h2 : ∀ x ∈ C, x < 2 ^ 31) : cdR w b (b + C.length) = C := by
  unfold cdR
  rw [show b + C.length - b = C.length by omega]
  refine List.ext_getElem (by rw [List.length_map, List.length_range]) (fun i h1 h3 => ?_)
  rw [List.getElem_map, List.getElem_range]
  have e := h i h3
  rw [getD_el h3] at e
  exact nn_of e (h2 _ (List.getElem_mem h3))
/-- the lists behind a RULE -/
theorem RCx.get {w : Wd} {r m A S O : Nat} (h : RCx w w r m A S O) (hA : A ≤ 3000) (hd : nn w 37 r = 101 ∨ nn w 37 r = 103) : ∃ b tt Tu, w.1 39 r = nI b ∧ w.1 40 r = nI (b + (cdA w r).length) ∧ w.1 41 r = nI (b + (cdA w r).length + (cdB w r).length) ∧ b + (cdA w r).length + (cdB w r).length ≤ A ∧ CB w b (cdA w r) ∧ CB w (b + (cdA w r).length) (cdB w r) ∧ hg 40 (cdA w r) 0 = some 1 ∧ (∃ q, q ≤ 1 ∧ hg 40 (cdB w r) 0 = some q) ∧ (∀ x ∈ cdA w r, x < 11000) ∧ (∀ x ∈ cdB w r, x < 11000) ∧ (w.1 130 m = nI tt ∧ w.1 131 m = nI (tt + Tu.length) ∧ tt + Tu.length ≤ O ∧ TA w tt S Tu ∧ (∀ o ∈ Tu, okOne o) ∧ ∀ F, decide (vS F (cdB w r) ≠ 0) = (decide (Tu ≠ []) && hld F Tu)) ∧ (nn w 37 r = 101 → ∃ tf T, w.1 129 m = nI tf ∧ tt = tf + T.length ∧ TA w tf S T ∧ (∀ o ∈ T, okOne o) ∧ ∀ F, decide (vS F (cdA w r) ≠ 0) = hld F T) ∧ (nn w 37 r = 103 → ∃ sf, w.1 127 m = nI sf ∧ w.1 128 m = nI (sf + (cdA w r).length) ∧ sf + (cdA w r).length ≤ S ∧ SGN w sf (cdA w r) ∧ hg 20 (cdA w r) 0 = some 1 ∧ ∀ x ∈ cdA w r, smC x) := by
  obtain ⟨b, C, Cu, tt, Tu, h1, h2, h3, h4, h5, ⟨h6, h7, h8, h9, h10⟩, h11, h12⟩ := h
  have bLn : ∀ x : Bool, decide (bL x ≠ 0) = x := fun x => by cases x <;> decide
  have hv : ∀ {C : List Nat} {T : List One}, tOK C T → ∀ F, decide (vS F C ≠ 0) = hld F T := fun hT F => by
    unfold vS
    rw [hT.2.1 F]
    exact bLn _
  have cA : CB w b C := fun i hi => by
    rw [h5 i (by rw [List.length_append]; omega), getD_a hi]
  have cU : CB w (b + C.length) Cu := fun i hi => by
    rw [Nat.add_assoc, h5 (C.length + i) (by rw [List.length_append]; omega), getD_ar]
  have lC : hg 40 C 0 = some 1 ∧ ∀ x ∈ C, x < 11000 := by
    rcases hd with z | z
    · obtain ⟨tf, T, -, -, -, -, h13⟩ := h11 z
      exact ⟨h13.1, h13.2.2.2⟩
    · obtain ⟨sf, -, -, -, -, h14, h15⟩ := h12 z
      exact ⟨hg_B (by omega) h14, fun x hx => by have := h15 x hx; unfold smC at this; omega⟩
  have lU : (∃ q, q ≤ 1 ∧ hg 40 Cu 0 = some q) ∧ ∀ x ∈ Cu, x < 11000 := by
    rcases h10 with ⟨-, z⟩ | ⟨-, z⟩
    · rw [z]; exact ⟨⟨0, by omega, rfl⟩, fun x hx => by cases hx⟩
    · exact ⟨⟨1, by omega, z.1⟩, z.2.2.2⟩
  have e39 : nn w 39 r = b := nn_of h1 (by omega)
  have e40 : nn w 40 r = b + C.length := nn_of h2 (by omega)
  have e41 : nn w 41 r = b + C.length + Cu.length := nn_of h3 (by omega)
  have eA : cdA w r = C := by unfold cdA; rw [e39, e40]; exact cdR_e cA (fun x hx => by have := lC.2 x hx; omega)
  have eB : cdB w r = Cu := by unfold cdB; rw [e40, e41]; exact cdR_e cU (fun x hx => by have := lU.2 x hx; omega)
  rw [eA, eB]
  refine ⟨b, tt, Tu, h1, h2, h3, h4, cA, cU, lC.1, lU.1, lC.2, lU.2, ⟨h6, h7, h8, h9, ?_, fun F => ?_⟩, fun z => ?_, h12⟩
  · rcases h10 with ⟨z, -⟩ | ⟨-, z⟩
    · rw [z]; intro o ho; cases ho
    · exact z.2.2.1
  · rcases h10 with ⟨z, y⟩ | ⟨y, z⟩
    · rw [z, y]; rfl
    · rw [hv z F, decide_eq_true y, Bool.true_and]
  · obtain ⟨tf, T, k1, k2, k3, -, k5⟩ := h11 z
    exact ⟨tf, T, k1, k2, k3, k5.2.2.1, hv k5⟩
theorem rvA {w : Wd} {r m A S O : Nat} (h : RCx w w r m A S O) (hA : A ≤ 3000) (hd : nn w 37 r = 101 ∨ nn w 37 r = 103) {F : Nat → Int64} (hF : ∀ i, i < 7 → w.2 77 i = F i) : ∃ v, X0_run (w.1 39 r) (w.1 40 r) w = some (vS F (cdA w r), v) ∧ Fr [44] [] w v := by
  obtain ⟨b, tt, Tu, h1, h2, h3, h4, h5, h6, h7, h8, h9, h10, -⟩ := h.get hA hd
  rw [h1, h2]
  exact run_e hF h5 h9 (by omega) h7 (by omega)
theorem rvB {w : Wd} {r m A S O : Nat} (h : RCx w w r m A S O) (hA : A ≤ 3000) (hd : nn w 37 r = 101 ∨ nn w 37 r = 103) {F : Nat → Int64} (hF : ∀ i, i < 7 → w.2 77 i = F i) : ∃ v, X0_run (w.1 40 r) (w.1 41 r) w = some (vS F (cdB w r), v) ∧ Fr [44] [] w v := by
  obtain ⟨b, tt, Tu, h1, h2, h3, h4, h5, h6, h7, ⟨q, hq, h8⟩, h9, h10, -⟩ := h.get hA hd
  rw [h2, h3]
  exact run_e hF h6 h10 (by omega) h8 hq
theorem rvH {w : Wd} {r m A S O : Nat} (h : RCx w w r m A S O) (hA : A ≤ 3000) (hS : S ≤ 4000) (hO : O ≤ 1500) (hd : nn w 37 r = 101) {F : Nat → Int64} (hF : ∀ i, i < 7 → w.2 159 i = F i) : ∃ v, X12_holds (w.1 129 m) (w.1 130 m) w = some (bI (decide (vS F (cdA w r) ≠ 0)), v) ∧ Fr [160] [] w v := by
  obtain ⟨b, tt, Tu, h1, h2, h3, h4, h5, h6, h7, h8, h9, h10, ⟨g1, g2, g3, -⟩, h12, -⟩ := h.get hA (Or.inl hd)
  obtain ⟨tf, T, k1, k2, k3, k4, k5⟩ := h12 hd
  rw [k5 F, k1, g1, k2]
  exact holds_e hF hS (by omega) k3 k4
theorem rvU {w : Wd} {r m A S O : Nat} (h : RCx w w r m A S O) (hm : m < 120) (hA : A ≤ 3000) (hS : S ≤ 4000) (hO : O ≤ 1500) (hd : nn w 37 r = 101 ∨ nn w 37 r = 103) {F : Nat → Int64} (hF : ∀ i, i < 7 → w.2 159 i = F i) : ∃ v, X12_isUnless (nI m) w = some (bI (decide (vS F (cdB w r) ≠ 0)), v) ∧ Fr [160] [] w v := by
  obtain ⟨b, tt, Tu, h1, h2, h3, h4, h5, h6, h7, h8, h9, h10, ⟨g1, g2, g3, g4, g5, g6⟩, -⟩ := h.get hA hd
  rw [g6 F]
  exact unless_e hF hm hS (by omega) g1 g2 g4 g5
theorem rvS {w : Wd} {r m A S O : Nat} (h : RCx w w r m A S O) (hA : A ≤ 3000) (hS : S ≤ 4000) (hd : nn w 37 r = 103) {F : Nat → Int64} (hF : ∀ i, i < 7 → w.2 159 i = F i) : ∃ v, X12_work (w.1 127 m) (w.1 128 m) w = some (vS F (cdA w r), v) ∧ Fr [160] [] w v := by
  obtain ⟨b, tt, Tu, h1, h2, h3, h4, h5, h6, h7, h8, h9, h10, -, -, h13⟩ := h.get hA (Or.inr hd)
  obtain ⟨sf, k1, k2, k3, k4, k5, k6⟩ := h13 hd
  rw [k1, k2]
  exact work_e hF k4 k6 (by omega) k5
/-! who MAY, and for how many HOURS -/
noncomputable def mayR (w : Wd) (F : Nat → Int64) (r : Nat) : Bool := decide (vS F (cdA w r) ≠ 0) && decide (vS F (cdB w r) = 0)
noncomputable def hst (w : Wd) (F : Nat → Int64) (a : Option Int64) (r : Nat) : Option Int64 := if vS F (cdB w r) = 0 then some (match a with
  | none => vS F (cdA w r)
  | some x => mxJ x (vS F (cdA w r))) else a
noncomputable def hrL (w : Wd) (F : Nat → Int64) (L : List Nat) : Option Int64 := L.foldl (hst w F) none
def clm (x : Int64) : Nat := if x.toInt < 0 then 0 else if 60 < x.toInt then 60 else x.toInt.toNat
theorem clm_le {x : Int64} : clm x ≤ 60 := by
  unfold clm
  (repeat' split) <;> omega
theorem clm_c {x : Int64} : Int64.toInt32 (mxJ (0 : Int64) (mnJ x (60 : Int64))) = nI (clm x) := by
  have e0 : (0 : Int64).toInt = 0 := by decide
  have e60 : (60 : Int64).toInt = 60 := by decide
  unfold mxJ mnJ clm
  simp only [Int64.lt_iff_toInt_lt, e0, e60]
  by_cases q1 : 60 < x.toInt
  · rw [if_pos q1, if_neg (show ¬ (60 : Int64).toInt < 0 by decide), if_neg (show ¬ x.toInt < 0 by omega), if_pos q1]; rfl
  · rw [if_neg q1]
    by_cases q2 : x.toInt < 0
    · rw [if_pos q2, if_pos q2]; rfl
    · rw [if_neg q2, if_neg q2, if_neg q1]
      obtain ⟨n, hn⟩ : ∃ n : Nat, x.toInt = n := ⟨x.toInt.toNat, by omega⟩
      rw [hn]
      have : x = lN n := by
        apply Int64.toInt_inj.mp
        rw [hn, lN_t (by omega)]
      rw [this]
      apply Int32.toInt_inj.mp
      rw [Int64.toInt_toInt32, lN_t (by omega), show ((n : Int)).toNat = n by omega, tI (by omega)]
      exact Int.bmod_eq_of_le (by omega) (by omega)
theorem mnJ_comm {x y : Int64} : mnJ x y = mnJ y x := by
  unfold mnJ
  simp only [Int64.lt_iff_toInt_lt]
  by_cases q1 : y.toInt < x.toInt
  · rw [if_pos q1, if_neg (by omega)]
  · rw [if_neg q1]
    by_cases q2 : x.toInt < y.toInt
    · rw [if_pos q2]
    · rw [if_neg q2]; exact Int64.toInt_inj.mp (by omega)
def hrV (a : Option Int64) : Nat := match a with
  | none => 6
  | some x => clm x
theorem hrV_le {a : Option Int64} : hrV a ≤ 60 := by
  unfold hrV
  split
  · omega
  · exact clm_le
noncomputable def mayS (w : Wd) (R : List (Nat × Nat)) (F : Nat → Int64) : Bool := decide (slc w R 101 R.length = []) || (slc w R 101 R.length).any (mayR w F)
noncomputable def hrsS (w : Wd) (R : List (Nat × Nat)) (F : Nat → Int64) : Nat := hrV (hrL w F (slc w R 103 R.length))
