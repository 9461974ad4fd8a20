/-! numbers in slots -/
abbrev nn (w : Wd) (k i : Nat) : Nat := ix (w.1 k i)
def isN (w : Wd) (k i b : Nat) : Prop := w.1 k i = nI (nn w k i) ∧ nn w k i < b
theorem isN.of {w : Wd} {k i b n : Nat} (h : w.1 k i = nI n) (hn : n < b) (hb : b ≤ 2 ^ 31) : isN w k i b ∧ nn w k i = n := by
  have e : nn w k i = n := by unfold nn; rw [h]; exact ix_nI (by omega)
  exact ⟨⟨by rw [e]; exact h, by rw [e]; exact hn⟩, e⟩
theorem isN.inn {w : Wd} {k i b : Nat} (h : isN w k i b) (hb : b < 2 ^ 31) : vp_in (w.1 k i) b := by
  rw [h.1]; exact in_nI h.2 hb
theorem isN.mono {w : Wd} {k i b c : Nat} (h : isN w k i b) (hc : b ≤ c) : isN w k i c := ⟨h.1, by have := h.2; omega⟩
theorem isN.tI {w : Wd} {k i b : Nat} (h : isN w k i b) (hb : b ≤ 2 ^ 31) : (w.1 k i).toInt = (nn w k i : Int) := by
  have h2 := h.2
  have e : (nI (nn w k i)).toInt = (nn w k i : Int) := nI_toInt (by omega)
  rw [← h.1] at e
  exact e
theorem isN.row {w w' : Wd} {k i b : Nat} (e : w'.1 k = w.1 k) (h : isN w k i b) : isN w' k i b := by unfold isN nn; rw [e]; exact h
theorem tl_0 : (0 : Int32).toInt = 0 := by decide
theorem tl_1 : (1 : Int32).toInt = 1 := by decide
theorem tl_2 : (2 : Int32).toInt = 2 := by decide
theorem tl_3 : (3 : Int32).toInt = 3 := by decide
theorem tl_4 : (4 : Int32).toInt = 4 := by decide
theorem tl_5 : (5 : Int32).toInt = 5 := by decide
theorem tl_6 : (6 : Int32).toInt = 6 := by decide
theorem tl_7 : (7 : Int32).toInt = 7 := by decide
theorem tl_8 : (8 : Int32).toInt = 8 := by decide
theorem tl_9 : (9 : Int32).toInt = 9 := by decide
theorem tl_10 : (10 : Int32).toInt = 10 := by decide
theorem tl_11 : (11 : Int32).toInt = 11 := by decide
theorem tl_12 : (12 : Int32).toInt = 12 := by decide
theorem tl_13 : (13 : Int32).toInt = 13 := by decide
theorem tl_14 : (14 : Int32).toInt = 14 := by decide
theorem tl_15 : (15 : Int32).toInt = 15 := by decide
theorem tl_16 : (16 : Int32).toInt = 16 := by decide
theorem tl_17 : (17 : Int32).toInt = 17 := by decide
theorem tl_18 : (18 : Int32).toInt = 18 := by decide
theorem tl_19 : (19 : Int32).toInt = 19 := by decide
theorem tl_20 : (20 : Int32).toInt = 20 := by decide
theorem tl_21 : (21 : Int32).toInt = 21 := by decide
theorem tl_22 : (22 : Int32).toInt = 22 := by decide
theorem tl_23 : (23 : Int32).toInt = 23 := by decide
theorem tl_24 : (24 : Int32).toInt = 24 := by decide
theorem tl_25 : (25 : Int32).toInt = 25 := by decide
theorem tl_26 : (26 : Int32).toInt = 26 := by decide
theorem tl_27 : (27 : Int32).toInt = 27 := by decide
theorem tl_28 : (28 : Int32).toInt = 28 := by decide
theorem tl_29 : (29 : Int32).toInt = 29 := by decide
theorem tl_30 : (30 : Int32).toInt = 30 := by decide
theorem tl_31 : (31 : Int32).toInt = 31 := by decide
theorem tl_32 : (32 : Int32).toInt = 32 := by decide
theorem tl_33 : (33 : Int32).toInt = 33 := by decide
theorem tl_34 : (34 : Int32).toInt = 34 := by decide
theorem tl_35 : (35 : Int32).toInt = 35 := by decide
theorem tl_36 : (36 : Int32).toInt = 36 := by decide
theorem tl_37 : (37 : Int32).toInt = 37 := by decide
theorem tl_38 : (38 : Int32).toInt = 38 := by decide
theorem tl_39 : (39 : Int32).toInt = 39 := by decide
theorem tl_40 : (40 : Int32).toInt = 40 := by decide
theorem tl_41 : (41 : Int32).toInt = 41 := by decide
theorem tl_42 : (42 : Int32).toInt = 42 := by decide
theorem tl_43 : (43 : Int32).toInt = 43 := by decide
theorem tl_44 : (44 : Int32).toInt = 44 := by decide
theorem tl_45 : (45 : Int32).toInt = 45 := by decide
theorem tl_46 : (46 : Int32).toInt = 46 := by decide
theorem tl_47 : (47 : Int32).toInt = 47 := by decide
theorem tl_48 : (48 : Int32).toInt = 48 := by decide
theorem tl_49 : (49 : Int32).toInt = 49 := by decide
theorem tl_50 : (50 : Int32).toInt = 50 := by decide
theorem tl_51 : (51 : Int32).toInt = 51 := by decide
theorem tl_52 : (52 : Int32).toInt = 52 := by decide
theorem tl_53 : (53 : Int32).toInt = 53 := by decide
theorem tl_54 : (54 : Int32).toInt = 54 := by decide
theorem tl_55 : (55 : Int32).toInt = 55 := by decide
theorem tl_56 : (56 : Int32).toInt = 56 := by decide
theorem tl_57 : (57 : Int32).toInt = 57 := by decide
theorem tl_58 : (58 : Int32).toInt = 58 := by decide
theorem tl_59 : (59 : Int32).toInt = 59 := by decide
theorem tl_60 : (60 : Int32).toInt = 60 := by decide
theorem tl_61 : (61 : Int32).toInt = 61 := by decide
theorem tl_62 : (62 : Int32).toInt = 62 := by decide
theorem tl_63 : (63 : Int32).toInt = 63 := by decide
theorem tl_97 : (97 : Int32).toInt = 97 := by decide
theorem tl_99 : (99 : Int32).toInt = 99 := by decide
theorem tl_100 : (100 : Int32).toInt = 100 := by decide
theorem tl_101 : (101 : Int32).toInt = 101 := by decide
theorem tl_102 : (102 : Int32).toInt = 102 := by decide
theorem tl_103 : (103 : Int32).toInt = 103 := by decide
theorem tl_104 : (104 : Int32).toInt = 104 := by decide
theorem tl_105 : (105 : Int32).toInt = 105 := by decide
theorem tl_106 : (106 : Int32).toInt = 106 := by decide
theorem tl_107 : (107 : Int32).toInt = 107 := by decide
theorem tl_108 : (108 : Int32).toInt = 108 := by decide
theorem tl_109 : (109 : Int32).toInt = 109 := by decide
theorem tl_110 : (110 : Int32).toInt = 110 := by decide
theorem tl_160 : (160 : Int32).toInt = 160 := by decide
theorem tl_240 : (240 : Int32).toInt = 240 := by decide
theorem tl_255 : (255 : Int32).toInt = 255 := by decide
theorem tl_600 : (600 : Int32).toInt = 600 := by decide
theorem tl_1000 : (1000 : Int32).toInt = 1000 := by decide
theorem tl_10000 : (10000 : Int32).toInt = 10000 := by decide
theorem tl_10007 : (10007 : Int32).toInt = 10007 := by decide
theorem tl_67108864 : (67108864 : Int32).toInt = 67108864 := by decide
theorem tl_1000000 : (1000000 : Int32).toInt = 1000000 := by decide
theorem tl_m1 : (-1 : Int32).toInt = -1 := by decide
/-! the small functions -/
theorem wi (a lo hi : Int32) (w : Wd) : X11_within a lo hi w = if lo.toInt ≤ a.toInt ∧ a.toInt ≤ hi.toInt then 1 else 0 := by
  unfold X11_within X11_withinO
  by_cases h1 : a < lo
  · rw [if_pos h1]
    rw [lt_t] at h1
    rw [if_neg (by omega)]
    rfl
  · rw [if_neg h1]
    by_cases h2 : hi < a
    · rw [if_pos h2]
      rw [lt_t] at h2
      rw [if_neg (by omega)]
      rfl
    · rw [if_neg h2]
      rw [lt_t] at h1 h2
      rw [if_pos (by omega)]
      rfl
theorem wi0 (a lo hi : Int32) (w : Wd) : X11_within a lo hi w = 0 ↔ ¬ (lo.toInt ≤ a.toInt ∧ a.toInt ≤ hi.toInt) := by
  rw [wi]
  by_cases h : lo.toInt ≤ a.toInt ∧ a.toInt ≤ hi.toInt
  · rw [if_pos h]; simp [h]
  · rw [if_neg h]; simp [h]
theorem deny_e (v : Int32) (w : Wd) : X11_deny v w = some (-1, puI w 0 10 v) := rfl
theorem refuse_e (v : Int32) (w : Wd) : X11_refuse v w = some (0, puI w 0 10 v) := rfl
theorem agree_e (w : Wd) : X11_agree w = some (1, puI w 0 10 0) := rfl
theorem answer_e (v : Int32) (w : Wd) : X11_answer v w = some (v, puI w 0 10 0) := rfl
theorem mref_e (v : Int32) (w : Wd) : X12_refuse v w = some (-1, puI w 97 0 v) := rfl
theorem mgiv_e (v : Int32) (w : Wd) : X12_gives v w = some (v, puI w 97 0 0) := rfl
theorem mis_e (v : Int32) (w : Wd) : X12_is v w = some (if v = 0 then 1 else 0, puI w 97 0 v) := by
  unfold X12_is
  by_cases h : v = 0
  · simp [h]
  · simp [h]
theorem nb0 : narrow .boolean (.int 0) = .int 0 := by decide
theorem nb1 : narrow .boolean (.int 1) = .int 1 := by decide
/-! the invariant's parts -/
def IS (w : Wd) : Prop := w.1 0 10 = w.1 97 0
def IT (w : Wd) : Prop := w.2 2 = w.2 100 ∧ w.1 3 = w.1 98 ∧ w.1 4 = w.1 99 ∧ ∀ t, t < 4 → w.1 4 t = -1 ∨ isN w 4 t 61
def supT : List Nat := [2, 3, 4, 98, 99, 100]
theorem IT.sm {w w' : Wd} {S : List Nat} {T : List (Nat × Nat)} (h : IT w) (e : Sm supT [] w w') : IT w' := by
  have e2 := e.1 2 (by decide)
  have e3 := e.1 3 (by decide)
  have e4 := e.1 4 (by decide)
  have e98 := e.1 98 (by decide)
  have e99 := e.1 99 (by decide)
  have e100 := e.1 100 (by decide)
  refine ⟨by rw [e2.2, e100.2]; exact h.1, by rw [e3.1, e98.1]; exact h.2.1, by rw [e4.1, e99.1]; exact h.2.2.1, fun t ht => ?_⟩
  rcases h.2.2.2 t ht with q | q
  · exact Or.inl (by rw [e4.1]; exact q)
  · exact Or.inr (q.row e4.1)
theorem isTray0 (a : Int32) (w : Wd) : X9_isTray a w = 0 ↔ ¬ (0 ≤ a.toInt ∧ a.toInt ≤ 3) := by
  unfold X9_isTray X9_isTrayO
  exact wi0 a 0 3 w
theorem misTray0 (a : Int32) (w : Wd) : X12_isTray a w = 0 ↔ ¬ (0 ≤ a.toInt ∧ a.toInt ≤ 3) := by
  unfold X12_isTray X12_isTrayO
  simp only [lt_t, le_t, tl_0, tl_4]
  by_cases h1 : a.toInt < 0
  · rw [if_pos h1]; simp; omega
  · rw [if_neg h1]
    by_cases h2 : 4 ≤ a.toInt
    · simp only [if_pos h2]; simp; omega
    · simp only [if_neg h2]; simp; omega
