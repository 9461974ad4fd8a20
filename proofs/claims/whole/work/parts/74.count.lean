/-! COUNTS -/
def bnm : Nat → Nat → Nat
  | _, 0 => 1
  | 0, _ + 1 => 0
  | n + 1, k + 1 => bnm n k + bnm n (k + 1)
theorem bnm_gt : ∀ n k, n < k → bnm n k = 0
  | 0, 0, h => by omega
  | 0, k + 1, _ => by unfold bnm; rfl
  | n + 1, 0, h => by omega
  | n + 1, k + 1, h => by unfold bnm; rw [bnm_gt n k (by omega), bnm_gt n (k + 1) (by omega)]
theorem bnm_0 (n : Nat) : bnm n 0 = 1 := by cases n <;> rfl
theorem bnm_pos : ∀ n k, k ≤ n → 1 ≤ bnm n k
  | n, 0, _ => by rw [bnm_0]; omega
  | 0, k + 1, h => by omega
  | n + 1, k + 1, h => by unfold bnm; have := bnm_pos n k (by omega); omega
theorem bnm_bd : ∀ n k, bnm (n + 3) k ≤ 3 * 2 ^ n
  | 0, 0 => by decide
  | 0, 1 => by decide
  | 0, 2 => by decide
  | 0, 3 => by decide
  | 0, k + 4 => by rw [bnm_gt _ _ (by omega)]; omega
  | n + 1, 0 => by rw [bnm_0]; have := Nat.two_pow_pos (n + 1); omega
  | n + 1, k + 1 => by
    have h1 := bnm_bd n k
    have h2 := bnm_bd n (k + 1)
    have h3 : bnm (n + 1 + 3) (k + 1) = bnm (n + 3) k + bnm (n + 3) (k + 1) := rfl
    rw [h3, Nat.pow_succ]
    omega
theorem bnm_small {n k : Nat} (h : n ≤ 60) : bnm n k ≤ 3 * 2 ^ 57 := by
  have h0 : ∀ m, m ≤ 2 → ∀ k, bnm m k ≤ 2 := by
    intro m hm k
    have : m = 0 ∨ m = 1 ∨ m = 2 := by omega
    rcases this with rfl | rfl | rfl
    · match k with
      | 0 => decide
      | k + 1 => rw [bnm_gt _ _ (by omega)]; omega
    · match k with
      | 0 => decide
      | 1 => decide
      | k + 2 => rw [bnm_gt _ _ (by omega)]; omega
    · match k with
      | 0 => decide
      | 1 => decide
      | 2 => decide
      | k + 3 => rw [bnm_gt _ _ (by omega)]; omega
  by_cases q : n ≤ 2
  · have := h0 n q k; omega
  · obtain ⟨m, rfl⟩ : ∃ m, n = m + 3 := ⟨n - 3, by omega⟩
    have h1 := bnm_bd m k
    have h2 : 2 ^ m ≤ 2 ^ 57 := Nat.pow_le_pow_right (by omega) (by omega)
    omega
theorem big_chance {c : Nat} (h1 : 1 ≤ c) (h2 : c ≤ 3 * 2 ^ 57) : ¬ lg_cmp (lN (20 * c)) (lN c) ≤ 0 := by
  rw [lg_cmp_le, Int64.le_iff_toInt_le]
  unfold lN
  rw [lg_ofNat_toInt (by omega), lg_ofNat_toInt (by omega)]
  omega
def sgN (lo hi : Nat) (t : Nat → Nat) : Nat → Nat
  | 0 => 0
  | n + 1 => if lo ≤ n ∧ n ≤ hi then sgN lo hi t n + t n else sgN lo hi t n
theorem sgN_lo {lo hi : Nat} {t : Nat → Nat} : ∀ n, n ≤ lo → sgN lo hi t n = 0
  | 0, _ => rfl
  | n + 1, h => by unfold sgN; rw [if_neg (by omega)]; exact sgN_lo n (by omega)
theorem sgN_hi {lo hi : Nat} {t : Nat → Nat} : ∀ n, hi + 1 ≤ n → sgN lo hi t n = sgN lo hi t (hi + 1)
  | 0, h => by omega
  | n + 1, h => by
    by_cases q : hi = n
    · rw [q]
    · rw [show sgN lo hi t (n + 1) = sgN lo hi t n from by rw [sgN, if_neg (by omega)]]
      exact sgN_hi n (by omega)
theorem sgN_0 {lo hi : Nat} {t : Nat → Nat} : ∀ n, (∀ x, x < n → lo ≤ x → x ≤ hi → t x = 0) → sgN lo hi t n = 0
  | 0, _ => rfl
  | n + 1, h => by
    unfold sgN
    rw [sgN_0 n (fun x hx => h x (by omega))]
    by_cases q : lo ≤ n ∧ n ≤ hi
    · rw [if_pos q, h n (by omega) q.1 q.2]
    · rw [if_neg q]
theorem sgN_1 {lo hi c x : Nat} {t : Nat → Nat} (hx : lo ≤ x ∧ x ≤ hi) (hc : t x = c) (h0 : ∀ y, lo ≤ y → y ≤ hi → y ≠ x → t y = 0) : ∀ n, x < n → sgN lo hi t n = c
  | 0, h => by omega
  | n + 1, h => by
    unfold sgN
    by_cases q : x = n
    · subst q
      rw [if_pos hx, sgN_0 x (fun y hy h1 h2 => h0 y h1 h2 (by omega)), hc, Nat.zero_add]
    · rw [sgN_1 hx hc h0 n (by omega)]
      by_cases z : lo ≤ n ∧ n ≤ hi
      · rw [if_pos z, h0 n z.1 z.2 (fun e => q e.symm), Nat.add_zero]
      · rw [if_neg z]
def trm (all drawn r k : Nat) : Nat := bnm r k * bnm (all - r) (drawn - k)
/-- is there a chance -/
def chc (all drawn lo hi r : Nat) : Prop := ¬ lg_cmp (lN (20 * sgN lo hi (trm all drawn r) (drawn + 1))) (lN (bnm all drawn)) ≤ 0
def ID (w : Wd) : Prop := ∀ n k, n ≤ 60 → k ≤ n → w.2 96 (61 * n + k) = lN (bnm n k)
theorem ID.sm {w w' : Wd} (h : ID w) (e : w'.2 96 = w.2 96) : ID w' := fun n k hn hk => by rw [e]; exact h n k hn hk
theorem choose_e {w : Wd} (h : ID w) {n k : Nat} (hn : n ≤ 60) (hk : k ≤ 60) : X1_choose (nI n) (nI k) w = some (lN (bnm n k)) := by
  unfold X1_choose
  by_cases q : k ≤ n
  · have := h n k hn q
    simp (disch := omega) only [gdn, gb0, gb1, ixn, nm1, nI_add, nI_mul, nsub, nI_ltI, nI_leI, nI_eq, eqNO, eqNO2, ltNO, NOlt, leNO, NOle, if_pos, if_neg, Option.bind_some, if_true, if_false, and_self, eq_self, l0, l1, l2, l3, l4, l5, l6, l7, l8, l9, l10, l11, l12, l13, l14, l15, l16, l17, l18, l19, l20, l24, l26, l30, l31, l32, l40, l41, l42, l43, l45, l47, l48, l57, l58, l59, l60, l61, l62, l63, l64, l97, l99, l100, l101, l102, l103, l104, l105, l106, l107, l108, l109, l110, l122, l160, l240, l255, l600, l1000, l3000, l10000, l10007, l10116, l67108863, l67108864]
    rw [show n * 61 + k = 61 * n + k by omega, this]
  · rw [bnm_gt n k (by omega)]
    simp (disch := omega) only [gdn, gb0, gb1, ixn, nm1, nI_add, nI_mul, nsub, nI_ltI, nI_leI, nI_eq, eqNO, eqNO2, ltNO, NOlt, leNO, NOle, if_pos, if_neg, Option.bind_some, if_true, if_false, and_self, eq_self, l0, l1, l2, l3, l4, l5, l6, l7, l8, l9, l10, l11, l12, l13, l14, l15, l16, l17, l18, l19, l20, l24, l26, l30, l31, l32, l40, l41, l42, l43, l45, l47, l48, l57, l58, l59, l60, l61, l62, l63, l64, l97, l99, l100, l101, l102, l103, l104, l105, l106, l107, l108, l109, l110, l122, l160, l240, l255, l600, l1000, l3000, l10000, l10007, l10116, l67108863, l67108864]
    rfl
theorem chance_e {w : Wd} (h : ID w) {all r drawn lo hi : Nat} (ha : all ≤ 60) (hr : r ≤ all) (hd : drawn ≤ all) (hlo : lo ≤ hi + 1) (hhi : hi ≤ drawn) : X1_hasChance (nI all) (nI r) (nI drawn) (nI lo) (nI hi) w = some (fg (chc all drawn lo hi r)) := by
  have hlp := lp_for (b := X1_hasChance_b7 (nI all) (nI r) (nI drawn) (nI hi) w) (fun i => (lN (sgN lo hi (trm all drawn r) (lo + i)), nI (lo + i))) (hi + 1 - lo) (e := lN (sgN lo hi (trm all drawn r) (drawn + 1))) (fun i hi2 => ?_) ?_ 0 (Nat.zero_le _)
  · rw [sgN_lo _ (by omega)] at hlp
    unfold X1_hasChance
    rw [show ((0 : Int64), nI lo) = (lN 0, nI (lo + 0)) from rfl, hlp]
    simp only [Option.bind_some]
    rw [choose_e h ha (by omega)]
    simp only [Option.bind_some]
    rw [show (20 : Int64) = lN 20 from rfl, lN_mul]
    by_cases q : chc all drawn lo hi r
    · rw [fg_t q, if_neg q]; rfl
    · rw [fg_f q, if_pos (Classical.byContradiction q)]; rfl
  · unfold X1_hasChance_b7
    have h1 := choose_e h (n := r) (k := lo + i) (by omega) (by omega)
    have h2 := choose_e h (n := all - r) (k := drawn - (lo + i)) (by omega) (by omega)
    simp (disch := omega) only [gdn, gb0, gb1, ixn, nm1, nI_add, nI_mul, nsub, nI_ltI, nI_leI, nI_eq, eqNO, eqNO2, ltNO, NOlt, leNO, NOle, if_pos, if_neg, Option.bind_some, if_true, if_false, and_self, eq_self, l0, l1, l2, l3, l4, l5, l6, l7, l8, l9, l10, l11, l12, l13, l14, l15, l16, l17, l18, l19, l20, l24, l26, l30, l31, l32, l40, l41, l42, l43, l45, l47, l48, l57, l58, l59, l60, l61, l62, l63, l64, l97, l99, l100, l101, l102, l103, l104, l105, l106, l107, l108, l109, l110, l122, l160, l240, l255, l600, l1000, l3000, l10000, l10007, l10116, l67108863, l67108864, h1, h2, lN_mul, lN_add]
    rw [show sgN lo hi (trm all drawn r) (lo + (i + 1)) = sgN lo hi (trm all drawn r) (lo + i) + bnm r (lo + i) * bnm (all - r) (drawn - (lo + i)) from by rw [show lo + (i + 1) = lo + i + 1 by omega, sgN, if_pos (by omega)]; rfl, show lo + (i + 1) = lo + i + 1 by omega]
  · unfold X1_hasChance_b7
    rw [show lo + (hi + 1 - lo) = hi + 1 by omega, sgN_hi (drawn + 1) (by omega)]
    simp (disch := omega) only [gdn, gb0, gb1, ixn, nm1, nI_add, nI_mul, nsub, nI_ltI, nI_leI, nI_eq, eqNO, eqNO2, ltNO, NOlt, leNO, NOle, if_pos, if_neg, Option.bind_some, if_true, if_false, and_self, eq_self, l0, l1, l2, l3, l4, l5, l6, l7, l8, l9, l10, l11, l12, l13, l14, l15, l16, l17, l18, l19, l20, l24, l26, l30, l31, l32, l40, l41, l42, l43, l45, l47, l48, l57, l58, l59, l60, l61, l62, l63, l64, l97, l99, l100, l101, l102, l103, l104, l105, l106, l107, l108, l109, l110, l122, l160, l240, l255, l600, l1000, l3000, l10000, l10007, l10116, l67108863, l67108864]
/-- at both ends there is one -/
theorem chc_all {all drawn found : Nat} (ha : all ≤ 60) (hd : drawn ≤ all) (hf : found ≤ drawn) : chc all drawn found drawn all := by
  unfold chc
  rw [sgN_1 (x := drawn) (c := bnm all drawn) ⟨hf, Nat.le_refl _⟩ (by unfold trm; rw [Nat.sub_self, Nat.sub_self, bnm_0, Nat.mul_one]) (fun y h1 h2 h3 => by unfold trm; rw [Nat.sub_self, bnm_gt 0 (drawn - y) (by omega), Nat.mul_zero]) _ (by omega)]
  exact big_chance (bnm_pos _ _ hd) (bnm_small ha)
theorem chc_0 {all drawn found : Nat} (ha : all ≤ 60) (hd : drawn ≤ all) : chc all drawn 0 found 0 := by
  unfold chc
  rw [sgN_1 (x := 0) (c := bnm all drawn) ⟨by omega, by omega⟩ (by unfold trm; rw [Nat.sub_zero, Nat.sub_zero, bnm_0, Nat.one_mul]) (fun y h1 h2 h3 => by unfold trm; rw [bnm_gt 0 y (by omega), Nat.zero_mul]) _ (by omega)]
  exact big_chance (bnm_pos _ _ hd) (bnm_small ha)
theorem low_e {w : Wd} (h : ID w) {all drawn found r0 : Nat} (ha : all ≤ 60) (hd : drawn ≤ all) (hf : found ≤ drawn) (hr : r0 ≤ all) (h1 : chc all drawn found drawn r0) (h2 : ∀ j, j < r0 → ¬ chc all drawn found drawn j) : X1_low (nI all) (nI drawn) (nI found) w = some (nI r0) := by
  unfold X1_low
  have hlp := lp_for (b := X1_low_b3 (nI all) (nI drawn) (nI found) w) (fun i => nI i) r0 (e := nI r0) (fun i hi => ?_) ?_ 0 (Nat.zero_le _)
  · rw [show (0 : Int32) = nI 0 from rfl, hlp]; rfl
  · unfold X1_low_b3
    have hc := chance_e h (all := all) (r := i) (drawn := drawn) (lo := found) (hi := drawn) ha (by omega) hd (by omega) (by omega)
    rw [fg_f (h2 i hi)] at hc
    simp (disch := omega) only [gdn, gb0, gb1, ixn, nm1, nI_add, nI_mul, nsub, nI_ltI, nI_leI, nI_eq, eqNO, eqNO2, ltNO, NOlt, leNO, NOle, if_pos, if_neg, Option.bind_some, if_true, if_false, and_self, eq_self, l0, l1, l2, l3, l4, l5, l6, l7, l8, l9, l10, l11, l12, l13, l14, l15, l16, l17, l18, l19, l20, l24, l26, l30, l31, l32, l40, l41, l42, l43, l45, l47, l48, l57, l58, l59, l60, l61, l62, l63, l64, l97, l99, l100, l101, l102, l103, l104, l105, l106, l107, l108, l109, l110, l122, l160, l240, l255, l600, l1000, l3000, l10000, l10007, l10116, l67108863, l67108864, hc]
  · unfold X1_low_b3
    by_cases q : r0 = all
    · rw [q]; simp (disch := omega) only [gdn, gb0, gb1, ixn, nm1, nI_add, nI_mul, nsub, nI_ltI, nI_leI, nI_eq, eqNO, eqNO2, ltNO, NOlt, leNO, NOle, if_pos, if_neg, Option.bind_some, if_true, if_false, and_self, eq_self, l0, l1, l2, l3, l4, l5, l6, l7, l8, l9, l10, l11, l12, l13, l14, l15, l16, l17, l18, l19, l20, l24, l26, l30, l31, l32, l40, l41, l42, l43, l45, l47, l48, l57, l58, l59, l60, l61, l62, l63, l64, l97, l99, l100, l101, l102, l103, l104, l105, l106, l107, l108, l109, l110, l122, l160, l240, l255, l600, l1000, l3000, l10000, l10007, l10116, l67108863, l67108864]
    · have hc := chance_e h (all := all) (r := r0) (drawn := drawn) (lo := found) (hi := drawn) ha (by omega) hd (by omega) (by omega)
      rw [fg_t h1] at hc
      simp (disch := omega) only [gdn, gb0, gb1, ixn, nm1, nI_add, nI_mul, nsub, nI_ltI, nI_leI, nI_eq, eqNO, eqNO2, ltNO, NOlt, leNO, NOle, if_pos, if_neg, Option.bind_some, if_true, if_false, and_self, eq_self, l0, l1, l2, l3, l4, l5, l6, l7, l8, l9, l10, l11, l12, l13, l14, l15, l16, l17, l18, l19, l20, l24, l26, l30, l31, l32, l40, l41, l42, l43, l45, l47, l48, l57, l58, l59, l60, l61, l62, l63, l64, l97, l99, l100, l101, l102, l103, l104, l105, l106, l107, l108, l109, l110, l122, l160, l240, l255, l600, l1000, l3000, l10000, l10007, l10116, l67108863, l67108864, hc]
theorem high_e {w : Wd} (h : ID w) {all drawn found r0 : Nat} (ha : all ≤ 60) (hd : drawn ≤ all) (hf : found ≤ drawn) (hr : r0 ≤ all) (h1 : chc all drawn 0 found r0) (h2 : ∀ j, r0 < j → j ≤ all → ¬ chc all drawn 0 found j) : X1_high (nI all) (nI drawn) (nI found) w = some (nI r0) := by
  unfold X1_high
  have hlp := lp_for (b := X1_high_b3 (nI all) (nI drawn) (nI found) w) (fun i => nI (all - i)) (all - r0) (e := nI r0) (fun i hi => ?_) ?_ 0 (Nat.zero_le _)
  · rw [Nat.sub_zero] at hlp
    rw [hlp]
    rfl
  · unfold X1_high_b3
    have hc := chance_e h (all := all) (r := all - i) (drawn := drawn) (lo := 0) (hi := found) ha (by omega) hd (by omega) (by omega)
    rw [fg_f (h2 (all - i) (by omega) (by omega))] at hc
    simp (disch := omega) only [gdn, gb0, gb1, ixn, nm1, nI_add, nI_mul, nsub, nI_ltI, nI_leI, nI_eq, eqNO, eqNO2, ltNO, NOlt, leNO, NOle, if_pos, if_neg, Option.bind_some, if_true, if_false, and_self, eq_self, l0, l1, l2, l3, l4, l5, l6, l7, l8, l9, l10, l11, l12, l13, l14, l15, l16, l17, l18, l19, l20, l24, l26, l30, l31, l32, l40, l41, l42, l43, l45, l47, l48, l57, l58, l59, l60, l61, l62, l63, l64, l97, l99, l100, l101, l102, l103, l104, l105, l106, l107, l108, l109, l110, l122, l160, l240, l255, l600, l1000, l3000, l10000, l10007, l10116, l67108863, l67108864, hc, addNO]
    rw [show all - (i + 1) = all - i - 1 by omega]
  · unfold X1_high_b3
    rw [show all - (all - r0) = r0 by omega]
    by_cases q : r0 = 0
    · rw [q]; simp (disch := omega) only [gdn, gb0, gb1, ixn, nm1, nI_add, nI_mul, nsub, nI_ltI, nI_leI, nI_eq, eqNO, eqNO2, ltNO, NOlt, leNO, NOle, if_pos, if_neg, Option.bind_some, if_true, if_false, and_self, eq_self, l0, l1, l2, l3, l4, l5, l6, l7, l8, l9, l10, l11, l12, l13, l14, l15, l16, l17, l18, l19, l20, l24, l26, l30, l31, l32, l40, l41, l42, l43, l45, l47, l48, l57, l58, l59, l60, l61, l62, l63, l64, l97, l99, l100, l101, l102, l103, l104, l105, l106, l107, l108, l109, l110, l122, l160, l240, l255, l600, l1000, l3000, l10000, l10007, l10116, l67108863, l67108864]
    · have hc := chance_e h (all := all) (r := r0) (drawn := drawn) (lo := 0) (hi := found) ha (by omega) hd (by omega) (by omega)
      rw [fg_t h1] at hc
      simp (disch := omega) only [gdn, gb0, gb1, ixn, nm1, nI_add, nI_mul, nsub, nI_ltI, nI_leI, nI_eq, eqNO, eqNO2, ltNO, NOlt, leNO, NOle, if_pos, if_neg, Option.bind_some, if_true, if_false, and_self, eq_self, l0, l1, l2, l3, l4, l5, l6, l7, l8, l9, l10, l11, l12, l13, l14, l15, l16, l17, l18, l19, l20, l24, l26, l30, l31, l32, l40, l41, l42, l43, l45, l47, l48, l57, l58, l59, l60, l61, l62, l63, l64, l97, l99, l100, l101, l102, l103, l104, l105, l106, l107, l108, l109, l110, l122, l160, l240, l255, l600, l1000, l3000, l10000, l10007, l10116, l67108863, l67108864, hc]
/-! the model's table -/
def tbl (m : Nat) (z : Nat → Int64) : Nat → Int64 := fun j => if j < m then lN (bnm (j / 61) (j % 61)) else z j
theorem tbl_lt {m j : Nat} {z : Nat → Int64} (h : j < m) : tbl m z j = lN (bnm (j / 61) (j % 61)) := if_pos h
theorem tbl_at {m n k : Nat} {z : Nat → Int64} (h : 61 * n + k < m) (hk : k < 61) : tbl m z (61 * n + k) = lN (bnm n k) := by
  rw [tbl_lt h, show (61 * n + k) / 61 = n by omega, show (61 * n + k) % 61 = k by omega]
theorem tbl_up {m n k : Nat} {z : Nat → Int64} (hm : m = 61 * n + k) (hk : k < 61) : vp_updL (tbl m z) m (lN (bnm n k)) = tbl (m + 1) z := by
  funext j
  unfold vp_updL tbl
  by_cases q : j = m
  · rw [if_pos q, if_pos (by omega), show j / 61 = n by omega, show j % 61 = k by omega]
  · rw [if_neg q]
    by_cases q2 : j < m
    · rw [if_pos q2, if_pos (by omega)]
    · rw [if_neg q2, if_neg (by omega)]
theorem fill_in {w : Wd} {n : Nat} (hn : n ≤ 60) : lp (X12_fillChoose_b20 (nI n)) (nI 1, seJ w 177 (tbl (61 * n + 1) (w.2 177))) = some (seJ w 177 (tbl (61 * (n + 1)) (w.2 177))) := by
  have hlp := lp_for (b := X12_fillChoose_b20 (nI n)) (fun i => (nI (i + 1), seJ w 177 (tbl (61 * n + (i + 1)) (w.2 177)))) 60 (e := seJ w 177 (tbl (61 * (n + 1)) (w.2 177))) (fun i hi => ?_) ?_ 0 (Nat.zero_le _)
  · exact hlp
  · unfold X12_fillChoose_b20 X12_fillChoose_j73
    by_cases q : n = 0
    · subst q
      have hup := tbl_up (m := 61 * 0 + (i + 1)) (n := 0) (k := i + 1) (z := w.2 177) rfl (by omega)
      rw [show lN (bnm 0 (i + 1)) = (0 : Int64) from rfl] at hup
      simp (disch := omega) only [gdn, gb0, gb1, ixn, nm1, nI_add, nI_mul, nsub, nI_ltI, nI_leI, nI_eq, eqNO, eqNO2, ltNO, NOlt, leNO, NOle, if_pos, if_neg, Option.bind_some, if_true, if_false, and_self, eq_self, l0, l1, l2, l3, l4, l5, l6, l7, l8, l9, l10, l11, l12, l13, l14, l15, l16, l17, l18, l19, l20, l24, l26, l30, l31, l32, l40, l41, l42, l43, l45, l47, l48, l57, l58, l59, l60, l61, l62, l63, l64, l97, l99, l100, l101, l102, l103, l104, l105, l106, l107, l108, l109, l110, l122, l160, l240, l255, l600, l1000, l3000, l10000, l10007, l10116, l67108863, l67108864, I_oth, I_J, J_oth, J_I, I_row, J_row, SI_row, SI_oth, SI_J, SJ_row, SJ_oth, SJ_I, upd_s, upd_n, updL_s, updL_n, ne_eq, not_false_eq_true, pu_seJ, hup]
      rfl
    · have hup := tbl_up (m := 61 * n + (i + 1)) (n := n) (k := i + 1) (z := w.2 177) rfl (by omega)
      have r1 := tbl_at (m := 61 * n + (i + 1)) (n := n - 1) (k := i) (z := w.2 177) (by omega) (by omega)
      have r2 := tbl_at (m := 61 * n + (i + 1)) (n := n - 1) (k := i + 1) (z := w.2 177) (by omega) (by omega)
      have hb : bnm (n - 1) i + bnm (n - 1) (i + 1) = bnm n (i + 1) := by
        obtain ⟨m, rfl⟩ : ∃ m, n = m + 1 := ⟨n - 1, by omega⟩
        rfl
      simp (disch := omega) only [gdn, gb0, gb1, ixn, nm1, nI_add, nI_mul, nsub, nI_ltI, nI_leI, nI_eq, eqNO, eqNO2, ltNO, NOlt, leNO, NOle, if_pos, if_neg, Option.bind_some, if_true, if_false, and_self, eq_self, l0, l1, l2, l3, l4, l5, l6, l7, l8, l9, l10, l11, l12, l13, l14, l15, l16, l17, l18, l19, l20, l24, l26, l30, l31, l32, l40, l41, l42, l43, l45, l47, l48, l57, l58, l59, l60, l61, l62, l63, l64, l97, l99, l100, l101, l102, l103, l104, l105, l106, l107, l108, l109, l110, l122, l160, l240, l255, l600, l1000, l3000, l10000, l10007, l10116, l67108863, l67108864, I_oth, I_J, J_oth, J_I, I_row, J_row, SI_row, SI_oth, SI_J, SJ_row, SJ_oth, SJ_I, upd_s, upd_n, updL_s, updL_n, ne_eq, not_false_eq_true, show 61 * (n - 1) + (i + 1) - 1 = 61 * (n - 1) + i by omega, r1, r2, lN_add, hb, pu_seJ, hup]
      rfl
  · unfold X12_fillChoose_b20
    rw [show 61 * n + (60 + 1) = 61 * (n + 1) by omega]
    simp (disch := omega) only [gdn, gb0, gb1, ixn, nm1, nI_add, nI_mul, nsub, nI_ltI, nI_leI, nI_eq, eqNO, eqNO2, ltNO, NOlt, leNO, NOle, if_pos, if_neg, Option.bind_some, if_true, if_false, and_self, eq_self, l0, l1, l2, l3, l4, l5, l6, l7, l8, l9, l10, l11, l12, l13, l14, l15, l16, l17, l18, l19, l20, l24, l26, l30, l31, l32, l40, l41, l42, l43, l45, l47, l48, l57, l58, l59, l60, l61, l62, l63, l64, l97, l99, l100, l101, l102, l103, l104, l105, l106, l107, l108, l109, l110, l122, l160, l240, l255, l600, l1000, l3000, l10000, l10007, l10116, l67108863, l67108864]
theorem fill_e (w : Wd) : X12_fillChoose w = some (seJ w 177 (tbl 3721 (w.2 177))) := by
  have hlp := lp_for (b := X12_fillChoose_b2) (fun n => (nI n, seJ w 177 (tbl (61 * n) (w.2 177)))) 61 (e := seJ w 177 (tbl 3721 (w.2 177))) (fun n hn => ?_) ?_ 0 (Nat.zero_le _)
  · rw [seJ_same (show tbl (61 * 0) (w.2 177) = w.2 177 from by funext j; exact if_neg (by omega))] at hlp
    unfold X12_fillChoose
    rw [show ((0 : Int32), w) = (nI 0, w) from rfl, hlp]
    rfl
  · unfold X12_fillChoose_b2
    have hup := tbl_up (m := 61 * n) (n := n) (k := 0) (z := w.2 177) rfl (by omega)
    rw [bnm_0, show lN 1 = (1 : Int64) from rfl] at hup
    have hf := fill_in (w := w) (n := n) (by omega)
    simp (disch := omega) only [gdn, gb0, gb1, ixn, nm1, nI_add, nI_mul, nsub, nI_ltI, nI_leI, nI_eq, eqNO, eqNO2, ltNO, NOlt, leNO, NOle, if_pos, if_neg, Option.bind_some, if_true, if_false, and_self, eq_self, l0, l1, l2, l3, l4, l5, l6, l7, l8, l9, l10, l11, l12, l13, l14, l15, l16, l17, l18, l19, l20, l24, l26, l30, l31, l32, l40, l41, l42, l43, l45, l47, l48, l57, l58, l59, l60, l61, l62, l63, l64, l97, l99, l100, l101, l102, l103, l104, l105, l106, l107, l108, l109, l110, l122, l160, l240, l255, l600, l1000, l3000, l10000, l10007, l10116, l67108863, l67108864, I_oth, I_J, J_oth, J_I, I_row, J_row, SI_row, SI_oth, SI_J, SJ_row, SJ_oth, SJ_I, upd_s, upd_n, updL_s, updL_n, ne_eq, not_false_eq_true, pu_seJ, hup, hf]
  · unfold X12_fillChoose_b2
    simp (disch := omega) only [gdn, gb0, gb1, ixn, nm1, nI_add, nI_mul, nsub, nI_ltI, nI_leI, nI_eq, eqNO, eqNO2, ltNO, NOlt, leNO, NOle, if_pos, if_neg, Option.bind_some, if_true, if_false, and_self, eq_self, l0, l1, l2, l3, l4, l5, l6, l7, l8, l9, l10, l11, l12, l13, l14, l15, l16, l17, l18, l19, l20, l24, l26, l30, l31, l32, l40, l41, l42, l43, l45, l47, l48, l57, l58, l59, l60, l61, l62, l63, l64, l97, l99, l100, l101, l102, l103, l104, l105, l106, l107, l108, l109, l110, l122, l160, l240, l255, l600, l1000, l3000, l10000, l10007, l10116, l67108863, l67108864]
theorem msum_e {w : Wd} {z : Nat → Int64} {all drawn found what r : Nat} {a5 : Int32} (ha : all ≤ 60) (hr : r ≤ all) (hd : drawn ≤ all) (hf : found ≤ drawn) (hw : what < 2) : lp (X12_count_b69 (nI all) (nI drawn) (nI found) (nI what) a5 (nI r) (seJ w 177 (tbl 3721 z))) ((0 : Int64), nI 0) = some (lN (sgN (if what = 0 then found else 0) (if what = 0 then drawn else found) (trm all drawn r) (drawn + 1))) := by
  refine lp_for (b := X12_count_b69 (nI all) (nI drawn) (nI found) (nI what) a5 (nI r) (seJ w 177 (tbl 3721 z))) (fun x => (lN (sgN (if what = 0 then found else 0) (if what = 0 then drawn else found) (trm all drawn r) x), nI x)) (drawn + 1) (fun x hx => ?_) ?_ 0 (Nat.zero_le _)
  · have r1 := tbl_at (m := 3721) (n := r) (k := x) (z := z) (by omega) (by omega)
    have r2 := tbl_at (m := 3721) (n := all - r) (k := drawn - x) (z := z) (by omega) (by omega)
    have hi : 61 * (all - r) + drawn - x = 61 * (all - r) + (drawn - x) := by omega
    unfold X12_count_b69 X12_count_j105 X12_count_j148
    by_cases q0 : what = 0
    · by_cases q : found ≤ x
      · have hs : sgN (if what = 0 then found else 0) (if what = 0 then drawn else found) (trm all drawn r) (x + 1) = sgN (if what = 0 then found else 0) (if what = 0 then drawn else found) (trm all drawn r) x + bnm r x * bnm (all - r) (drawn - x) := by
          rw [sgN, if_pos (by rw [if_pos q0, if_pos q0]; omega)]; rfl
        rw [hs]
        simp (disch := omega) only [gdn, gb0, gb1, ixn, nm1, nI_add, nI_mul, nsub, nI_ltI, nI_leI, nI_eq, eqNO, eqNO2, ltNO, NOlt, leNO, NOle, if_pos, if_neg, Option.bind_some, if_true, if_false, and_self, eq_self, l0, l1, l2, l3, l4, l5, l6, l7, l8, l9, l10, l11, l12, l13, l14, l15, l16, l17, l18, l19, l20, l24, l26, l30, l31, l32, l40, l41, l42, l43, l45, l47, l48, l57, l58, l59, l60, l61, l62, l63, l64, l97, l99, l100, l101, l102, l103, l104, l105, l106, l107, l108, l109, l110, l122, l160, l240, l255, l600, l1000, l3000, l10000, l10007, l10116, l67108863, l67108864, I_oth, I_J, J_oth, J_I, I_row, J_row, SI_row, SI_oth, SI_J, SJ_row, SJ_oth, SJ_I, upd_s, upd_n, updL_s, updL_n, ne_eq, not_false_eq_true, hi, r1, r2, lN_mul, lN_add]
      · have hs : sgN (if what = 0 then found else 0) (if what = 0 then drawn else found) (trm all drawn r) (x + 1) = sgN (if what = 0 then found else 0) (if what = 0 then drawn else found) (trm all drawn r) x := by
          rw [sgN, if_neg (by rw [if_pos q0, if_pos q0]; omega)]
        rw [hs]
        simp (disch := omega) only [gdn, gb0, gb1, ixn, nm1, nI_add, nI_mul, nsub, nI_ltI, nI_leI, nI_eq, eqNO, eqNO2, ltNO, NOlt, leNO, NOle, if_pos, if_neg, Option.bind_some, if_true, if_false, and_self, eq_self, l0, l1, l2, l3, l4, l5, l6, l7, l8, l9, l10, l11, l12, l13, l14, l15, l16, l17, l18, l19, l20, l24, l26, l30, l31, l32, l40, l41, l42, l43, l45, l47, l48, l57, l58, l59, l60, l61, l62, l63, l64, l97, l99, l100, l101, l102, l103, l104, l105, l106, l107, l108, l109, l110, l122, l160, l240, l255, l600, l1000, l3000, l10000, l10007, l10116, l67108863, l67108864, I_oth, I_J, J_oth, J_I, I_row, J_row, SI_row, SI_oth, SI_J, SJ_row, SJ_oth, SJ_I, upd_s, upd_n, updL_s, updL_n, ne_eq, not_false_eq_true]
    · by_cases q : x ≤ found
      · have hs : sgN (if what = 0 then found else 0) (if what = 0 then drawn else found) (trm all drawn r) (x + 1) = sgN (if what = 0 then found else 0) (if what = 0 then drawn else found) (trm all drawn r) x + bnm r x * bnm (all - r) (drawn - x) := by
          rw [sgN, if_pos (by rw [if_neg q0, if_neg q0]; omega)]; rfl
        rw [hs]
        simp (disch := omega) only [gdn, gb0, gb1, ixn, nm1, nI_add, nI_mul, nsub, nI_ltI, nI_leI, nI_eq, eqNO, eqNO2, ltNO, NOlt, leNO, NOle, if_pos, if_neg, Option.bind_some, if_true, if_false, and_self, eq_self, l0, l1, l2, l3, l4, l5, l6, l7, l8, l9, l10, l11, l12, l13, l14, l15, l16, l17, l18, l19, l20, l24, l26, l30, l31, l32, l40, l41, l42, l43, l45, l47, l48, l57, l58, l59, l60, l61, l62, l63, l64, l97, l99, l100, l101, l102, l103, l104, l105, l106, l107, l108, l109, l110, l122, l160, l240, l255, l600, l1000, l3000, l10000, l10007, l10116, l67108863, l67108864, I_oth, I_J, J_oth, J_I, I_row, J_row, SI_row, SI_oth, SI_J, SJ_row, SJ_oth, SJ_I, upd_s, upd_n, updL_s, updL_n, ne_eq, not_false_eq_true, hi, r1, r2, lN_mul, lN_add]
      · have hs : sgN (if what = 0 then found else 0) (if what = 0 then drawn else found) (trm all drawn r) (x + 1) = sgN (if what = 0 then found else 0) (if what = 0 then drawn else found) (trm all drawn r) x := by
          rw [sgN, if_neg (by rw [if_neg q0, if_neg q0]; omega)]
        rw [hs]
        simp (disch := omega) only [gdn, gb0, gb1, ixn, nm1, nI_add, nI_mul, nsub, nI_ltI, nI_leI, nI_eq, eqNO, eqNO2, ltNO, NOlt, leNO, NOle, if_pos, if_neg, Option.bind_some, if_true, if_false, and_self, eq_self, l0, l1, l2, l3, l4, l5, l6, l7, l8, l9, l10, l11, l12, l13, l14, l15, l16, l17, l18, l19, l20, l24, l26, l30, l31, l32, l40, l41, l42, l43, l45, l47, l48, l57, l58, l59, l60, l61, l62, l63, l64, l97, l99, l100, l101, l102, l103, l104, l105, l106, l107, l108, l109, l110, l122, l160, l240, l255, l600, l1000, l3000, l10000, l10007, l10116, l67108863, l67108864, I_oth, I_J, J_oth, J_I, I_row, J_row, SI_row, SI_oth, SI_J, SJ_row, SJ_oth, SJ_I, upd_s, upd_n, updL_s, updL_n, ne_eq, not_false_eq_true]
  · unfold X12_count_b69
    simp (disch := omega) only [gdn, gb0, gb1, ixn, nm1, nI_add, nI_mul, nsub, nI_ltI, nI_leI, nI_eq, eqNO, eqNO2, ltNO, NOlt, leNO, NOle, if_pos, if_neg, Option.bind_some, if_true, if_false, and_self, eq_self, l0, l1, l2, l3, l4, l5, l6, l7, l8, l9, l10, l11, l12, l13, l14, l15, l16, l17, l18, l19, l20, l24, l26, l30, l31, l32, l40, l41, l42, l43, l45, l47, l48, l57, l58, l59, l60, l61, l62, l63, l64, l97, l99, l100, l101, l102, l103, l104, l105, l106, l107, l108, l109, l110, l122, l160, l240, l255, l600, l1000, l3000, l10000, l10007, l10116, l67108863, l67108864]
noncomputable def bsl (p : Nat → Prop) : Nat → Int32
  | 0 => NO
  | r + 1 => @ite _ (p r) (Classical.propDecidable _) (nI r) (bsl p r)
theorem bsl_t {p : Nat → Prop} {r : Nat} (h : p r) : bsl p (r + 1) = nI r := if_pos h
theorem bsl_f {p : Nat → Prop} {r : Nat} (h : ¬ p r) : bsl p (r + 1) = bsl p r := if_neg h
theorem bsl_max {p : Nat → Prop} {r : Nat} (h : p r) : ∀ n, r < n → (∀ j, r < j → j < n → ¬ p j) → bsl p n = nI r
  | 0, h1, _ => by omega
  | n + 1, h1, h2 => by
    by_cases q : r = n
    · subst q; exact bsl_t h
    · rw [bsl_f (h2 n (by omega) (by omega))]; exact bsl_max h n (by omega) (fun j a b => h2 j a (by omega))
theorem max_of {p : Nat → Prop} {n : Nat} (h : ∃ k, k ≤ n ∧ p k) : ∃ k, k ≤ n ∧ p k ∧ ∀ j, k < j → j ≤ n → ¬ p j := by
  obtain ⟨k, hk, hp⟩ := h
  obtain ⟨d, hd, hpd, hm⟩ := least_of (p := fun d => p (n - d)) (n := n + 1) ⟨n - k, by omega, by rw [show n - (n - k) = k by omega]; exact hp⟩
  refine ⟨n - d, by omega, hpd, fun j h1 h2 hj => hm (n - j) (by omega) (by rw [show n - (n - j) = j by omega]; exact hj)⟩
theorem o_count (a1 a2 a3 a4 : Int32) {w : Wd} (h : ID w) : two (X11_count a1 a2 a3 a4) (X12_count a1 a2 a3 a4) w (fun w' => IS w') := by
  by_cases hv : (((1 : Nat) : Int) ≤ a1.toInt ∧ a1.toInt < ((61 : Nat) : Int)) ∧ (((1 : Nat) : Int) ≤ a2.toInt ∧ a2.toInt ≤ a1.toInt) ∧ (0 ≤ a3.toInt ∧ a3.toInt ≤ a2.toInt) ∧ (0 ≤ a4.toInt ∧ a4.toInt < ((2 : Nat) : Int))
  · obtain ⟨h1, h2, h3, h4⟩ := hv
    obtain ⟨all, lall, rfl⟩ := of_t (n := 61) (x := a1) (by omega)
    obtain ⟨drawn, ldr, rfl⟩ := of_t (n := 61) (x := a2) (by omega)
    obtain ⟨found, lfo, rfl⟩ := of_t (n := 61) (x := a3) (by omega)
    obtain ⟨what, lwh, rfl⟩ := of_t (n := 2) (x := a4) (by omega)
    rw [tI (by omega)] at h1 h2
    rw [tI (by omega)] at h2 h3
    rw [tI (by omega)] at h3
    have hm0 : ∀ u : Wd, X12_count (nI all) (nI drawn) (nI found) (nI what) u = (lp (X12_count_b57 (nI all) (nI drawn) (nI found) (nI what) (seJ u 177 (tbl 3721 (u.2 177)))) (NO, nI 0)).bind fun e8 => some (e8, puI (seJ u 177 (tbl 3721 (u.2 177))) 97 0 (nI 0)) := by
      intro u
      unfold X12_count
      rw [fill_e]
      simp (disch := omega) only [gdn, gb0, gb1, ixn, nm1, nI_add, nI_mul, nsub, nI_ltI, nI_leI, nI_eq, eqNO, eqNO2, ltNO, NOlt, leNO, NOle, if_pos, if_neg, Option.bind_some, if_true, if_false, and_self, eq_self, l0, l1, l2, l3, l4, l5, l6, l7, l8, l9, l10, l11, l12, l13, l14, l15, l16, l17, l18, l19, l20, l24, l26, l30, l31, l32, l40, l41, l42, l43, l45, l47, l48, l57, l58, l59, l60, l61, l62, l63, l64, l97, l99, l100, l101, l102, l103, l104, l105, l106, l107, l108, l109, l110, l122, l160, l240, l255, l600, l1000, l3000, l10000, l10007, l10116, l67108863, l67108864, I_oth, I_J, J_oth, J_I, I_row, J_row, SI_row, SI_oth, SI_J, SJ_row, SJ_oth, SJ_I, upd_s, upd_n, updL_s, updL_n, ne_eq, not_false_eq_true, lt_t, le_t, tI, NO_t, flag0, flag1, ite_or2, ite_self, true_or, or_true, false_or, or_false, true_and, and_true, false_and, and_false, not_true_eq_false, mgiv_e]
    have hb : ∀ (u : Wd) (z : Nat → Int64) (s : Int32) (r : Nat), r ≤ all → ∀ p : Prop, (p ↔ chc all drawn (if what = 0 then found else 0) (if what = 0 then drawn else found) r) → (p → X12_count_b57 (nI all) (nI drawn) (nI found) (nI what) (seJ u 177 (tbl 3721 z)) (s, nI r) = X12_count_j180 (nI all) (nI drawn) (nI found) (nI what) s (nI r) (nI 1) (seJ u 177 (tbl 3721 z))) ∧ (¬ p → X12_count_b57 (nI all) (nI drawn) (nI found) (nI what) (seJ u 177 (tbl 3721 z)) (s, nI r) = X12_count_j180 (nI all) (nI drawn) (nI found) (nI what) s (nI r) (nI 0) (seJ u 177 (tbl 3721 z))) := by
      intro u z s r hr p hp
      have r1 := tbl_at (m := 3721) (n := all) (k := drawn) (z := z) (by omega) (by omega)
      have hs := msum_e (w := u) (z := z) (all := all) (drawn := drawn) (found := found) (what := what) (r := r) (a5 := s) (by omega) hr (by omega) (by omega) lwh
      have hgo : X12_count_b57 (nI all) (nI drawn) (nI found) (nI what) (seJ u 177 (tbl 3721 z)) (s, nI r) = if lg_cmp (lN (20 * sgN (if what = 0 then found else 0) (if what = 0 then drawn else found) (trm all drawn r) (drawn + 1))) (lN (bnm all drawn)) ≤ 0 then X12_count_j180 (nI all) (nI drawn) (nI found) (nI what) s (nI r) (nI 0) (seJ u 177 (tbl 3721 z)) else X12_count_j180 (nI all) (nI drawn) (nI found) (nI what) s (nI r) (nI 1) (seJ u 177 (tbl 3721 z)) := by
        unfold X12_count_b57
        dsimp only
        rw [if_neg (by rw [nI_ltI (by omega) (by omega)]; omega), show (0 : Int32) = nI 0 from rfl, hs]
        simp only [Option.bind_some]
        rw [show (20 : Int64) = lN 20 from rfl, lN_mul, show (61 : Int32) = nI 61 from rfl, nI_mul, nI_add, gdn (by omega) (by omega), ixn (by omega), SJ_row, r1]
        rfl
      rw [hgo]
      refine ⟨fun y => if_neg (hp.mp y), fun y => if_pos ?_⟩
      exact Classical.byContradiction (fun x => y (hp.mpr x))
    by_cases q0 : what = 0
    · obtain ⟨r0, hr0, hp, hmin⟩ := least_of (p := fun r => chc all drawn found drawn r) (n := all + 1) ⟨all, by omega, chc_all (by omega) (by omega) (by omega)⟩
      refine ⟨nI r0, puI w 0 10 (nI 0), puI (seJ (puI w 0 10 (nI 0)) 177 (tbl 3721 ((puI w 0 10 (nI 0)).2 177))) 97 0 (nI 0), ?_, ?_, ?_⟩
      · unfold X11_count X11_count_j73
        rw [low_e h (by omega) (by omega) (by omega) (by omega) hp hmin]
        simp (disch := omega) only [gdn, gb0, gb1, ixn, nm1, nI_add, nI_mul, nsub, nI_ltI, nI_leI, nI_eq, eqNO, eqNO2, ltNO, NOlt, leNO, NOle, if_pos, if_neg, Option.bind_some, if_true, if_false, and_self, eq_self, l0, l1, l2, l3, l4, l5, l6, l7, l8, l9, l10, l11, l12, l13, l14, l15, l16, l17, l18, l19, l20, l24, l26, l30, l31, l32, l40, l41, l42, l43, l45, l47, l48, l57, l58, l59, l60, l61, l62, l63, l64, l97, l99, l100, l101, l102, l103, l104, l105, l106, l107, l108, l109, l110, l122, l160, l240, l255, l600, l1000, l3000, l10000, l10007, l10116, l67108863, l67108864, I_oth, I_J, J_oth, J_I, I_row, J_row, SI_row, SI_oth, SI_J, SJ_row, SJ_oth, SJ_I, upd_s, upd_n, updL_s, updL_n, ne_eq, not_false_eq_true, lt_t, le_t, tI, NO_t, flag0, flag1, ite_or2, ite_self, true_or, or_true, false_or, or_false, true_and, and_true, false_and, and_false, not_true_eq_false, win, answer_e]
      · rw [hm0]
        have hlp := (lp_for (b := X12_count_b57 (nI all) (nI drawn) (nI found) (nI what) (seJ (puI w 0 10 (nI 0)) 177 (tbl 3721 ((puI w 0 10 (nI 0)).2 177)))) (fun r => (if r ≤ r0 then NO else nI r0, nI r)) (all + 1) (e := nI r0) (fun r hr => ?_) ?_ 0 (Nat.zero_le _))
        · rw [if_pos (Nat.zero_le _)] at hlp
          rw [hlp]; rfl
        · have hb' := hb (puI w 0 10 (nI 0)) ((puI w 0 10 (nI 0)).2 177) (if r ≤ r0 then NO else nI r0) r (by omega) (chc all drawn found drawn r) (by rw [if_pos q0, if_pos q0])
          by_cases y : chc all drawn found drawn r
          · rw [hb'.1 y]
            unfold X12_count_j180 X12_count_j199 X12_count_j203
            by_cases x : r = r0
            · subst x; simp (disch := omega) only [gdn, gb0, gb1, ixn, nm1, nI_add, nI_mul, nsub, nI_ltI, nI_leI, nI_eq, eqNO, eqNO2, ltNO, NOlt, leNO, NOle, if_pos, if_neg, Option.bind_some, if_true, if_false, and_self, eq_self, l0, l1, l2, l3, l4, l5, l6, l7, l8, l9, l10, l11, l12, l13, l14, l15, l16, l17, l18, l19, l20, l24, l26, l30, l31, l32, l40, l41, l42, l43, l45, l47, l48, l57, l58, l59, l60, l61, l62, l63, l64, l97, l99, l100, l101, l102, l103, l104, l105, l106, l107, l108, l109, l110, l122, l160, l240, l255, l600, l1000, l3000, l10000, l10007, l10116, l67108863, l67108864]
            · have : r0 < r := by
                by_cases v : r < r0
                · exact (hmin r v y).elim
                · omega
              simp (disch := omega) only [gdn, gb0, gb1, ixn, nm1, nI_add, nI_mul, nsub, nI_ltI, nI_leI, nI_eq, eqNO, eqNO2, ltNO, NOlt, leNO, NOle, if_pos, if_neg, Option.bind_some, if_true, if_false, and_self, eq_self, l0, l1, l2, l3, l4, l5, l6, l7, l8, l9, l10, l11, l12, l13, l14, l15, l16, l17, l18, l19, l20, l24, l26, l30, l31, l32, l40, l41, l42, l43, l45, l47, l48, l57, l58, l59, l60, l61, l62, l63, l64, l97, l99, l100, l101, l102, l103, l104, l105, l106, l107, l108, l109, l110, l122, l160, l240, l255, l600, l1000, l3000, l10000, l10007, l10116, l67108863, l67108864]
          · rw [hb'.2 y]
            unfold X12_count_j180 X12_count_j203
            by_cases x : r = r0
            · subst x; exact (y hp).elim
            · by_cases v : r < r0
              · simp (disch := omega) only [gdn, gb0, gb1, ixn, nm1, nI_add, nI_mul, nsub, nI_ltI, nI_leI, nI_eq, eqNO, eqNO2, ltNO, NOlt, leNO, NOle, if_pos, if_neg, Option.bind_some, if_true, if_false, and_self, eq_self, l0, l1, l2, l3, l4, l5, l6, l7, l8, l9, l10, l11, l12, l13, l14, l15, l16, l17, l18, l19, l20, l24, l26, l30, l31, l32, l40, l41, l42, l43, l45, l47, l48, l57, l58, l59, l60, l61, l62, l63, l64, l97, l99, l100, l101, l102, l103, l104, l105, l106, l107, l108, l109, l110, l122, l160, l240, l255, l600, l1000, l3000, l10000, l10007, l10116, l67108863, l67108864]
              · simp (disch := omega) only [gdn, gb0, gb1, ixn, nm1, nI_add, nI_mul, nsub, nI_ltI, nI_leI, nI_eq, eqNO, eqNO2, ltNO, NOlt, leNO, NOle, if_pos, if_neg, Option.bind_some, if_true, if_false, and_self, eq_self, l0, l1, l2, l3, l4, l5, l6, l7, l8, l9, l10, l11, l12, l13, l14, l15, l16, l17, l18, l19, l20, l24, l26, l30, l31, l32, l40, l41, l42, l43, l45, l47, l48, l57, l58, l59, l60, l61, l62, l63, l64, l97, l99, l100, l101, l102, l103, l104, l105, l106, l107, l108, l109, l110, l122, l160, l240, l255, l600, l1000, l3000, l10000, l10007, l10116, l67108863, l67108864]
        · unfold X12_count_b57
          simp (disch := omega) only [gdn, gb0, gb1, ixn, nm1, nI_add, nI_mul, nsub, nI_ltI, nI_leI, nI_eq, eqNO, eqNO2, ltNO, NOlt, leNO, NOle, if_pos, if_neg, Option.bind_some, if_true, if_false, and_self, eq_self, l0, l1, l2, l3, l4, l5, l6, l7, l8, l9, l10, l11, l12, l13, l14, l15, l16, l17, l18, l19, l20, l24, l26, l30, l31, l32, l40, l41, l42, l43, l45, l47, l48, l57, l58, l59, l60, l61, l62, l63, l64, l97, l99, l100, l101, l102, l103, l104, l105, l106, l107, l108, l109, l110, l122, l160, l240, l255, l600, l1000, l3000, l10000, l10007, l10116, l67108863, l67108864]
      · exact rfl
    · obtain ⟨r0, hr0, hp, hmax⟩ := max_of (p := fun r => chc all drawn 0 found r) (n := all) ⟨0, by omega, chc_0 (by omega) (by omega)⟩
      refine ⟨nI r0, puI w 0 10 (nI 0), puI (seJ (puI w 0 10 (nI 0)) 177 (tbl 3721 ((puI w 0 10 (nI 0)).2 177))) 97 0 (nI 0), ?_, ?_, ?_⟩
      · unfold X11_count X11_count_j73
        rw [high_e h (by omega) (by omega) (by omega) hr0 hp hmax]
        simp (disch := omega) only [gdn, gb0, gb1, ixn, nm1, nI_add, nI_mul, nsub, nI_ltI, nI_leI, nI_eq, eqNO, eqNO2, ltNO, NOlt, leNO, NOle, if_pos, if_neg, Option.bind_some, if_true, if_false, and_self, eq_self, l0, l1, l2, l3, l4, l5, l6, l7, l8, l9, l10, l11, l12, l13, l14, l15, l16, l17, l18, l19, l20, l24, l26, l30, l31, l32, l40, l41, l42, l43, l45, l47, l48, l57, l58, l59, l60, l61, l62, l63, l64, l97, l99, l100, l101, l102, l103, l104, l105, l106, l107, l108, l109, l110, l122, l160, l240, l255, l600, l1000, l3000, l10000, l10007, l10116, l67108863, l67108864, I_oth, I_J, J_oth, J_I, I_row, J_row, SI_row, SI_oth, SI_J, SJ_row, SJ_oth, SJ_I, upd_s, upd_n, updL_s, updL_n, ne_eq, not_false_eq_true, lt_t, le_t, tI, NO_t, flag0, flag1, ite_or2, ite_self, true_or, or_true, false_or, or_false, true_and, and_true, false_and, and_false, not_true_eq_false, win, answer_e]
      · rw [hm0]
        have hlp := (lp_for (b := X12_count_b57 (nI all) (nI drawn) (nI found) (nI what) (seJ (puI w 0 10 (nI 0)) 177 (tbl 3721 ((puI w 0 10 (nI 0)).2 177)))) (fun r => (bsl (fun r => chc all drawn 0 found r) r, nI r)) (all + 1) (e := nI r0) (fun r hr => ?_) ?_ 0 (Nat.zero_le _))
        · rw [show bsl (fun r => chc all drawn 0 found r) 0 = NO from rfl] at hlp
          rw [hlp]; rfl
        · have hb' := hb (puI w 0 10 (nI 0)) ((puI w 0 10 (nI 0)).2 177) (bsl (fun r => chc all drawn 0 found r) r) r (by omega) (chc all drawn 0 found r) (by rw [if_neg q0, if_neg q0])
          by_cases y : chc all drawn 0 found r
          · rw [hb'.1 y, bsl_t y]
            unfold X12_count_j180 X12_count_j199 X12_count_j203
            simp (disch := omega) only [gdn, gb0, gb1, ixn, nm1, nI_add, nI_mul, nsub, nI_ltI, nI_leI, nI_eq, eqNO, eqNO2, ltNO, NOlt, leNO, NOle, if_pos, if_neg, Option.bind_some, if_true, if_false, and_self, eq_self, l0, l1, l2, l3, l4, l5, l6, l7, l8, l9, l10, l11, l12, l13, l14, l15, l16, l17, l18, l19, l20, l24, l26, l30, l31, l32, l40, l41, l42, l43, l45, l47, l48, l57, l58, l59, l60, l61, l62, l63, l64, l97, l99, l100, l101, l102, l103, l104, l105, l106, l107, l108, l109, l110, l122, l160, l240, l255, l600, l1000, l3000, l10000, l10007, l10116, l67108863, l67108864, I_oth, I_J, J_oth, J_I, I_row, J_row, SI_row, SI_oth, SI_J, SJ_row, SJ_oth, SJ_I, upd_s, upd_n, updL_s, updL_n, ne_eq, not_false_eq_true, lt_t, le_t, tI, NO_t, flag0, flag1, ite_or2, ite_self, true_or, or_true, false_or, or_false, true_and, and_true, false_and, and_false, not_true_eq_false]
          · rw [hb'.2 y, bsl_f y]
            unfold X12_count_j180 X12_count_j203
            simp (disch := omega) only [gdn, gb0, gb1, ixn, nm1, nI_add, nI_mul, nsub, nI_ltI, nI_leI, nI_eq, eqNO, eqNO2, ltNO, NOlt, leNO, NOle, if_pos, if_neg, Option.bind_some, if_true, if_false, and_self, eq_self, l0, l1, l2, l3, l4, l5, l6, l7, l8, l9, l10, l11, l12, l13, l14, l15, l16, l17, l18, l19, l20, l24, l26, l30, l31, l32, l40, l41, l42, l43, l45, l47, l48, l57, l58, l59, l60, l61, l62, l63, l64, l97, l99, l100, l101, l102, l103, l104, l105, l106, l107, l108, l109, l110, l122, l160, l240, l255, l600, l1000, l3000, l10000, l10007, l10116, l67108863, l67108864]
        · rw [bsl_max hp _ (by omega) (fun j h5 h6 => hmax j h5 (by omega))]
          unfold X12_count_b57
          simp (disch := omega) only [gdn, gb0, gb1, ixn, nm1, nI_add, nI_mul, nsub, nI_ltI, nI_leI, nI_eq, eqNO, eqNO2, ltNO, NOlt, leNO, NOle, if_pos, if_neg, Option.bind_some, if_true, if_false, and_self, eq_self, l0, l1, l2, l3, l4, l5, l6, l7, l8, l9, l10, l11, l12, l13, l14, l15, l16, l17, l18, l19, l20, l24, l26, l30, l31, l32, l40, l41, l42, l43, l45, l47, l48, l57, l58, l59, l60, l61, l62, l63, l64, l97, l99, l100, l101, l102, l103, l104, l105, l106, l107, l108, l109, l110, l122, l160, l240, l255, l600, l1000, l3000, l10000, l10007, l10116, l67108863, l67108864]
      · exact rfl
  · refine two_ref (nI 1) (r := NO) ?_ ?_ (fun w' z => z.is)
    · unfold X11_count X11_count_j38
      simp (disch := omega) only [gdn, gb0, gb1, ixn, nm1, nI_add, nI_mul, nsub, nI_ltI, nI_leI, nI_eq, eqNO, eqNO2, ltNO, NOlt, leNO, NOle, if_pos, if_neg, Option.bind_some, if_true, if_false, and_self, eq_self, l0, l1, l2, l3, l4, l5, l6, l7, l8, l9, l10, l11, l12, l13, l14, l15, l16, l17, l18, l19, l20, l24, l26, l30, l31, l32, l40, l41, l42, l43, l45, l47, l48, l57, l58, l59, l60, l61, l62, l63, l64, l97, l99, l100, l101, l102, l103, l104, l105, l106, l107, l108, l109, l110, l122, l160, l240, l255, l600, l1000, l3000, l10000, l10007, l10116, l67108863, l67108864, I_oth, I_J, J_oth, J_I, I_row, J_row, SI_row, SI_oth, SI_J, SJ_row, SJ_oth, SJ_I, upd_s, upd_n, updL_s, updL_n, ne_eq, not_false_eq_true, lt_t, le_t, tI, NO_t, flag0, flag1, ite_or2, ite_self, true_or, or_true, false_or, or_false, true_and, and_true, false_and, and_false, not_true_eq_false, wi, deny_e]
    · unfold X12_count X12_count_j41
      simp (disch := omega) only [gdn, gb0, gb1, ixn, nm1, nI_add, nI_mul, nsub, nI_ltI, nI_leI, nI_eq, eqNO, eqNO2, ltNO, NOlt, leNO, NOle, if_pos, if_neg, Option.bind_some, if_true, if_false, and_self, eq_self, l0, l1, l2, l3, l4, l5, l6, l7, l8, l9, l10, l11, l12, l13, l14, l15, l16, l17, l18, l19, l20, l24, l26, l30, l31, l32, l40, l41, l42, l43, l45, l47, l48, l57, l58, l59, l60, l61, l62, l63, l64, l97, l99, l100, l101, l102, l103, l104, l105, l106, l107, l108, l109, l110, l122, l160, l240, l255, l600, l1000, l3000, l10000, l10007, l10116, l67108863, l67108864, I_oth, I_J, J_oth, J_I, I_row, J_row, SI_row, SI_oth, SI_J, SJ_row, SJ_oth, SJ_I, upd_s, upd_n, updL_s, updL_n, ne_eq, not_false_eq_true, lt_t, le_t, tI, NO_t, flag0, flag1, ite_or2, ite_self, true_or, or_true, false_or, or_false, true_and, and_true, false_and, and_false, not_true_eq_false, mref_e]
