/-! words as numbers -/
theorem lN_t {n : Nat} (h : n < 2 ^ 63) : (lN n).toInt = (n : Int) := lg_ofNat_toInt h
theorem l_le {a b : Nat} (ha : a < 2 ^ 63) (hb : b < 2 ^ 63) : (lg_cmp (lN a) (lN b) ≤ nI 0) = (a ≤ b) := by
  show (lg_cmp (lN a) (lN b) ≤ 0) = _
  rw [eq_iff_iff, lg_cmp_le, Int64.le_iff_toInt_le, lN_t ha, lN_t hb]; omega
theorem l_lt {a b : Nat} (ha : a < 2 ^ 63) (hb : b < 2 ^ 63) : (lg_cmp (lN a) (lN b) < nI 0) = (a < b) := by
  show (lg_cmp (lN a) (lN b) < 0) = _
  rw [eq_iff_iff, lg_cmp_lt, Int64.lt_iff_toInt_lt, lN_t ha, lN_t hb]; omega
theorem l_gt {a b : Nat} (ha : a < 2 ^ 63) (hb : b < 2 ^ 63) : (nI 0 < lg_cmp (lN a) (lN b)) = (b < a) := by
  show (0 < lg_cmp (lN a) (lN b)) = _
  rw [eq_iff_iff, lg_cmp_gt, Int64.lt_iff_toInt_lt, lN_t ha, lN_t hb]; omega
theorem l_eq {a b : Nat} (ha : a < 2 ^ 63) (hb : b < 2 ^ 63) : (lg_cmp (lN a) (lN b) = nI 0) = (a = b) := by
  show (lg_cmp (lN a) (lN b) = 0) = _
  rw [eq_iff_iff, lg_cmp_eq, ← Int64.toInt_inj, lN_t ha, lN_t hb]; omega
theorem j0 : (0 : Int64) = lN 0 := rfl
theorem j1 : (1 : Int64) = lN 1 := rfl
theorem j26 : (26 : Int64) = lN 26 := rfl
theorem l_and {V : Nat} : lN V &&& (31 : Int64) = lN (V % 32) := by
  apply Int64.toBitVec_inj.mp
  rw [Int64.toBitVec_and]
  show BitVec.ofNat 64 V &&& BitVec.ofNat 64 31 = BitVec.ofNat 64 (V % 32)
  apply BitVec.eq_of_getLsbD_eq
  intro i hi
  simp only [BitVec.getLsbD_and, BitVec.getLsbD_ofNat, hi, decide_true, Bool.true_and]
  rw [show V % 32 = V % 2 ^ 5 from rfl, Nat.testBit_mod_two_pow, show 31 = 2 ^ 5 - 1 from rfl, Nat.testBit_two_pow_sub_one, Bool.and_comm]
theorem l_shr {V k : Nat} (hV : V < 2 ^ 63) {s : Int64} (hs : (s.toBitVec.smod 64).toNat = k) : lN V >>> s = lN (V / 2 ^ k) := by
  apply Int64.toInt_inj.mp
  have h2 : V / 2 ^ k ≤ V := Nat.div_le_self _ _
  have h1 : (lN V >>> s).toInt = (lN V).toInt >>> k := by
    show ((lN V).toBitVec.sshiftRight (s.toBitVec.smod 64).toNat).toInt = _
    rw [hs, BitVec.toInt_sshiftRight]
    rfl
  rw [h1, lN_t hV, lN_t (by omega), Int.shiftRight_eq_div_pow]
  rfl
theorem l_shr5 {V : Nat} (hV : V < 2 ^ 63) : lN V >>> (Int32.toInt64 (nI 5) &&& 63) = lN (V / 32) := l_shr (k := 5) hV (by decide)
theorem l_to {V : Nat} (h : V < 2 ^ 31) : (lN V).toInt32 = nI V := lN_i V
def dg (V i : Nat) : Nat := V / 32 ^ i % 32
theorem div32 (V i : Nat) : V / 32 ^ (i + 1) = V / 32 ^ i / 32 := by rw [Nat.pow_succ, Nat.div_div_eq_div_mul]
def okW (V : Nat) : Prop := 1 ≤ V ∧ V < 2 ^ 40 ∧ ∀ i, V / 32 ^ i ≠ 0 → 1 ≤ dg V i ∧ dg V i ≤ 26
theorem len_ex (V : Nat) (h : V < 2 ^ 40) : V / 32 ^ 8 = 0 := Nat.div_eq_of_lt (by omega)
noncomputable def lW (V : Nat) : Nat := @dite _ (∃ n, n < 9 ∧ V / 32 ^ n = 0 ∧ ∀ j, j < n → ¬ V / 32 ^ j = 0) (Classical.propDecidable _) (fun e => Classical.choose e) (fun _ => 0)
theorem lW_s {V : Nat} (h : V < 2 ^ 40) : lW V < 9 ∧ V / 32 ^ lW V = 0 ∧ ∀ j, j < lW V → ¬ V / 32 ^ j = 0 := by
  have e : ∃ n, n < 9 ∧ V / 32 ^ n = 0 ∧ ∀ j, j < n → ¬ V / 32 ^ j = 0 := least_of ⟨8, by omega, len_ex V h⟩
  have h1 : lW V = Classical.choose e := dif_pos e
  rw [h1]
  exact Classical.choose_spec e
theorem lW_pos {V : Nat} (h : okW V) : 1 ≤ lW V := by
  obtain ⟨-, h2, -⟩ := lW_s h.2.1
  by_cases q : lW V = 0
  · rw [q, Nat.pow_zero, Nat.div_one] at h2; have := h.1; omega
  · omega
theorem vdiv {V i : Nat} (h : V < 2 ^ 63) : V / 32 ^ i < 2 ^ 63 := Nat.lt_of_le_of_lt (Nat.div_le_self _ _) h
/-- any long is a number or below 1 -/
theorem lN_c (x : Int64) : x.toInt < 1 ∨ ∃ V : Nat, 1 ≤ V ∧ V < 2 ^ 63 ∧ x = lN V := by
  by_cases h : x.toInt < 1
  · exact Or.inl h
  · have h2 := x.toInt_lt
    refine Or.inr ⟨x.toInt.toNat, by omega, by omega, ?_⟩
    apply Int64.toInt_inj.mp
    rw [lN_t (by omega)]
    omega
noncomputable def lenS (x : Int64) : Nat := @dite _ (∃ V, okW V ∧ x = lN V) (Classical.propDecidable _) (fun e => lW (Classical.choose e)) (fun _ => 0)
theorem lN_inj {a b : Nat} (ha : a < 2 ^ 63) (hb : b < 2 ^ 63) (h : lN a = lN b) : a = b := by
  have := congrArg Int64.toInt h
  rw [lN_t ha, lN_t hb] at this
  omega
theorem lenS_t {V : Nat} (h : okW V) : lenS (lN V) = lW V := by
  have e : ∃ U, okW U ∧ lN V = lN U := ⟨V, h, rfl⟩
  have h1 : lenS (lN V) = lW (Classical.choose e) := dif_pos e
  obtain ⟨a, b⟩ := Classical.choose_spec e
  have := h.2.1
  have := a.2.1
  rw [h1, ← lN_inj (by omega) (by omega) b]
theorem lenS_n {x : Int64} (h : ¬ ∃ V, okW V ∧ x = lN V) : lenS x = 0 := dif_neg h
theorem len_q {q : Nat} (hq : q < 2 ^ 63) {w : Wd} {i : Nat} (hi : i < 8) (h0 : q ≠ 0) : X5_lengthOf_b5 w (lN q, nI i) = if 1 ≤ q % 32 ∧ q % 32 ≤ 26 then some (.inl (lN (q / 32), nI (i + 1))) else some (.inr (.inl ())) := by
  have hm : q % 32 < 32 := Nat.mod_lt _ (by omega)
  unfold X5_lengthOf_b5
  by_cases h1 : q % 32 < 1
  · simp (disch := omega) only [gdn, gb0, gb1, ixn, nm1, nI_add, nI_mul, nsub, nI_ltI, nI_leI, nI_eq, eqNO, eqNO2, ltNO, NOlt, leNO, NOle, if_pos, if_neg, Option.bind_some, if_true, if_false, and_self, eq_self, l0, l1, l2, l3, l4, l5, l6, l7, l8, l9, l10, l11, l12, l13, l14, l15, l16, l17, l18, l19, l20, l24, l26, l30, l31, l32, l40, l41, l42, l43, l45, l47, l48, l57, l58, l59, l60, l61, l62, l63, l64, l97, l99, l100, l101, l102, l103, l104, l105, l106, l107, l108, l109, l110, l122, l160, l240, l255, l600, l1000, l3000, l10000, l10007, l10116, l67108863, l67108864, j0, j1, j26, l_and, l_shr5, l_le, l_lt]
  · by_cases h2 : q % 32 ≤ 26
    · simp (disch := omega) only [gdn, gb0, gb1, ixn, nm1, nI_add, nI_mul, nsub, nI_ltI, nI_leI, nI_eq, eqNO, eqNO2, ltNO, NOlt, leNO, NOle, if_pos, if_neg, Option.bind_some, if_true, if_false, and_self, eq_self, l0, l1, l2, l3, l4, l5, l6, l7, l8, l9, l10, l11, l12, l13, l14, l15, l16, l17, l18, l19, l20, l24, l26, l30, l31, l32, l40, l41, l42, l43, l45, l47, l48, l57, l58, l59, l60, l61, l62, l63, l64, l97, l99, l100, l101, l102, l103, l104, l105, l106, l107, l108, l109, l110, l122, l160, l240, l255, l600, l1000, l3000, l10000, l10007, l10116, l67108863, l67108864, j0, j1, j26, l_and, l_shr5, l_le, l_lt]
    · simp (disch := omega) only [gdn, gb0, gb1, ixn, nm1, nI_add, nI_mul, nsub, nI_ltI, nI_leI, nI_eq, eqNO, eqNO2, ltNO, NOlt, leNO, NOle, if_pos, if_neg, Option.bind_some, if_true, if_false, and_self, eq_self, l0, l1, l2, l3, l4, l5, l6, l7, l8, l9, l10, l11, l12, l13, l14, l15, l16, l17, l18, l19, l20, l24, l26, l30, l31, l32, l40, l41, l42, l43, l45, l47, l48, l57, l58, l59, l60, l61, l62, l63, l64, l97, l99, l100, l101, l102, l103, l104, l105, l106, l107, l108, l109, l110, l122, l160, l240, l255, l600, l1000, l3000, l10000, l10007, l10116, l67108863, l67108864, j0, j1, j26, l_and, l_shr5, l_le, l_lt]
theorem len_step {V : Nat} (hV : V < 2 ^ 63) {w : Wd} {i : Nat} (hi : i < 8) (h0 : V / 32 ^ i ≠ 0) (h1 : 1 ≤ dg V i ∧ dg V i ≤ 26) : X5_lengthOf_b5 w (lN (V / 32 ^ i), nI i) = some (.inl (lN (V / 32 ^ (i + 1)), nI (i + 1))) := by
  rw [len_q (vdiv hV) hi h0, if_pos (show 1 ≤ V / 32 ^ i % 32 ∧ V / 32 ^ i % 32 ≤ 26 from h1), div32]
theorem isw_q {q : Nat} (hq : q < 2 ^ 63) {w : Wd} (h0 : q ≠ 0) (p : Prop) : X12_isWord_b20 w (fg p, lN q) = some (.inl (fg (p ∧ 1 ≤ q % 32 ∧ q % 32 ≤ 26), lN (q / 32))) := by
  have hm : q % 32 < 32 := Nat.mod_lt _ (by omega)
  unfold X12_isWord_b20 X12_isWord_j56 X12_isWord_j57
  by_cases hp : p
  · rw [fg_t hp]
    by_cases h1 : q % 32 < 1
    · rw [fg_f (show ¬ (p ∧ 1 ≤ q % 32 ∧ q % 32 ≤ 26) from fun z => by omega)]
      simp (disch := omega) only [gdn, gb0, gb1, ixn, nm1, nI_add, nI_mul, nsub, nI_ltI, nI_leI, nI_eq, eqNO, eqNO2, ltNO, NOlt, leNO, NOle, if_pos, if_neg, Option.bind_some, if_true, if_false, and_self, eq_self, l0, l1, l2, l3, l4, l5, l6, l7, l8, l9, l10, l11, l12, l13, l14, l15, l16, l17, l18, l19, l20, l24, l26, l30, l31, l32, l40, l41, l42, l43, l45, l47, l48, l57, l58, l59, l60, l61, l62, l63, l64, l97, l99, l100, l101, l102, l103, l104, l105, l106, l107, l108, l109, l110, l122, l160, l240, l255, l600, l1000, l3000, l10000, l10007, l10116, l67108863, l67108864, j0, j1, j26, l_and, l_shr5, l_le, l_lt, l_gt]
    · by_cases h2 : q % 32 ≤ 26
      · rw [fg_t (show p ∧ 1 ≤ q % 32 ∧ q % 32 ≤ 26 from ⟨hp, by omega, h2⟩)]
        simp (disch := omega) only [gdn, gb0, gb1, ixn, nm1, nI_add, nI_mul, nsub, nI_ltI, nI_leI, nI_eq, eqNO, eqNO2, ltNO, NOlt, leNO, NOle, if_pos, if_neg, Option.bind_some, if_true, if_false, and_self, eq_self, l0, l1, l2, l3, l4, l5, l6, l7, l8, l9, l10, l11, l12, l13, l14, l15, l16, l17, l18, l19, l20, l24, l26, l30, l31, l32, l40, l41, l42, l43, l45, l47, l48, l57, l58, l59, l60, l61, l62, l63, l64, l97, l99, l100, l101, l102, l103, l104, l105, l106, l107, l108, l109, l110, l122, l160, l240, l255, l600, l1000, l3000, l10000, l10007, l10116, l67108863, l67108864, j0, j1, j26, l_and, l_shr5, l_le, l_lt, l_gt]
      · rw [fg_f (show ¬ (p ∧ 1 ≤ q % 32 ∧ q % 32 ≤ 26) from fun z => by omega)]
        simp (disch := omega) only [gdn, gb0, gb1, ixn, nm1, nI_add, nI_mul, nsub, nI_ltI, nI_leI, nI_eq, eqNO, eqNO2, ltNO, NOlt, leNO, NOle, if_pos, if_neg, Option.bind_some, if_true, if_false, and_self, eq_self, l0, l1, l2, l3, l4, l5, l6, l7, l8, l9, l10, l11, l12, l13, l14, l15, l16, l17, l18, l19, l20, l24, l26, l30, l31, l32, l40, l41, l42, l43, l45, l47, l48, l57, l58, l59, l60, l61, l62, l63, l64, l97, l99, l100, l101, l102, l103, l104, l105, l106, l107, l108, l109, l110, l122, l160, l240, l255, l600, l1000, l3000, l10000, l10007, l10116, l67108863, l67108864, j0, j1, j26, l_and, l_shr5, l_le, l_lt, l_gt]
  · rw [fg_f hp, fg_f (show ¬ (p ∧ 1 ≤ q % 32 ∧ q % 32 ≤ 26) from fun z => hp z.1)]
    simp (disch := omega) only [gdn, gb0, gb1, ixn, nm1, nI_add, nI_mul, nsub, nI_ltI, nI_leI, nI_eq, eqNO, eqNO2, ltNO, NOlt, leNO, NOle, if_pos, if_neg, Option.bind_some, if_true, if_false, and_self, eq_self, l0, l1, l2, l3, l4, l5, l6, l7, l8, l9, l10, l11, l12, l13, l14, l15, l16, l17, l18, l19, l20, l24, l26, l30, l31, l32, l40, l41, l42, l43, l45, l47, l48, l57, l58, l59, l60, l61, l62, l63, l64, l97, l99, l100, l101, l102, l103, l104, l105, l106, l107, l108, l109, l110, l122, l160, l240, l255, l600, l1000, l3000, l10000, l10007, l10116, l67108863, l67108864, j0, j1, j26, l_and, l_shr5, l_le, l_lt, l_gt]
theorem length_e (x : Int64) (w : Wd) : X5_lengthOf x w = some (nI (lenS x)) := by
  unfold X5_lengthOf
  rcases lN_c x with h | ⟨V, h1, h63, rfl⟩
  · rw [lenS_n (by
      rintro ⟨V, hV, rfl⟩
      have := hV.1; have := hV.2.1
      rw [lN_t (by omega)] at h; omega)]
    have hx : lp (X5_lengthOf_b5 w) (x, (0 : Int32)) = some (.inr (x, 0)) := lp_exit (by
      unfold X5_lengthOf_b5
      dsimp only
      rw [if_neg (by decide), if_pos (by rw [lg_cmp_le, Int64.le_iff_toInt_le]; show x.toInt ≤ 0; omega)])
    rw [hx]
    simp only [Option.bind_some]
    split <;> rfl
  · -- the first place that is no letter, or the end
    have stp := fun i hi h0 hd => len_step h63 (w := w) (i := i) hi h0 hd
    by_cases hbad : ∃ i, i < 8 ∧ V / 32 ^ i ≠ 0 ∧ ¬ (1 ≤ dg V i ∧ dg V i ≤ 26)
    · obtain ⟨k, hk, ⟨hk0, hkd⟩, hmin⟩ := least_of hbad
      rw [lenS_n (by
        rintro ⟨U, hU, e⟩
        have := hU.2.1
        have e2 := lN_inj h63 (by omega) e
        subst e2
        exact hkd (hU.2.2 k hk0))]
      have hnz : ∀ i, i ≤ k → V / 32 ^ i ≠ 0 := fun i hi z => hk0 (by
        obtain ⟨d, rfl⟩ : ∃ d, k = i + d := ⟨k - i, by omega⟩
        rw [Nat.pow_add, ← Nat.div_div_eq_div_mul, z, Nat.zero_div])
      have hlp := lp_for (b := X5_lengthOf_b5 w) (fun i => (lN (V / 32 ^ i), nI i)) k (e := .inl ()) (fun i hi => stp i (by omega) (hnz i (by omega)) (Classical.byContradiction (fun z => hmin i hi ⟨hnz i (by omega), z⟩))) (by
        rw [len_q (vdiv h63) hk hk0, if_neg (show ¬ (1 ≤ V / 32 ^ k % 32 ∧ V / 32 ^ k % 32 ≤ 26) from hkd)]) 0 (Nat.zero_le _)
      rw [Nat.pow_zero, Nat.div_one] at hlp
      rw [show (lN V, (0 : Int32)) = (lN V, nI 0) from rfl, hlp]
      rfl
    · have hgood : ∀ i, i < 8 → V / 32 ^ i ≠ 0 → 1 ≤ dg V i ∧ dg V i ≤ 26 := fun i hi h0 => Classical.byContradiction (fun z => hbad ⟨i, hi, h0, z⟩)
      by_cases h40 : V < 2 ^ 40
      · have hW : okW V := ⟨h1, h40, fun i h0 => by
          by_cases y : i < 8
          · exact hgood i y h0
          · refine (h0 ?_).elim
            obtain ⟨d, rfl⟩ : ∃ d, i = 8 + d := ⟨i - 8, by omega⟩
            rw [Nat.pow_add, ← Nat.div_div_eq_div_mul, len_ex V h40, Nat.zero_div]⟩
        obtain ⟨b1, b2, b3⟩ := lW_s h40
        rw [lenS_t hW]
        have hlp := lp_for (b := X5_lengthOf_b5 w) (fun i => (lN (V / 32 ^ i), nI i)) (lW V) (e := .inr (lN 0, nI (lW V))) (fun i hi => stp i (by omega) (b3 i hi) (hgood i (by omega) (b3 i hi))) (by
          rw [b2]
          unfold X5_lengthOf_b5
          by_cases y : 8 ≤ lW V
          · simp (disch := omega) only [gdn, gb0, gb1, ixn, nm1, nI_add, nI_mul, nsub, nI_ltI, nI_leI, nI_eq, eqNO, eqNO2, ltNO, NOlt, leNO, NOle, if_pos, if_neg, Option.bind_some, if_true, if_false, and_self, eq_self, l0, l1, l2, l3, l4, l5, l6, l7, l8, l9, l10, l11, l12, l13, l14, l15, l16, l17, l18, l19, l20, l24, l26, l30, l31, l32, l40, l41, l42, l43, l45, l47, l48, l57, l58, l59, l60, l61, l62, l63, l64, l97, l99, l100, l101, l102, l103, l104, l105, l106, l107, l108, l109, l110, l122, l160, l240, l255, l600, l1000, l3000, l10000, l10007, l10116, l67108863, l67108864, j0, l_le]
          · simp (disch := omega) only [gdn, gb0, gb1, ixn, nm1, nI_add, nI_mul, nsub, nI_ltI, nI_leI, nI_eq, eqNO, eqNO2, ltNO, NOlt, leNO, NOle, if_pos, if_neg, Option.bind_some, if_true, if_false, and_self, eq_self, l0, l1, l2, l3, l4, l5, l6, l7, l8, l9, l10, l11, l12, l13, l14, l15, l16, l17, l18, l19, l20, l24, l26, l30, l31, l32, l40, l41, l42, l43, l45, l47, l48, l57, l58, l59, l60, l61, l62, l63, l64, l97, l99, l100, l101, l102, l103, l104, l105, l106, l107, l108, l109, l110, l122, l160, l240, l255, l600, l1000, l3000, l10000, l10007, l10116, l67108863, l67108864, j0, l_le]) 0 (Nat.zero_le _)
        rw [Nat.pow_zero, Nat.div_one] at hlp
        rw [show (lN V, (0 : Int32)) = (lN V, nI 0) from rfl, hlp]
        rfl
      · rw [lenS_n (by
          rintro ⟨U, hU, e⟩
          have := hU.2.1
          have e2 := lN_inj h63 (by omega) e
          omega)]
        have h8 : V / 32 ^ 8 ≠ 0 := by
          intro z
          have : V < 32 ^ 8 := (Nat.div_eq_zero_iff_lt (by decide)).mp z
          omega
        have hnz : ∀ i, i ≤ 8 → V / 32 ^ i ≠ 0 := fun i hi z => h8 (by
          obtain ⟨d, hd⟩ : ∃ d, 8 = i + d := ⟨8 - i, by omega⟩
          rw [hd, Nat.pow_add, ← Nat.div_div_eq_div_mul, z, Nat.zero_div])
        have hlp := lp_for (b := X5_lengthOf_b5 w) (fun i => (lN (V / 32 ^ i), nI i)) 8 (e := .inr (lN (V / 32 ^ 8), nI 8)) (fun i hi => stp i (by omega) (hnz i (by omega)) (hgood i (by omega) (hnz i (by omega)))) (by
          unfold X5_lengthOf_b5
          simp (disch := omega) only [gdn, gb0, gb1, ixn, nm1, nI_add, nI_mul, nsub, nI_ltI, nI_leI, nI_eq, eqNO, eqNO2, ltNO, NOlt, leNO, NOle, if_pos, if_neg, Option.bind_some, if_true, if_false, and_self, eq_self, l0, l1, l2, l3, l4, l5, l6, l7, l8, l9, l10, l11, l12, l13, l14, l15, l16, l17, l18, l19, l20, l24, l26, l30, l31, l32, l40, l41, l42, l43, l45, l47, l48, l57, l58, l59, l60, l61, l62, l63, l64, l97, l99, l100, l101, l102, l103, l104, l105, l106, l107, l108, l109, l110, l122, l160, l240, l255, l600, l1000, l3000, l10000, l10007, l10116, l67108863, l67108864]) 0 (Nat.zero_le _)
        rw [Nat.pow_zero, Nat.div_one] at hlp
        rw [show (lN V, (0 : Int32)) = (lN V, nI 0) from rfl, hlp]
        simp only [Option.bind_some]
        rw [if_neg (by
          rw [show (0 : Int64) = lN 0 from rfl, show (0 : Int32) = nI 0 from rfl, l_eq (vdiv h63) (by omega)]
          exact h8)]
        rfl
theorem isword_e (x : Int64) (w : Wd) : X12_isWord x w = some (if lenS x = 0 then nI 0 else nI 1) := by
  unfold X12_isWord
  rcases lN_c x with h | ⟨V, h1, h63, rfl⟩
  · rw [lenS_n (by
      rintro ⟨V, hV, rfl⟩
      have := hV.1; have := hV.2.1
      rw [lN_t (by omega)] at h; omega), if_pos (by rw [lg_cmp_lt, Int64.lt_iff_toInt_lt]; exact h)]
    rfl
  · rw [show (1 : Int64) = lN 1 from rfl, show (1099511627776 : Int64) = lN 1099511627776 from rfl]
    have c1 : (lg_cmp (lN V) (lN 1) < 0) = (V < 1) := l_lt h63 (by omega)
    have c2 : (lg_cmp (lN V) (lN 1099511627776) < 0) = (V < 1099511627776) := l_lt h63 (by omega)
    simp only [c1, c2]
    rw [if_neg (by omega)]
    by_cases h40 : V < 1099511627776
    · rw [if_pos h40]
      obtain ⟨b1, b2, b3⟩ := lW_s (V := V) (by omega)
      have hst : ∀ (i : Nat) (p : Prop), i < lW V → X12_isWord_b20 w (fg p, lN (V / 32 ^ i)) = some (.inl (fg (p ∧ 1 ≤ dg V i ∧ dg V i ≤ 26), lN (V / 32 ^ (i + 1)))) := by
        intro i p hi
        rw [isw_q (vdiv h63) (b3 i hi), div32]
        rfl
      have hlp := lp_for (b := X12_isWord_b20 w) (fun i => (fg (∀ j, j < i → 1 ≤ dg V j ∧ dg V j ≤ 26), lN (V / 32 ^ i))) (lW V) (e := fg (∀ j, j < lW V → 1 ≤ dg V j ∧ dg V j ≤ 26)) (fun i hi => by
        rw [hst i _ hi, fg_c (show ((∀ j, j < i → 1 ≤ dg V j ∧ dg V j ≤ 26) ∧ 1 ≤ dg V i ∧ dg V i ≤ 26) ↔ ∀ j, j < i + 1 → 1 ≤ dg V j ∧ dg V j ≤ 26 from ⟨fun z j hj => by
          by_cases y : j = i
          · rw [y]; exact z.2
          · exact z.1 j (by omega), fun z => ⟨fun j hj => z j (by omega), z i (by omega)⟩⟩)]) (by
        rw [b2]
        unfold X12_isWord_b20
        simp (disch := omega) only [gdn, gb0, gb1, ixn, nm1, nI_add, nI_mul, nsub, nI_ltI, nI_leI, nI_eq, eqNO, eqNO2, ltNO, NOlt, leNO, NOle, if_pos, if_neg, Option.bind_some, if_true, if_false, and_self, eq_self, l0, l1, l2, l3, l4, l5, l6, l7, l8, l9, l10, l11, l12, l13, l14, l15, l16, l17, l18, l19, l20, l24, l26, l30, l31, l32, l40, l41, l42, l43, l45, l47, l48, l57, l58, l59, l60, l61, l62, l63, l64, l97, l99, l100, l101, l102, l103, l104, l105, l106, l107, l108, l109, l110, l122, l160, l240, l255, l600, l1000, l3000, l10000, l10007, l10116, l67108863, l67108864, j0, l_le]) 0 (Nat.zero_le _)
      rw [Nat.pow_zero, Nat.div_one, fg_t (fun j hj => by omega)] at hlp
      rw [show ((1 : Int32), lN V) = (nI 1, lN V) from rfl, hlp]
      simp only [Option.bind_some]
      by_cases hW : ∀ j, j < lW V → 1 ≤ dg V j ∧ dg V j ≤ 26
      · have hok : okW V := ⟨h1, by omega, fun i h0 => hW i (by
          by_cases y : i < lW V
          · exact y
          · refine (h0 ?_).elim
            obtain ⟨d, rfl⟩ : ∃ d, i = lW V + d := ⟨i - lW V, by omega⟩
            rw [Nat.pow_add, ← Nat.div_div_eq_div_mul, b2, Nat.zero_div])⟩
        rw [fg_t hW, gb1, lenS_t hok, if_neg (by have := lW_pos hok; omega)]
      · rw [fg_f hW, gb0, lenS_n (by
          rintro ⟨U, hU, e⟩
          have := hU.2.1
          have e2 := lN_inj h63 (by omega) e
          subst e2
          exact hW (fun j hj => hU.2.2 j (b3 j hj))), if_pos rfl]
    · rw [if_neg h40, lenS_n (by
        rintro ⟨U, hU, e⟩
        have := hU.2.1
        have e2 := lN_inj h63 (by omega) e
        omega), if_pos rfl]
      rfl
