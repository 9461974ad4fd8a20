/-! numbers of a TRAY that are all unlike -/
theorem l_and1 {V : Nat} : lN V &&& (1 : Int64) = lN (V % 2) := by
  apply Int64.toBitVec_inj.mp
  rw [Int64.toBitVec_and]
  show BitVec.ofNat 64 V &&& BitVec.ofNat 64 1 = BitVec.ofNat 64 (V % 2)
  apply BitVec.eq_of_getLsbD_eq
  intro i hi
  simp only [BitVec.getLsbD_and, BitVec.getLsbD_ofNat, hi, decide_true, Bool.true_and]
  rw [show V % 2 = V % 2 ^ 1 from rfl, Nat.testBit_mod_two_pow, show 1 = 2 ^ 1 - 1 from rfl, Nat.testBit_two_pow_sub_one, Bool.and_comm]
theorem l_or (a b : Nat) : lN a ||| lN b = lN (a ||| b) := by
  apply Int64.toBitVec_inj.mp
  rw [Int64.toBitVec_or]
  show BitVec.ofNat 64 a ||| BitVec.ofNat 64 b = BitVec.ofNat 64 (a ||| b)
  apply BitVec.eq_of_getLsbD_eq
  intro i hi
  simp only [BitVec.getLsbD_or, BitVec.getLsbD_ofNat, Nat.testBit_or, hi, decide_true, Bool.true_and]
theorem l_shv {v : Nat} (h : v < 20) : ((Int32.toInt64 (nI v) &&& 63).toBitVec.smod 64).toNat = v := by
  have : ∀ v : Fin 20, ((Int32.toInt64 (nI v.1) &&& 63).toBitVec.smod 64).toNat = v.1 := by decide
  exact this ⟨v, h⟩
theorem l_shl {v : Nat} (h : v < 20) : lN 1 <<< (Int32.toInt64 (nI v) &&& 63) = lN (2 ^ v) := by
  have : ∀ v : Fin 20, lN 1 <<< (Int32.toInt64 (nI v.1) &&& 63) = lN (2 ^ v.1) := by decide
  exact this ⟨v, h⟩
theorem l_ge {a b : Nat} (ha : a < 2 ^ 63) (hb : b < 2 ^ 63) : (nI 0 ≤ lg_cmp (lN a) (lN b)) = (b ≤ a) := by
  show (0 ≤ lg_cmp (lN a) (lN b)) = _
  rw [eq_iff_iff, lg_cmp_ge, Int64.le_iff_toInt_le, lN_t ha, lN_t hb]; omega
def trV (w : Wd) (t k : Nat) : Nat := (w.2 2 (60 * t + k)).toInt.toNat
def badT (w : Wd) (t all k : Nat) : Prop := ((w.2 2 (60 * t + k)).toInt < 0 ∨ (all : Int) ≤ (w.2 2 (60 * t + k)).toInt) ∨ ∃ j, j < k ∧ trV w t j = trV w t k
theorem trV_e {w : Wd} {t all k : Nat} (h : ¬ badT w t all k) : w.2 2 (60 * t + k) = lN (trV w t k) ∧ trV w t k < all := by
  unfold badT at h
  have h1 : ¬ (w.2 2 (60 * t + k)).toInt < 0 := fun z => h (Or.inl (Or.inl z))
  have h2 : ¬ (all : Int) ≤ (w.2 2 (60 * t + k)).toInt := fun z => h (Or.inl (Or.inr z))
  have h3 := (w.2 2 (60 * t + k)).toInt_lt
  unfold trV
  refine ⟨?_, by omega⟩
  apply Int64.toInt_inj.mp
  rw [lN_t (by omega)]
  omega
def seenD (w : Wd) (t : Nat) : Nat → Nat
  | 0 => 0
  | k + 1 => seenD w t k ||| 2 ^ trV w t k
theorem seenD_b (w : Wd) (t x : Nat) : ∀ k, (seenD w t k).testBit x = true ↔ ∃ j, j < k ∧ trV w t j = x
  | 0 => by
    show (Nat.testBit 0 x = true) ↔ _
    rw [Nat.zero_testBit]
    constructor
    · intro h; cases h
    · rintro ⟨j, h1, _⟩; omega
  | k + 1 => by
    show (seenD w t k ||| 2 ^ trV w t k).testBit x = true ↔ _
    rw [Nat.testBit_or, Bool.or_eq_true, seenD_b w t x k, Nat.testBit_two_pow, decide_eq_true_eq]
    constructor
    · rintro (⟨j, h1, h2⟩ | h)
      · exact ⟨j, by omega, h2⟩
      · exact ⟨k, by omega, h⟩
    · rintro ⟨j, h1, h2⟩
      by_cases q : j = k
      · right; rw [← q]; exact h2
      · exact Or.inl ⟨j, by omega, h2⟩
theorem seenD_lt {w : Wd} {t all : Nat} (ha : all ≤ 20) : ∀ k, (∀ j, j < k → ¬ badT w t all j) → seenD w t k < 2 ^ 20
  | 0, _ => by show 0 < 2 ^ 20; decide
  | k + 1, h => by
    have h1 := seenD_lt ha k (fun j hj => h j (by omega))
    have h2 := (trV_e (h k (by omega))).2
    exact Nat.or_lt_two_pow h1 (Nat.pow_lt_pow_right (by omega) (by omega))
theorem starts_e {w : Wd} {t M all : Nat} (ht : t < 4) (hM : M ≤ 7) (ha : all ≤ 20) {x : Int32} (hx : x = nI all) : X9_startsWithUnlike (nI t) (nI M) x w = some (fg (∀ k, k < M → ¬ badT w t all k)) := by
  subst hx
  have hat : ∀ k, k < M → X9_at (nI t) (nI k) w = some (w.2 2 (60 * t + k)) := by
    intro k hk
    unfold X9_at
    simp (disch := omega) only [gdn, gb0, gb1, ixn, nm1, nI_add, nI_mul, nsub, nI_ltI, nI_leI, nI_eq, eqNO, eqNO2, ltNO, NOlt, leNO, NOle, if_pos, if_neg, Option.bind_some, if_true, if_false, and_self, eq_self, l0, l1, l2, l3, l4, l5, l6, l7, l8, l9, l10, l11, l12, l13, l14, l15, l16, l17, l18, l19, l20, l24, l26, l30, l31, l32, l40, l41, l42, l43, l45, l47, l48, l57, l58, l59, l60, l61, l62, l63, l64, l97, l99, l100, l101, l102, l103, l104, l105, l106, l107, l108, l109, l110, l122, l160, l240, l255, l600, l1000, l3000, l10000, l10007, l10116, l67108863, l67108864]
    rw [show t * 60 + k = 60 * t + k by omega]
  have hall : Int32.toInt64 (nI all) = lN all := nI_l (by omega)
  have st : ∀ k, k < M → (∀ j, j < k → ¬ badT w t all j) → ¬ badT w t all k → X9_startsWithUnlike_b6 (nI t) (nI M) (nI all) w (lN (seenD w t k), nI k) = some (.inl (lN (seenD w t (k + 1)), nI (k + 1))) := by
    intro k hk hj hb
    obtain ⟨e1, e2⟩ := trV_e hb
    have hD := seenD_lt ha k hj
    have h20 : (2 : Nat) ^ 20 = 1048576 := by decide
    have hto := l_to (V := trV w t k) (by omega)
    have hsh := l_shr (V := seenD w t k) (k := trV w t k) (by omega) (l_shv (v := trV w t k) (by omega))
    have hsl := l_shl (v := trV w t k) (by omega)
    have hbit : seenD w t k / 2 ^ trV w t k % 2 = 0 := by
      have : ¬ (seenD w t k).testBit (trV w t k) = true := fun z => hb (Or.inr ((seenD_b w t _ k).mp z))
      rw [Nat.testBit_eq_decide_div_mod_eq, decide_eq_true_eq] at this
      omega
    have ha1 := hat k hk
    rw [e1] at ha1
    unfold X9_startsWithUnlike_b6
    rw [show seenD w t (k + 1) = seenD w t k ||| 2 ^ trV w t k from rfl]
    have hand : lN (seenD w t k / 2 ^ trV w t k) &&& lN 1 = lN 0 := by
      show lN (seenD w t k / 2 ^ trV w t k) &&& (1 : Int64) = _
      rw [l_and1, hbit]
    simp (disch := omega) only [gdn, gb0, gb1, ixn, nm1, nI_add, nI_mul, nsub, nI_ltI, nI_leI, nI_eq, eqNO, eqNO2, ltNO, NOlt, leNO, NOle, if_pos, if_neg, Option.bind_some, if_true, if_false, and_self, eq_self, l0, l1, l2, l3, l4, l5, l6, l7, l8, l9, l10, l11, l12, l13, l14, l15, l16, l17, l18, l19, l20, l24, l26, l30, l31, l32, l40, l41, l42, l43, l45, l47, l48, l57, l58, l59, l60, l61, l62, l63, l64, l97, l99, l100, l101, l102, l103, l104, l105, l106, l107, l108, l109, l110, l122, l160, l240, l255, l600, l1000, l3000, l10000, l10007, l10116, l67108863, l67108864, ha1, hall, j0, j1, l_lt, l_ge, l_eq, hto, hsh, hsl, l_or, hand]
  have hit : ∀ k, k < M → (∀ j, j < k → ¬ badT w t all j) → badT w t all k → X9_startsWithUnlike_b6 (nI t) (nI M) (nI all) w (lN (seenD w t k), nI k) = some (.inr (.inl ())) := by
    intro k hk hj hb
    have ha1 := hat k hk
    have hD := seenD_lt ha k hj
    have h20 : (2 : Nat) ^ 20 = 1048576 := by decide
    have c1 : (lg_cmp (w.2 2 (60 * t + k)) (lN 0) < nI 0) = ((w.2 2 (60 * t + k)).toInt < 0) := by
      show (lg_cmp (w.2 2 (60 * t + k)) (lN 0) < 0) = _
      rw [eq_iff_iff, lg_cmp_lt, Int64.lt_iff_toInt_lt, lN_t (by omega)]; rfl
    have c2 : (nI 0 ≤ lg_cmp (w.2 2 (60 * t + k)) (lN all)) = ((all : Int) ≤ (w.2 2 (60 * t + k)).toInt) := by
      show (0 ≤ lg_cmp (w.2 2 (60 * t + k)) (lN all)) = _
      rw [eq_iff_iff, lg_cmp_ge, Int64.le_iff_toInt_le, lN_t (by omega)]
    unfold X9_startsWithUnlike_b6
    by_cases h1 : (w.2 2 (60 * t + k)).toInt < 0
    · simp (disch := omega) only [gdn, gb0, gb1, ixn, nm1, nI_add, nI_mul, nsub, nI_ltI, nI_leI, nI_eq, eqNO, eqNO2, ltNO, NOlt, leNO, NOle, if_pos, if_neg, Option.bind_some, if_true, if_false, and_self, eq_self, l0, l1, l2, l3, l4, l5, l6, l7, l8, l9, l10, l11, l12, l13, l14, l15, l16, l17, l18, l19, l20, l24, l26, l30, l31, l32, l40, l41, l42, l43, l45, l47, l48, l57, l58, l59, l60, l61, l62, l63, l64, l97, l99, l100, l101, l102, l103, l104, l105, l106, l107, l108, l109, l110, l122, l160, l240, l255, l600, l1000, l3000, l10000, l10007, l10116, l67108863, l67108864, ha1, j0, c1]
    · by_cases h2 : (all : Int) ≤ (w.2 2 (60 * t + k)).toInt
      · simp (disch := omega) only [gdn, gb0, gb1, ixn, nm1, nI_add, nI_mul, nsub, nI_ltI, nI_leI, nI_eq, eqNO, eqNO2, ltNO, NOlt, leNO, NOle, if_pos, if_neg, Option.bind_some, if_true, if_false, and_self, eq_self, l0, l1, l2, l3, l4, l5, l6, l7, l8, l9, l10, l11, l12, l13, l14, l15, l16, l17, l18, l19, l20, l24, l26, l30, l31, l32, l40, l41, l42, l43, l45, l47, l48, l57, l58, l59, l60, l61, l62, l63, l64, l97, l99, l100, l101, l102, l103, l104, l105, l106, l107, l108, l109, l110, l122, l160, l240, l255, l600, l1000, l3000, l10000, l10007, l10116, l67108863, l67108864, ha1, hall, j0, c1, c2]
      · have h3 := hb.resolve_left (fun z => z.elim h1 h2)
        have e1 : w.2 2 (60 * t + k) = lN (trV w t k) := by
          have h4 := (w.2 2 (60 * t + k)).toInt_lt
          apply Int64.toInt_inj.mp
          unfold trV
          rw [lN_t (by omega)]
          omega
        have e2 : trV w t k < all := by unfold trV; omega
        have hto := l_to (V := trV w t k) (by omega)
        have hsh := l_shr (V := seenD w t k) (k := trV w t k) (by omega) (l_shv (v := trV w t k) (by omega))
        have hbit : seenD w t k / 2 ^ trV w t k % 2 = 1 := by
          have := (seenD_b w t (trV w t k) k).mpr h3
          rw [Nat.testBit_eq_decide_div_mod_eq, decide_eq_true_eq] at this
          exact this
        have hand : lN (seenD w t k / 2 ^ trV w t k) &&& lN 1 = lN 1 := by
          show lN (seenD w t k / 2 ^ trV w t k) &&& (1 : Int64) = _
          rw [l_and1, hbit]
        rw [e1] at ha1
        simp (disch := omega) only [gdn, gb0, gb1, ixn, nm1, nI_add, nI_mul, nsub, nI_ltI, nI_leI, nI_eq, eqNO, eqNO2, ltNO, NOlt, leNO, NOle, if_pos, if_neg, Option.bind_some, if_true, if_false, and_self, eq_self, l0, l1, l2, l3, l4, l5, l6, l7, l8, l9, l10, l11, l12, l13, l14, l15, l16, l17, l18, l19, l20, l24, l26, l30, l31, l32, l40, l41, l42, l43, l45, l47, l48, l57, l58, l59, l60, l61, l62, l63, l64, l97, l99, l100, l101, l102, l103, l104, l105, l106, l107, l108, l109, l110, l122, l160, l240, l255, l600, l1000, l3000, l10000, l10007, l10116, l67108863, l67108864, ha1, hall, j0, j1, l_lt, l_ge, l_eq, hto, hsh, hand]
  unfold X9_startsWithUnlike
  by_cases h : ∀ k, k < M → ¬ badT w t all k
  · have hlp := lp_for (b := X9_startsWithUnlike_b6 (nI t) (nI M) (nI all) w) (fun k => (lN (seenD w t k), nI k)) M (e := .inr ()) (fun k hk => st k hk (fun j hj => h j (by omega)) (h k hk)) (by unfold X9_startsWithUnlike_b6; simp (disch := omega) only [gdn, gb0, gb1, ixn, nm1, nI_add, nI_mul, nsub, nI_ltI, nI_leI, nI_eq, eqNO, eqNO2, ltNO, NOlt, leNO, NOle, if_pos, if_neg, Option.bind_some, if_true, if_false, and_self, eq_self, l0, l1, l2, l3, l4, l5, l6, l7, l8, l9, l10, l11, l12, l13, l14, l15, l16, l17, l18, l19, l20, l24, l26, l30, l31, l32, l40, l41, l42, l43, l45, l47, l48, l57, l58, l59, l60, l61, l62, l63, l64, l97, l99, l100, l101, l102, l103, l104, l105, l106, l107, l108, l109, l110, l122, l160, l240, l255, l600, l1000, l3000, l10000, l10007, l10116, l67108863, l67108864]) 0 (Nat.zero_le _)
    rw [show ((0 : Int64), (0 : Int32)) = (lN (seenD w t 0), nI 0) from rfl, hlp, fg_t h]
    rfl
  · obtain ⟨k, hk, hb, hmin⟩ := least_of (p := fun k => badT w t all k) (n := M) (Classical.byContradiction (fun z => h (fun k hk y => z ⟨k, hk, y⟩)))
    have hlp := lp_for (b := X9_startsWithUnlike_b6 (nI t) (nI M) (nI all) w) (fun k => (lN (seenD w t k), nI k)) k (e := .inl ()) (fun j hj => st j (by omega) (fun i hi => hmin i (by omega)) (hmin j hj)) (hit k hk hmin hb) 0 (Nat.zero_le _)
    rw [show ((0 : Int64), (0 : Int32)) = (lN (seenD w t 0), nI 0) from rfl, hlp, fg_f h]
    rfl
/-- the model -/
theorem isRow_e {w u : Wd} {t M all kv nv : Nat} (hu : u.2 100 = w.2 2) (ht : t < 4) (hM : M ≤ 7) (ha : all ≤ 20) (hnv : nv = 7) {x : Int32} (hx : x = nI all) : ((∀ k, k < M → ¬ badT w t all k) → X12_isRow kv nv (nI t) (nI M) x u = some (nI 1, seI u kv (rwN M (trV w t) (u.1 kv)))) ∧ ((¬ ∀ k, k < M → ¬ badT w t all k) → ∃ f, X12_isRow kv nv (nI t) (nI M) x u = some (nI 0, seI u kv f)) := by
  subst hx
  subst hnv
  have hall : Int32.toInt64 (nI all) = lN all := nI_l (by omega)
  have r100 : ∀ f j, (seI u kv f).2 100 j = w.2 2 j := fun f j => by rw [SI_J, hu]
  have hup : ∀ k, upd (rwN k (trV w t) (u.1 kv)) k (nI (trV w t k)) = rwN (k + 1) (trV w t) (u.1 kv) := by
    intro k
    funext j
    unfold upd rwN
    by_cases q : j = k
    · rw [if_pos q, if_pos (by omega), q]
    · rw [if_neg q]
      by_cases y : j < k
      · rw [if_pos y, if_pos (by omega)]
      · rw [if_neg y, if_neg (by omega)]
  have inner : ∀ k, k < M → (∀ j, j ≤ k → trV w t j < 2 ^ 31) → ((∃ i, i < k ∧ trV w t i = trV w t k) → lp (X12_isRow_b51 kv 7 (nI t) (nI M) (nI all) (nI k) (seI u kv (rwN (k + 1) (trV w t) (u.1 kv)))) (nI 0) = some (.inl ())) ∧ ((¬ ∃ i, i < k ∧ trV w t i = trV w t k) → lp (X12_isRow_b51 kv 7 (nI t) (nI M) (nI all) (nI k) (seI u kv (rwN (k + 1) (trV w t) (u.1 kv)))) (nI 0) = some (.inr ())) := by
    intro k hk hb
    have bk := hb k (Nat.le_refl _)
    have rr : ∀ i, i ≤ k → (seI u kv (rwN (k + 1) (trV w t) (u.1 kv))).1 kv i = nI (trV w t i) := fun i hi => by rw [SI_row]; exact rwN_lt (by omega)
    have rk := rr k (Nat.le_refl _)
    have st : ∀ i, i < k → ¬ trV w t i = trV w t k → X12_isRow_b51 kv 7 (nI t) (nI M) (nI all) (nI k) (seI u kv (rwN (k + 1) (trV w t) (u.1 kv))) (nI i) = some (.inl (nI (i + 1))) := by
      intro i hi q
      have ri := rr i (by omega)
      have bi := hb i (by omega)
      unfold X12_isRow_b51
      simp (disch := omega) only [gdn, gb0, gb1, ixn, nm1, nI_add, nI_mul, nsub, nI_ltI, nI_leI, nI_eq, eqNO, eqNO2, ltNO, NOlt, leNO, NOle, if_pos, if_neg, Option.bind_some, if_true, if_false, and_self, eq_self, l0, l1, l2, l3, l4, l5, l6, l7, l8, l9, l10, l11, l12, l13, l14, l15, l16, l17, l18, l19, l20, l24, l26, l30, l31, l32, l40, l41, l42, l43, l45, l47, l48, l57, l58, l59, l60, l61, l62, l63, l64, l97, l99, l100, l101, l102, l103, l104, l105, l106, l107, l108, l109, l110, l122, l160, l240, l255, l600, l1000, l3000, l10000, l10007, l10116, l67108863, l67108864, ri, rk]
    have hh : ∀ i, i < k → trV w t i = trV w t k → X12_isRow_b51 kv 7 (nI t) (nI M) (nI all) (nI k) (seI u kv (rwN (k + 1) (trV w t) (u.1 kv))) (nI i) = some (.inr (.inl ())) := by
      intro i hi q
      have ri := rr i (by omega)
      have bi := hb i (by omega)
      unfold X12_isRow_b51
      simp (disch := omega) only [gdn, gb0, gb1, ixn, nm1, nI_add, nI_mul, nsub, nI_ltI, nI_leI, nI_eq, eqNO, eqNO2, ltNO, NOlt, leNO, NOle, if_pos, if_neg, Option.bind_some, if_true, if_false, and_self, eq_self, l0, l1, l2, l3, l4, l5, l6, l7, l8, l9, l10, l11, l12, l13, l14, l15, l16, l17, l18, l19, l20, l24, l26, l30, l31, l32, l40, l41, l42, l43, l45, l47, l48, l57, l58, l59, l60, l61, l62, l63, l64, l97, l99, l100, l101, l102, l103, l104, l105, l106, l107, l108, l109, l110, l122, l160, l240, l255, l600, l1000, l3000, l10000, l10007, l10116, l67108863, l67108864, ri, rk]
    exact ⟨fun h => lp_hit st hh h, fun h => lp_miss st (by unfold X12_isRow_b51; simp (disch := omega) only [gdn, gb0, gb1, ixn, nm1, nI_add, nI_mul, nsub, nI_ltI, nI_leI, nI_eq, eqNO, eqNO2, ltNO, NOlt, leNO, NOle, if_pos, if_neg, Option.bind_some, if_true, if_false, and_self, eq_self, l0, l1, l2, l3, l4, l5, l6, l7, l8, l9, l10, l11, l12, l13, l14, l15, l16, l17, l18, l19, l20, l24, l26, l30, l31, l32, l40, l41, l42, l43, l45, l47, l48, l57, l58, l59, l60, l61, l62, l63, l64, l97, l99, l100, l101, l102, l103, l104, l105, l106, l107, l108, l109, l110, l122, l160, l240, l255, l600, l1000, l3000, l10000, l10007, l10116, l67108863, l67108864]) h⟩
  have st : ∀ k, k < M → (∀ j, j < k → ¬ badT w t all j) → ¬ badT w t all k → X12_isRow_b3 kv 7 (nI t) (nI M) (nI all) (nI k, seI u kv (rwN k (trV w t) (u.1 kv))) = some (.inl (nI (k + 1), seI u kv (rwN (k + 1) (trV w t) (u.1 kv)))) := by
    intro k hk hj hb
    obtain ⟨e1, e2⟩ := trV_e hb
    have hto := l_to (V := trV w t k) (by omega)
    have hin := (inner k hk (fun j hjk => by
      by_cases q : j = k
      · rw [q]; omega
      · have := (trV_e (hj j (by omega))).2; omega)).2 (fun z => hb (Or.inr z))
    have rv : (seI u kv (rwN k (trV w t) (u.1 kv))).2 100 (60 * t + k) = lN (trV w t k) := by rw [r100, e1]
    unfold X12_isRow_b3
    simp (disch := omega) only [gdn, gb0, gb1, ixn, nm1, nI_add, nI_mul, nsub, nI_ltI, nI_leI, nI_eq, eqNO, eqNO2, ltNO, NOlt, leNO, NOle, if_pos, if_neg, Option.bind_some, if_true, if_false, and_self, eq_self, l0, l1, l2, l3, l4, l5, l6, l7, l8, l9, l10, l11, l12, l13, l14, l15, l16, l17, l18, l19, l20, l24, l26, l30, l31, l32, l40, l41, l42, l43, l45, l47, l48, l57, l58, l59, l60, l61, l62, l63, l64, l97, l99, l100, l101, l102, l103, l104, l105, l106, l107, l108, l109, l110, l122, l160, l240, l255, l600, l1000, l3000, l10000, l10007, l10116, l67108863, l67108864, rv, hall, j0, l_lt, hto, pu_seI, hup, hin]
  have hit : ∀ k, k < M → (∀ j, j < k → ¬ badT w t all j) → badT w t all k → ∃ f, X12_isRow_b3 kv 7 (nI t) (nI M) (nI all) (nI k, seI u kv (rwN k (trV w t) (u.1 kv))) = some (.inr (.inl (seI u kv f))) ∨ X12_isRow_b3 kv 7 (nI t) (nI M) (nI all) (nI k, seI u kv (rwN k (trV w t) (u.1 kv))) = some (.inr (.inr (.inl (seI u kv f)))) := by
    intro k hk hj hb
    have rv : (seI u kv (rwN k (trV w t) (u.1 kv))).2 100 (60 * t + k) = w.2 2 (60 * t + k) := r100 _ _
    have c1 : (lg_cmp (w.2 2 (60 * t + k)) (lN 0) < nI 0) = ((w.2 2 (60 * t + k)).toInt < 0) := by
      show (lg_cmp (w.2 2 (60 * t + k)) (lN 0) < 0) = _
      rw [eq_iff_iff, lg_cmp_lt, Int64.lt_iff_toInt_lt, lN_t (by omega)]; rfl
    have c2 : (lg_cmp (w.2 2 (60 * t + k)) (lN all) < nI 0) = ((w.2 2 (60 * t + k)).toInt < (all : Int)) := by
      show (lg_cmp (w.2 2 (60 * t + k)) (lN all) < 0) = _
      rw [eq_iff_iff, lg_cmp_lt, Int64.lt_iff_toInt_lt, lN_t (by omega)]
    by_cases h1 : (w.2 2 (60 * t + k)).toInt < 0
    · refine ⟨rwN k (trV w t) (u.1 kv), Or.inl ?_⟩
      unfold X12_isRow_b3
      simp (disch := omega) only [gdn, gb0, gb1, ixn, nm1, nI_add, nI_mul, nsub, nI_ltI, nI_leI, nI_eq, eqNO, eqNO2, ltNO, NOlt, leNO, NOle, if_pos, if_neg, Option.bind_some, if_true, if_false, and_self, eq_self, l0, l1, l2, l3, l4, l5, l6, l7, l8, l9, l10, l11, l12, l13, l14, l15, l16, l17, l18, l19, l20, l24, l26, l30, l31, l32, l40, l41, l42, l43, l45, l47, l48, l57, l58, l59, l60, l61, l62, l63, l64, l97, l99, l100, l101, l102, l103, l104, l105, l106, l107, l108, l109, l110, l122, l160, l240, l255, l600, l1000, l3000, l10000, l10007, l10116, l67108863, l67108864, rv, j0, c1]
    · by_cases h2 : (all : Int) ≤ (w.2 2 (60 * t + k)).toInt
      · refine ⟨rwN k (trV w t) (u.1 kv), Or.inl ?_⟩
        unfold X12_isRow_b3
        simp (disch := omega) only [gdn, gb0, gb1, ixn, nm1, nI_add, nI_mul, nsub, nI_ltI, nI_leI, nI_eq, eqNO, eqNO2, ltNO, NOlt, leNO, NOle, if_pos, if_neg, Option.bind_some, if_true, if_false, and_self, eq_self, l0, l1, l2, l3, l4, l5, l6, l7, l8, l9, l10, l11, l12, l13, l14, l15, l16, l17, l18, l19, l20, l24, l26, l30, l31, l32, l40, l41, l42, l43, l45, l47, l48, l57, l58, l59, l60, l61, l62, l63, l64, l97, l99, l100, l101, l102, l103, l104, l105, l106, l107, l108, l109, l110, l122, l160, l240, l255, l600, l1000, l3000, l10000, l10007, l10116, l67108863, l67108864, rv, hall, j0, c1, c2]
      · have h3 := hb.resolve_left (fun z => z.elim h1 h2)
        have e1 : w.2 2 (60 * t + k) = lN (trV w t k) := by
          have h4 := (w.2 2 (60 * t + k)).toInt_lt
          apply Int64.toInt_inj.mp
          unfold trV
          rw [lN_t (by omega)]
          omega
        have e2 : trV w t k < all := by unfold trV; omega
        have hto := l_to (V := trV w t k) (by omega)
        have hin := (inner k hk (fun j hjk => by
          by_cases q : j = k
          · rw [q]; omega
          · have := (trV_e (hj j (by omega))).2; omega)).1 h3
        rw [e1] at rv
        refine ⟨rwN (k + 1) (trV w t) (u.1 kv), Or.inr ?_⟩
        unfold X12_isRow_b3
        simp (disch := omega) only [gdn, gb0, gb1, ixn, nm1, nI_add, nI_mul, nsub, nI_ltI, nI_leI, nI_eq, eqNO, eqNO2, ltNO, NOlt, leNO, NOle, if_pos, if_neg, Option.bind_some, if_true, if_false, and_self, eq_self, l0, l1, l2, l3, l4, l5, l6, l7, l8, l9, l10, l11, l12, l13, l14, l15, l16, l17, l18, l19, l20, l24, l26, l30, l31, l32, l40, l41, l42, l43, l45, l47, l48, l57, l58, l59, l60, l61, l62, l63, l64, l97, l99, l100, l101, l102, l103, l104, l105, l106, l107, l108, l109, l110, l122, l160, l240, l255, l600, l1000, l3000, l10000, l10007, l10116, l67108863, l67108864, rv, hall, j0, l_lt, hto, pu_seI, hup, hin]
  have hz : ((0 : Int32), u) = (nI 0, seI u kv (rwN 0 (trV w t) (u.1 kv))) := by
    rw [show rwN 0 (trV w t) (u.1 kv) = u.1 kv from rwN_id (fun j hj => by omega), seI_same rfl]; rfl
  refine ⟨fun h => ?_, fun h => ?_⟩
  · have hlp := lp_for (b := X12_isRow_b3 kv 7 (nI t) (nI M) (nI all)) (fun k => (nI k, seI u kv (rwN k (trV w t) (u.1 kv)))) M (e := .inr (.inr (seI u kv (rwN M (trV w t) (u.1 kv))))) (fun k hk => st k hk (fun j hj => h j (by omega)) (h k hk)) (by unfold X12_isRow_b3; simp (disch := omega) only [gdn, gb0, gb1, ixn, nm1, nI_add, nI_mul, nsub, nI_ltI, nI_leI, nI_eq, eqNO, eqNO2, ltNO, NOlt, leNO, NOle, if_pos, if_neg, Option.bind_some, if_true, if_false, and_self, eq_self, l0, l1, l2, l3, l4, l5, l6, l7, l8, l9, l10, l11, l12, l13, l14, l15, l16, l17, l18, l19, l20, l24, l26, l30, l31, l32, l40, l41, l42, l43, l45, l47, l48, l57, l58, l59, l60, l61, l62, l63, l64, l97, l99, l100, l101, l102, l103, l104, l105, l106, l107, l108, l109, l110, l122, l160, l240, l255, l600, l1000, l3000, l10000, l10007, l10116, l67108863, l67108864]) 0 (Nat.zero_le _)
    unfold X12_isRow
    rw [hz, hlp]
    rfl
  · obtain ⟨k, hk, hb, hmin⟩ := least_of (p := fun k => badT w t all k) (n := M) (Classical.byContradiction (fun z => h (fun k hk y => z ⟨k, hk, y⟩)))
    obtain ⟨f, hf⟩ := hit k hk hmin hb
    refine ⟨f, ?_⟩
    unfold X12_isRow
    rw [hz]
    rcases hf with hf | hf
    · rw [lp_for (b := X12_isRow_b3 kv 7 (nI t) (nI M) (nI all)) (fun k => (nI k, seI u kv (rwN k (trV w t) (u.1 kv)))) k (fun j hj => st j (by omega) (fun i hi => hmin i (by omega)) (hmin j hj)) hf 0 (Nat.zero_le _)]
      rfl
    · rw [lp_for (b := X12_isRow_b3 kv 7 (nI t) (nI M) (nI all)) (fun k => (nI k, seI u kv (rwN k (trV w t) (u.1 kv)))) k (fun j hj => st j (by omega) (fun i hi => hmin i (by omega)) (hmin j hj)) hf 0 (Nat.zero_le _)]
      rfl
