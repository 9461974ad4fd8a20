/-! the model's TOKENS -/
def mkd (t : Nat) : Nat := if t = 0 then 1 else if t = 1 then 0 else if t = 2 then 3 else if t ≤ 4 ∨ 100 ≤ t then 2 else 4
def MB (c : Nat → Nat) (n : Nat) (w : Wd) : Prop := w.1 97 34 = nI n ∧ ∀ i, i < n → w.1 121 i &&& nI 255 = nI (c i) ∧ c i < 256
def MT (c : Nat → Nat) (n p : Nat) (w : Wd) : Prop := w.1 97 35 = nI (mkd (tk c n p)) ∧ w.1 97 36 = nI (tf c n p) ∧ w.1 97 37 = nI (te c n p) ∧ (tk c n p = 2 → w.1 97 38 = nI (tv c n p)) ∧ (40 ≤ tk c n p → tk c n p < 100 → w.1 97 38 = nI (tk c n p))
noncomputable def nxT (w : Wd) : Option Wd :=
(some (puI w 97 36 (w.1 97 37))).bind fun w33 =>
(X12_at (w33.1 97 37) w33).bind fun q34 =>
(some (puI w33 97 38 q34)).bind fun w36 =>
(if q34 = (-1 : Int32) then
(some (puI w36 97 35 (0 : Int32))).bind fun w42 =>
some w42
else
(if (X12_isSmall q34 w36) = 0 then
(if (X12_isDigit q34 w36) = 0 then
(some (puI w36 97 37 ((w36.1 97 37) + (1 : Int32)))).bind fun w37 =>
(if q34 = (59 : Int32) then
X12_next_j285 w37
else
(if q34 = (58 : Int32) then
X12_next_j285 w37
else
(if q34 = (60 : Int32) then
X12_next_j285 w37
else
(if q34 = (62 : Int32) then
X12_next_j285 w37
else
(if q34 = (61 : Int32) then
X12_next_j285 w37
else
(if q34 = (43 : Int32) then
X12_next_j285 w37
else
(if q34 = (45 : Int32) then
X12_next_j285 w37
else
(if q34 = (42 : Int32) then
X12_next_j285 w37
else
(if q34 = (47 : Int32) then
X12_next_j285 w37
else
(if q34 = (40 : Int32) then
X12_next_j285 w37
else
(if q34 = (41 : Int32) then
X12_next_j285 w37
else
X12_next_j290 (0 : Int32) w37)))))))))))
else
(some (puI w36 97 38 (0 : Int32))).bind fun w38 =>
(lp (X12_next_b128 ) w38).bind fun e39 =>
(if ((e39.1 97 37) - (e39.1 97 36)) ≤ (4 : Int32) then
X12_next_j203 (3 : Int32) e39
else
X12_next_j203 (1 : Int32) e39))
else
(lp (X12_next_b81 ) w36).bind fun e40 =>
(some (puI e40 97 35 (2 : Int32))).bind fun w41 =>
some w41))
section
variable {c : Nat → Nat} {n : Nat}
theorem at_e (hn : n ≤ 600) {w : Wd} (h : MB c n w) {k : Nat} (hk : k < 2 ^ 31) : X12_at (nI k) w = some (if k < n then nI (c k) else NO) := by
  unfold X12_at
  by_cases q : k < n
  · obtain ⟨h1, h2⟩ := h.2 k q
    rw [if_pos q]
    simp (disch := omega) only [gdn, gb0, gb1, ixn, nm1, nI_add, nI_mul, nsub, nI_ltI, nI_leI, nI_eq, eqNO, eqNO2, ltNO, NOlt, leNO, NOle, if_pos, if_neg, Option.bind_some, if_true, if_false, and_self, eq_self, l0, l1, l2, l3, l4, l5, l6, l7, l8, l9, l10, l11, l12, l13, l14, l15, l16, l17, l18, l19, l20, l24, l26, l30, l31, l32, l40, l41, l42, l43, l45, l47, l48, l57, l58, l59, l60, l61, l62, l63, l64, l97, l99, l100, l101, l102, l103, l104, l105, l106, l107, l108, l109, l110, l122, l160, l240, l255, l600, l1000, l3000, l10000, l10007, l10116, l67108863, l67108864, h.1, h1]
  · rw [if_neg q]
    simp (disch := omega) only [gdn, gb0, gb1, ixn, nm1, nI_add, nI_mul, nsub, nI_ltI, nI_leI, nI_eq, eqNO, eqNO2, ltNO, NOlt, leNO, NOle, if_pos, if_neg, Option.bind_some, if_true, if_false, and_self, eq_self, l0, l1, l2, l3, l4, l5, l6, l7, l8, l9, l10, l11, l12, l13, l14, l15, l16, l17, l18, l19, l20, l24, l26, l30, l31, l32, l40, l41, l42, l43, l45, l47, l48, l57, l58, l59, l60, l61, l62, l63, l64, l97, l99, l100, l101, l102, l103, l104, l105, l106, l107, l108, l109, l110, l122, l160, l240, l255, l600, l1000, l3000, l10000, l10007, l10116, l67108863, l67108864, h.1]
theorem MB.fr {w w' : Wd} (h : MB c n w) (e34 : w'.1 97 34 = w.1 97 34) (e121 : w'.1 121 = w.1 121) : MB c n w' := ⟨by rw [e34]; exact h.1, fun i hi => by rw [e121]; exact h.2 i hi⟩
theorem MB.nx {w w' : Wd} (h : MB c n w) (e : Fr [] [(97, 35), (97, 36), (97, 37), (97, 38)] w w') : MB c n w' := h.fr (e 97 (by decide) 34 (by decide)).1 (e.row 121 (by decide) (by decide)).1
theorem small_e {k : Nat} (h : k < 256) (w : Wd) : X12_isSmall (nI k) w = if isLet k = true then nI 1 else nI 0 := by
  unfold X12_isSmall X12_isSmallO
  rw [show (97 : Int32) = nI 97 from rfl, show (122 : Int32) = nI 122 from rfl]
  simp only [nI_ltI (show k < 2 ^ 31 by omega) (show 97 < 2 ^ 31 by omega), nI_ltI (show 122 < 2 ^ 31 by omega) (show k < 2 ^ 31 by omega), let_iff]
  by_cases q : 97 ≤ k ∧ k ≤ 122
  · rw [if_neg (by omega), if_neg (by omega), if_pos q]; rfl
  · rw [if_neg q]
    by_cases q2 : k < 97
    · rw [if_pos q2]; rfl
    · rw [if_neg q2, if_pos (by omega)]; rfl
theorem mdig_e {k : Nat} (h : k < 256) (w : Wd) : X12_isDigit (nI k) w = if isDig k = true then nI 1 else nI 0 := by
  unfold X12_isDigit X12_isDigitO
  rw [show (48 : Int32) = nI 48 from rfl, show (57 : Int32) = nI 57 from rfl]
  simp only [nI_ltI (show k < 2 ^ 31 by omega) (show 48 < 2 ^ 31 by omega), nI_ltI (show 57 < 2 ^ 31 by omega) (show k < 2 ^ 31 by omega), dig_iff]
  by_cases q : 48 ≤ k ∧ k ≤ 57
  · rw [if_neg (by omega), if_neg (by omega), if_pos q]; rfl
  · rw [if_neg q]
    by_cases q2 : k < 48
    · rw [if_pos q2]; rfl
    · rw [if_neg q2, if_pos (by omega)]; rfl
theorem small_NO (w : Wd) : X12_isSmall NO w = nI 0 := by
  unfold X12_isSmall X12_isSmallO
  rw [if_pos (by decide)]; rfl
theorem mdig_NO (w : Wd) : X12_isDigit NO w = nI 0 := by
  unfold X12_isDigit X12_isDigitO
  rw [if_pos (by decide)]; rfl
theorem mspl_e (hn : n ≤ 600) {w : Wd} (hb : MB c n w) : ∀ p, p ≤ n → w.1 97 37 = nI p → lp X12_next_b0 w = some (puI w 97 37 (nI (tf c n p))) := by
  intro p hp h6
  induction hk : n - p generalizing p w with
  | zero =>
    have : p = n := by omega
    subst this
    have e : tf c p p = p := ext_f (Or.inl (Nat.le_refl _))
    rw [e, pu_same h6]
    refine lp_exit ?_
    unfold X12_next_b0
    rw [h6, at_e hn hb (by omega), if_neg (by omega)]
    simp (disch := omega) only [gdn, gb0, gb1, ixn, nm1, nI_add, nI_mul, nsub, nI_ltI, nI_leI, nI_eq, eqNO, eqNO2, ltNO, NOlt, leNO, NOle, if_pos, if_neg, Option.bind_some, if_true, if_false, and_self, eq_self, l0, l1, l2, l3, l4, l5, l6, l7, l8, l9, l10, l11, l12, l13, l14, l15, l16, l17, l18, l19, l20, l24, l26, l30, l31, l32, l40, l41, l42, l43, l45, l47, l48, l57, l58, l59, l60, l61, l62, l63, l64, l97, l99, l100, l101, l102, l103, l104, l105, l106, l107, l108, l109, l110, l122, l160, l240, l255, l600, l1000, l3000, l10000, l10007, l10116, l67108863, l67108864]
  | succ k ih =>
    obtain ⟨-, hbp⟩ := hb.2 p (by omega)
    by_cases q : isSpc (c p) = true
    · have e : tf c n p = tf c n (p + 1) := ext_t (by omega) q
      have h1 : X12_next_b0 w = some (.inl (puI w 97 37 (nI (p + 1)))) := by
        unfold X12_next_b0 X12_next_j26
        rw [h6, at_e hn hb (by omega), if_pos (by omega)]
        rcases spc_iff.mp q with z | z
        · simp (disch := omega) only [gdn, gb0, gb1, ixn, nm1, nI_add, nI_mul, nsub, nI_ltI, nI_leI, nI_eq, eqNO, eqNO2, ltNO, NOlt, leNO, NOle, if_pos, if_neg, Option.bind_some, if_true, if_false, and_self, eq_self, l0, l1, l2, l3, l4, l5, l6, l7, l8, l9, l10, l11, l12, l13, l14, l15, l16, l17, l18, l19, l20, l24, l26, l30, l31, l32, l40, l41, l42, l43, l45, l47, l48, l57, l58, l59, l60, l61, l62, l63, l64, l97, l99, l100, l101, l102, l103, l104, l105, l106, l107, l108, l109, l110, l122, l160, l240, l255, l600, l1000, l3000, l10000, l10007, l10116, l67108863, l67108864, z]
        · simp (disch := omega) only [gdn, gb0, gb1, ixn, nm1, nI_add, nI_mul, nsub, nI_ltI, nI_leI, nI_eq, eqNO, eqNO2, ltNO, NOlt, leNO, NOle, if_pos, if_neg, Option.bind_some, if_true, if_false, and_self, eq_self, l0, l1, l2, l3, l4, l5, l6, l7, l8, l9, l10, l11, l12, l13, l14, l15, l16, l17, l18, l19, l20, l24, l26, l30, l31, l32, l40, l41, l42, l43, l45, l47, l48, l57, l58, l59, l60, l61, l62, l63, l64, l97, l99, l100, l101, l102, l103, l104, l105, l106, l107, l108, l109, l110, l122, l160, l240, l255, l600, l1000, l3000, l10000, l10007, l10116, l67108863, l67108864, z]
      rw [e, lp_step h1, ih (w := puI w 97 37 (nI (p + 1))) (hb.fr (by simp (disch := omega) only [gdn, gb0, gb1, ixn, nm1, nI_add, nI_mul, nsub, nI_ltI, nI_leI, nI_eq, eqNO, eqNO2, ltNO, NOlt, leNO, NOle, if_pos, if_neg, Option.bind_some, if_true, if_false, and_self, eq_self, l0, l1, l2, l3, l4, l5, l6, l7, l8, l9, l10, l11, l12, l13, l14, l15, l16, l17, l18, l19, l20, l24, l26, l30, l31, l32, l40, l41, l42, l43, l45, l47, l48, l57, l58, l59, l60, l61, l62, l63, l64, l97, l99, l100, l101, l102, l103, l104, l105, l106, l107, l108, l109, l110, l122, l160, l240, l255, l600, l1000, l3000, l10000, l10007, l10116, l67108863, l67108864, I_oth, I_J, J_oth, J_I, I_row, J_row, SI_row, SI_oth, SI_J, SJ_row, SJ_oth, SJ_I, upd_s, upd_n, updL_s, updL_n, ne_eq, not_false_eq_true]) (by simp (disch := omega) only [gdn, gb0, gb1, ixn, nm1, nI_add, nI_mul, nsub, nI_ltI, nI_leI, nI_eq, eqNO, eqNO2, ltNO, NOlt, leNO, NOle, if_pos, if_neg, Option.bind_some, if_true, if_false, and_self, eq_self, l0, l1, l2, l3, l4, l5, l6, l7, l8, l9, l10, l11, l12, l13, l14, l15, l16, l17, l18, l19, l20, l24, l26, l30, l31, l32, l40, l41, l42, l43, l45, l47, l48, l57, l58, l59, l60, l61, l62, l63, l64, l97, l99, l100, l101, l102, l103, l104, l105, l106, l107, l108, l109, l110, l122, l160, l240, l255, l600, l1000, l3000, l10000, l10007, l10116, l67108863, l67108864, I_oth, I_J, J_oth, J_I, I_row, J_row, SI_row, SI_oth, SI_J, SJ_row, SJ_oth, SJ_I, upd_s, upd_n, updL_s, updL_n, ne_eq, not_false_eq_true])) (p + 1) (by omega) I_self (by omega), pu_pu]
    · have e : tf c n p = p := ext_f (Or.inr q)
      rw [e, pu_same h6]
      refine lp_exit ?_
      have q' : ¬ c p = 10 ∧ ¬ c p = 32 := by
        constructor <;> intro z <;> exact q (spc_iff.mpr (by omega))
      unfold X12_next_b0
      rw [h6, at_e hn hb (by omega), if_pos (by omega)]
      simp (disch := omega) only [gdn, gb0, gb1, ixn, nm1, nI_add, nI_mul, nsub, nI_ltI, nI_leI, nI_eq, eqNO, eqNO2, ltNO, NOlt, leNO, NOle, if_pos, if_neg, Option.bind_some, if_true, if_false, and_self, eq_self, l0, l1, l2, l3, l4, l5, l6, l7, l8, l9, l10, l11, l12, l13, l14, l15, l16, l17, l18, l19, l20, l24, l26, l30, l31, l32, l40, l41, l42, l43, l45, l47, l48, l57, l58, l59, l60, l61, l62, l63, l64, l97, l99, l100, l101, l102, l103, l104, l105, l106, l107, l108, l109, l110, l122, l160, l240, l255, l600, l1000, l3000, l10000, l10007, l10116, l67108863, l67108864, q'.1, q'.2]
theorem next_T (hn : n ≤ 600) {w : Wd} (hb : MB c n w) {p : Nat} (hp : p ≤ n) (h6 : w.1 97 37 = nI p) : X12_next w = nxT (puI w 97 37 (nI (tf c n p))) := by
  by_cases q0 : n ≤ p
  · have e : tf c n p = p := ext_f (Or.inl q0)
    rw [e, pu_same h6]
    unfold X12_next
    rw [h6, at_e hn hb (by omega), if_neg (by omega)]
    simp only [Option.bind_some]
    rw [if_neg (by decide), if_neg (by decide)]
    unfold nxT
    rw [h6]
    rfl
  · obtain ⟨-, hbp⟩ := hb.2 p (by omega)
    by_cases q : isSpc (c p) = true
    · have e : tf c n p = tf c n (p + 1) := ext_t (by omega) q
      have hl := mspl_e hn (w := puI w 97 37 (nI (p + 1))) (hb.fr (by simp (disch := omega) only [gdn, gb0, gb1, ixn, nm1, nI_add, nI_mul, nsub, nI_ltI, nI_leI, nI_eq, eqNO, eqNO2, ltNO, NOlt, leNO, NOle, if_pos, if_neg, Option.bind_some, if_true, if_false, and_self, eq_self, l0, l1, l2, l3, l4, l5, l6, l7, l8, l9, l10, l11, l12, l13, l14, l15, l16, l17, l18, l19, l20, l24, l26, l30, l31, l32, l40, l41, l42, l43, l45, l47, l48, l57, l58, l59, l60, l61, l62, l63, l64, l97, l99, l100, l101, l102, l103, l104, l105, l106, l107, l108, l109, l110, l122, l160, l240, l255, l600, l1000, l3000, l10000, l10007, l10116, l67108863, l67108864, I_oth, I_J, J_oth, J_I, I_row, J_row, SI_row, SI_oth, SI_J, SJ_row, SJ_oth, SJ_I, upd_s, upd_n, updL_s, updL_n, ne_eq, not_false_eq_true]) (by simp (disch := omega) only [gdn, gb0, gb1, ixn, nm1, nI_add, nI_mul, nsub, nI_ltI, nI_leI, nI_eq, eqNO, eqNO2, ltNO, NOlt, leNO, NOle, if_pos, if_neg, Option.bind_some, if_true, if_false, and_self, eq_self, l0, l1, l2, l3, l4, l5, l6, l7, l8, l9, l10, l11, l12, l13, l14, l15, l16, l17, l18, l19, l20, l24, l26, l30, l31, l32, l40, l41, l42, l43, l45, l47, l48, l57, l58, l59, l60, l61, l62, l63, l64, l97, l99, l100, l101, l102, l103, l104, l105, l106, l107, l108, l109, l110, l122, l160, l240, l255, l600, l1000, l3000, l10000, l10007, l10116, l67108863, l67108864, I_oth, I_J, J_oth, J_I, I_row, J_row, SI_row, SI_oth, SI_J, SJ_row, SJ_oth, SJ_I, upd_s, upd_n, updL_s, updL_n, ne_eq, not_false_eq_true])) (p + 1) (by omega) I_self
      rw [pu_pu, ← e] at hl
      unfold X12_next
      rw [h6, at_e hn hb (by omega), if_pos (by omega)]
      simp only [Option.bind_some]
      rcases spc_iff.mp q with z | z
      · rw [z, if_neg (by decide), if_pos (by decide), show nI p + (1 : Int32) = nI (p + 1) from by rw [show (1 : Int32) = nI 1 from rfl, nI_add], hl]
        rfl
      · rw [z, if_pos (by decide), show nI p + (1 : Int32) = nI (p + 1) from by rw [show (1 : Int32) = nI 1 from rfl, nI_add], hl]
        rfl
    · have e : tf c n p = p := ext_f (Or.inr q)
      have q' : ¬ c p = 10 ∧ ¬ c p = 32 := by
        constructor <;> intro z <;> exact q (spc_iff.mpr (by omega))
      rw [e, pu_same h6]
      unfold X12_next
      rw [h6, at_e hn hb (by omega), if_pos (by omega)]
      simp only [Option.bind_some]
      rw [if_neg (by rw [show (32 : Int32) = nI 32 from rfl, nI_eq (by omega) (by omega)]; exact q'.2), if_neg (by rw [show (10 : Int32) = nI 10 from rfl, nI_eq (by omega) (by omega)]; exact q'.1)]
      unfold nxT
      rw [h6]
      rfl
theorem mwl_e (hn : n ≤ 600) {w : Wd} (hb : MB c n w) : ∀ p, p ≤ n → w.1 97 37 = nI p → lp X12_next_b81 w = some (puI w 97 37 (nI (ext (fun i => isLet (c i)) n p))) := by
  intro p hp h6
  induction hk : n - p generalizing p w with
  | zero =>
    have : p = n := by omega
    subst this
    rw [ext_f (Or.inl (Nat.le_refl _)), pu_same h6]
    refine lp_exit ?_
    unfold X12_next_b81
    rw [h6, at_e hn hb (by omega), if_neg (by omega)]
    simp (disch := omega) only [gdn, gb0, gb1, ixn, nm1, nI_add, nI_mul, nsub, nI_ltI, nI_leI, nI_eq, eqNO, eqNO2, ltNO, NOlt, leNO, NOle, if_pos, if_neg, Option.bind_some, if_true, if_false, and_self, eq_self, l0, l1, l2, l3, l4, l5, l6, l7, l8, l9, l10, l11, l12, l13, l14, l15, l16, l17, l18, l19, l20, l24, l26, l30, l31, l32, l40, l41, l42, l43, l45, l47, l48, l57, l58, l59, l60, l61, l62, l63, l64, l97, l99, l100, l101, l102, l103, l104, l105, l106, l107, l108, l109, l110, l122, l160, l240, l255, l600, l1000, l3000, l10000, l10007, l10116, l67108863, l67108864, small_NO]
  | succ k ih =>
    obtain ⟨-, hbp⟩ := hb.2 p (by omega)
    by_cases q : isLet (c p) = true
    · have e : ext (fun i => isLet (c i)) n p = ext (fun i => isLet (c i)) n (p + 1) := ext_t (by omega) q
      have h1 : X12_next_b81 w = some (.inl (puI w 97 37 (nI (p + 1)))) := by
        unfold X12_next_b81
        rw [h6, at_e hn hb (by omega), if_pos (by omega)]
        simp (disch := omega) only [gdn, gb0, gb1, ixn, nm1, nI_add, nI_mul, nsub, nI_ltI, nI_leI, nI_eq, eqNO, eqNO2, ltNO, NOlt, leNO, NOle, if_pos, if_neg, Option.bind_some, if_true, if_false, and_self, eq_self, l0, l1, l2, l3, l4, l5, l6, l7, l8, l9, l10, l11, l12, l13, l14, l15, l16, l17, l18, l19, l20, l24, l26, l30, l31, l32, l40, l41, l42, l43, l45, l47, l48, l57, l58, l59, l60, l61, l62, l63, l64, l97, l99, l100, l101, l102, l103, l104, l105, l106, l107, l108, l109, l110, l122, l160, l240, l255, l600, l1000, l3000, l10000, l10007, l10116, l67108863, l67108864, small_e hbp, q]
      rw [e, lp_step h1, ih (w := puI w 97 37 (nI (p + 1))) (hb.fr (by simp (disch := omega) only [gdn, gb0, gb1, ixn, nm1, nI_add, nI_mul, nsub, nI_ltI, nI_leI, nI_eq, eqNO, eqNO2, ltNO, NOlt, leNO, NOle, if_pos, if_neg, Option.bind_some, if_true, if_false, and_self, eq_self, l0, l1, l2, l3, l4, l5, l6, l7, l8, l9, l10, l11, l12, l13, l14, l15, l16, l17, l18, l19, l20, l24, l26, l30, l31, l32, l40, l41, l42, l43, l45, l47, l48, l57, l58, l59, l60, l61, l62, l63, l64, l97, l99, l100, l101, l102, l103, l104, l105, l106, l107, l108, l109, l110, l122, l160, l240, l255, l600, l1000, l3000, l10000, l10007, l10116, l67108863, l67108864, I_oth, I_J, J_oth, J_I, I_row, J_row, SI_row, SI_oth, SI_J, SJ_row, SJ_oth, SJ_I, upd_s, upd_n, updL_s, updL_n, ne_eq, not_false_eq_true]) (by simp (disch := omega) only [gdn, gb0, gb1, ixn, nm1, nI_add, nI_mul, nsub, nI_ltI, nI_leI, nI_eq, eqNO, eqNO2, ltNO, NOlt, leNO, NOle, if_pos, if_neg, Option.bind_some, if_true, if_false, and_self, eq_self, l0, l1, l2, l3, l4, l5, l6, l7, l8, l9, l10, l11, l12, l13, l14, l15, l16, l17, l18, l19, l20, l24, l26, l30, l31, l32, l40, l41, l42, l43, l45, l47, l48, l57, l58, l59, l60, l61, l62, l63, l64, l97, l99, l100, l101, l102, l103, l104, l105, l106, l107, l108, l109, l110, l122, l160, l240, l255, l600, l1000, l3000, l10000, l10007, l10116, l67108863, l67108864, I_oth, I_J, J_oth, J_I, I_row, J_row, SI_row, SI_oth, SI_J, SJ_row, SJ_oth, SJ_I, upd_s, upd_n, updL_s, updL_n, ne_eq, not_false_eq_true])) (p + 1) (by omega) I_self (by omega), pu_pu]
    · rw [ext_f (P := fun i => isLet (c i)) (Or.inr q), pu_same h6]
      refine lp_exit ?_
      unfold X12_next_b81
      rw [h6, at_e hn hb (by omega), if_pos (by omega)]
      simp only [Option.bind_some]
      rw [small_e hbp, if_neg q]
      rfl
theorem mnl_e (hn : n ≤ 600) {w : Wd} (hb : MB c n w) {q : Nat} (hq : q ≤ n) (h6 : w.1 97 37 = nI q) (h38 : w.1 97 38 = nI 0) : ok (lp X12_next_b128 w) (fun e => Fr [] [(97, 37), (97, 38)] w e ∧ e.1 97 37 = nI (ext (fun i => isDig (c i)) n q) ∧ (ext (fun i => isDig (c i)) n q - q ≤ 4 → e.1 97 38 = nI (nvl c q (ext (fun i => isDig (c i)) n q - q)))) := by
  obtain ⟨x1, x2, x3, x4⟩ := ext_s (P := fun i => isDig (c i)) hq
  generalize ext (fun i => isDig (c i)) n q = E at x1 x2 x3 x4
  refine lp_up (fun k s => Fr [] [(97, 37), (97, 38)] w s ∧ s.1 97 37 = nI (q + k) ∧ (k ≤ 4 → s.1 97 38 = nI (nvl c q k))) (E - q) ?_ ?_ 0 _ (Nat.zero_le _) ⟨Fr.rf, h6, fun _ => h38⟩
  · rintro k v hk ⟨h1, h2, h3⟩
    have hbv : MB c n v := hb.fr (h1 97 (by decide) 34 (by decide)).1 (h1.row 121 (by decide) (by decide)).1
    obtain ⟨-, hbk⟩ := hb.2 (q + k) (by omega)
    have hd : isDig (c (q + k)) = true := x3 (q + k) (by omega) (by omega)
    have hd2 := dig_iff.mp hd
    unfold X12_next_b128
    rw [h2, at_e hn hbv (by omega), if_pos (by omega)]
    simp only [Option.bind_some]
    have g2 : ∀ x, (puI v 97 38 x).1 97 37 = nI (q + k) := fun x => by simp (disch := omega) only [gdn, gb0, gb1, ixn, nm1, nI_add, nI_mul, nsub, nI_ltI, nI_leI, nI_eq, eqNO, eqNO2, ltNO, NOlt, leNO, NOle, if_pos, if_neg, Option.bind_some, if_true, if_false, and_self, eq_self, l0, l1, l2, l3, l4, l5, l6, l7, l8, l9, l10, l11, l12, l13, l14, l15, l16, l17, l18, l19, l20, l24, l26, l30, l31, l32, l40, l41, l42, l43, l45, l47, l48, l57, l58, l59, l60, l61, l62, l63, l64, l97, l99, l100, l101, l102, l103, l104, l105, l106, l107, l108, l109, l110, l122, l160, l240, l255, l600, l1000, l3000, l10000, l10007, l10116, l67108863, l67108864, I_oth, I_J, J_oth, J_I, I_row, J_row, SI_row, SI_oth, SI_J, SJ_row, SJ_oth, SJ_I, upd_s, upd_n, updL_s, updL_n, ne_eq, not_false_eq_true, h2]
    simp (disch := omega) only [gdn, gb0, gb1, ixn, nm1, nI_add, nI_mul, nsub, nI_ltI, nI_leI, nI_eq, eqNO, eqNO2, ltNO, NOlt, leNO, NOle, if_pos, if_neg, Option.bind_some, if_true, if_false, and_self, eq_self, l0, l1, l2, l3, l4, l5, l6, l7, l8, l9, l10, l11, l12, l13, l14, l15, l16, l17, l18, l19, l20, l24, l26, l30, l31, l32, l40, l41, l42, l43, l45, l47, l48, l57, l58, l59, l60, l61, l62, l63, l64, l97, l99, l100, l101, l102, l103, l104, l105, l106, l107, l108, l109, l110, l122, l160, l240, l255, l600, l1000, l3000, l10000, l10007, l10116, l67108863, l67108864, mdig_e hbk, hd, g2]
    refine ok_i ⟨Fr.pfI (Fr.pfI h1 (by decide)) (by decide), by rw [I_self, Nat.add_assoc], fun hk4 => ?_⟩
    have b1 := nvl_lt (c := c) (q := q) k (fun i hi => x3 _ (by omega) (by omega))
    have b2 : 10 ^ k ≤ 10 ^ 3 := Nat.pow_le_pow_right (by omega) (by omega)
    simp (disch := omega) only [gdn, gb0, gb1, ixn, nm1, nI_add, nI_mul, nsub, nI_ltI, nI_leI, nI_eq, eqNO, eqNO2, ltNO, NOlt, leNO, NOle, if_pos, if_neg, Option.bind_some, if_true, if_false, and_self, eq_self, l0, l1, l2, l3, l4, l5, l6, l7, l8, l9, l10, l11, l12, l13, l14, l15, l16, l17, l18, l19, l20, l24, l26, l30, l31, l32, l40, l41, l42, l43, l45, l47, l48, l57, l58, l59, l60, l61, l62, l63, l64, l97, l99, l100, l101, l102, l103, l104, l105, l106, l107, l108, l109, l110, l122, l160, l240, l255, l600, l1000, l3000, l10000, l10007, l10116, l67108863, l67108864, I_oth, I_J, J_oth, J_I, I_row, J_row, SI_row, SI_oth, SI_J, SJ_row, SJ_oth, SJ_I, upd_s, upd_n, updL_s, updL_n, ne_eq, not_false_eq_true, h3 (by omega)]
    rw [show (1000000 : Int32) = nI 1000000 from rfl, mn_nI (by omega) (by omega), Nat.min_eq_right (by omega)]
    rw [show nvl c q (k + 1) = 10 * nvl c q k + (c (q + k) - 48) from rfl]
    congr 1
    omega
  · rintro v ⟨h1, h2, h3⟩
    rw [show q + (E - q) = E by omega] at h2
    have hbv : MB c n v := hb.fr (h1 97 (by decide) 34 (by decide)).1 (h1.row 121 (by decide) (by decide)).1
    unfold X12_next_b128
    rw [h2, at_e hn hbv (by omega)]
    by_cases y : E < n
    · obtain ⟨-, hbk⟩ := hb.2 E y
      have y2 : ¬ isDig (c E) = true := by
        rcases x4 with z | z
        · omega
        · exact z
      rw [if_pos y]
      simp only [Option.bind_some]
      rw [mdig_e hbk, if_neg y2, if_pos (show nI 0 = (0 : Int32) from rfl)]
      exact ok_i ⟨h1, h2, h3⟩
    · rw [if_neg y]
      simp (disch := omega) only [gdn, gb0, gb1, ixn, nm1, nI_add, nI_mul, nsub, nI_ltI, nI_leI, nI_eq, eqNO, eqNO2, ltNO, NOlt, leNO, NOle, if_pos, if_neg, Option.bind_some, if_true, if_false, and_self, eq_self, l0, l1, l2, l3, l4, l5, l6, l7, l8, l9, l10, l11, l12, l13, l14, l15, l16, l17, l18, l19, l20, l24, l26, l30, l31, l32, l40, l41, l42, l43, l45, l47, l48, l57, l58, l59, l60, l61, l62, l63, l64, l97, l99, l100, l101, l102, l103, l104, l105, l106, l107, l108, l109, l110, l122, l160, l240, l255, l600, l1000, l3000, l10000, l10007, l10116, l67108863, l67108864, mdig_NO]
      exact ok_i ⟨h1, h2, h3⟩
end
