/-! the class scans -/
def IW (w : Wd) : Prop := ∀ i, i < 17 → w.2 67 i = lN (p5 (KW.getD i []))
noncomputable def scT (a1 : Int32) (w1 : Wd) : Option Wd :=
(if (w1.1 65 6) < a1 then
gd (vp_in (w1.1 65 6) 600) <|
(if (X6_isLetter (w1.1 66 (ix (w1.1 65 6))) w1) = 0 then
gd (vp_in (w1.1 65 6) 600) <|
(if (X6_isDigit (w1.1 66 (ix (w1.1 65 6))) w1) = 0 then
gd (vp_in (w1.1 65 6) 600) <|
(if (w1.1 66 (ix (w1.1 65 6))) ≤ 0 then
X6_scan_j162 w1
else
gd (vp_in (w1.1 65 6) 600) <|
(J0_indexOf_0f7a4 1 (Int32.toUInt32 (w1.1 66 (ix (w1.1 65 6))) % 65536).toInt32 w1).bind fun q4 =>
(if q4 < 0 then
X6_scan_j162 w1
else
gd (vp_in (w1.1 65 6) 600) <|
X6_scan_j163 (w1.1 66 (ix (w1.1 65 6))) w1))
else
(X6_scanNumber a1 w1).bind fun q6 =>
some q6)
else
(X6_scanWord a1 w1).bind fun q8 =>
some q8)
else
(some (puI w1 65 7 (1 : Int32))).bind fun w10 =>
some w10)
theorem pu_same {w : Wd} {b i : Nat} {x : Int32} (h : w.1 b i = x) : puI w b i x = w := by
  have h2 := pp0 (w := w) (a := b) h
  rw [seI_same rfl] at h2
  exact h2
theorem pu_pu {w : Wd} {b i : Nat} {x y : Int32} : puI (puI w b i x) b i y = puI w b i y := by
  unfold puI
  rw [SI_row, seI_seI]
  congr 1
  funext j
  unfold upd
  by_cases h : j = i
  · rw [if_pos h, if_pos h]
  · rw [if_neg h, if_neg h, if_neg h]
section
variable {c : Nat → Nat} {n : Nat}
theorem spl_e (hn : n ≤ 600) {w : Wd} (hb : ∀ i, i < n → BY (w.1 66 i) (c i)) : ∀ p, p ≤ n → w.1 65 6 = nI p → lp (X6_scan_b0 (nI n)) w = some (puI w 65 6 (nI (tf c n p))) := by
  intro p hp h6
  induction hk : n - p generalizing p w with
  | zero =>
    have : p = n := by omega
    subst this
    have e : tf c p p = p := ext_f (Or.inl (Nat.le_refl _))
    rw [e, pu_same h6]
    refine lp_exit ?_
    unfold X6_scan_b0
    simp (disch := omega) only [gdn, gb0, gb1, ixn, nm1, nI_add, nI_mul, nsub, nI_ltI, nI_leI, nI_eq, eqNO, eqNO2, ltNO, NOlt, leNO, NOle, if_pos, if_neg, Option.bind_some, if_true, if_false, and_self, eq_self, l0, l1, l2, l3, l4, l5, l6, l7, l8, l9, l10, l11, l12, l13, l14, l15, l16, l17, l18, l19, l20, l24, l26, l30, l31, l32, l40, l41, l42, l43, l45, l47, l48, l57, l58, l59, l60, l61, l62, l63, l64, l97, l99, l100, l101, l102, l103, l104, l105, l106, l107, l108, l109, l110, l122, l160, l240, l255, l600, l1000, l3000, l10000, l10007, l10116, l67108863, l67108864, I_oth, I_J, J_oth, J_I, I_row, J_row, SI_row, SI_oth, SI_J, SJ_row, SJ_oth, SJ_I, upd_s, upd_n, updL_s, updL_n, ne_eq, not_false_eq_true, h6]
  | succ k ih =>
    have hbp := hb p (by omega)
    by_cases q : isSpc (c p) = true
    · have e : tf c n p = tf c n (p + 1) := ext_t (by omega) q
      have h1 : X6_scan_b0 (nI n) w = some (.inl (puI w 65 6 (nI (p + 1)))) := by
        unfold X6_scan_b0 X6_scan_j36
        rcases spc_iff.mp q with z | z
        · simp (disch := omega) only [gdn, gb0, gb1, ixn, nm1, nI_add, nI_mul, nsub, nI_ltI, nI_leI, nI_eq, eqNO, eqNO2, ltNO, NOlt, leNO, NOle, if_pos, if_neg, Option.bind_some, if_true, if_false, and_self, eq_self, l0, l1, l2, l3, l4, l5, l6, l7, l8, l9, l10, l11, l12, l13, l14, l15, l16, l17, l18, l19, l20, l24, l26, l30, l31, l32, l40, l41, l42, l43, l45, l47, l48, l57, l58, l59, l60, l61, l62, l63, l64, l97, l99, l100, l101, l102, l103, l104, l105, l106, l107, l108, l109, l110, l122, l160, l240, l255, l600, l1000, l3000, l10000, l10007, l10116, l67108863, l67108864, I_oth, I_J, J_oth, J_I, I_row, J_row, SI_row, SI_oth, SI_J, SJ_row, SJ_oth, SJ_I, upd_s, upd_n, updL_s, updL_n, ne_eq, not_false_eq_true, h6, hbp.eq, z]
        · simp (disch := omega) only [gdn, gb0, gb1, ixn, nm1, nI_add, nI_mul, nsub, nI_ltI, nI_leI, nI_eq, eqNO, eqNO2, ltNO, NOlt, leNO, NOle, if_pos, if_neg, Option.bind_some, if_true, if_false, and_self, eq_self, l0, l1, l2, l3, l4, l5, l6, l7, l8, l9, l10, l11, l12, l13, l14, l15, l16, l17, l18, l19, l20, l24, l26, l30, l31, l32, l40, l41, l42, l43, l45, l47, l48, l57, l58, l59, l60, l61, l62, l63, l64, l97, l99, l100, l101, l102, l103, l104, l105, l106, l107, l108, l109, l110, l122, l160, l240, l255, l600, l1000, l3000, l10000, l10007, l10116, l67108863, l67108864, I_oth, I_J, J_oth, J_I, I_row, J_row, SI_row, SI_oth, SI_J, SJ_row, SJ_oth, SJ_I, upd_s, upd_n, updL_s, updL_n, ne_eq, not_false_eq_true, h6, hbp.eq, z]
      rw [e, lp_step h1, ih (w := puI w 65 6 (nI (p + 1))) hb (p + 1) (by omega) I_self (by omega), pu_pu]
    · have e : tf c n p = p := ext_f (Or.inr q)
      rw [e, pu_same h6]
      refine lp_exit ?_
      have q' : ¬ c p = 10 ∧ ¬ c p = 32 := by
        constructor <;> intro z <;> exact q (spc_iff.mpr (by omega))
      unfold X6_scan_b0
      simp (disch := omega) only [gdn, gb0, gb1, ixn, nm1, nI_add, nI_mul, nsub, nI_ltI, nI_leI, nI_eq, eqNO, eqNO2, ltNO, NOlt, leNO, NOle, if_pos, if_neg, Option.bind_some, if_true, if_false, and_self, eq_self, l0, l1, l2, l3, l4, l5, l6, l7, l8, l9, l10, l11, l12, l13, l14, l15, l16, l17, l18, l19, l20, l24, l26, l30, l31, l32, l40, l41, l42, l43, l45, l47, l48, l57, l58, l59, l60, l61, l62, l63, l64, l97, l99, l100, l101, l102, l103, l104, l105, l106, l107, l108, l109, l110, l122, l160, l240, l255, l600, l1000, l3000, l10000, l10007, l10116, l67108863, l67108864, I_oth, I_J, J_oth, J_I, I_row, J_row, SI_row, SI_oth, SI_J, SJ_row, SJ_oth, SJ_I, upd_s, upd_n, updL_s, updL_n, ne_eq, not_false_eq_true, h6, hbp.eq, q'.1, q'.2]
theorem scan_T (hn : n ≤ 600) {w : Wd} (hb : ∀ i, i < n → BY (w.1 66 i) (c i)) {p : Nat} (hp : p ≤ n) (h6 : w.1 65 6 = nI p) : X6_scan (nI n) w = scT (nI n) (puI (puI w 65 6 (nI (tf c n p))) 65 8 (nI (tf c n p))) := by
  by_cases q0 : n ≤ p
  · have e : tf c n p = p := ext_f (Or.inl q0)
    rw [e, pu_same h6]
    unfold X6_scan
    rw [h6, if_pos (by rw [nI_leI (by omega) (by omega)]; exact q0)]
    rfl
  · have hbp := hb p (by omega)
    by_cases q : isSpc (c p) = true
    · have e : tf c n p = tf c n (p + 1) := ext_t (by omega) q
      have hl := spl_e hn (w := puI w 65 6 (nI (p + 1))) hb (p + 1) (by omega) I_self
      rw [pu_pu, ← e] at hl
      have h9 : (puI w 65 6 (nI (tf c n p))).1 65 6 = nI (tf c n p) := I_self
      unfold X6_scan
      rw [h6, if_neg (by rw [nI_leI (by omega) (by omega)]; exact q0), gdn (by omega) (by omega), ixn (by omega)]
      rcases spc_iff.mp q with z | z
      · rw [show (10 : Int32) = nI 10 from rfl, if_pos (by rw [hbp.eq (by omega)]; exact z)]
        simp only [Option.bind_some]
        rw [show nI p + (1 : Int32) = nI (p + 1) from by rw [show (1 : Int32) = nI 1 from rfl, nI_add], hl]
        simp only [Option.bind_some]
        rw [h9]
        rfl
      · rw [show (10 : Int32) = nI 10 from rfl, if_neg (by rw [hbp.eq (by omega)]; omega), gdn (by omega) (by omega), show (32 : Int32) = nI 32 from rfl, if_pos (by rw [hbp.eq (by omega)]; exact z)]
        simp only [Option.bind_some]
        rw [show nI p + (1 : Int32) = nI (p + 1) from by rw [show (1 : Int32) = nI 1 from rfl, nI_add], hl]
        simp only [Option.bind_some]
        rw [h9]
        rfl
    · have e : tf c n p = p := ext_f (Or.inr q)
      have q' : ¬ c p = 10 ∧ ¬ c p = 32 := by
        constructor <;> intro z <;> exact q (spc_iff.mpr (by omega))
      rw [e, pu_same h6]
      unfold X6_scan
      rw [h6, if_neg (by rw [nI_leI (by omega) (by omega)]; exact q0), gdn (by omega) (by omega), ixn (by omega), show (10 : Int32) = nI 10 from rfl, if_neg (by rw [hbp.eq (by omega)]; exact q'.1), gdn (by omega) (by omega), show (32 : Int32) = nI 32 from rfl, if_neg (by rw [hbp.eq (by omega)]; exact q'.2)]
      rfl
/-- what the class knows of a TOKEN -/
def TC (c : Nat → Nat) (n p : Nat) (w : Wd) : Prop := w.1 65 7 = nI (tk c n p) ∧ w.1 65 8 = nI (tf c n p) ∧ w.1 65 6 = nI (te c n p) ∧ (tk c n p = 2 → w.1 65 10 = nI (tv c n p)) ∧ (tk c n p = 3 → w.2 65 9 = lN (p5 (tw c n p)))
theorem scw_e (hn : n ≤ 600) {w : Wd} (hb : ∀ i, i < n → BY (w.1 66 i) (c i)) {q : Nat} (hq : q ≤ n) (h6 : w.1 65 6 = nI q) : ok (lp (X6_scanWord_b2 (nI n)) ((0 : Int64), w)) (fun e => e.2 = puI w 65 6 (nI (ext (fun i => isLet (c i)) n q)) ∧ (ext (fun i => isLet (c i)) n q - q ≤ 8 → e.1 = lN (p5 (wrd c q (ext (fun i => isLet (c i)) n q - q))))) := by
  obtain ⟨x1, x2, x3, x4⟩ := ext_s (P := fun i => isLet (c i)) hq
  generalize ext (fun i => isLet (c i)) n q = E at x1 x2 x3 x4
  refine lp_up (fun k s => s.2 = puI w 65 6 (nI (q + k)) ∧ (k ≤ 8 → s.1 = lN (p5 (wrd c q k)))) (E - q) ?_ ?_ 0 _ (Nat.zero_le _) ⟨by rw [Nat.add_zero, pu_same h6], fun _ => rfl⟩
  · rintro k ⟨z, v⟩ hk ⟨h1, h2⟩
    simp only at h1 h2
    subst h1
    have hbk := hb (q + k) (by omega)
    have hl : isLet (c (q + k)) = true := x3 (q + k) (by omega) (by omega)
    have hl2 := let_iff.mp hl
    have g6 : (puI w 65 6 (nI (q + k))).1 65 6 = nI (q + k) := I_self
    have g66 : (puI w 65 6 (nI (q + k))).1 66 = w.1 66 := I_oth (by omega)
    unfold X6_scanWord_b2
    simp only [g6, g66]
    simp (disch := omega) only [gdn, gb0, gb1, ixn, nm1, nI_add, nI_mul, nsub, nI_ltI, nI_leI, nI_eq, eqNO, eqNO2, ltNO, NOlt, leNO, NOle, if_pos, if_neg, Option.bind_some, if_true, if_false, and_self, eq_self, l0, l1, l2, l3, l4, l5, l6, l7, l8, l9, l10, l11, l12, l13, l14, l15, l16, l17, l18, l19, l20, l24, l26, l30, l31, l32, l40, l41, l42, l43, l45, l47, l48, l57, l58, l59, l60, l61, l62, l63, l64, l97, l99, l100, l101, l102, l103, l104, l105, l106, l107, l108, l109, l110, l122, l160, l240, l255, l600, l1000, l3000, l10000, l10007, l10116, l67108863, l67108864, let_e hbk, hl]
    refine ok_i ⟨?_, fun hk8 => ?_⟩
    · simp only [pu_pu]
      rw [Nat.add_assoc]
    · show X6_pack z (w.1 66 (q + k)) (puI w 65 6 (nI (q + k))) = _
      rw [h2 (by omega), pack_e (hbk.lo (by omega)) hl2.1 hl2.2, wrd_s, p5_s]
  · rintro ⟨z, v⟩ ⟨h1, h2⟩
    simp only at h1 h2
    subst h1
    rw [show q + (E - q) = E by omega] at *
    have g6 : (puI w 65 6 (nI E)).1 65 6 = nI E := I_self
    have g66 : (puI w 65 6 (nI E)).1 66 = w.1 66 := I_oth (by omega)
    unfold X6_scanWord_b2
    simp only [g6, g66]
    rcases x4 with y | y
    · simp (disch := omega) only [gdn, gb0, gb1, ixn, nm1, nI_add, nI_mul, nsub, nI_ltI, nI_leI, nI_eq, eqNO, eqNO2, ltNO, NOlt, leNO, NOle, if_pos, if_neg, Option.bind_some, if_true, if_false, and_self, eq_self, l0, l1, l2, l3, l4, l5, l6, l7, l8, l9, l10, l11, l12, l13, l14, l15, l16, l17, l18, l19, l20, l24, l26, l30, l31, l32, l40, l41, l42, l43, l45, l47, l48, l57, l58, l59, l60, l61, l62, l63, l64, l97, l99, l100, l101, l102, l103, l104, l105, l106, l107, l108, l109, l110, l122, l160, l240, l255, l600, l1000, l3000, l10000, l10007, l10116, l67108863, l67108864]
      exact ok_i ⟨rfl, h2⟩
    · by_cases y2 : n ≤ E
      · simp (disch := omega) only [gdn, gb0, gb1, ixn, nm1, nI_add, nI_mul, nsub, nI_ltI, nI_leI, nI_eq, eqNO, eqNO2, ltNO, NOlt, leNO, NOle, if_pos, if_neg, Option.bind_some, if_true, if_false, and_self, eq_self, l0, l1, l2, l3, l4, l5, l6, l7, l8, l9, l10, l11, l12, l13, l14, l15, l16, l17, l18, l19, l20, l24, l26, l30, l31, l32, l40, l41, l42, l43, l45, l47, l48, l57, l58, l59, l60, l61, l62, l63, l64, l97, l99, l100, l101, l102, l103, l104, l105, l106, l107, l108, l109, l110, l122, l160, l240, l255, l600, l1000, l3000, l10000, l10007, l10116, l67108863, l67108864]
        exact ok_i ⟨rfl, h2⟩
      · have hbk := hb E (by omega)
        simp (disch := omega) only [gdn, gb0, gb1, ixn, nm1, nI_add, nI_mul, nsub, nI_ltI, nI_leI, nI_eq, eqNO, eqNO2, ltNO, NOlt, leNO, NOle, if_pos, if_neg, Option.bind_some, if_true, if_false, and_self, eq_self, l0, l1, l2, l3, l4, l5, l6, l7, l8, l9, l10, l11, l12, l13, l14, l15, l16, l17, l18, l19, l20, l24, l26, l30, l31, l32, l40, l41, l42, l43, l45, l47, l48, l57, l58, l59, l60, l61, l62, l63, l64, l97, l99, l100, l101, l102, l103, l104, l105, l106, l107, l108, l109, l110, l122, l160, l240, l255, l600, l1000, l3000, l10000, l10007, l10116, l67108863, l67108864, let_e hbk, y]
        exact ok_i ⟨rfl, h2⟩
theorem scWord_e (hn : n ≤ 600) {w : Wd} (hW : IW w) (hb : ∀ i, i < n → BY (w.1 66 i) (c i)) {p : Nat} (hp : p ≤ n) (ht : tf c n p < n) (hl : isLet (c (tf c n p)) = true) (h6 : w.1 65 6 = nI (tf c n p)) (h8 : w.1 65 8 = nI (tf c n p)) : ok (X6_scanWord (nI n) w) (fun e => Fr [] [(65, 6), (65, 7), (65, 8), (65, 9), (65, 10)] w e ∧ TC c n p e) := by
  obtain ⟨⟨z, v⟩, he, e1, e2⟩ := scw_e hn hb (q := tf c n p) (by omega) h6
  simp only at e1 e2
  subst e1
  obtain ⟨x1, x2, x3, x4⟩ := ext_s (P := fun i => isLet (c i)) (n := n) (p := tf c n p) (by omega)
  have hwe : we c n p = ext (fun i => isLet (c i)) n (tf c n p) := rfl
  rw [← hwe] at he e2 x1 x2 x3 x4
  have hpos : tf c n p < we c n p := by
    by_cases y : tf c n p = we c n p
    · rcases x4 with x4 | x4
      · omega
      · rw [← y] at x4; exact (x4 hl).elim
    · omega
  have hte : te c n p = we c n p := by unfold te; rw [if_neg (by omega), if_pos hl]
  have hF : Fr [] [(65, 6), (65, 7), (65, 8), (65, 9), (65, 10)] w (puJ (puI w 65 6 (nI (we c n p))) 65 9 z) := Fr.pfJ (Fr.pfI Fr.rf (by decide)) (by decide)
  unfold X6_scanWord
  rw [he]
  simp only [Option.bind_some]
  have g6 : (puJ (puI w 65 6 (nI (we c n p))) 65 9 z).1 65 6 = nI (we c n p) := by simp (disch := omega) only [gdn, gb0, gb1, ixn, nm1, nI_add, nI_mul, nsub, nI_ltI, nI_leI, nI_eq, eqNO, eqNO2, ltNO, NOlt, leNO, NOle, if_pos, if_neg, Option.bind_some, if_true, if_false, and_self, eq_self, l0, l1, l2, l3, l4, l5, l6, l7, l8, l9, l10, l11, l12, l13, l14, l15, l16, l17, l18, l19, l20, l24, l26, l30, l31, l32, l40, l41, l42, l43, l45, l47, l48, l57, l58, l59, l60, l61, l62, l63, l64, l97, l99, l100, l101, l102, l103, l104, l105, l106, l107, l108, l109, l110, l122, l160, l240, l255, l600, l1000, l3000, l10000, l10007, l10116, l67108863, l67108864, I_oth, I_J, J_oth, J_I, I_row, J_row, SI_row, SI_oth, SI_J, SJ_row, SJ_oth, SJ_I, upd_s, upd_n, updL_s, updL_n, ne_eq, not_false_eq_true]
  have g8 : (puJ (puI w 65 6 (nI (we c n p))) 65 9 z).1 65 8 = nI (tf c n p) := by simp (disch := omega) only [gdn, gb0, gb1, ixn, nm1, nI_add, nI_mul, nsub, nI_ltI, nI_leI, nI_eq, eqNO, eqNO2, ltNO, NOlt, leNO, NOle, if_pos, if_neg, Option.bind_some, if_true, if_false, and_self, eq_self, l0, l1, l2, l3, l4, l5, l6, l7, l8, l9, l10, l11, l12, l13, l14, l15, l16, l17, l18, l19, l20, l24, l26, l30, l31, l32, l40, l41, l42, l43, l45, l47, l48, l57, l58, l59, l60, l61, l62, l63, l64, l97, l99, l100, l101, l102, l103, l104, l105, l106, l107, l108, l109, l110, l122, l160, l240, l255, l600, l1000, l3000, l10000, l10007, l10116, l67108863, l67108864, I_oth, I_J, J_oth, J_I, I_row, J_row, SI_row, SI_oth, SI_J, SJ_row, SJ_oth, SJ_I, upd_s, upd_n, updL_s, updL_n, ne_eq, not_false_eq_true, h8]
  have g9 : (puJ (puI w 65 6 (nI (we c n p))) 65 9 z).2 65 9 = z := by rw [J_row, updL_s]
  have g67 : (puJ (puI w 65 6 (nI (we c n p))) 65 9 z).2 67 = w.2 67 := J_oth (by omega)
  generalize puJ (puI w 65 6 (nI (we c n p))) 65 9 z = u at hF g6 g8 g9 g67
  rw [g6, g8, nsub (by omega), show (8 : Int32) = nI 8 from rfl]
  by_cases q8 : we c n p - tf c n p ≤ 8
  · rw [if_pos (by rw [nI_leI (by omega) (by omega)]; exact q8)]
    have ez := e2 q8
    have hw : isWord (tw c n p) := wrd_w (fun i hi => x3 _ (by omega) (by omega)) (by omega) q8
    have htk : tk c n p = if widx (tw c n p) < 17 then 100 + widx (tw c n p) else 3 := by
      unfold tk; rw [if_neg (by omega), if_pos hl, if_neg (by omega)]
    unfold X6_scanWord_j77
    simp only [Option.bind_some]
    refine ok_bi (R := fun e => e = puI u 65 7 (nI (tk c n p))) ?_ ?_
    · refine lp_up (fun i s => s = (nI i, puI u 65 7 (nI (if widx (tw c n p) < i then 100 + widx (tw c n p) else 3)))) 17 ?_ ?_ 0 _ (Nat.zero_le _) (by rw [if_neg (by omega)]; rfl)
      · rintro i s hi rfl
        have r67 : (puI u 65 7 (nI 3)).2 67 i = lN (p5 (KW.getD i [])) := by rw [I_J, g67]; exact hW i hi
        have hKw : isWord (KW.getD i []) := KW_w _ (getD_mem (by rw [KW_len]; exact hi))
        have b1 := p5_lt hKw
        have b2 := p5_lt hw
        have hz : z = lN (p5 (tw c n p)) := ez
        unfold X6_scanWord_b83 X6_scanWord_j122
        by_cases q1 : widx (tw c n p) < i
        · rw [if_pos q1]
          simp (disch := omega) only [gdn, gb0, gb1, ixn, nm1, nI_add, nI_mul, nsub, nI_ltI, nI_leI, nI_eq, eqNO, eqNO2, ltNO, NOlt, leNO, NOle, if_pos, if_neg, Option.bind_some, if_true, if_false, and_self, eq_self, l0, l1, l2, l3, l4, l5, l6, l7, l8, l9, l10, l11, l12, l13, l14, l15, l16, l17, l18, l19, l20, l24, l26, l30, l31, l32, l40, l41, l42, l43, l45, l47, l48, l57, l58, l59, l60, l61, l62, l63, l64, l97, l99, l100, l101, l102, l103, l104, l105, l106, l107, l108, l109, l110, l122, l160, l240, l255, l600, l1000, l3000, l10000, l10007, l10116, l67108863, l67108864, I_oth, I_J, J_oth, J_I, I_row, J_row, SI_row, SI_oth, SI_J, SJ_row, SJ_oth, SJ_I, upd_s, upd_n, updL_s, updL_n, ne_eq, not_false_eq_true]
          refine ok_i ?_
          show _ = _
          rw [htk, if_pos (by omega)]
        · rw [if_neg q1]
          by_cases q2 : widx (tw c n p) = i
          · have q3 : p5 (KW.getD i []) = p5 (tw c n p) := by rw [p5_inj hKw hw]; exact (widx_i hi).mp q2
            have hz2 : (lg_cmp (lN (p5 (KW.getD i []))) z = nI 0) = True := by rw [cmpz, hz, q3]; simp
            simp (disch := omega) only [gdn, gb0, gb1, ixn, nm1, nI_add, nI_mul, nsub, nI_ltI, nI_leI, nI_eq, eqNO, eqNO2, ltNO, NOlt, leNO, NOle, if_pos, if_neg, Option.bind_some, if_true, if_false, and_self, eq_self, l0, l1, l2, l3, l4, l5, l6, l7, l8, l9, l10, l11, l12, l13, l14, l15, l16, l17, l18, l19, l20, l24, l26, l30, l31, l32, l40, l41, l42, l43, l45, l47, l48, l57, l58, l59, l60, l61, l62, l63, l64, l97, l99, l100, l101, l102, l103, l104, l105, l106, l107, l108, l109, l110, l122, l160, l240, l255, l600, l1000, l3000, l10000, l10007, l10116, l67108863, l67108864, I_oth, I_J, J_oth, J_I, I_row, J_row, SI_row, SI_oth, SI_J, SJ_row, SJ_oth, SJ_I, upd_s, upd_n, updL_s, updL_n, ne_eq, not_false_eq_true, r67, hz2]
            refine ok_i ?_
            show _ = _
            rw [pu_pu, q2]
          · have q3 : ¬ p5 (KW.getD i []) = p5 (tw c n p) := by rw [p5_inj hKw hw]; exact fun y => q2 ((widx_i hi).mpr y)
            have hz2 : (lg_cmp (lN (p5 (KW.getD i []))) z = nI 0) = False := by
              rw [cmpz, hz, eq_iff_iff, iff_false, lN_iff (by omega) (by omega)]; exact q3
            simp (disch := omega) only [gdn, gb0, gb1, ixn, nm1, nI_add, nI_mul, nsub, nI_ltI, nI_leI, nI_eq, eqNO, eqNO2, ltNO, NOlt, leNO, NOle, if_pos, if_neg, Option.bind_some, if_true, if_false, and_self, eq_self, l0, l1, l2, l3, l4, l5, l6, l7, l8, l9, l10, l11, l12, l13, l14, l15, l16, l17, l18, l19, l20, l24, l26, l30, l31, l32, l40, l41, l42, l43, l45, l47, l48, l57, l58, l59, l60, l61, l62, l63, l64, l97, l99, l100, l101, l102, l103, l104, l105, l106, l107, l108, l109, l110, l122, l160, l240, l255, l600, l1000, l3000, l10000, l10007, l10116, l67108863, l67108864, I_oth, I_J, J_oth, J_I, I_row, J_row, SI_row, SI_oth, SI_J, SJ_row, SJ_oth, SJ_I, upd_s, upd_n, updL_s, updL_n, ne_eq, not_false_eq_true, r67, hz2]
            exact ok_i rfl
      · rintro s rfl
        unfold X6_scanWord_b83
        simp (disch := omega) only [gdn, gb0, gb1, ixn, nm1, nI_add, nI_mul, nsub, nI_ltI, nI_leI, nI_eq, eqNO, eqNO2, ltNO, NOlt, leNO, NOle, if_pos, if_neg, Option.bind_some, if_true, if_false, and_self, eq_self, l0, l1, l2, l3, l4, l5, l6, l7, l8, l9, l10, l11, l12, l13, l14, l15, l16, l17, l18, l19, l20, l24, l26, l30, l31, l32, l40, l41, l42, l43, l45, l47, l48, l57, l58, l59, l60, l61, l62, l63, l64, l97, l99, l100, l101, l102, l103, l104, l105, l106, l107, l108, l109, l110, l122, l160, l240, l255, l600, l1000, l3000, l10000, l10007, l10116, l67108863, l67108864, I_oth, I_J, J_oth, J_I, I_row, J_row, SI_row, SI_oth, SI_J, SJ_row, SJ_oth, SJ_I, upd_s, upd_n, updL_s, updL_n, ne_eq, not_false_eq_true]
        refine ok_i ?_
        show _ = _
        rw [htk]
    · rintro e rfl
      refine ok_i ⟨Fr.pfI hF (by decide), I_self, ?_, ?_, fun y => ?_, fun y => ?_⟩
      · simp (disch := omega) only [gdn, gb0, gb1, ixn, nm1, nI_add, nI_mul, nsub, nI_ltI, nI_leI, nI_eq, eqNO, eqNO2, ltNO, NOlt, leNO, NOle, if_pos, if_neg, Option.bind_some, if_true, if_false, and_self, eq_self, l0, l1, l2, l3, l4, l5, l6, l7, l8, l9, l10, l11, l12, l13, l14, l15, l16, l17, l18, l19, l20, l24, l26, l30, l31, l32, l40, l41, l42, l43, l45, l47, l48, l57, l58, l59, l60, l61, l62, l63, l64, l97, l99, l100, l101, l102, l103, l104, l105, l106, l107, l108, l109, l110, l122, l160, l240, l255, l600, l1000, l3000, l10000, l10007, l10116, l67108863, l67108864, I_oth, I_J, J_oth, J_I, I_row, J_row, SI_row, SI_oth, SI_J, SJ_row, SJ_oth, SJ_I, upd_s, upd_n, updL_s, updL_n, ne_eq, not_false_eq_true, g8]
      · rw [hte]; simp (disch := omega) only [gdn, gb0, gb1, ixn, nm1, nI_add, nI_mul, nsub, nI_ltI, nI_leI, nI_eq, eqNO, eqNO2, ltNO, NOlt, leNO, NOle, if_pos, if_neg, Option.bind_some, if_true, if_false, and_self, eq_self, l0, l1, l2, l3, l4, l5, l6, l7, l8, l9, l10, l11, l12, l13, l14, l15, l16, l17, l18, l19, l20, l24, l26, l30, l31, l32, l40, l41, l42, l43, l45, l47, l48, l57, l58, l59, l60, l61, l62, l63, l64, l97, l99, l100, l101, l102, l103, l104, l105, l106, l107, l108, l109, l110, l122, l160, l240, l255, l600, l1000, l3000, l10000, l10007, l10116, l67108863, l67108864, I_oth, I_J, J_oth, J_I, I_row, J_row, SI_row, SI_oth, SI_J, SJ_row, SJ_oth, SJ_I, upd_s, upd_n, updL_s, updL_n, ne_eq, not_false_eq_true, g6]
      · exfalso
        rw [htk] at y
        split at y <;> omega
      · rw [I_J, g9]; exact ez
  · rw [if_neg (by rw [nI_leI (by omega) (by omega)]; exact q8)]
    have htk : tk c n p = 4 := by unfold tk; rw [if_neg (by omega), if_pos hl, if_pos (by omega)]
    unfold X6_scanWord_j77
    simp only [Option.bind_some]
    rw [lp_exit (e := puI u 65 7 (nI 4)) (by unfold X6_scanWord_b83; simp (disch := omega) only [gdn, gb0, gb1, ixn, nm1, nI_add, nI_mul, nsub, nI_ltI, nI_leI, nI_eq, eqNO, eqNO2, ltNO, NOlt, leNO, NOle, if_pos, if_neg, Option.bind_some, if_true, if_false, and_self, eq_self, l0, l1, l2, l3, l4, l5, l6, l7, l8, l9, l10, l11, l12, l13, l14, l15, l16, l17, l18, l19, l20, l24, l26, l30, l31, l32, l40, l41, l42, l43, l45, l47, l48, l57, l58, l59, l60, l61, l62, l63, l64, l97, l99, l100, l101, l102, l103, l104, l105, l106, l107, l108, l109, l110, l122, l160, l240, l255, l600, l1000, l3000, l10000, l10007, l10116, l67108863, l67108864, I_oth, I_J, J_oth, J_I, I_row, J_row, SI_row, SI_oth, SI_J, SJ_row, SJ_oth, SJ_I, upd_s, upd_n, updL_s, updL_n, ne_eq, not_false_eq_true])]
    refine ok_i ⟨Fr.pfI hF (by decide), by rw [htk]; exact I_self, ?_, ?_, fun y => by omega, fun y => by omega⟩
    · simp (disch := omega) only [gdn, gb0, gb1, ixn, nm1, nI_add, nI_mul, nsub, nI_ltI, nI_leI, nI_eq, eqNO, eqNO2, ltNO, NOlt, leNO, NOle, if_pos, if_neg, Option.bind_some, if_true, if_false, and_self, eq_self, l0, l1, l2, l3, l4, l5, l6, l7, l8, l9, l10, l11, l12, l13, l14, l15, l16, l17, l18, l19, l20, l24, l26, l30, l31, l32, l40, l41, l42, l43, l45, l47, l48, l57, l58, l59, l60, l61, l62, l63, l64, l97, l99, l100, l101, l102, l103, l104, l105, l106, l107, l108, l109, l110, l122, l160, l240, l255, l600, l1000, l3000, l10000, l10007, l10116, l67108863, l67108864, I_oth, I_J, J_oth, J_I, I_row, J_row, SI_row, SI_oth, SI_J, SJ_row, SJ_oth, SJ_I, upd_s, upd_n, updL_s, updL_n, ne_eq, not_false_eq_true, g8]
    · rw [hte]; simp (disch := omega) only [gdn, gb0, gb1, ixn, nm1, nI_add, nI_mul, nsub, nI_ltI, nI_leI, nI_eq, eqNO, eqNO2, ltNO, NOlt, leNO, NOle, if_pos, if_neg, Option.bind_some, if_true, if_false, and_self, eq_self, l0, l1, l2, l3, l4, l5, l6, l7, l8, l9, l10, l11, l12, l13, l14, l15, l16, l17, l18, l19, l20, l24, l26, l30, l31, l32, l40, l41, l42, l43, l45, l47, l48, l57, l58, l59, l60, l61, l62, l63, l64, l97, l99, l100, l101, l102, l103, l104, l105, l106, l107, l108, l109, l110, l122, l160, l240, l255, l600, l1000, l3000, l10000, l10007, l10116, l67108863, l67108864, I_oth, I_J, J_oth, J_I, I_row, J_row, SI_row, SI_oth, SI_J, SJ_row, SJ_oth, SJ_I, upd_s, upd_n, updL_s, updL_n, ne_eq, not_false_eq_true, g6]
theorem scNum_e (hn : n ≤ 600) {w : Wd} (hb : ∀ i, i < n → BY (w.1 66 i) (c i)) {p : Nat} (hp : p ≤ n) (ht : tf c n p < n) (hnl : ¬ isLet (c (tf c n p)) = true) (hl : isDig (c (tf c n p)) = true) (h6 : w.1 65 6 = nI (tf c n p)) (h8 : w.1 65 8 = nI (tf c n p)) : ok (X6_scanNumber (nI n) w) (fun e => Fr [] [(65, 6), (65, 7), (65, 8), (65, 9), (65, 10)] w e ∧ TC c n p e) := by
  obtain ⟨x1, x2, x3, x4⟩ := ext_s (P := fun i => isDig (c i)) (n := n) (p := tf c n p) (by omega)
  have hde : de c n p = ext (fun i => isDig (c i)) n (tf c n p) := rfl
  rw [← hde] at x1 x2 x3 x4
  have hte : te c n p = de c n p := by unfold te; rw [if_neg (by omega), if_neg hnl, if_pos hl]
  generalize hq : tf c n p = q at *
  have key : ok (lp (X6_scanNumber_b2 (nI n)) ((0 : Int32), w)) (fun e => e.2 = puI w 65 6 (nI (de c n p)) ∧ (de c n p - q ≤ 4 → e.1 = nI (nvl c q (de c n p - q)))) := by
    refine lp_up (fun k s => s.2 = puI w 65 6 (nI (q + k)) ∧ (k ≤ 4 → s.1 = nI (nvl c q k))) (de c n p - q) ?_ ?_ 0 _ (Nat.zero_le _) ⟨by rw [Nat.add_zero, pu_same h6], fun _ => rfl⟩
    · rintro k ⟨z, v⟩ hk ⟨h1, h2⟩
      simp only at h1 h2
      subst h1
      have hbk := hb (q + k) (by omega)
      have hd : isDig (c (q + k)) = true := x3 (q + k) (by omega) (by omega)
      have hd2 := dig_iff.mp hd
      have g6 : (puI w 65 6 (nI (q + k))).1 65 6 = nI (q + k) := I_self
      have g66 : (puI w 65 6 (nI (q + k))).1 66 = w.1 66 := I_oth (by omega)
      unfold X6_scanNumber_b2
      simp only [g6, g66]
      simp (disch := omega) only [gdn, gb0, gb1, ixn, nm1, nI_add, nI_mul, nsub, nI_ltI, nI_leI, nI_eq, eqNO, eqNO2, ltNO, NOlt, leNO, NOle, if_pos, if_neg, Option.bind_some, if_true, if_false, and_self, eq_self, l0, l1, l2, l3, l4, l5, l6, l7, l8, l9, l10, l11, l12, l13, l14, l15, l16, l17, l18, l19, l20, l24, l26, l30, l31, l32, l40, l41, l42, l43, l45, l47, l48, l57, l58, l59, l60, l61, l62, l63, l64, l97, l99, l100, l101, l102, l103, l104, l105, l106, l107, l108, l109, l110, l122, l160, l240, l255, l600, l1000, l3000, l10000, l10007, l10116, l67108863, l67108864, dig_e hbk, hd]
      refine ok_i ⟨?_, fun hk8 => ?_⟩
      · simp only [pu_pu]
        rw [Nat.add_assoc]
      · show z * nI 10 + w.1 66 (q + k) - nI 48 = _
        have b1 := nvl_lt (c := c) (q := q) k (fun i hi => x3 _ (by omega) (by omega))
        have b2 : 10 ^ k ≤ 10 ^ 4 := Nat.pow_le_pow_right (by omega) (by omega)
        rw [h2 (by omega), hbk.lo (by omega), nI_mul, nI_add, nsub (by omega)]
        rw [show nvl c q (k + 1) = 10 * nvl c q k + (c (q + k) - 48) from rfl]
        congr 1
        omega
    · rintro ⟨z, v⟩ ⟨h1, h2⟩
      simp only at h1 h2
      subst h1
      rw [show q + (de c n p - q) = de c n p by omega] at *
      generalize de c n p = E at *
      have g6 : (puI w 65 6 (nI E)).1 65 6 = nI E := I_self
      have g66 : (puI w 65 6 (nI E)).1 66 = w.1 66 := I_oth (by omega)
      unfold X6_scanNumber_b2
      simp only [g6, g66]
      rcases x4 with y | y
      · simp (disch := omega) only [gdn, gb0, gb1, ixn, nm1, nI_add, nI_mul, nsub, nI_ltI, nI_leI, nI_eq, eqNO, eqNO2, ltNO, NOlt, leNO, NOle, if_pos, if_neg, Option.bind_some, if_true, if_false, and_self, eq_self, l0, l1, l2, l3, l4, l5, l6, l7, l8, l9, l10, l11, l12, l13, l14, l15, l16, l17, l18, l19, l20, l24, l26, l30, l31, l32, l40, l41, l42, l43, l45, l47, l48, l57, l58, l59, l60, l61, l62, l63, l64, l97, l99, l100, l101, l102, l103, l104, l105, l106, l107, l108, l109, l110, l122, l160, l240, l255, l600, l1000, l3000, l10000, l10007, l10116, l67108863, l67108864]
        exact ok_i ⟨rfl, h2⟩
      · by_cases y2 : n ≤ E
        · simp (disch := omega) only [gdn, gb0, gb1, ixn, nm1, nI_add, nI_mul, nsub, nI_ltI, nI_leI, nI_eq, eqNO, eqNO2, ltNO, NOlt, leNO, NOle, if_pos, if_neg, Option.bind_some, if_true, if_false, and_self, eq_self, l0, l1, l2, l3, l4, l5, l6, l7, l8, l9, l10, l11, l12, l13, l14, l15, l16, l17, l18, l19, l20, l24, l26, l30, l31, l32, l40, l41, l42, l43, l45, l47, l48, l57, l58, l59, l60, l61, l62, l63, l64, l97, l99, l100, l101, l102, l103, l104, l105, l106, l107, l108, l109, l110, l122, l160, l240, l255, l600, l1000, l3000, l10000, l10007, l10116, l67108863, l67108864]
          exact ok_i ⟨rfl, h2⟩
        · have hbk := hb E (by omega)
          simp (disch := omega) only [gdn, gb0, gb1, ixn, nm1, nI_add, nI_mul, nsub, nI_ltI, nI_leI, nI_eq, eqNO, eqNO2, ltNO, NOlt, leNO, NOle, if_pos, if_neg, Option.bind_some, if_true, if_false, and_self, eq_self, l0, l1, l2, l3, l4, l5, l6, l7, l8, l9, l10, l11, l12, l13, l14, l15, l16, l17, l18, l19, l20, l24, l26, l30, l31, l32, l40, l41, l42, l43, l45, l47, l48, l57, l58, l59, l60, l61, l62, l63, l64, l97, l99, l100, l101, l102, l103, l104, l105, l106, l107, l108, l109, l110, l122, l160, l240, l255, l600, l1000, l3000, l10000, l10007, l10116, l67108863, l67108864, dig_e hbk, y]
          exact ok_i ⟨rfl, h2⟩
  obtain ⟨⟨z, v⟩, he, e1, e2⟩ := key
  simp only at e1 e2
  subst e1
  have hF : Fr [] [(65, 6), (65, 7), (65, 8), (65, 9), (65, 10)] w (puI (puI w 65 6 (nI (de c n p))) 65 10 z) := Fr.pfI (Fr.pfI Fr.rf (by decide)) (by decide)
  unfold X6_scanNumber
  rw [he]
  simp only [Option.bind_some]
  have g6 : (puI (puI w 65 6 (nI (de c n p))) 65 10 z).1 65 6 = nI (de c n p) := by simp (disch := omega) only [gdn, gb0, gb1, ixn, nm1, nI_add, nI_mul, nsub, nI_ltI, nI_leI, nI_eq, eqNO, eqNO2, ltNO, NOlt, leNO, NOle, if_pos, if_neg, Option.bind_some, if_true, if_false, and_self, eq_self, l0, l1, l2, l3, l4, l5, l6, l7, l8, l9, l10, l11, l12, l13, l14, l15, l16, l17, l18, l19, l20, l24, l26, l30, l31, l32, l40, l41, l42, l43, l45, l47, l48, l57, l58, l59, l60, l61, l62, l63, l64, l97, l99, l100, l101, l102, l103, l104, l105, l106, l107, l108, l109, l110, l122, l160, l240, l255, l600, l1000, l3000, l10000, l10007, l10116, l67108863, l67108864, I_oth, I_J, J_oth, J_I, I_row, J_row, SI_row, SI_oth, SI_J, SJ_row, SJ_oth, SJ_I, upd_s, upd_n, updL_s, updL_n, ne_eq, not_false_eq_true]
  have g8 : (puI (puI w 65 6 (nI (de c n p))) 65 10 z).1 65 8 = nI q := by simp (disch := omega) only [gdn, gb0, gb1, ixn, nm1, nI_add, nI_mul, nsub, nI_ltI, nI_leI, nI_eq, eqNO, eqNO2, ltNO, NOlt, leNO, NOle, if_pos, if_neg, Option.bind_some, if_true, if_false, and_self, eq_self, l0, l1, l2, l3, l4, l5, l6, l7, l8, l9, l10, l11, l12, l13, l14, l15, l16, l17, l18, l19, l20, l24, l26, l30, l31, l32, l40, l41, l42, l43, l45, l47, l48, l57, l58, l59, l60, l61, l62, l63, l64, l97, l99, l100, l101, l102, l103, l104, l105, l106, l107, l108, l109, l110, l122, l160, l240, l255, l600, l1000, l3000, l10000, l10007, l10116, l67108863, l67108864, I_oth, I_J, J_oth, J_I, I_row, J_row, SI_row, SI_oth, SI_J, SJ_row, SJ_oth, SJ_I, upd_s, upd_n, updL_s, updL_n, ne_eq, not_false_eq_true, h8]
  have g10 : (puI (puI w 65 6 (nI (de c n p))) 65 10 z).1 65 10 = z := I_self
  generalize puI (puI w 65 6 (nI (de c n p))) 65 10 z = u at hF g6 g8 g10
  rw [g6, g8, nsub (by omega), show (4 : Int32) = nI 4 from rfl]
  unfold X6_scanNumber_j80
  by_cases q4 : de c n p - q ≤ 4
  · rw [if_pos (by rw [nI_leI (by omega) (by omega)]; exact q4)]
    have htk : tk c n p = 2 := by unfold tk; rw [hq, if_neg (by omega), if_neg hnl, if_pos hl, if_neg (by omega)]
    refine ok_i ⟨Fr.pfI hF (by decide), by rw [htk]; exact I_self, ?_, ?_, fun y => ?_, fun y => by omega⟩
    · rw [hq]; simp (disch := omega) only [gdn, gb0, gb1, ixn, nm1, nI_add, nI_mul, nsub, nI_ltI, nI_leI, nI_eq, eqNO, eqNO2, ltNO, NOlt, leNO, NOle, if_pos, if_neg, Option.bind_some, if_true, if_false, and_self, eq_self, l0, l1, l2, l3, l4, l5, l6, l7, l8, l9, l10, l11, l12, l13, l14, l15, l16, l17, l18, l19, l20, l24, l26, l30, l31, l32, l40, l41, l42, l43, l45, l47, l48, l57, l58, l59, l60, l61, l62, l63, l64, l97, l99, l100, l101, l102, l103, l104, l105, l106, l107, l108, l109, l110, l122, l160, l240, l255, l600, l1000, l3000, l10000, l10007, l10116, l67108863, l67108864, I_oth, I_J, J_oth, J_I, I_row, J_row, SI_row, SI_oth, SI_J, SJ_row, SJ_oth, SJ_I, upd_s, upd_n, updL_s, updL_n, ne_eq, not_false_eq_true, g8]
    · rw [hte]; simp (disch := omega) only [gdn, gb0, gb1, ixn, nm1, nI_add, nI_mul, nsub, nI_ltI, nI_leI, nI_eq, eqNO, eqNO2, ltNO, NOlt, leNO, NOle, if_pos, if_neg, Option.bind_some, if_true, if_false, and_self, eq_self, l0, l1, l2, l3, l4, l5, l6, l7, l8, l9, l10, l11, l12, l13, l14, l15, l16, l17, l18, l19, l20, l24, l26, l30, l31, l32, l40, l41, l42, l43, l45, l47, l48, l57, l58, l59, l60, l61, l62, l63, l64, l97, l99, l100, l101, l102, l103, l104, l105, l106, l107, l108, l109, l110, l122, l160, l240, l255, l600, l1000, l3000, l10000, l10007, l10116, l67108863, l67108864, I_oth, I_J, J_oth, J_I, I_row, J_row, SI_row, SI_oth, SI_J, SJ_row, SJ_oth, SJ_I, upd_s, upd_n, updL_s, updL_n, ne_eq, not_false_eq_true, g6]
    · simp (disch := omega) only [gdn, gb0, gb1, ixn, nm1, nI_add, nI_mul, nsub, nI_ltI, nI_leI, nI_eq, eqNO, eqNO2, ltNO, NOlt, leNO, NOle, if_pos, if_neg, Option.bind_some, if_true, if_false, and_self, eq_self, l0, l1, l2, l3, l4, l5, l6, l7, l8, l9, l10, l11, l12, l13, l14, l15, l16, l17, l18, l19, l20, l24, l26, l30, l31, l32, l40, l41, l42, l43, l45, l47, l48, l57, l58, l59, l60, l61, l62, l63, l64, l97, l99, l100, l101, l102, l103, l104, l105, l106, l107, l108, l109, l110, l122, l160, l240, l255, l600, l1000, l3000, l10000, l10007, l10116, l67108863, l67108864, I_oth, I_J, J_oth, J_I, I_row, J_row, SI_row, SI_oth, SI_J, SJ_row, SJ_oth, SJ_I, upd_s, upd_n, updL_s, updL_n, ne_eq, not_false_eq_true, g10]
      rw [e2 q4]; unfold tv; rw [hq]
  · rw [if_neg (by rw [nI_leI (by omega) (by omega)]; exact q4)]
    have htk : tk c n p = 0 := by unfold tk; rw [hq, if_neg (by omega), if_neg hnl, if_pos hl, if_pos (by omega)]
    refine ok_i ⟨Fr.pfI hF (by decide), by rw [htk]; exact I_self, ?_, ?_, fun y => by omega, fun y => by omega⟩
    · rw [hq]; simp (disch := omega) only [gdn, gb0, gb1, ixn, nm1, nI_add, nI_mul, nsub, nI_ltI, nI_leI, nI_eq, eqNO, eqNO2, ltNO, NOlt, leNO, NOle, if_pos, if_neg, Option.bind_some, if_true, if_false, and_self, eq_self, l0, l1, l2, l3, l4, l5, l6, l7, l8, l9, l10, l11, l12, l13, l14, l15, l16, l17, l18, l19, l20, l24, l26, l30, l31, l32, l40, l41, l42, l43, l45, l47, l48, l57, l58, l59, l60, l61, l62, l63, l64, l97, l99, l100, l101, l102, l103, l104, l105, l106, l107, l108, l109, l110, l122, l160, l240, l255, l600, l1000, l3000, l10000, l10007, l10116, l67108863, l67108864, I_oth, I_J, J_oth, J_I, I_row, J_row, SI_row, SI_oth, SI_J, SJ_row, SJ_oth, SJ_I, upd_s, upd_n, updL_s, updL_n, ne_eq, not_false_eq_true, g8]
    · rw [hte]; simp (disch := omega) only [gdn, gb0, gb1, ixn, nm1, nI_add, nI_mul, nsub, nI_ltI, nI_leI, nI_eq, eqNO, eqNO2, ltNO, NOlt, leNO, NOle, if_pos, if_neg, Option.bind_some, if_true, if_false, and_self, eq_self, l0, l1, l2, l3, l4, l5, l6, l7, l8, l9, l10, l11, l12, l13, l14, l15, l16, l17, l18, l19, l20, l24, l26, l30, l31, l32, l40, l41, l42, l43, l45, l47, l48, l57, l58, l59, l60, l61, l62, l63, l64, l97, l99, l100, l101, l102, l103, l104, l105, l106, l107, l108, l109, l110, l122, l160, l240, l255, l600, l1000, l3000, l10000, l10007, l10116, l67108863, l67108864, I_oth, I_J, J_oth, J_I, I_row, J_row, SI_row, SI_oth, SI_J, SJ_row, SJ_oth, SJ_I, upd_s, upd_n, updL_s, updL_n, ne_eq, not_false_eq_true, g6]
end
