/-! the class works a row of codes out -/
def tp : Nat → Int32
  | 0 => NO
  | n + 1 => nI n
theorem tp_s {n : Nat} : tp (n + 1) = nI n := rfl
def SKs (f : Nat → Int64) : List Int64 → Prop
  | [] => True
  | a :: s => f s.length = a ∧ SKs f s
theorem SKs.c {f g : Nat → Int64} : ∀ {s : List Int64}, SKs f s → (∀ i, i < s.length → g i = f i) → SKs g s
  | [], _, _ => trivial
  | a :: s, h, e => ⟨by rw [e s.length (by rw [List.length_cons]; omega)]; exact h.1, SKs.c h.2 (fun i hi => e i (by rw [List.length_cons]; omega))⟩
theorem cge {a b : Int64} : (nI 0 ≤ lg_cmp a b) = ¬ a < b := by
  rw [show nI 0 = (0 : Int32) from rfl, eq_iff_iff, lg_cmp_ge, Int64.not_lt]
theorem cle {a b : Int64} : (lg_cmp a b ≤ nI 0) = ¬ b < a := by
  rw [show nI 0 = (0 : Int32) from rfl, eq_iff_iff, lg_cmp_le, Int64.not_lt]
theorem reckon_e {t : Nat} (ht : t < 1000) {a b : Int64} {w : Wd} : X0_reckon (nI t) a b w = some (rk t a b) := by
  unfold X0_reckon rk
  rw [show (42 : Int32) = nI 42 from rfl, show (43 : Int32) = nI 43 from rfl, show (45 : Int32) = nI 45 from rfl, show (47 : Int32) = nI 47 from rfl, show (60 : Int32) = nI 60 from rfl, show (61 : Int32) = nI 61 from rfl, show (62 : Int32) = nI 62 from rfl, show (108 : Int32) = nI 108 from rfl, show (0 : Int32) = nI 0 from rfl]
  simp (disch := omega) only [nI_eq, cmpz, cge, cle]
  by_cases q1 : t = 42
  · rw [if_pos q1, if_pos q1]
  rw [if_neg q1, if_neg q1]
  by_cases q2 : t = 43
  · rw [if_pos q2, if_pos q2]
  rw [if_neg q2, if_neg q2]
  by_cases q3 : t = 45
  · rw [if_pos q3, if_pos q3]
  rw [if_neg q3, if_neg q3]
  by_cases q4 : t = 47
  · rw [if_pos q4, if_pos q4]
    by_cases z : b = 0
    · rw [if_pos z, if_pos z]
    · rw [if_neg z, if_neg z, gd_t z]
  rw [if_neg q4, if_neg q4]
  by_cases q5 : t = 60
  · subst q5
    rw [if_pos rfl, if_pos (Or.inl rfl)]
    rw [show cpv 60 a b = decide (a < b) from rfl]
    unfold bL
    by_cases z : a < b
    · rw [if_neg (fun y => y z), if_pos (by simpa using z)]; rfl
    · rw [if_pos z, if_neg (by simpa using z)]; rfl
  rw [if_neg q5]
  by_cases q6 : t = 61
  · subst q6
    rw [if_pos rfl, if_pos (Or.inr (Or.inl rfl))]
    rw [show cpv 61 a b = decide (a = b) from rfl]
    unfold bL
    by_cases z : a = b
    · rw [if_pos z, if_pos (by simpa using z)]; rfl
    · rw [if_neg z, if_neg (by simpa using z)]; rfl
  rw [if_neg q6]
  by_cases q7 : t = 62
  · subst q7
    rw [if_pos rfl, if_pos (Or.inr (Or.inr rfl))]
    rw [show cpv 62 a b = decide (b < a) from rfl]
    unfold bL
    by_cases z : b < a
    · rw [if_neg (fun y => y z), if_pos (by simpa using z)]; rfl
    · rw [if_pos z, if_neg (by simpa using z)]; rfl
  rw [if_neg q7, if_neg (show ¬ (t = 60 ∨ t = 61 ∨ t = 62) by omega)]
  by_cases q8 : t = 108
  · rw [if_pos q8, if_pos q8]
  · rw [if_neg q8, if_neg q8]
theorem toJ {n : Nat} (h : n < 2 ^ 31) : (nI n).toInt64 = lN n := by
  apply Int64.toInt_inj.mp
  rw [Int32.toInt_toInt64, tI h, lN_t (by omega)]
theorem nI_m1 {n : Nat} : nI (n + 1) + NO = nI n := by
  rw [show NO = -nI 1 from rfl, ← Int32.sub_eq_add_neg, nI_sub (by omega)]; rfl
theorem run_lp {w : Wd} {F : Nat → Int64} (hF : ∀ i, i < 7 → w.2 77 i = F i) {E : Nat} (hE : E ≤ 3000) {r : Nat} : ∀ (C : List Nat) (b : Nat) (s : List Int64) (v : Wd), (∀ i, i < C.length → w.1 42 (b + i) = nI (C.getD i 0)) → (∀ x ∈ C, x < 11000) → b + C.length = E → Fr [44] [] w v → SKs (v.2 44) s → s.length ≤ 40 → hg 40 C s.length = some r → ∃ v', lp (X0_run_b6 (nI E)) (tp s.length, nI b, v) = some (tp r, v') ∧ Fr [44] [] w v' ∧ SKs (v'.2 44) (evS F C s)
  | [], b, s, v, h1, h2, h3, h4, h5, h7, h6 => by
    unfold hg at h6
    injection h6 with h6
    rw [List.length_nil, Nat.add_zero] at h3
    refine ⟨v, lp_exit ?_, h4, h5⟩
    unfold X0_run_b6
    simp (disch := omega) only [gdn, gb0, gb1, ixn, nm1, nI_add, nI_mul, nsub, nI_ltI, nI_leI, nI_eq, eqNO, eqNO2, ltNO, NOlt, leNO, NOle, if_pos, if_neg, Option.bind_some, if_true, if_false, and_self, eq_self, l0, l1, l2, l3, l4, l5, l6, l7, l8, l9, l10, l11, l12, l13, l14, l15, l16, l17, l18, l19, l20, l24, l26, l30, l31, l32, l40, l41, l42, l43, l45, l47, l48, l57, l58, l59, l60, l61, l62, l63, l64, l97, l99, l100, l101, l102, l103, l104, l105, l106, l107, l108, l109, l110, l122, l160, l240, l255, l600, l1000, l3000, l10000, l10007, l10116, l67108863, l67108864, h6, h3]
  | x :: C, b, s, v, h1, h2, h3, h4, h5, h7, h6 => by
    rw [List.length_cons] at h3
    have hx := h2 x List.mem_cons_self
    have r42 : v.1 42 b = nI x := by
      rw [(h4 42 (by decide) b (by simp)).1]
      exact h1 0 (by rw [List.length_cons]; omega)
    have r77 : ∀ i, i < 7 → v.2 77 i = F i := fun i hi => by rw [(h4 77 (by decide) i (by simp)).2]; exact hF i hi
    have next : ∀ (s' : List Int64) (v' : Wd), Fr [44] [] w v' → SKs (v'.2 44) s' → s' = ev1 F x s → s'.length ≤ 40 → hg 40 C s'.length = some r → X0_run_b6 (nI E) (tp s.length, nI b, v) = some (.inl (tp s'.length, nI (b + 1), v')) → ∃ v', lp (X0_run_b6 (nI E)) (tp s.length, nI b, v) = some (tp r, v') ∧ Fr [44] [] w v' ∧ SKs (v'.2 44) (evS F (x :: C) s) := by
      intro s' v' k1 k2 k3 k6 k4 k5
      obtain ⟨v2, j1, j2, j3⟩ := run_lp hF hE C (b + 1) s' v' (fun i hi => by rw [show b + 1 + i = b + (i + 1) by omega]; exact h1 (i + 1) (by rw [List.length_cons]; omega)) (fun y hy => h2 y (List.mem_cons_of_mem _ hy)) (by omega) k1 k2 k6 k4
      refine ⟨v2, by rw [lp_step k5]; exact j1, j2, ?_⟩
      unfold evS
      rw [← k3]; exact j3
    have pu : ∀ (i : Nat) (y : Int64), Fr [44] [] w (puJ v 44 i y) := fun i y => Fr.puJ h4 (by decide)
    unfold hg at h6
    by_cases q1 : x < 10007
    · rw [if_pos q1] at h6
      by_cases q2 : s.length < 40
      · rw [if_pos q2] at h6
        have htp : tp s.length + nI 1 = nI s.length := by
          cases s with
          | nil => rfl
          | cons a s => rw [List.length_cons, tp_s, nI_add]
        have hlt : ¬ nI 63 ≤ tp s.length := by
          cases s with
          | nil => decide
          | cons a s =>
            rw [List.length_cons] at q2 ⊢
            show ¬ nI 63 ≤ nI s.length
            rw [nI_leI (by omega) (by omega)]; omega
        have hsk : ∀ y, SKs ((puJ v 44 s.length y).2 44) (y :: s) := fun y => ⟨by rw [J_row]; exact updL_s, h5.c (fun i hi => by rw [J_row]; exact updL_n (by omega))⟩
        by_cases q : x < 10000
        · refine next (lN x :: s) (puJ v 44 s.length (lN x)) (pu _ _) (hsk _) ?_ (by rw [List.length_cons]; omega) (by rw [List.length_cons]; exact h6) ?_
          · unfold ev1; rw [if_pos q]
          · unfold X0_run_b6 X0_run_j67 X0_run_j143
            simp (disch := omega) only [gdn, gb0, gb1, ixn, nm1, nI_add, nI_mul, nsub, nI_ltI, nI_leI, nI_eq, eqNO, eqNO2, ltNO, NOlt, leNO, NOle, if_pos, if_neg, Option.bind_some, if_true, if_false, and_self, eq_self, l0, l1, l2, l3, l4, l5, l6, l7, l8, l9, l10, l11, l12, l13, l14, l15, l16, l17, l18, l19, l20, l24, l26, l30, l31, l32, l40, l41, l42, l43, l45, l47, l48, l57, l58, l59, l60, l61, l62, l63, l64, l97, l99, l100, l101, l102, l103, l104, l105, l106, l107, l108, l109, l110, l122, l160, l240, l255, l600, l1000, l3000, l10000, l10007, l10116, l67108863, l67108864, r42, htp, hlt, toJ, List.length_cons, tp_s]
        · refine next (F (x - 10000) :: s) (puJ v 44 s.length (F (x - 10000))) (pu _ _) (hsk _) ?_ (by rw [List.length_cons]; omega) (by rw [List.length_cons]; exact h6) ?_
          · unfold ev1; rw [if_neg q, if_pos q1]
          · unfold X0_run_b6 X0_run_j67 X0_run_j143
            simp (disch := omega) only [gdn, gb0, gb1, ixn, nm1, nI_add, nI_mul, nsub, nI_ltI, nI_leI, nI_eq, eqNO, eqNO2, ltNO, NOlt, leNO, NOle, if_pos, if_neg, Option.bind_some, if_true, if_false, and_self, eq_self, l0, l1, l2, l3, l4, l5, l6, l7, l8, l9, l10, l11, l12, l13, l14, l15, l16, l17, l18, l19, l20, l24, l26, l30, l31, l32, l40, l41, l42, l43, l45, l47, l48, l57, l58, l59, l60, l61, l62, l63, l64, l97, l99, l100, l101, l102, l103, l104, l105, l106, l107, l108, l109, l110, l122, l160, l240, l255, l600, l1000, l3000, l10000, l10007, l10116, l67108863, l67108864, r42, htp, hlt, r77, List.length_cons, tp_s]
      · rw [if_neg q2] at h6; cases h6
    · rw [if_neg q1] at h6
      by_cases q3 : x = 10116
      · rw [if_pos q3] at h6
        by_cases q2 : 1 ≤ s.length
        · rw [if_pos q2] at h6
          match s, h5, h6, next, h7 with
          | a :: s, h5, h6, next, h7 =>
            rw [List.length_cons] at h7
            refine next (((1 : Int64) - a) :: s) (puJ v 44 s.length ((1 : Int64) - a)) (pu _ _) ⟨by rw [J_row]; exact updL_s, h5.2.c (fun i hi => by rw [J_row]; exact updL_n (by omega))⟩ ?_ (by rw [List.length_cons]; omega) (by rw [List.length_cons] at h6 ⊢; exact h6) ?_
            · unfold ev1; rw [if_neg (by omega), if_neg q1, if_pos q3]
            · have r44 := h5.1
              subst q3
              unfold X0_run_b6 X0_run_j143
              simp (disch := omega) only [gdn, gb0, gb1, ixn, nm1, nI_add, nI_mul, nsub, nI_ltI, nI_leI, nI_eq, eqNO, eqNO2, ltNO, NOlt, leNO, NOle, if_pos, if_neg, Option.bind_some, if_true, if_false, and_self, eq_self, l0, l1, l2, l3, l4, l5, l6, l7, l8, l9, l10, l11, l12, l13, l14, l15, l16, l17, l18, l19, l20, l24, l26, l30, l31, l32, l40, l41, l42, l43, l45, l47, l48, l57, l58, l59, l60, l61, l62, l63, l64, l97, l99, l100, l101, l102, l103, l104, l105, l106, l107, l108, l109, l110, l122, l160, l240, l255, l600, l1000, l3000, l10000, l10007, l10116, l67108863, l67108864, r42, List.length_cons, tp_s, r44]
          | [], h5, h6, next, h7 => simp at q2
        · rw [if_neg q2] at h6; cases h6
      · rw [if_neg q3] at h6
        by_cases q2 : 2 ≤ s.length
        · rw [if_pos q2] at h6
          match s, h5, h6, next, h7 with
          | c :: a :: s, h5, h6, next, h7 =>
            rw [List.length_cons, List.length_cons] at h7
            refine next (rk (x - 10007) a c :: s) (puJ v 44 s.length (rk (x - 10007) a c)) (pu _ _) ⟨by rw [J_row]; exact updL_s, h5.2.2.c (fun i hi => by rw [J_row]; exact updL_n (by omega))⟩ ?_ (by rw [List.length_cons]; omega) (by rw [List.length_cons, List.length_cons] at h6; rw [List.length_cons]; exact h6) ?_
            · unfold ev1; rw [if_neg (by omega), if_neg q1, if_neg q3]
            · have r44 := h5.1
              rw [List.length_cons] at r44
              have r44b := h5.2.1
              unfold X0_run_b6 X0_run_j143
              simp (disch := omega) only [gdn, gb0, gb1, ixn, nm1, nI_add, nI_mul, nsub, nI_ltI, nI_leI, nI_eq, eqNO, eqNO2, ltNO, NOlt, leNO, NOle, if_pos, if_neg, Option.bind_some, if_true, if_false, and_self, eq_self, l0, l1, l2, l3, l4, l5, l6, l7, l8, l9, l10, l11, l12, l13, l14, l15, l16, l17, l18, l19, l20, l24, l26, l30, l31, l32, l40, l41, l42, l43, l45, l47, l48, l57, l58, l59, l60, l61, l62, l63, l64, l97, l99, l100, l101, l102, l103, l104, l105, l106, l107, l108, l109, l110, l122, l160, l240, l255, l600, l1000, l3000, l10000, l10007, l10116, l67108863, l67108864, r42, List.length_cons, tp_s, nI_m1, r44, r44b, reckon_e]
          | [a], h5, h6, next, h7 => simp at q2
          | [], h5, h6, next, h7 => simp at q2
        · rw [if_neg q2] at h6; cases h6
theorem run_e {w : Wd} {F : Nat → Int64} (hF : ∀ i, i < 7 → w.2 77 i = F i) {b r : Nat} {C : List Nat} (h1 : CB w b C) (h2 : ∀ x ∈ C, x < 11000) (h3 : b + C.length ≤ 3000) (h4 : hg 40 C 0 = some r) (hr : r ≤ 1) : ∃ v, X0_run (nI b) (nI (b + C.length)) w = some (vS F C, v) ∧ Fr [44] [] w v := by
  obtain ⟨v, k1, k2, k3⟩ := run_lp hF h3 C b [] w h1 h2 rfl Fr.rf trivial (by simp) h4
  have hl := (evS_h (F := F) (s := []) (st := []) rfl h4).1
  refine ⟨v, ?_, k2⟩
  unfold X0_run
  rw [show ((-1 : Int32), nI b, w) = (tp ([] : List Int64).length, nI b, w) from rfl, k1]
  simp only [Option.bind_some]
  unfold vS
  match evS F C [], k3, hl with
  | [], k3, hl =>
    rw [← hl]
    rw [if_pos (show tp ([] : List Int64).length < 0 by decide)]; rfl
  | [a], k3, hl =>
    rw [← hl]
    have e := k3.1
    rw [if_neg (show ¬ tp ([a] : List Int64).length < 0 from (by decide : ¬ nI 0 < 0)), show tp ([a] : List Int64).length = nI 0 from rfl]
    rw [gdn (by omega) (by omega), ixn (by omega)]
    rw [show v.2 44 0 = a from e]; rfl
  | _ :: _ :: _, _, hl => simp at hl; omega
/-! the model works a SUM out -/
theorem work_lp {w : Wd} {F : Nat → Int64} (hF : ∀ i, i < 7 → w.2 159 i = F i) {E : Nat} (hE : E ≤ 4000) {r : Nat} : ∀ (C : List Nat) (b : Nat) (s : List Int64) (v : Wd), (∀ i, i < C.length → w.1 140 (b + i) = dec1 (C.getD i 0) ∧ w.1 141 (b + i) = dec2 (C.getD i 0)) → (∀ x ∈ C, smC x) → b + C.length = E → Fr [160] [] w v → SKs (v.2 160) s → s.length ≤ 20 → hg 20 C s.length = some r → ∃ v', lp (X12_work_b5 (nI E)) (nI s.length, nI b, v) = some v' ∧ Fr [160] [] w v' ∧ SKs (v'.2 160) (evS F C s)
  | [], b, s, v, h1, h2, h3, h4, h5, h7, h6 => by
    rw [List.length_nil, Nat.add_zero] at h3
    refine ⟨v, lp_exit ?_, h4, h5⟩
    unfold X12_work_b5
    simp (disch := omega) only [gdn, gb0, gb1, ixn, nm1, nI_add, nI_mul, nsub, nI_ltI, nI_leI, nI_eq, eqNO, eqNO2, ltNO, NOlt, leNO, NOle, if_pos, if_neg, Option.bind_some, if_true, if_false, and_self, eq_self, l0, l1, l2, l3, l4, l5, l6, l7, l8, l9, l10, l11, l12, l13, l14, l15, l16, l17, l18, l19, l20, l24, l26, l30, l31, l32, l40, l41, l42, l43, l45, l47, l48, l57, l58, l59, l60, l61, l62, l63, l64, l97, l99, l100, l101, l102, l103, l104, l105, l106, l107, l108, l109, l110, l122, l160, l240, l255, l600, l1000, l3000, l10000, l10007, l10116, l67108863, l67108864, h3]
  | x :: C, b, s, v, h1, h2, h3, h4, h5, h7, h6 => by
    rw [List.length_cons] at h3
    have hx := h2 x List.mem_cons_self
    have e1 := h1 0 (by rw [List.length_cons]; omega)
    rw [Nat.add_zero, List.getD_cons_zero] at e1
    have r140 : v.1 140 b = dec1 x := by rw [(h4 140 (by decide) b (by simp)).1]; exact e1.1
    have r141 : v.1 141 b = dec2 x := by rw [(h4 141 (by decide) b (by simp)).1]; exact e1.2
    have r159 : ∀ i, i < 7 → v.2 159 i = F i := fun i hi => by rw [(h4 159 (by decide) i (by simp)).2]; exact hF i hi
    have next : ∀ (s' : List Int64) (v' : Wd), Fr [160] [] w v' → SKs (v'.2 160) s' → s' = ev1 F x s → s'.length ≤ 20 → hg 20 C s'.length = some r → X12_work_b5 (nI E) (nI s.length, nI b, v) = some (.inl (nI s'.length, nI (b + 1), v')) → ∃ v', lp (X12_work_b5 (nI E)) (nI s.length, nI b, v) = some v' ∧ Fr [160] [] w v' ∧ SKs (v'.2 160) (evS F (x :: C) s) := by
      intro s' v' k1 k2 k3 k6 k4 k5
      obtain ⟨v2, j1, j2, j3⟩ := work_lp hF hE C (b + 1) s' v' (fun i hi => by rw [show b + 1 + i = b + (i + 1) by omega]; exact h1 (i + 1) (by rw [List.length_cons]; omega)) (fun y hy => h2 y (List.mem_cons_of_mem _ hy)) (by omega) k1 k2 k6 k4
      refine ⟨v2, by rw [lp_step k5]; exact j1, j2, ?_⟩
      unfold evS
      rw [← k3]; exact j3
    have pu : ∀ (i : Nat) (y : Int64), Fr [160] [] w (puJ v 160 i y) := fun i y => Fr.puJ h4 (by decide)
    unfold hg at h6
    by_cases q1 : x < 10007
    · rw [if_pos q1] at h6
      by_cases q2 : s.length < 20
      · rw [if_pos q2] at h6
        have hsk : ∀ y, SKs ((puJ v 160 s.length y).2 160) (y :: s) := fun y => ⟨by rw [J_row]; exact updL_s, h5.c (fun i hi => by rw [J_row]; exact updL_n (by omega))⟩
        by_cases q : x < 10000
        · refine next (lN x :: s) (puJ v 160 s.length (lN x)) (pu _ _) (hsk _) ?_ (by rw [List.length_cons]; omega) (by rw [List.length_cons]; exact h6) ?_
          · unfold ev1; rw [if_pos q]
          · unfold dec1 at r140
            unfold dec2 at r141
            rw [if_pos q] at r140 r141
            unfold X12_work_b5 X12_work_j59 X12_work_j158
            simp (disch := omega) only [gdn, gb0, gb1, ixn, nm1, nI_add, nI_mul, nsub, nI_ltI, nI_leI, nI_eq, eqNO, eqNO2, ltNO, NOlt, leNO, NOle, if_pos, if_neg, Option.bind_some, if_true, if_false, and_self, eq_self, l0, l1, l2, l3, l4, l5, l6, l7, l8, l9, l10, l11, l12, l13, l14, l15, l16, l17, l18, l19, l20, l24, l26, l30, l31, l32, l40, l41, l42, l43, l45, l47, l48, l57, l58, l59, l60, l61, l62, l63, l64, l97, l99, l100, l101, l102, l103, l104, l105, l106, l107, l108, l109, l110, l122, l160, l240, l255, l600, l1000, l3000, l10000, l10007, l10116, l67108863, l67108864, r140, r141, toJ, List.length_cons]
        · refine next (F (x - 10000) :: s) (puJ v 160 s.length (F (x - 10000))) (pu _ _) (hsk _) ?_ (by rw [List.length_cons]; omega) (by rw [List.length_cons]; exact h6) ?_
          · unfold ev1; rw [if_neg q, if_pos q1]
          · unfold dec1 at r140
            unfold dec2 at r141
            rw [if_neg q, if_pos q1] at r140 r141
            unfold X12_work_b5 X12_work_j59 X12_work_j158
            simp (disch := omega) only [gdn, gb0, gb1, ixn, nm1, nI_add, nI_mul, nsub, nI_ltI, nI_leI, nI_eq, eqNO, eqNO2, ltNO, NOlt, leNO, NOle, if_pos, if_neg, Option.bind_some, if_true, if_false, and_self, eq_self, l0, l1, l2, l3, l4, l5, l6, l7, l8, l9, l10, l11, l12, l13, l14, l15, l16, l17, l18, l19, l20, l24, l26, l30, l31, l32, l40, l41, l42, l43, l45, l47, l48, l57, l58, l59, l60, l61, l62, l63, l64, l97, l99, l100, l101, l102, l103, l104, l105, l106, l107, l108, l109, l110, l122, l160, l240, l255, l600, l1000, l3000, l10000, l10007, l10116, l67108863, l67108864, r140, r141, r159, List.length_cons]
      · rw [if_neg q2] at h6; cases h6
    · rw [if_neg q1, if_neg (show ¬ x = 10116 by unfold smC at hx; omega)] at h6
      by_cases q2 : 2 ≤ s.length
      · rw [if_pos q2] at h6
        match s, h5, h6, next, h7 with
        | c :: a :: s, h5, h6, next, h7 =>
          rw [List.length_cons, List.length_cons] at h7
          refine next (rk (x - 10007) a c :: s) (puJ v 160 s.length (rk (x - 10007) a c)) (pu _ _) ⟨by rw [J_row]; exact updL_s, h5.2.2.c (fun i hi => by rw [J_row]; exact updL_n (by omega))⟩ ?_ (by rw [List.length_cons]; omega) (by rw [List.length_cons, List.length_cons] at h6; rw [List.length_cons]; exact h6) ?_
          · unfold ev1; rw [if_neg (by unfold smC at hx; omega), if_neg q1, if_neg (by unfold smC at hx; omega)]
          · have r44 := h5.1
            rw [List.length_cons] at r44
            have r44b := h5.2.1
            unfold dec1 at r140
            rw [if_neg (by omega), if_neg q1] at r140
            have ix1 : s.length + 1 + 1 - 2 = s.length := by omega
            have ix2 : s.length + 1 + 1 - 1 = s.length + 1 := by omega
            have ix3 : s.length + 1 - 1 = s.length := by omega
            have hx4 : x = 10049 ∨ x = 10050 ∨ x = 10052 ∨ x = 10054 := by unfold smC at hx; omega
            unfold X12_work_b5 X12_work_j157 X12_work_j158
            rcases hx4 with rfl | rfl | rfl | rfl
            · simp (disch := omega) only [gdn, gb0, gb1, ixn, nm1, nI_add, nI_mul, nsub, nI_ltI, nI_leI, nI_eq, eqNO, eqNO2, ltNO, NOlt, leNO, NOle, if_pos, if_neg, Option.bind_some, if_true, if_false, and_self, eq_self, l0, l1, l2, l3, l4, l5, l6, l7, l8, l9, l10, l11, l12, l13, l14, l15, l16, l17, l18, l19, l20, l24, l26, l30, l31, l32, l40, l41, l42, l43, l45, l47, l48, l57, l58, l59, l60, l61, l62, l63, l64, l97, l99, l100, l101, l102, l103, l104, l105, l106, l107, l108, l109, l110, l122, l160, l240, l255, l600, l1000, l3000, l10000, l10007, l10116, l67108863, l67108864, r140, List.length_cons, nI_m1, ix1, ix2, ix3, r44, r44b, rk]
            · simp (disch := omega) only [gdn, gb0, gb1, ixn, nm1, nI_add, nI_mul, nsub, nI_ltI, nI_leI, nI_eq, eqNO, eqNO2, ltNO, NOlt, leNO, NOle, if_pos, if_neg, Option.bind_some, if_true, if_false, and_self, eq_self, l0, l1, l2, l3, l4, l5, l6, l7, l8, l9, l10, l11, l12, l13, l14, l15, l16, l17, l18, l19, l20, l24, l26, l30, l31, l32, l40, l41, l42, l43, l45, l47, l48, l57, l58, l59, l60, l61, l62, l63, l64, l97, l99, l100, l101, l102, l103, l104, l105, l106, l107, l108, l109, l110, l122, l160, l240, l255, l600, l1000, l3000, l10000, l10007, l10116, l67108863, l67108864, r140, List.length_cons, nI_m1, ix1, ix2, ix3, r44, r44b, rk]
            · simp (disch := omega) only [gdn, gb0, gb1, ixn, nm1, nI_add, nI_mul, nsub, nI_ltI, nI_leI, nI_eq, eqNO, eqNO2, ltNO, NOlt, leNO, NOle, if_pos, if_neg, Option.bind_some, if_true, if_false, and_self, eq_self, l0, l1, l2, l3, l4, l5, l6, l7, l8, l9, l10, l11, l12, l13, l14, l15, l16, l17, l18, l19, l20, l24, l26, l30, l31, l32, l40, l41, l42, l43, l45, l47, l48, l57, l58, l59, l60, l61, l62, l63, l64, l97, l99, l100, l101, l102, l103, l104, l105, l106, l107, l108, l109, l110, l122, l160, l240, l255, l600, l1000, l3000, l10000, l10007, l10116, l67108863, l67108864, r140, List.length_cons, nI_m1, ix1, ix2, ix3, r44, r44b, rk]
            · by_cases z : c = 0
              · simp (disch := omega) only [gdn, gb0, gb1, ixn, nm1, nI_add, nI_mul, nsub, nI_ltI, nI_leI, nI_eq, eqNO, eqNO2, ltNO, NOlt, leNO, NOle, if_pos, if_neg, Option.bind_some, if_true, if_false, and_self, eq_self, l0, l1, l2, l3, l4, l5, l6, l7, l8, l9, l10, l11, l12, l13, l14, l15, l16, l17, l18, l19, l20, l24, l26, l30, l31, l32, l40, l41, l42, l43, l45, l47, l48, l57, l58, l59, l60, l61, l62, l63, l64, l97, l99, l100, l101, l102, l103, l104, l105, l106, l107, l108, l109, l110, l122, l160, l240, l255, l600, l1000, l3000, l10000, l10007, l10116, l67108863, l67108864, r140, List.length_cons, nI_m1, ix1, ix2, ix3, r44, r44b, rk, cmpz, z]
              · simp (disch := omega) only [gdn, gb0, gb1, ixn, nm1, nI_add, nI_mul, nsub, nI_ltI, nI_leI, nI_eq, eqNO, eqNO2, ltNO, NOlt, leNO, NOle, if_pos, if_neg, Option.bind_some, if_true, if_false, and_self, eq_self, l0, l1, l2, l3, l4, l5, l6, l7, l8, l9, l10, l11, l12, l13, l14, l15, l16, l17, l18, l19, l20, l24, l26, l30, l31, l32, l40, l41, l42, l43, l45, l47, l48, l57, l58, l59, l60, l61, l62, l63, l64, l97, l99, l100, l101, l102, l103, l104, l105, l106, l107, l108, l109, l110, l122, l160, l240, l255, l600, l1000, l3000, l10000, l10007, l10116, l67108863, l67108864, r140, List.length_cons, nI_m1, ix1, ix2, ix3, r44, r44b, rk, cmpz, z]
                rw [gd_t (by simp)]
        | [a], h5, h6, next, h7 => simp at q2
        | [], h5, h6, next, h7 => simp at q2
      · rw [if_neg q2] at h6; cases h6
theorem work_e {w : Wd} {F : Nat → Int64} (hF : ∀ i, i < 7 → w.2 159 i = F i) {b : Nat} {C : List Nat} (h1 : SGN w b C) (h2 : ∀ x ∈ C, smC x) (h3 : b + C.length ≤ 4000) (h4 : hg 20 C 0 = some 1) : ∃ v, X12_work (nI b) (nI (b + C.length)) w = some (vS F C, v) ∧ Fr [160] [] w v := by
  obtain ⟨v, k1, k2, k3⟩ := work_lp hF h3 C b [] w h1 h2 rfl Fr.rf trivial (by simp) h4
  have hl := (evS_h (F := F) (s := []) (st := []) rfl h4).1
  refine ⟨v, ?_, k2⟩
  unfold X12_work
  rw [show ((0 : Int32), nI b, w) = (nI ([] : List Int64).length, nI b, w) from rfl, k1]
  simp only [Option.bind_some]
  unfold vS
  match evS F C [], k3, hl with
  | [a], k3, hl =>
    have e := k3.1
    rw [show (0 : Int32) = nI 0 from rfl, gdn (by omega) (by omega), ixn (by omega)]
    rw [show v.2 160 0 = a from e]; rfl
