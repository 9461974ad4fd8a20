section
variable {c : Nat → Nat} {n : Nat}
theorem next_e (hn : n ≤ 600) {w : Wd} (hb : MB c n w) {p : Nat} (hp : p ≤ n) (h6 : w.1 97 37 = nI p) : ok (X12_next w) (fun e => Fr [] [(97, 35), (97, 36), (97, 37), (97, 38)] w e ∧ MT c n p e) := by
  rw [next_T hn hb hp h6]
  obtain ⟨x1, x2, x3, x4⟩ := ext_s (P := fun i => isSpc (c i)) hp
  have htf : tf c n p = ext (fun i => isSpc (c i)) n p := rfl
  rw [← htf] at x1 x2 x3 x4
  have hF : Fr [] [(97, 35), (97, 36), (97, 37), (97, 38)] w (puI (puI w 97 37 (nI (tf c n p))) 97 36 (nI (tf c n p))) := Fr.pfI (Fr.pfI Fr.rf (by decide)) (by decide)
  have g7 : (puI (puI w 97 37 (nI (tf c n p))) 97 36 (nI (tf c n p))).1 97 37 = nI (tf c n p) := by simp (disch := omega) only [gdn, gb0, gb1, ixn, nm1, nI_add, nI_mul, nsub, nI_ltI, nI_leI, nI_eq, eqNO, eqNO2, ltNO, NOlt, leNO, NOle, if_pos, if_neg, Option.bind_some, if_true, if_false, and_self, eq_self, l0, l1, l2, l3, l4, l5, l6, l7, l8, l9, l10, l11, l12, l13, l14, l15, l16, l17, l18, l19, l20, l24, l26, l30, l31, l32, l40, l41, l42, l43, l45, l47, l48, l57, l58, l59, l60, l61, l62, l63, l64, l97, l99, l100, l101, l102, l103, l104, l105, l106, l107, l108, l109, l110, l122, l160, l240, l255, l600, l1000, l3000, l10000, l10007, l10116, l67108863, l67108864, I_oth, I_J, J_oth, J_I, I_row, J_row, SI_row, SI_oth, SI_J, SJ_row, SJ_oth, SJ_I, upd_s, upd_n, updL_s, updL_n, ne_eq, not_false_eq_true]
  have g6 : (puI (puI w 97 37 (nI (tf c n p))) 97 36 (nI (tf c n p))).1 97 36 = nI (tf c n p) := I_self
  unfold nxT
  simp only [Option.bind_some]
  rw [show (puI w 97 37 (nI (tf c n p))).1 97 37 = nI (tf c n p) from I_self]
  generalize puI (puI w 97 37 (nI (tf c n p))) 97 36 (nI (tf c n p)) = u at hF g6 g7
  have hbu : MB c n u := hb.nx hF
  rw [g7, at_e hn hbu (by omega)]
  simp only [Option.bind_some]
  by_cases q0 : n ≤ tf c n p
  · have htk : tk c n p = 1 := by unfold tk; rw [if_pos q0]
    have hte : te c n p = tf c n p := by unfold te; rw [if_pos q0]; omega
    rw [if_neg (show ¬ tf c n p < n by omega), if_pos (show NO = (-1 : Int32) from rfl)]
    refine ok_i ⟨Fr.pfI (Fr.pfI hF (by decide)) (by decide), ?_, ?_, ?_, fun y => by omega, fun y => by omega⟩
    · rw [htk]; exact I_self
    · simp (disch := omega) only [gdn, gb0, gb1, ixn, nm1, nI_add, nI_mul, nsub, nI_ltI, nI_leI, nI_eq, eqNO, eqNO2, ltNO, NOlt, leNO, NOle, if_pos, if_neg, Option.bind_some, if_true, if_false, and_self, eq_self, l0, l1, l2, l3, l4, l5, l6, l7, l8, l9, l10, l11, l12, l13, l14, l15, l16, l17, l18, l19, l20, l24, l26, l30, l31, l32, l40, l41, l42, l43, l45, l47, l48, l57, l58, l59, l60, l61, l62, l63, l64, l97, l99, l100, l101, l102, l103, l104, l105, l106, l107, l108, l109, l110, l122, l160, l240, l255, l600, l1000, l3000, l10000, l10007, l10116, l67108863, l67108864, I_oth, I_J, J_oth, J_I, I_row, J_row, SI_row, SI_oth, SI_J, SJ_row, SJ_oth, SJ_I, upd_s, upd_n, updL_s, updL_n, ne_eq, not_false_eq_true, g6]
    · rw [hte]; simp (disch := omega) only [gdn, gb0, gb1, ixn, nm1, nI_add, nI_mul, nsub, nI_ltI, nI_leI, nI_eq, eqNO, eqNO2, ltNO, NOlt, leNO, NOle, if_pos, if_neg, Option.bind_some, if_true, if_false, and_self, eq_self, l0, l1, l2, l3, l4, l5, l6, l7, l8, l9, l10, l11, l12, l13, l14, l15, l16, l17, l18, l19, l20, l24, l26, l30, l31, l32, l40, l41, l42, l43, l45, l47, l48, l57, l58, l59, l60, l61, l62, l63, l64, l97, l99, l100, l101, l102, l103, l104, l105, l106, l107, l108, l109, l110, l122, l160, l240, l255, l600, l1000, l3000, l10000, l10007, l10116, l67108863, l67108864, I_oth, I_J, J_oth, J_I, I_row, J_row, SI_row, SI_oth, SI_J, SJ_row, SJ_oth, SJ_I, upd_s, upd_n, updL_s, updL_n, ne_eq, not_false_eq_true, g7]
  · obtain ⟨-, hbq⟩ := hb.2 (tf c n p) (by omega)
    rw [if_pos (show tf c n p < n by omega), if_neg (by rw [show (-1 : Int32) = NO from rfl, eqNO (by omega)]; exact id)]
    have hF2 : Fr [] [(97, 35), (97, 36), (97, 37), (97, 38)] w (puI u 97 38 (nI (c (tf c n p)))) := Fr.pfI hF (by decide)
    have k7 : (puI u 97 38 (nI (c (tf c n p)))).1 97 37 = nI (tf c n p) := by simp (disch := omega) only [gdn, gb0, gb1, ixn, nm1, nI_add, nI_mul, nsub, nI_ltI, nI_leI, nI_eq, eqNO, eqNO2, ltNO, NOlt, leNO, NOle, if_pos, if_neg, Option.bind_some, if_true, if_false, and_self, eq_self, l0, l1, l2, l3, l4, l5, l6, l7, l8, l9, l10, l11, l12, l13, l14, l15, l16, l17, l18, l19, l20, l24, l26, l30, l31, l32, l40, l41, l42, l43, l45, l47, l48, l57, l58, l59, l60, l61, l62, l63, l64, l97, l99, l100, l101, l102, l103, l104, l105, l106, l107, l108, l109, l110, l122, l160, l240, l255, l600, l1000, l3000, l10000, l10007, l10116, l67108863, l67108864, I_oth, I_J, J_oth, J_I, I_row, J_row, SI_row, SI_oth, SI_J, SJ_row, SJ_oth, SJ_I, upd_s, upd_n, updL_s, updL_n, ne_eq, not_false_eq_true, g7]
    have k6 : (puI u 97 38 (nI (c (tf c n p)))).1 97 36 = nI (tf c n p) := by simp (disch := omega) only [gdn, gb0, gb1, ixn, nm1, nI_add, nI_mul, nsub, nI_ltI, nI_leI, nI_eq, eqNO, eqNO2, ltNO, NOlt, leNO, NOle, if_pos, if_neg, Option.bind_some, if_true, if_false, and_self, eq_self, l0, l1, l2, l3, l4, l5, l6, l7, l8, l9, l10, l11, l12, l13, l14, l15, l16, l17, l18, l19, l20, l24, l26, l30, l31, l32, l40, l41, l42, l43, l45, l47, l48, l57, l58, l59, l60, l61, l62, l63, l64, l97, l99, l100, l101, l102, l103, l104, l105, l106, l107, l108, l109, l110, l122, l160, l240, l255, l600, l1000, l3000, l10000, l10007, l10116, l67108863, l67108864, I_oth, I_J, J_oth, J_I, I_row, J_row, SI_row, SI_oth, SI_J, SJ_row, SJ_oth, SJ_I, upd_s, upd_n, updL_s, updL_n, ne_eq, not_false_eq_true, g6]
    have k8 : (puI u 97 38 (nI (c (tf c n p)))).1 97 38 = nI (c (tf c n p)) := I_self
    generalize puI u 97 38 (nI (c (tf c n p))) = u2 at hF2 k6 k7 k8
    have hbu2 : MB c n u2 := hb.nx hF2
    by_cases ql : isLet (c (tf c n p)) = true
    · have hte : te c n p = we c n p := by unfold te; rw [if_neg q0, if_pos ql]
      have htk : mkd (tk c n p) = 2 ∧ ¬ tk c n p = 2 ∧ (tk c n p ≤ 4 ∨ 100 ≤ tk c n p) := by
        have : tk c n p = 4 ∨ tk c n p = 3 ∨ 100 ≤ tk c n p := by
          unfold tk
          rw [if_neg q0, if_pos ql]
          split
          · omega
          · split <;> omega
        refine ⟨?_, by omega, by omega⟩
        unfold mkd
        rw [if_neg (by omega), if_neg (by omega), if_neg (by omega), if_pos (by omega)]
      rw [small_e hbq, if_pos ql, if_neg (by decide), mwl_e hn hbu2 (tf c n p) (by omega) k7]
      refine ok_i ⟨Fr.pfI (Fr.pfI hF2 (by decide)) (by decide), ?_, ?_, ?_, fun y => by omega, fun y => by omega⟩
      · rw [htk.1]; exact I_self
      · simp (disch := omega) only [gdn, gb0, gb1, ixn, nm1, nI_add, nI_mul, nsub, nI_ltI, nI_leI, nI_eq, eqNO, eqNO2, ltNO, NOlt, leNO, NOle, if_pos, if_neg, Option.bind_some, if_true, if_false, and_self, eq_self, l0, l1, l2, l3, l4, l5, l6, l7, l8, l9, l10, l11, l12, l13, l14, l15, l16, l17, l18, l19, l20, l24, l26, l30, l31, l32, l40, l41, l42, l43, l45, l47, l48, l57, l58, l59, l60, l61, l62, l63, l64, l97, l99, l100, l101, l102, l103, l104, l105, l106, l107, l108, l109, l110, l122, l160, l240, l255, l600, l1000, l3000, l10000, l10007, l10116, l67108863, l67108864, I_oth, I_J, J_oth, J_I, I_row, J_row, SI_row, SI_oth, SI_J, SJ_row, SJ_oth, SJ_I, upd_s, upd_n, updL_s, updL_n, ne_eq, not_false_eq_true, k6]
      · rw [hte]; simp (disch := omega) only [gdn, gb0, gb1, ixn, nm1, nI_add, nI_mul, nsub, nI_ltI, nI_leI, nI_eq, eqNO, eqNO2, ltNO, NOlt, leNO, NOle, if_pos, if_neg, Option.bind_some, if_true, if_false, and_self, eq_self, l0, l1, l2, l3, l4, l5, l6, l7, l8, l9, l10, l11, l12, l13, l14, l15, l16, l17, l18, l19, l20, l24, l26, l30, l31, l32, l40, l41, l42, l43, l45, l47, l48, l57, l58, l59, l60, l61, l62, l63, l64, l97, l99, l100, l101, l102, l103, l104, l105, l106, l107, l108, l109, l110, l122, l160, l240, l255, l600, l1000, l3000, l10000, l10007, l10116, l67108863, l67108864, I_oth, I_J, J_oth, J_I, I_row, J_row, SI_row, SI_oth, SI_J, SJ_row, SJ_oth, SJ_I, upd_s, upd_n, updL_s, updL_n, ne_eq, not_false_eq_true]; rfl
    · rw [small_e hbq, if_neg ql, if_pos (show nI 0 = (0 : Int32) from rfl)]
      by_cases qd : isDig (c (tf c n p)) = true
      · have hte : te c n p = de c n p := by unfold te; rw [if_neg q0, if_neg ql, if_pos qd]
        rw [mdig_e hbq, if_pos qd, if_neg (by decide)]
        obtain ⟨e, he, f1, f2, f3⟩ := mnl_e hn (w := puI u2 97 38 (nI 0)) (hbu2.fr (by simp (disch := omega) only [gdn, gb0, gb1, ixn, nm1, nI_add, nI_mul, nsub, nI_ltI, nI_leI, nI_eq, eqNO, eqNO2, ltNO, NOlt, leNO, NOle, if_pos, if_neg, Option.bind_some, if_true, if_false, and_self, eq_self, l0, l1, l2, l3, l4, l5, l6, l7, l8, l9, l10, l11, l12, l13, l14, l15, l16, l17, l18, l19, l20, l24, l26, l30, l31, l32, l40, l41, l42, l43, l45, l47, l48, l57, l58, l59, l60, l61, l62, l63, l64, l97, l99, l100, l101, l102, l103, l104, l105, l106, l107, l108, l109, l110, l122, l160, l240, l255, l600, l1000, l3000, l10000, l10007, l10116, l67108863, l67108864, I_oth, I_J, J_oth, J_I, I_row, J_row, SI_row, SI_oth, SI_J, SJ_row, SJ_oth, SJ_I, upd_s, upd_n, updL_s, updL_n, ne_eq, not_false_eq_true]) (by simp (disch := omega) only [gdn, gb0, gb1, ixn, nm1, nI_add, nI_mul, nsub, nI_ltI, nI_leI, nI_eq, eqNO, eqNO2, ltNO, NOlt, leNO, NOle, if_pos, if_neg, Option.bind_some, if_true, if_false, and_self, eq_self, l0, l1, l2, l3, l4, l5, l6, l7, l8, l9, l10, l11, l12, l13, l14, l15, l16, l17, l18, l19, l20, l24, l26, l30, l31, l32, l40, l41, l42, l43, l45, l47, l48, l57, l58, l59, l60, l61, l62, l63, l64, l97, l99, l100, l101, l102, l103, l104, l105, l106, l107, l108, l109, l110, l122, l160, l240, l255, l600, l1000, l3000, l10000, l10007, l10116, l67108863, l67108864, I_oth, I_J, J_oth, J_I, I_row, J_row, SI_row, SI_oth, SI_J, SJ_row, SJ_oth, SJ_I, upd_s, upd_n, updL_s, updL_n, ne_eq, not_false_eq_true])) (q := tf c n p) (by omega) (by simp (disch := omega) only [gdn, gb0, gb1, ixn, nm1, nI_add, nI_mul, nsub, nI_ltI, nI_leI, nI_eq, eqNO, eqNO2, ltNO, NOlt, leNO, NOle, if_pos, if_neg, Option.bind_some, if_true, if_false, and_self, eq_self, l0, l1, l2, l3, l4, l5, l6, l7, l8, l9, l10, l11, l12, l13, l14, l15, l16, l17, l18, l19, l20, l24, l26, l30, l31, l32, l40, l41, l42, l43, l45, l47, l48, l57, l58, l59, l60, l61, l62, l63, l64, l97, l99, l100, l101, l102, l103, l104, l105, l106, l107, l108, l109, l110, l122, l160, l240, l255, l600, l1000, l3000, l10000, l10007, l10116, l67108863, l67108864, I_oth, I_J, J_oth, J_I, I_row, J_row, SI_row, SI_oth, SI_J, SJ_row, SJ_oth, SJ_I, upd_s, upd_n, updL_s, updL_n, ne_eq, not_false_eq_true, k7]) I_self
        have hde : de c n p = ext (fun i => isDig (c i)) n (tf c n p) := rfl
        obtain ⟨y1, y2, -, -⟩ := ext_s (P := fun i => isDig (c i)) (n := n) (p := tf c n p) (by omega)
        rw [← hde] at f2 f3 y1 y2
        have hF3 : Fr [] [(97, 35), (97, 36), (97, 37), (97, 38)] w e := (Fr.pfI hF2 (by decide) : Fr _ _ w (puI u2 97 38 (nI 0))).next f1 (fun _ z => z) (by decide)
        have m6 : e.1 97 36 = nI (tf c n p) := by
          rw [(f1 97 (by decide) 36 (by decide)).1]; simp (disch := omega) only [gdn, gb0, gb1, ixn, nm1, nI_add, nI_mul, nsub, nI_ltI, nI_leI, nI_eq, eqNO, eqNO2, ltNO, NOlt, leNO, NOle, if_pos, if_neg, Option.bind_some, if_true, if_false, and_self, eq_self, l0, l1, l2, l3, l4, l5, l6, l7, l8, l9, l10, l11, l12, l13, l14, l15, l16, l17, l18, l19, l20, l24, l26, l30, l31, l32, l40, l41, l42, l43, l45, l47, l48, l57, l58, l59, l60, l61, l62, l63, l64, l97, l99, l100, l101, l102, l103, l104, l105, l106, l107, l108, l109, l110, l122, l160, l240, l255, l600, l1000, l3000, l10000, l10007, l10116, l67108863, l67108864, I_oth, I_J, J_oth, J_I, I_row, J_row, SI_row, SI_oth, SI_J, SJ_row, SJ_oth, SJ_I, upd_s, upd_n, updL_s, updL_n, ne_eq, not_false_eq_true, k6]
        rw [show (puI u2 97 38 (0 : Int32)) = puI u2 97 38 (nI 0) from rfl, he]
        simp only [Option.bind_some]
        rw [f2, m6, nsub (by omega), show (4 : Int32) = nI 4 from rfl]
        unfold X12_next_j203
        by_cases q4 : de c n p - tf c n p ≤ 4
        · have htk : tk c n p = 2 := by unfold tk; rw [if_neg q0, if_neg ql, if_pos qd, if_neg (by omega)]
          rw [if_pos (by rw [nI_leI (by omega) (by omega)]; exact q4)]
          refine ok_i ⟨Fr.pfI hF3 (by decide), ?_, ?_, ?_, fun y => ?_, fun y => by omega⟩
          · rw [htk]; exact I_self
          · simp (disch := omega) only [gdn, gb0, gb1, ixn, nm1, nI_add, nI_mul, nsub, nI_ltI, nI_leI, nI_eq, eqNO, eqNO2, ltNO, NOlt, leNO, NOle, if_pos, if_neg, Option.bind_some, if_true, if_false, and_self, eq_self, l0, l1, l2, l3, l4, l5, l6, l7, l8, l9, l10, l11, l12, l13, l14, l15, l16, l17, l18, l19, l20, l24, l26, l30, l31, l32, l40, l41, l42, l43, l45, l47, l48, l57, l58, l59, l60, l61, l62, l63, l64, l97, l99, l100, l101, l102, l103, l104, l105, l106, l107, l108, l109, l110, l122, l160, l240, l255, l600, l1000, l3000, l10000, l10007, l10116, l67108863, l67108864, I_oth, I_J, J_oth, J_I, I_row, J_row, SI_row, SI_oth, SI_J, SJ_row, SJ_oth, SJ_I, upd_s, upd_n, updL_s, updL_n, ne_eq, not_false_eq_true, m6]
          · rw [hte]; simp (disch := omega) only [gdn, gb0, gb1, ixn, nm1, nI_add, nI_mul, nsub, nI_ltI, nI_leI, nI_eq, eqNO, eqNO2, ltNO, NOlt, leNO, NOle, if_pos, if_neg, Option.bind_some, if_true, if_false, and_self, eq_self, l0, l1, l2, l3, l4, l5, l6, l7, l8, l9, l10, l11, l12, l13, l14, l15, l16, l17, l18, l19, l20, l24, l26, l30, l31, l32, l40, l41, l42, l43, l45, l47, l48, l57, l58, l59, l60, l61, l62, l63, l64, l97, l99, l100, l101, l102, l103, l104, l105, l106, l107, l108, l109, l110, l122, l160, l240, l255, l600, l1000, l3000, l10000, l10007, l10116, l67108863, l67108864, I_oth, I_J, J_oth, J_I, I_row, J_row, SI_row, SI_oth, SI_J, SJ_row, SJ_oth, SJ_I, upd_s, upd_n, updL_s, updL_n, ne_eq, not_false_eq_true, f2]
          · simp (disch := omega) only [gdn, gb0, gb1, ixn, nm1, nI_add, nI_mul, nsub, nI_ltI, nI_leI, nI_eq, eqNO, eqNO2, ltNO, NOlt, leNO, NOle, if_pos, if_neg, Option.bind_some, if_true, if_false, and_self, eq_self, l0, l1, l2, l3, l4, l5, l6, l7, l8, l9, l10, l11, l12, l13, l14, l15, l16, l17, l18, l19, l20, l24, l26, l30, l31, l32, l40, l41, l42, l43, l45, l47, l48, l57, l58, l59, l60, l61, l62, l63, l64, l97, l99, l100, l101, l102, l103, l104, l105, l106, l107, l108, l109, l110, l122, l160, l240, l255, l600, l1000, l3000, l10000, l10007, l10116, l67108863, l67108864, I_oth, I_J, J_oth, J_I, I_row, J_row, SI_row, SI_oth, SI_J, SJ_row, SJ_oth, SJ_I, upd_s, upd_n, updL_s, updL_n, ne_eq, not_false_eq_true, f3 q4]
            rfl
        · have htk : tk c n p = 0 := by unfold tk; rw [if_neg q0, if_neg ql, if_pos qd, if_pos (by omega)]
          rw [if_neg (by rw [nI_leI (by omega) (by omega)]; exact q4)]
          refine ok_i ⟨Fr.pfI hF3 (by decide), ?_, ?_, ?_, fun y => by omega, fun y => by omega⟩
          · rw [htk]; exact I_self
          · simp (disch := omega) only [gdn, gb0, gb1, ixn, nm1, nI_add, nI_mul, nsub, nI_ltI, nI_leI, nI_eq, eqNO, eqNO2, ltNO, NOlt, leNO, NOle, if_pos, if_neg, Option.bind_some, if_true, if_false, and_self, eq_self, l0, l1, l2, l3, l4, l5, l6, l7, l8, l9, l10, l11, l12, l13, l14, l15, l16, l17, l18, l19, l20, l24, l26, l30, l31, l32, l40, l41, l42, l43, l45, l47, l48, l57, l58, l59, l60, l61, l62, l63, l64, l97, l99, l100, l101, l102, l103, l104, l105, l106, l107, l108, l109, l110, l122, l160, l240, l255, l600, l1000, l3000, l10000, l10007, l10116, l67108863, l67108864, I_oth, I_J, J_oth, J_I, I_row, J_row, SI_row, SI_oth, SI_J, SJ_row, SJ_oth, SJ_I, upd_s, upd_n, updL_s, updL_n, ne_eq, not_false_eq_true, m6]
          · rw [hte]; simp (disch := omega) only [gdn, gb0, gb1, ixn, nm1, nI_add, nI_mul, nsub, nI_ltI, nI_leI, nI_eq, eqNO, eqNO2, ltNO, NOlt, leNO, NOle, if_pos, if_neg, Option.bind_some, if_true, if_false, and_self, eq_self, l0, l1, l2, l3, l4, l5, l6, l7, l8, l9, l10, l11, l12, l13, l14, l15, l16, l17, l18, l19, l20, l24, l26, l30, l31, l32, l40, l41, l42, l43, l45, l47, l48, l57, l58, l59, l60, l61, l62, l63, l64, l97, l99, l100, l101, l102, l103, l104, l105, l106, l107, l108, l109, l110, l122, l160, l240, l255, l600, l1000, l3000, l10000, l10007, l10116, l67108863, l67108864, I_oth, I_J, J_oth, J_I, I_row, J_row, SI_row, SI_oth, SI_J, SJ_row, SJ_oth, SJ_I, upd_s, upd_n, updL_s, updL_n, ne_eq, not_false_eq_true, f2]
      · have hte : te c n p = tf c n p + 1 := by unfold te; rw [if_neg q0, if_neg ql, if_neg qd]
        rw [mdig_e hbq, if_neg qd, if_pos (show nI 0 = (0 : Int32) from rfl)]
        rw [k7]
        have hF3 : Fr [] [(97, 35), (97, 36), (97, 37), (97, 38)] w (puI u2 97 37 (nI (tf c n p) + 1)) := Fr.pfI hF2 (by decide)
        have m7 : (puI u2 97 37 (nI (tf c n p) + 1)).1 97 37 = nI (tf c n p + 1) := by rw [I_self, show (1 : Int32) = nI 1 from rfl, nI_add]
        have m6 : (puI u2 97 37 (nI (tf c n p) + 1)).1 97 36 = nI (tf c n p) := by simp (disch := omega) only [gdn, gb0, gb1, ixn, nm1, nI_add, nI_mul, nsub, nI_ltI, nI_leI, nI_eq, eqNO, eqNO2, ltNO, NOlt, leNO, NOle, if_pos, if_neg, Option.bind_some, if_true, if_false, and_self, eq_self, l0, l1, l2, l3, l4, l5, l6, l7, l8, l9, l10, l11, l12, l13, l14, l15, l16, l17, l18, l19, l20, l24, l26, l30, l31, l32, l40, l41, l42, l43, l45, l47, l48, l57, l58, l59, l60, l61, l62, l63, l64, l97, l99, l100, l101, l102, l103, l104, l105, l106, l107, l108, l109, l110, l122, l160, l240, l255, l600, l1000, l3000, l10000, l10007, l10116, l67108863, l67108864, I_oth, I_J, J_oth, J_I, I_row, J_row, SI_row, SI_oth, SI_J, SJ_row, SJ_oth, SJ_I, upd_s, upd_n, updL_s, updL_n, ne_eq, not_false_eq_true, k6]
        have m8 : (puI u2 97 37 (nI (tf c n p) + 1)).1 97 38 = nI (c (tf c n p)) := by simp (disch := omega) only [gdn, gb0, gb1, ixn, nm1, nI_add, nI_mul, nsub, nI_ltI, nI_leI, nI_eq, eqNO, eqNO2, ltNO, NOlt, leNO, NOle, if_pos, if_neg, Option.bind_some, if_true, if_false, and_self, eq_self, l0, l1, l2, l3, l4, l5, l6, l7, l8, l9, l10, l11, l12, l13, l14, l15, l16, l17, l18, l19, l20, l24, l26, l30, l31, l32, l40, l41, l42, l43, l45, l47, l48, l57, l58, l59, l60, l61, l62, l63, l64, l97, l99, l100, l101, l102, l103, l104, l105, l106, l107, l108, l109, l110, l122, l160, l240, l255, l600, l1000, l3000, l10000, l10007, l10116, l67108863, l67108864, I_oth, I_J, J_oth, J_I, I_row, J_row, SI_row, SI_oth, SI_J, SJ_row, SJ_oth, SJ_I, upd_s, upd_n, updL_s, updL_n, ne_eq, not_false_eq_true, k8]
        generalize puI u2 97 37 (nI (tf c n p) + 1) = u3 at hF3 m6 m7 m8
        by_cases qs : isSgn (c (tf c n p)) = true
        · have htk : tk c n p = c (tf c n p) := by unfold tk; rw [if_neg q0, if_neg ql, if_neg qd, if_pos qs]
          have hs := sgn_iff.mp qs
          have fin : ok (X12_next_j285 u3) (fun e => Fr [] [(97, 35), (97, 36), (97, 37), (97, 38)] w e ∧ MT c n p e) := by
            unfold X12_next_j285 X12_next_j290 X12_next_j301
            rw [if_neg (by decide)]
            refine ok_i ⟨Fr.pfI hF3 (by decide), ?_, ?_, ?_, fun y => by omega, fun _ _ => ?_⟩
            · have : mkd (tk c n p) = 4 := by
                unfold mkd
                rw [if_neg (by omega), if_neg (by omega), if_neg (by omega), if_neg (by omega)]
              rw [this]; exact I_self
            · simp (disch := omega) only [gdn, gb0, gb1, ixn, nm1, nI_add, nI_mul, nsub, nI_ltI, nI_leI, nI_eq, eqNO, eqNO2, ltNO, NOlt, leNO, NOle, if_pos, if_neg, Option.bind_some, if_true, if_false, and_self, eq_self, l0, l1, l2, l3, l4, l5, l6, l7, l8, l9, l10, l11, l12, l13, l14, l15, l16, l17, l18, l19, l20, l24, l26, l30, l31, l32, l40, l41, l42, l43, l45, l47, l48, l57, l58, l59, l60, l61, l62, l63, l64, l97, l99, l100, l101, l102, l103, l104, l105, l106, l107, l108, l109, l110, l122, l160, l240, l255, l600, l1000, l3000, l10000, l10007, l10116, l67108863, l67108864, I_oth, I_J, J_oth, J_I, I_row, J_row, SI_row, SI_oth, SI_J, SJ_row, SJ_oth, SJ_I, upd_s, upd_n, updL_s, updL_n, ne_eq, not_false_eq_true, m6]
            · rw [hte]; simp (disch := omega) only [gdn, gb0, gb1, ixn, nm1, nI_add, nI_mul, nsub, nI_ltI, nI_leI, nI_eq, eqNO, eqNO2, ltNO, NOlt, leNO, NOle, if_pos, if_neg, Option.bind_some, if_true, if_false, and_self, eq_self, l0, l1, l2, l3, l4, l5, l6, l7, l8, l9, l10, l11, l12, l13, l14, l15, l16, l17, l18, l19, l20, l24, l26, l30, l31, l32, l40, l41, l42, l43, l45, l47, l48, l57, l58, l59, l60, l61, l62, l63, l64, l97, l99, l100, l101, l102, l103, l104, l105, l106, l107, l108, l109, l110, l122, l160, l240, l255, l600, l1000, l3000, l10000, l10007, l10116, l67108863, l67108864, I_oth, I_J, J_oth, J_I, I_row, J_row, SI_row, SI_oth, SI_J, SJ_row, SJ_oth, SJ_I, upd_s, upd_n, updL_s, updL_n, ne_eq, not_false_eq_true, m7]
            · rw [htk]; simp (disch := omega) only [gdn, gb0, gb1, ixn, nm1, nI_add, nI_mul, nsub, nI_ltI, nI_leI, nI_eq, eqNO, eqNO2, ltNO, NOlt, leNO, NOle, if_pos, if_neg, Option.bind_some, if_true, if_false, and_self, eq_self, l0, l1, l2, l3, l4, l5, l6, l7, l8, l9, l10, l11, l12, l13, l14, l15, l16, l17, l18, l19, l20, l24, l26, l30, l31, l32, l40, l41, l42, l43, l45, l47, l48, l57, l58, l59, l60, l61, l62, l63, l64, l97, l99, l100, l101, l102, l103, l104, l105, l106, l107, l108, l109, l110, l122, l160, l240, l255, l600, l1000, l3000, l10000, l10007, l10116, l67108863, l67108864, I_oth, I_J, J_oth, J_I, I_row, J_row, SI_row, SI_oth, SI_J, SJ_row, SJ_oth, SJ_I, upd_s, upd_n, updL_s, updL_n, ne_eq, not_false_eq_true, m8]
          rcases hs with z | z | z | z | z | z | z | z | z | z | z <;> rw [z] <;> simp (disch := omega) only [gdn, gb0, gb1, ixn, nm1, nI_add, nI_mul, nsub, nI_ltI, nI_leI, nI_eq, eqNO, eqNO2, ltNO, NOlt, leNO, NOle, if_pos, if_neg, Option.bind_some, if_true, if_false, and_self, eq_self, l0, l1, l2, l3, l4, l5, l6, l7, l8, l9, l10, l11, l12, l13, l14, l15, l16, l17, l18, l19, l20, l24, l26, l30, l31, l32, l40, l41, l42, l43, l45, l47, l48, l57, l58, l59, l60, l61, l62, l63, l64, l97, l99, l100, l101, l102, l103, l104, l105, l106, l107, l108, l109, l110, l122, l160, l240, l255, l600, l1000, l3000, l10000, l10007, l10116, l67108863, l67108864] <;> exact fin
        · have htk : tk c n p = 0 := by unfold tk; rw [if_neg q0, if_neg ql, if_neg qd, if_neg qs]
          have hs : ¬ (c (tf c n p) = 59 ∨ c (tf c n p) = 58 ∨ c (tf c n p) = 60 ∨ c (tf c n p) = 62 ∨ c (tf c n p) = 61 ∨ c (tf c n p) = 43 ∨ c (tf c n p) = 45 ∨ c (tf c n p) = 42 ∨ c (tf c n p) = 47 ∨ c (tf c n p) = 40 ∨ c (tf c n p) = 41) := fun z => qs (sgn_iff.mpr z)
          simp (disch := omega) only [gdn, gb0, gb1, ixn, nm1, nI_add, nI_mul, nsub, nI_ltI, nI_leI, nI_eq, eqNO, eqNO2, ltNO, NOlt, leNO, NOle, if_pos, if_neg, Option.bind_some, if_true, if_false, and_self, eq_self, l0, l1, l2, l3, l4, l5, l6, l7, l8, l9, l10, l11, l12, l13, l14, l15, l16, l17, l18, l19, l20, l24, l26, l30, l31, l32, l40, l41, l42, l43, l45, l47, l48, l57, l58, l59, l60, l61, l62, l63, l64, l97, l99, l100, l101, l102, l103, l104, l105, l106, l107, l108, l109, l110, l122, l160, l240, l255, l600, l1000, l3000, l10000, l10007, l10116, l67108863, l67108864]
          unfold X12_next_j290 X12_next_j301
          rw [if_pos (show nI 0 = (0 : Int32) from rfl)]
          refine ok_i ⟨Fr.pfI hF3 (by decide), ?_, ?_, ?_, fun y => by omega, fun y => by omega⟩
          · rw [htk]; exact I_self
          · simp (disch := omega) only [gdn, gb0, gb1, ixn, nm1, nI_add, nI_mul, nsub, nI_ltI, nI_leI, nI_eq, eqNO, eqNO2, ltNO, NOlt, leNO, NOle, if_pos, if_neg, Option.bind_some, if_true, if_false, and_self, eq_self, l0, l1, l2, l3, l4, l5, l6, l7, l8, l9, l10, l11, l12, l13, l14, l15, l16, l17, l18, l19, l20, l24, l26, l30, l31, l32, l40, l41, l42, l43, l45, l47, l48, l57, l58, l59, l60, l61, l62, l63, l64, l97, l99, l100, l101, l102, l103, l104, l105, l106, l107, l108, l109, l110, l122, l160, l240, l255, l600, l1000, l3000, l10000, l10007, l10116, l67108863, l67108864, I_oth, I_J, J_oth, J_I, I_row, J_row, SI_row, SI_oth, SI_J, SJ_row, SJ_oth, SJ_I, upd_s, upd_n, updL_s, updL_n, ne_eq, not_false_eq_true, m6]
          · rw [hte]; simp (disch := omega) only [gdn, gb0, gb1, ixn, nm1, nI_add, nI_mul, nsub, nI_ltI, nI_leI, nI_eq, eqNO, eqNO2, ltNO, NOlt, leNO, NOle, if_pos, if_neg, Option.bind_some, if_true, if_false, and_self, eq_self, l0, l1, l2, l3, l4, l5, l6, l7, l8, l9, l10, l11, l12, l13, l14, l15, l16, l17, l18, l19, l20, l24, l26, l30, l31, l32, l40, l41, l42, l43, l45, l47, l48, l57, l58, l59, l60, l61, l62, l63, l64, l97, l99, l100, l101, l102, l103, l104, l105, l106, l107, l108, l109, l110, l122, l160, l240, l255, l600, l1000, l3000, l10000, l10007, l10116, l67108863, l67108864, I_oth, I_J, J_oth, J_I, I_row, J_row, SI_row, SI_oth, SI_J, SJ_row, SJ_oth, SJ_I, upd_s, upd_n, updL_s, updL_n, ne_eq, not_false_eq_true, m7]
theorem te_s {p : Nat} (hp : p ≤ n) : p ≤ tf c n p ∧ tf c n p ≤ te c n p ∧ te c n p ≤ n ∧ (¬ tk c n p = 1 → tf c n p < te c n p) := by
  obtain ⟨x1, x2, -, -⟩ := ext_s (P := fun i => isSpc (c i)) hp
  have htf : tf c n p = ext (fun i => isSpc (c i)) n p := rfl
  rw [← htf] at x1 x2
  unfold te tk
  by_cases q0 : n ≤ tf c n p
  · rw [if_pos q0, if_pos q0]; exact ⟨x1, x2, Nat.le_refl _, fun z => (z rfl).elim⟩
  · rw [if_neg q0, if_neg q0]
    by_cases ql : isLet (c (tf c n p)) = true
    · rw [if_pos ql]
      obtain ⟨y1, y2, y3, y4⟩ := ext_s (P := fun i => isLet (c i)) (n := n) (p := tf c n p) x2
      have hwe : we c n p = ext (fun i => isLet (c i)) n (tf c n p) := rfl
      rw [← hwe] at y1 y2 y3 y4
      refine ⟨x1, y1, y2, fun _ => ?_⟩
      by_cases z : tf c n p = we c n p
      · rw [← z] at y4
        rcases y4 with y4 | y4
        · omega
        · exact (y4 ql).elim
      · omega
    · rw [if_neg ql]
      by_cases qd : isDig (c (tf c n p)) = true
      · rw [if_pos qd]
        obtain ⟨y1, y2, y3, y4⟩ := ext_s (P := fun i => isDig (c i)) (n := n) (p := tf c n p) x2
        have hwe : de c n p = ext (fun i => isDig (c i)) n (tf c n p) := rfl
        rw [← hwe] at y1 y2 y3 y4
        refine ⟨x1, y1, y2, fun _ => ?_⟩
        by_cases z : tf c n p = de c n p
        · rw [← z] at y4
          rcases y4 with y4 | y4
          · omega
          · exact (y4 qd).elim
        · omega
      · rw [if_neg qd]; exact ⟨x1, by omega, by omega, fun _ => by omega⟩
end
