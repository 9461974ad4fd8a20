theorem str1 : strB.getD 1 [] = [nI 59, nI 58, nI 60, nI 62, nI 61, nI 43, nI 45, nI 42, nI 47, nI 40, nI 41] := by decide
theorem str1n : strN.getD 1 0 = 11 := by decide
def str2L : List Nat := [32,115,116,114,105,107,101,115,32,109,97,121,32,104,111,117,114,115,32,114,111,111,109,32,112,97,115,115,32,102,108,97,103,32,117,110,108,101,115,115,32,111,114,32,97,110,100,32,110,111,116,32]
def str3L : List Nat := [32,97,103,101,32,116,111,110,103,117,101,32,109,97,110,121,32,119,101,101,107,32,100,111,110,101,32,114,97,105,110,32,115,104,105,114,101,32]
theorem str2 : strB.getD 2 [] = str2L.map nI := by decide
theorem str3 : strB.getD 3 [] = str3L.map nI := by decide
theorem str2n : strN.getD 2 0 = 52 := by decide
theorem str3n : strN.getD 3 0 = 38 := by decide
theorem chr_n {k : Nat} (h : k < 128) : (Int32.toUInt32 (nI k) % 65536).toInt32 = nI k := by
  have : ∀ k : Fin 128, (Int32.toUInt32 (nI k.1) % 65536).toInt32 = nI k.1 := by decide
  exact this ⟨k, h⟩
def SG : List Nat := [59, 58, 60, 62, 61, 43, 45, 42, 47, 40, 41]
theorem sg_at {i : Nat} (h : i < 11) : (strB.getD 1 []).getD i (nI 0) = nI (SG.getD i 0) := by
  rw [str1]
  have : ∀ i : Fin 11, ([nI 59, nI 58, nI 60, nI 62, nI 61, nI 43, nI 45, nI 42, nI 47, nI 40, nI 41] : List Int32).getD i.1 (nI 0) = nI (SG.getD i.1 0) := by decide
  exact this ⟨i, h⟩
theorem sg_lt {i : Nat} (h : i < 11) : SG.getD i 0 < 128 := by
  have : ∀ i : Fin 11, SG.getD i.1 0 < 128 := by decide
  exact this ⟨i, h⟩
theorem ixOf_e {k : Nat} (h : k < 128) (w : Wd) : ok (J0_indexOf_0f7a4 1 (Int32.toUInt32 (nI k) % 65536).toInt32 w) (fun r => (isSgn k = true → ¬ r < 0) ∧ (¬ isSgn k = true → r < 0)) := by
  rw [chr_n h]
  unfold J0_indexOf_0f7a4 J0_indexOf_7cf53
  rw [show J0_isLatin1_aae02 1 w = 1 from rfl, if_neg (by decide)]
  have hlen : J0_length_8abf5 1 w = nI 11 := by
    unfold J0_length_8abf5 J0_length_8abf5O
    rw [str1n, show J0_coder_7d493 1 w = 0 from rfl]
    decide
  rw [hlen]
  unfold J1_indexOf_4cfef
  rw [str1n]
  have hce : J1_canEncode_9a6ad (nI k) w = 1 := by
    unfold J1_canEncode_9a6ad J1_canEncode_9a6adO
    rw [show (255 : Int32) = nI 255 from rfl, show (0 : Int32) = nI 0 from rfl, if_neg (by rw [nI_ltI (by omega) (by omega)]; omega), if_neg (by rw [nI_ltI (by omega) (by omega)]; omega)]
    rfl
  rw [hce, if_neg (by decide)]
  simp only [Option.bind_some]
  rw [show mnI (nI 11) (Int32.ofNat 11) = nI 11 by decide, show mxI (0 : Int32) (0 : Int32) = nI 0 by decide, if_pos (by decide)]
  unfold J1_indexOfChar_4cfef
  have hb : (Int32.toInt8 (nI k)).toInt32 = nI k := byte_n h
  simp only [Option.bind_some]
  rw [hb]
  have key : ok (lp (J1_indexOfChar_4cfef_b7 1 (nI 11) (nI k) w) (nI 0)) (fun e => (∃ i, i < 11 ∧ SG.getD i 0 = k ∧ e = .inl (nI i)) ∨ ((∀ i, i < 11 → ¬ SG.getD i 0 = k) ∧ e = .inr ())) := by
    refine lp_up (fun j s => s = nI j ∧ ∀ i, i < j → ¬ SG.getD i 0 = k) 11 ?_ ?_ 0 _ (Nat.zero_le _) ⟨rfl, fun i hi => by omega⟩
    · rintro j s hj ⟨rfl, h1⟩
      have b1 := sg_lt hj
      unfold J1_indexOfChar_4cfef_b7
      rw [str1n]
      by_cases q : SG.getD j 0 = k
      · simp (disch := omega) only [gdn, gb0, gb1, ixn, nm1, nI_add, nI_mul, nsub, nI_ltI, nI_leI, nI_eq, eqNO, eqNO2, ltNO, NOlt, leNO, NOle, if_pos, if_neg, Option.bind_some, if_true, if_false, and_self, eq_self, l0, l1, l2, l3, l4, l5, l6, l7, l8, l9, l10, l11, l12, l13, l14, l15, l16, l17, l18, l19, l20, l24, l26, l30, l31, l32, l40, l41, l42, l43, l45, l47, l48, l57, l58, l59, l60, l61, l62, l63, l64, l97, l99, l100, l101, l102, l103, l104, l105, l106, l107, l108, l109, l110, l122, l160, l240, l255, l600, l1000, l3000, l10000, l10007, l10116, l67108863, l67108864, sg_at hj, q]
        exact ok_i (Or.inl ⟨j, hj, q, rfl⟩)
      · simp (disch := omega) only [gdn, gb0, gb1, ixn, nm1, nI_add, nI_mul, nsub, nI_ltI, nI_leI, nI_eq, eqNO, eqNO2, ltNO, NOlt, leNO, NOle, if_pos, if_neg, Option.bind_some, if_true, if_false, and_self, eq_self, l0, l1, l2, l3, l4, l5, l6, l7, l8, l9, l10, l11, l12, l13, l14, l15, l16, l17, l18, l19, l20, l24, l26, l30, l31, l32, l40, l41, l42, l43, l45, l47, l48, l57, l58, l59, l60, l61, l62, l63, l64, l97, l99, l100, l101, l102, l103, l104, l105, l106, l107, l108, l109, l110, l122, l160, l240, l255, l600, l1000, l3000, l10000, l10007, l10116, l67108863, l67108864, sg_at hj, q]
        refine ok_i ⟨rfl, fun i hi => ?_⟩
        by_cases z : i = j
        · rw [z]; exact q
        · exact h1 i (by omega)
    · rintro s ⟨rfl, h1⟩
      unfold J1_indexOfChar_4cfef_b7
      rw [str1n]
      simp (disch := omega) only [gdn, gb0, gb1, ixn, nm1, nI_add, nI_mul, nsub, nI_ltI, nI_leI, nI_eq, eqNO, eqNO2, ltNO, NOlt, leNO, NOle, if_pos, if_neg, Option.bind_some, if_true, if_false, and_self, eq_self, l0, l1, l2, l3, l4, l5, l6, l7, l8, l9, l10, l11, l12, l13, l14, l15, l16, l17, l18, l19, l20, l24, l26, l30, l31, l32, l40, l41, l42, l43, l45, l47, l48, l57, l58, l59, l60, l61, l62, l63, l64, l97, l99, l100, l101, l102, l103, l104, l105, l106, l107, l108, l109, l110, l122, l160, l240, l255, l600, l1000, l3000, l10000, l10007, l10116, l67108863, l67108864]
      exact ok_i (Or.inr ⟨h1, rfl⟩)
  obtain ⟨e, he, hq⟩ := key
  rw [he]
  rcases hq with ⟨i, hi, e1, rfl⟩ | ⟨h1, rfl⟩
  · refine ok_i ⟨fun _ => ?_, fun z => ?_⟩
    · show ¬ nI i < (0 : Int32)
      rw [show (0 : Int32) = nI 0 from rfl, nI_ltI (by omega) (by omega)]; omega
    · refine (z ?_).elim
      rw [← e1]
      unfold isSgn
      rw [List.contains_iff_mem]
      exact getD_mem (L := SG) hi
  · refine ok_i ⟨fun z => ?_, fun _ => by decide⟩
    exfalso
    unfold isSgn at z
    rw [List.contains_iff_mem] at z
    obtain ⟨i, hi, e⟩ := List.getElem_of_mem z
    refine h1 i hi ?_
    rw [List.getD_eq_getElem?_getD]
    show ([59, 58, 60, 62, 61, 43, 45, 42, 47, 40, 41] : List Nat)[i]?.getD 0 = k
    rw [List.getElem?_eq_getElem hi]
    exact e
section
variable {c : Nat → Nat} {n : Nat}
theorem scan_e (hn : n ≤ 600) {w : Wd} (hW : IW w) (hb : ∀ i, i < n → BY (w.1 66 i) (c i)) {p : Nat} (hp : p ≤ n) (h6 : w.1 65 6 = nI p) : ok (X6_scan (nI n) w) (fun e => Fr [] [(65, 6), (65, 7), (65, 8), (65, 9), (65, 10)] w e ∧ TC c n p e) := by
  rw [scan_T hn hb hp h6]
  obtain ⟨x1, x2, x3, x4⟩ := ext_s (P := fun i => isSpc (c i)) hp
  have htf : tf c n p = ext (fun i => isSpc (c i)) n p := rfl
  rw [← htf] at x1 x2 x3 x4
  have hF : Fr [] [(65, 6), (65, 7), (65, 8), (65, 9), (65, 10)] w (puI (puI w 65 6 (nI (tf c n p))) 65 8 (nI (tf c n p))) := Fr.pfI (Fr.pfI Fr.rf (by decide)) (by decide)
  have g6 : (puI (puI w 65 6 (nI (tf c n p))) 65 8 (nI (tf c n p))).1 65 6 = nI (tf c n p) := by simp (disch := omega) only [gdn, gb0, gb1, ixn, nm1, nI_add, nI_mul, nsub, nI_ltI, nI_leI, nI_eq, eqNO, eqNO2, ltNO, NOlt, leNO, NOle, if_pos, if_neg, Option.bind_some, if_true, if_false, and_self, eq_self, l0, l1, l2, l3, l4, l5, l6, l7, l8, l9, l10, l11, l12, l13, l14, l15, l16, l17, l18, l19, l20, l24, l26, l30, l31, l32, l40, l41, l42, l43, l45, l47, l48, l57, l58, l59, l60, l61, l62, l63, l64, l97, l99, l100, l101, l102, l103, l104, l105, l106, l107, l108, l109, l110, l122, l160, l240, l255, l600, l1000, l3000, l10000, l10007, l10116, l67108863, l67108864, I_oth, I_J, J_oth, J_I, I_row, J_row, SI_row, SI_oth, SI_J, SJ_row, SJ_oth, SJ_I, upd_s, upd_n, updL_s, updL_n, ne_eq, not_false_eq_true]
  have g8 : (puI (puI w 65 6 (nI (tf c n p))) 65 8 (nI (tf c n p))).1 65 8 = nI (tf c n p) := I_self
  have g66 : (puI (puI w 65 6 (nI (tf c n p))) 65 8 (nI (tf c n p))).1 66 = w.1 66 := by simp (disch := omega) only [gdn, gb0, gb1, ixn, nm1, nI_add, nI_mul, nsub, nI_ltI, nI_leI, nI_eq, eqNO, eqNO2, ltNO, NOlt, leNO, NOle, if_pos, if_neg, Option.bind_some, if_true, if_false, and_self, eq_self, l0, l1, l2, l3, l4, l5, l6, l7, l8, l9, l10, l11, l12, l13, l14, l15, l16, l17, l18, l19, l20, l24, l26, l30, l31, l32, l40, l41, l42, l43, l45, l47, l48, l57, l58, l59, l60, l61, l62, l63, l64, l97, l99, l100, l101, l102, l103, l104, l105, l106, l107, l108, l109, l110, l122, l160, l240, l255, l600, l1000, l3000, l10000, l10007, l10116, l67108863, l67108864, I_oth, I_J, J_oth, J_I, I_row, J_row, SI_row, SI_oth, SI_J, SJ_row, SJ_oth, SJ_I, upd_s, upd_n, updL_s, updL_n, ne_eq, not_false_eq_true]
  have g67 : IW (puI (puI w 65 6 (nI (tf c n p))) 65 8 (nI (tf c n p))) := hW
  generalize puI (puI w 65 6 (nI (tf c n p))) 65 8 (nI (tf c n p)) = u at hF g6 g8 g66 g67
  have hb' : ∀ i, i < n → BY (u.1 66 i) (c i) := by rw [g66]; exact hb
  unfold scT
  by_cases q0 : n ≤ tf c n p
  · have htk : tk c n p = 1 := by unfold tk; rw [if_pos q0]
    have hte : te c n p = tf c n p := by unfold te; rw [if_pos q0]; omega
    simp (disch := omega) only [gdn, gb0, gb1, ixn, nm1, nI_add, nI_mul, nsub, nI_ltI, nI_leI, nI_eq, eqNO, eqNO2, ltNO, NOlt, leNO, NOle, if_pos, if_neg, Option.bind_some, if_true, if_false, and_self, eq_self, l0, l1, l2, l3, l4, l5, l6, l7, l8, l9, l10, l11, l12, l13, l14, l15, l16, l17, l18, l19, l20, l24, l26, l30, l31, l32, l40, l41, l42, l43, l45, l47, l48, l57, l58, l59, l60, l61, l62, l63, l64, l97, l99, l100, l101, l102, l103, l104, l105, l106, l107, l108, l109, l110, l122, l160, l240, l255, l600, l1000, l3000, l10000, l10007, l10116, l67108863, l67108864, g6]
    refine ok_i ⟨Fr.pfI hF (by decide), by rw [htk]; exact I_self, ?_, ?_, fun y => by omega, fun y => by omega⟩
    · simp (disch := omega) only [gdn, gb0, gb1, ixn, nm1, nI_add, nI_mul, nsub, nI_ltI, nI_leI, nI_eq, eqNO, eqNO2, ltNO, NOlt, leNO, NOle, if_pos, if_neg, Option.bind_some, if_true, if_false, and_self, eq_self, l0, l1, l2, l3, l4, l5, l6, l7, l8, l9, l10, l11, l12, l13, l14, l15, l16, l17, l18, l19, l20, l24, l26, l30, l31, l32, l40, l41, l42, l43, l45, l47, l48, l57, l58, l59, l60, l61, l62, l63, l64, l97, l99, l100, l101, l102, l103, l104, l105, l106, l107, l108, l109, l110, l122, l160, l240, l255, l600, l1000, l3000, l10000, l10007, l10116, l67108863, l67108864, I_oth, I_J, J_oth, J_I, I_row, J_row, SI_row, SI_oth, SI_J, SJ_row, SJ_oth, SJ_I, upd_s, upd_n, updL_s, updL_n, ne_eq, not_false_eq_true, g8]
    · rw [hte]; simp (disch := omega) only [gdn, gb0, gb1, ixn, nm1, nI_add, nI_mul, nsub, nI_ltI, nI_leI, nI_eq, eqNO, eqNO2, ltNO, NOlt, leNO, NOle, if_pos, if_neg, Option.bind_some, if_true, if_false, and_self, eq_self, l0, l1, l2, l3, l4, l5, l6, l7, l8, l9, l10, l11, l12, l13, l14, l15, l16, l17, l18, l19, l20, l24, l26, l30, l31, l32, l40, l41, l42, l43, l45, l47, l48, l57, l58, l59, l60, l61, l62, l63, l64, l97, l99, l100, l101, l102, l103, l104, l105, l106, l107, l108, l109, l110, l122, l160, l240, l255, l600, l1000, l3000, l10000, l10007, l10116, l67108863, l67108864, I_oth, I_J, J_oth, J_I, I_row, J_row, SI_row, SI_oth, SI_J, SJ_row, SJ_oth, SJ_I, upd_s, upd_n, updL_s, updL_n, ne_eq, not_false_eq_true, g6]
  · have hbq := hb' (tf c n p) (by omega)
    by_cases ql : isLet (c (tf c n p)) = true
    · obtain ⟨e, he, h1, h2⟩ := scWord_e hn g67 hb' hp (by omega) ql g6 g8
      simp (disch := omega) only [gdn, gb0, gb1, ixn, nm1, nI_add, nI_mul, nsub, nI_ltI, nI_leI, nI_eq, eqNO, eqNO2, ltNO, NOlt, leNO, NOle, if_pos, if_neg, Option.bind_some, if_true, if_false, and_self, eq_self, l0, l1, l2, l3, l4, l5, l6, l7, l8, l9, l10, l11, l12, l13, l14, l15, l16, l17, l18, l19, l20, l24, l26, l30, l31, l32, l40, l41, l42, l43, l45, l47, l48, l57, l58, l59, l60, l61, l62, l63, l64, l97, l99, l100, l101, l102, l103, l104, l105, l106, l107, l108, l109, l110, l122, l160, l240, l255, l600, l1000, l3000, l10000, l10007, l10116, l67108863, l67108864, g6, let_e hbq, ql, he]
      exact ok_i ⟨hF.next h1 (fun _ z => z) (fun _ z => z), h2⟩
    · by_cases qd : isDig (c (tf c n p)) = true
      · obtain ⟨e, he, h1, h2⟩ := scNum_e hn hb' hp (by omega) ql qd g6 g8
        simp (disch := omega) only [gdn, gb0, gb1, ixn, nm1, nI_add, nI_mul, nsub, nI_ltI, nI_leI, nI_eq, eqNO, eqNO2, ltNO, NOlt, leNO, NOle, if_pos, if_neg, Option.bind_some, if_true, if_false, and_self, eq_self, l0, l1, l2, l3, l4, l5, l6, l7, l8, l9, l10, l11, l12, l13, l14, l15, l16, l17, l18, l19, l20, l24, l26, l30, l31, l32, l40, l41, l42, l43, l45, l47, l48, l57, l58, l59, l60, l61, l62, l63, l64, l97, l99, l100, l101, l102, l103, l104, l105, l106, l107, l108, l109, l110, l122, l160, l240, l255, l600, l1000, l3000, l10000, l10007, l10116, l67108863, l67108864, g6, let_e hbq, dig_e hbq, ql, qd, he]
        exact ok_i ⟨hF.next h1 (fun _ z => z) (fun _ z => z), h2⟩
      · have hte : te c n p = tf c n p + 1 := by unfold te; rw [if_neg q0, if_neg ql, if_neg qd]
        have fin : ∀ v, v = tk c n p → ¬ v = 2 → ¬ v = 3 → ok (X6_scan_j163 (nI v) u) (fun e => Fr [] [(65, 6), (65, 7), (65, 8), (65, 9), (65, 10)] w e ∧ TC c n p e) := by
          intro v hv v2 v3
          unfold X6_scan_j163
          simp (disch := omega) only [gdn, gb0, gb1, ixn, nm1, nI_add, nI_mul, nsub, nI_ltI, nI_leI, nI_eq, eqNO, eqNO2, ltNO, NOlt, leNO, NOle, if_pos, if_neg, Option.bind_some, if_true, if_false, and_self, eq_self, l0, l1, l2, l3, l4, l5, l6, l7, l8, l9, l10, l11, l12, l13, l14, l15, l16, l17, l18, l19, l20, l24, l26, l30, l31, l32, l40, l41, l42, l43, l45, l47, l48, l57, l58, l59, l60, l61, l62, l63, l64, l97, l99, l100, l101, l102, l103, l104, l105, l106, l107, l108, l109, l110, l122, l160, l240, l255, l600, l1000, l3000, l10000, l10007, l10116, l67108863, l67108864, I_oth, I_J, J_oth, J_I, I_row, J_row, SI_row, SI_oth, SI_J, SJ_row, SJ_oth, SJ_I, upd_s, upd_n, updL_s, updL_n, ne_eq, not_false_eq_true, g6]
          refine ok_i ⟨Fr.pfI (Fr.pfI hF (by decide)) (by decide), ?_, ?_, ?_, fun y => by omega, fun y => by omega⟩
          · rw [← hv]; simp (disch := omega) only [gdn, gb0, gb1, ixn, nm1, nI_add, nI_mul, nsub, nI_ltI, nI_leI, nI_eq, eqNO, eqNO2, ltNO, NOlt, leNO, NOle, if_pos, if_neg, Option.bind_some, if_true, if_false, and_self, eq_self, l0, l1, l2, l3, l4, l5, l6, l7, l8, l9, l10, l11, l12, l13, l14, l15, l16, l17, l18, l19, l20, l24, l26, l30, l31, l32, l40, l41, l42, l43, l45, l47, l48, l57, l58, l59, l60, l61, l62, l63, l64, l97, l99, l100, l101, l102, l103, l104, l105, l106, l107, l108, l109, l110, l122, l160, l240, l255, l600, l1000, l3000, l10000, l10007, l10116, l67108863, l67108864, I_oth, I_J, J_oth, J_I, I_row, J_row, SI_row, SI_oth, SI_J, SJ_row, SJ_oth, SJ_I, upd_s, upd_n, updL_s, updL_n, ne_eq, not_false_eq_true]
          · simp (disch := omega) only [gdn, gb0, gb1, ixn, nm1, nI_add, nI_mul, nsub, nI_ltI, nI_leI, nI_eq, eqNO, eqNO2, ltNO, NOlt, leNO, NOle, if_pos, if_neg, Option.bind_some, if_true, if_false, and_self, eq_self, l0, l1, l2, l3, l4, l5, l6, l7, l8, l9, l10, l11, l12, l13, l14, l15, l16, l17, l18, l19, l20, l24, l26, l30, l31, l32, l40, l41, l42, l43, l45, l47, l48, l57, l58, l59, l60, l61, l62, l63, l64, l97, l99, l100, l101, l102, l103, l104, l105, l106, l107, l108, l109, l110, l122, l160, l240, l255, l600, l1000, l3000, l10000, l10007, l10116, l67108863, l67108864, I_oth, I_J, J_oth, J_I, I_row, J_row, SI_row, SI_oth, SI_J, SJ_row, SJ_oth, SJ_I, upd_s, upd_n, updL_s, updL_n, ne_eq, not_false_eq_true, g8]
          · rw [hte]; simp (disch := omega) only [gdn, gb0, gb1, ixn, nm1, nI_add, nI_mul, nsub, nI_ltI, nI_leI, nI_eq, eqNO, eqNO2, ltNO, NOlt, leNO, NOle, if_pos, if_neg, Option.bind_some, if_true, if_false, and_self, eq_self, l0, l1, l2, l3, l4, l5, l6, l7, l8, l9, l10, l11, l12, l13, l14, l15, l16, l17, l18, l19, l20, l24, l26, l30, l31, l32, l40, l41, l42, l43, l45, l47, l48, l57, l58, l59, l60, l61, l62, l63, l64, l97, l99, l100, l101, l102, l103, l104, l105, l106, l107, l108, l109, l110, l122, l160, l240, l255, l600, l1000, l3000, l10000, l10007, l10116, l67108863, l67108864, I_oth, I_J, J_oth, J_I, I_row, J_row, SI_row, SI_oth, SI_J, SJ_row, SJ_oth, SJ_I, upd_s, upd_n, updL_s, updL_n, ne_eq, not_false_eq_true]
        have bad : (c (tf c n p) ≤ 0 ∨ 128 ≤ c (tf c n p)) → ¬ isSgn (c (tf c n p)) = true := by
          intro y z
          have := sgn_iff.mp z
          omega
        by_cases q1 : c (tf c n p) ≤ 0 ∨ 128 ≤ c (tf c n p)
        · have htk : tk c n p = 0 := by unfold tk; rw [if_neg q0, if_neg ql, if_neg qd, if_neg (bad q1)]
          unfold X6_scan_j162
          simp (disch := omega) only [gdn, gb0, gb1, ixn, nm1, nI_add, nI_mul, nsub, nI_ltI, nI_leI, nI_eq, eqNO, eqNO2, ltNO, NOlt, leNO, NOle, if_pos, if_neg, Option.bind_some, if_true, if_false, and_self, eq_self, l0, l1, l2, l3, l4, l5, l6, l7, l8, l9, l10, l11, l12, l13, l14, l15, l16, l17, l18, l19, l20, l24, l26, l30, l31, l32, l40, l41, l42, l43, l45, l47, l48, l57, l58, l59, l60, l61, l62, l63, l64, l97, l99, l100, l101, l102, l103, l104, l105, l106, l107, l108, l109, l110, l122, l160, l240, l255, l600, l1000, l3000, l10000, l10007, l10116, l67108863, l67108864, g6, let_e hbq, dig_e hbq, ql, qd, hbq.le, q1]
          exact fin 0 htk.symm (by omega) (by omega)
        · obtain ⟨r, hr, r1, r2⟩ := ixOf_e (k := c (tf c n p)) (by omega) u
          have hlo := hbq.lo (by omega)
          rw [hlo] at hbq
          by_cases q2 : isSgn (c (tf c n p)) = true
          · have htk : tk c n p = c (tf c n p) := by unfold tk; rw [if_neg q0, if_neg ql, if_neg qd, if_pos q2]
            have hr0 : ¬ r < nI 0 := r1 q2
            have hs := sgn_iff.mp q2
            simp (disch := omega) only [gdn, gb0, gb1, ixn, nm1, nI_add, nI_mul, nsub, nI_ltI, nI_leI, nI_eq, eqNO, eqNO2, ltNO, NOlt, leNO, NOle, if_pos, if_neg, Option.bind_some, if_true, if_false, and_self, eq_self, l0, l1, l2, l3, l4, l5, l6, l7, l8, l9, l10, l11, l12, l13, l14, l15, l16, l17, l18, l19, l20, l24, l26, l30, l31, l32, l40, l41, l42, l43, l45, l47, l48, l57, l58, l59, l60, l61, l62, l63, l64, l97, l99, l100, l101, l102, l103, l104, l105, l106, l107, l108, l109, l110, l122, l160, l240, l255, l600, l1000, l3000, l10000, l10007, l10116, l67108863, l67108864, g6, hlo, let_e hbq, dig_e hbq, ql, qd, hr, hr0]
            exact fin _ htk.symm (by omega) (by omega)
          · have htk : tk c n p = 0 := by unfold tk; rw [if_neg q0, if_neg ql, if_neg qd, if_neg q2]
            have hr0 : r < nI 0 := r2 q2
            unfold X6_scan_j162
            simp (disch := omega) only [gdn, gb0, gb1, ixn, nm1, nI_add, nI_mul, nsub, nI_ltI, nI_leI, nI_eq, eqNO, eqNO2, ltNO, NOlt, leNO, NOle, if_pos, if_neg, Option.bind_some, if_true, if_false, and_self, eq_self, l0, l1, l2, l3, l4, l5, l6, l7, l8, l9, l10, l11, l12, l13, l14, l15, l16, l17, l18, l19, l20, l24, l26, l30, l31, l32, l40, l41, l42, l43, l45, l47, l48, l57, l58, l59, l60, l61, l62, l63, l64, l97, l99, l100, l101, l102, l103, l104, l105, l106, l107, l108, l109, l110, l122, l160, l240, l255, l600, l1000, l3000, l10000, l10007, l10116, l67108863, l67108864, g6, hlo, let_e hbq, dig_e hbq, ql, qd, hr, hr0]
            exact fin 0 htk.symm (by omega) (by omega)
theorem tk_rng (p : Nat) : tk c n p ≤ 4 ∨ (40 ≤ tk c n p ∧ tk c n p ≤ 62) ∨ (100 ≤ tk c n p ∧ tk c n p ≤ 116) := by
  unfold tk
  split
  · omega
  · split
    · split
      · omega
      · split
        · omega
        · omega
    · split
      · split <;> omega
      · split
        · next h => have := sgn_iff.mp h; omega
        · omega
end
