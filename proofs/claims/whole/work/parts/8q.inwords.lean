/-! words in a row of words -/
theorem char_e {ti : Nat} {S : List Nat} (hS : strB.getD ti [] = S.map nI) (hN : strN.getD ti 0 = S.length) (hl : S.length < 2 ^ 31) {i : Nat} (hi : i < S.length) (hc : S.getD i 0 < 128) (w : Wd) : J0_charAt_5068e ti (nI i) w = some (nI (S.getD i 0)) := by
  unfold J0_charAt_5068e
  rw [show J0_isLatin1_aae02 ti w = 1 from rfl, if_neg (by decide)]
  unfold J1_charAt_3b067
  rw [hN]
  have h1 : J0_checkIndex_df160 (nI i) (Int32.ofNat S.length) w = some () := by
    unfold J0_checkIndex_df160 J3_checkIndex_8e157
    rw [show Int32.ofNat S.length = nI S.length from rfl, show (0 : Int32) = nI 0 from rfl, if_neg (by rw [nI_ltI (by omega) (by omega)]; omega), if_pos (show nI i < nI S.length by rw [nI_ltI (by omega) (by omega)]; omega)]
    rfl
  rw [h1, ixn (by omega), hS]
  simp only [Option.bind_some]
  rw [show (S.map nI).getD i (0 : Int32) = nI (S.getD i 0) from getD_map hi]
  have h2 : ∀ k : Fin 128, (Int32.toUInt32 (nI k.1 &&& 255) % 65536).toInt32 = nI k.1 := by decide
  have h3 : ∀ k : Fin 128, narrow .char (.int (nI k.1)) = .int (nI k.1) := by decide
  rw [h2 ⟨_, hc⟩, gdn (by omega) (by omega), gd_t (h3 ⟨_, hc⟩)]
  simp only [Option.bind_some]
  rw [gd_t (h3 ⟨_, hc⟩)]
theorem len_e {ti N : Nat} (hN : strN.getD ti 0 = N) (w : Wd) : J0_length_8abf5 ti w = nI N := by
  unfold J0_length_8abf5 J0_length_8abf5O
  rw [hN, show J0_coder_7d493 ti w = 0 from rfl, show ((0 : Int32) &&& 31) = 0 by decide]
  show Int32.ofNat N >>> (0 : Int32) = nI N
  exact Int32.shiftRight_zero
def chk (S : List Nat) : Nat → List (List Nat) → Bool
  | k, [] => k == S.length
  | k, x :: ws => (S.drop k).take (x.length + 1) == x ++ [32] && x.all (fun c => c != 32 && decide (c < 128)) && chk S (k + x.length + 1) ws
section
variable {c : Nat → Nat} {n : Nat}
theorem drop_at {S T : List Nat} {k m i : Nat} (h : (S.drop k).take m = T) (hi : i < T.length) : S.getD (k + i) 0 = T.getD i 0 ∧ k + i < S.length := by
  subst h
  rw [List.length_take, List.length_drop] at hi
  refine ⟨?_, by omega⟩
  rw [List.getD_eq_getElem?_getD, List.getD_eq_getElem?_getD, List.getElem?_take_of_lt (by omega), List.getElem?_drop]
theorem inw_e (hn : n ≤ 600) {ti : Nat} {S : List Nat} (hS : strB.getD ti [] = S.map nI) (hN : strN.getD ti 0 = S.length) (hl : S.length < 1000) {w : Wd} (hb : MB c n w) {q m : Nat} (hqm : q + m ≤ n) (h36 : w.1 97 36 = nI q) (h37 : w.1 97 37 = nI (q + m)) : ∀ (ws : List (List Nat)) (j k : Nat), j + ws.length < 1000 → k ≤ S.length → chk S k ws = true → lp (X12_inWords_b14 ti w) (nI j, nI k) = some (if ws.findIdx (fun x => x == wrd c q m) < ws.length then .inl (nI (j + ws.findIdx (fun x => x == wrd c q m))) else .inr ()) := by
  intro ws
  induction ws with
  | nil =>
    intro j k hj hk hc
    have hk2 : k = S.length := by simpa [chk] using hc
    rw [List.length_nil, if_neg (by omega)]
    refine lp_exit ?_
    unfold X12_inWords_b14
    rw [len_e hN]
    simp (disch := omega) only [gdn, gb0, gb1, ixn, nm1, nI_add, nI_mul, nsub, nI_ltI, nI_leI, nI_eq, eqNO, eqNO2, ltNO, NOlt, leNO, NOle, if_pos, if_neg, Option.bind_some, if_true, if_false, and_self, eq_self, l0, l1, l2, l3, l4, l5, l6, l7, l8, l9, l10, l11, l12, l13, l14, l15, l16, l17, l18, l19, l20, l24, l26, l30, l31, l32, l40, l41, l42, l43, l45, l47, l48, l57, l58, l59, l60, l61, l62, l63, l64, l97, l99, l100, l101, l102, l103, l104, l105, l106, l107, l108, l109, l110, l122, l160, l240, l255, l600, l1000, l3000, l10000, l10007, l10116, l67108863, l67108864]
  | cons x ws ih =>
    intro j k hj hk hc
    unfold chk at hc
    simp only [Bool.and_eq_true, beq_iff_eq, List.all_eq_true, bne_iff_ne, decide_eq_true_eq] at hc
    obtain ⟨⟨c1, c2⟩, c3⟩ := hc
    rw [List.length_cons] at hj
    have hx : ∀ i, i < x.length → S.getD (k + i) 0 = x.getD i 0 ∧ k + i < S.length ∧ ¬ x.getD i 0 = 32 ∧ x.getD i 0 < 128 := by
      intro i hi
      obtain ⟨a1, a2⟩ := drop_at c1 (i := i) (by rw [List.length_append, List.length_singleton]; omega)
      rw [getD_app hi] at a1
      obtain ⟨a3, a4⟩ := c2 _ (getD_mem (d := 0) hi)
      exact ⟨a1, a2, a3, a4⟩
    obtain ⟨s1, s2⟩ := drop_at c1 (i := x.length) (by rw [List.length_append, List.length_singleton]; omega)
    rw [getD_last] at s1
    have hend : lp (X12_inWords_b25 ti (nI j) (nI k) w) (nI k) = some (nI (k + x.length)) := by
      refine lp_for (fun i => nI (k + i)) x.length (fun i hi => ?_) ?_ 0 (Nat.zero_le _)
      · obtain ⟨a1, a2, a3, a4⟩ := hx i hi
        unfold X12_inWords_b25
        rw [char_e hS hN (by omega) a2 (by rw [a1]; exact a4), a1]
        simp (disch := omega) only [gdn, gb0, gb1, ixn, nm1, nI_add, nI_mul, nsub, nI_ltI, nI_leI, nI_eq, eqNO, eqNO2, ltNO, NOlt, leNO, NOle, if_pos, if_neg, Option.bind_some, if_true, if_false, and_self, eq_self, l0, l1, l2, l3, l4, l5, l6, l7, l8, l9, l10, l11, l12, l13, l14, l15, l16, l17, l18, l19, l20, l24, l26, l30, l31, l32, l40, l41, l42, l43, l45, l47, l48, l57, l58, l59, l60, l61, l62, l63, l64, l97, l99, l100, l101, l102, l103, l104, l105, l106, l107, l108, l109, l110, l122, l160, l240, l255, l600, l1000, l3000, l10000, l10007, l10116, l67108863, l67108864]
        rw [Nat.add_assoc]
      · unfold X12_inWords_b25
        rw [char_e hS hN (by omega) s2 (by rw [s1]; omega), s1]
        simp (disch := omega) only [gdn, gb0, gb1, ixn, nm1, nI_add, nI_mul, nsub, nI_ltI, nI_leI, nI_eq, eqNO, eqNO2, ltNO, NOlt, leNO, NOle, if_pos, if_neg, Option.bind_some, if_true, if_false, and_self, eq_self, l0, l1, l2, l3, l4, l5, l6, l7, l8, l9, l10, l11, l12, l13, l14, l15, l16, l17, l18, l19, l20, l24, l26, l30, l31, l32, l40, l41, l42, l43, l45, l47, l48, l57, l58, l59, l60, l61, l62, l63, l64, l97, l99, l100, l101, l102, l103, l104, l105, l106, l107, l108, l109, l110, l122, l160, l240, l255, l600, l1000, l3000, l10000, l10007, l10116, l67108863, l67108864]
    have hcmp : x.length = m → lp (X12_inWords_b68 ti (nI j) (nI k) (nI (k + x.length)) w) (nI 1, nI k) = some (fg (x = wrd c q m)) := by
      intro hm
      refine eq_ok (lp_up (fun i s => ∃ p : Prop, s = (fg p, nI (k + i)) ∧ (p → ∀ a, a < i → x.getD a 0 = c (q + a)) ∧ (¬ p → ∃ a, a < x.length ∧ ¬ x.getD a 0 = c (q + a))) x.length ?_ ?_ 0 _ (Nat.zero_le _) ⟨True, by rw [fg_t trivial]; rfl, fun _ a ha => by omega, fun z => (z trivial).elim⟩)
      · rintro i s hi ⟨p, rfl, h1, h2⟩
        obtain ⟨a1, a2, a3, a4⟩ := hx i hi
        obtain ⟨-, hci⟩ := hb.2 (q + i) (by omega)
        unfold X12_inWords_b68 X12_inWords_j107
        by_cases hp : p
        · rw [fg_t hp]
          have hat : X12_at ((w.1 97 36 + nI (k + i)) - nI k) w = some (nI (c (q + i))) := by
            rw [h36, nI_add, nsub (by omega), show q + (k + i) - k = q + i by omega, at_e hn hb (by omega), if_pos (by omega)]
          simp (disch := omega) only [gdn, gb0, gb1, ixn, nm1, nI_add, nI_mul, nsub, nI_ltI, nI_leI, nI_eq, eqNO, eqNO2, ltNO, NOlt, leNO, NOle, if_pos, if_neg, Option.bind_some, if_true, if_false, and_self, eq_self, l0, l1, l2, l3, l4, l5, l6, l7, l8, l9, l10, l11, l12, l13, l14, l15, l16, l17, l18, l19, l20, l24, l26, l30, l31, l32, l40, l41, l42, l43, l45, l47, l48, l57, l58, l59, l60, l61, l62, l63, l64, l97, l99, l100, l101, l102, l103, l104, l105, l106, l107, l108, l109, l110, l122, l160, l240, l255, l600, l1000, l3000, l10000, l10007, l10116, l67108863, l67108864, char_e hS hN, a1, hat]
          by_cases z : x.getD i 0 = c (q + i)
          · rw [if_pos z]
            refine ok_i ⟨True, by rw [fg_t trivial]; rfl, fun _ a ha => ?_, fun z => (z trivial).elim⟩
            by_cases y : a = i
            · rw [y]; exact z
            · exact h1 hp a (by omega)
          · rw [if_neg z]
            exact ok_i ⟨False, by rw [fg_f id]; rfl, False.elim, fun _ => ⟨i, hi, z⟩⟩
        · rw [fg_f hp]
          simp (disch := omega) only [gdn, gb0, gb1, ixn, nm1, nI_add, nI_mul, nsub, nI_ltI, nI_leI, nI_eq, eqNO, eqNO2, ltNO, NOlt, leNO, NOle, if_pos, if_neg, Option.bind_some, if_true, if_false, and_self, eq_self, l0, l1, l2, l3, l4, l5, l6, l7, l8, l9, l10, l11, l12, l13, l14, l15, l16, l17, l18, l19, l20, l24, l26, l30, l31, l32, l40, l41, l42, l43, l45, l47, l48, l57, l58, l59, l60, l61, l62, l63, l64, l97, l99, l100, l101, l102, l103, l104, l105, l106, l107, l108, l109, l110, l122, l160, l240, l255, l600, l1000, l3000, l10000, l10007, l10116, l67108863, l67108864]
          refine ok_i (show nI 0 = fg (x = wrd c q m) from ?_)
          obtain ⟨a, ha, hne⟩ := h2 hp
          rw [fg_f (fun e => hne ?_)]
          rw [e]
          unfold wrd
          rw [getD_map (d := 0) (by rw [List.length_range]; omega), getD_range (by omega)]
      · rintro s ⟨p, rfl, h1, h2⟩
        unfold X12_inWords_b68
        simp (disch := omega) only [gdn, gb0, gb1, ixn, nm1, nI_add, nI_mul, nsub, nI_ltI, nI_leI, nI_eq, eqNO, eqNO2, ltNO, NOlt, leNO, NOle, if_pos, if_neg, Option.bind_some, if_true, if_false, and_self, eq_self, l0, l1, l2, l3, l4, l5, l6, l7, l8, l9, l10, l11, l12, l13, l14, l15, l16, l17, l18, l19, l20, l24, l26, l30, l31, l32, l40, l41, l42, l43, l45, l47, l48, l57, l58, l59, l60, l61, l62, l63, l64, l97, l99, l100, l101, l102, l103, l104, l105, l106, l107, l108, l109, l110, l122, l160, l240, l255, l600, l1000, l3000, l10000, l10007, l10116, l67108863, l67108864]
        refine ok_i (show fg p = fg (x = wrd c q m) from fg_c ⟨fun hp => ?_, fun e => ?_⟩)
        · refine List.ext_getElem (by rw [wrd_l, hm]) (fun a ha1 ha2 => ?_)
          have := h1 hp a ha1
          rw [List.getD_eq_getElem?_getD, List.getElem?_eq_getElem ha1] at this
          have e2 : (wrd c q m)[a] = c (q + a) := by simp [wrd]
          rw [e2]
          exact this
        · by_cases hp : p
          · exact hp
          · obtain ⟨a, ha, hne⟩ := h2 hp
            refine (hne ?_).elim
            rw [e]
            unfold wrd
            rw [getD_map (d := 0) (by rw [List.length_range]; omega), getD_range (by omega)]
    rw [List.findIdx_cons]
    by_cases hL : x = wrd c q m
    · have hm : x.length = m := by rw [hL, wrd_l]
      have hbx : (x == wrd c q m) = true := by rw [hL]; exact beq_self_eq_true _
      rw [hbx, cond_true, List.length_cons, if_pos (by omega)]
      refine lp_exit ?_
      unfold X12_inWords_b14 X12_inWords_j63
      have hcm := hcmp hm
      rw [fg_t hL] at hcm
      simp (disch := omega) only [gdn, gb0, gb1, ixn, nm1, nI_add, nI_mul, nsub, nI_ltI, nI_leI, nI_eq, eqNO, eqNO2, ltNO, NOlt, leNO, NOle, if_pos, if_neg, Option.bind_some, if_true, if_false, and_self, eq_self, l0, l1, l2, l3, l4, l5, l6, l7, l8, l9, l10, l11, l12, l13, l14, l15, l16, l17, l18, l19, l20, l24, l26, l30, l31, l32, l40, l41, l42, l43, l45, l47, l48, l57, l58, l59, l60, l61, l62, l63, l64, l97, l99, l100, l101, l102, l103, l104, l105, l106, l107, l108, l109, l110, l122, l160, l240, l255, l600, l1000, l3000, l10000, l10007, l10116, l67108863, l67108864, len_e hN, hend, h36, h37, show k + x.length - k = x.length by omega, show q + m - q = m by omega, hm]
      rw [hm] at hcm
      rw [hcm]
      simp (disch := omega) only [gdn, gb0, gb1, ixn, nm1, nI_add, nI_mul, nsub, nI_ltI, nI_leI, nI_eq, eqNO, eqNO2, ltNO, NOlt, leNO, NOle, if_pos, if_neg, Option.bind_some, if_true, if_false, and_self, eq_self, l0, l1, l2, l3, l4, l5, l6, l7, l8, l9, l10, l11, l12, l13, l14, l15, l16, l17, l18, l19, l20, l24, l26, l30, l31, l32, l40, l41, l42, l43, l45, l47, l48, l57, l58, l59, l60, l61, l62, l63, l64, l97, l99, l100, l101, l102, l103, l104, l105, l106, l107, l108, l109, l110, l122, l160, l240, l255, l600, l1000, l3000, l10000, l10007, l10116, l67108863, l67108864]
      rfl
    · have hbx : (x == wrd c q m) = false := by rw [beq_eq_false_iff_ne]; exact hL
      have hk2 : k + x.length + 1 ≤ S.length := by omega
      have hgo : X12_inWords_b14 ti w (nI j, nI k) = some (.inl (nI (j + 1), nI (k + x.length + 1))) := by
        unfold X12_inWords_b14 X12_inWords_j63
        by_cases hm : x.length = m
        · have hcm := hcmp hm
          rw [fg_f hL] at hcm
          simp (disch := omega) only [gdn, gb0, gb1, ixn, nm1, nI_add, nI_mul, nsub, nI_ltI, nI_leI, nI_eq, eqNO, eqNO2, ltNO, NOlt, leNO, NOle, if_pos, if_neg, Option.bind_some, if_true, if_false, and_self, eq_self, l0, l1, l2, l3, l4, l5, l6, l7, l8, l9, l10, l11, l12, l13, l14, l15, l16, l17, l18, l19, l20, l24, l26, l30, l31, l32, l40, l41, l42, l43, l45, l47, l48, l57, l58, l59, l60, l61, l62, l63, l64, l97, l99, l100, l101, l102, l103, l104, l105, l106, l107, l108, l109, l110, l122, l160, l240, l255, l600, l1000, l3000, l10000, l10007, l10116, l67108863, l67108864, len_e hN, hend, h36, h37, show k + x.length - k = x.length by omega, show q + m - q = m by omega, hm]
          rw [hm] at hcm
          rw [hcm]
          simp (disch := omega) only [gdn, gb0, gb1, ixn, nm1, nI_add, nI_mul, nsub, nI_ltI, nI_leI, nI_eq, eqNO, eqNO2, ltNO, NOlt, leNO, NOle, if_pos, if_neg, Option.bind_some, if_true, if_false, and_self, eq_self, l0, l1, l2, l3, l4, l5, l6, l7, l8, l9, l10, l11, l12, l13, l14, l15, l16, l17, l18, l19, l20, l24, l26, l30, l31, l32, l40, l41, l42, l43, l45, l47, l48, l57, l58, l59, l60, l61, l62, l63, l64, l97, l99, l100, l101, l102, l103, l104, l105, l106, l107, l108, l109, l110, l122, l160, l240, l255, l600, l1000, l3000, l10000, l10007, l10116, l67108863, l67108864]
        · simp (disch := omega) only [gdn, gb0, gb1, ixn, nm1, nI_add, nI_mul, nsub, nI_ltI, nI_leI, nI_eq, eqNO, eqNO2, ltNO, NOlt, leNO, NOle, if_pos, if_neg, Option.bind_some, if_true, if_false, and_self, eq_self, l0, l1, l2, l3, l4, l5, l6, l7, l8, l9, l10, l11, l12, l13, l14, l15, l16, l17, l18, l19, l20, l24, l26, l30, l31, l32, l40, l41, l42, l43, l45, l47, l48, l57, l58, l59, l60, l61, l62, l63, l64, l97, l99, l100, l101, l102, l103, l104, l105, l106, l107, l108, l109, l110, l122, l160, l240, l255, l600, l1000, l3000, l10000, l10007, l10116, l67108863, l67108864, len_e hN, hend, h36, h37, show k + x.length - k = x.length by omega, show q + m - q = m by omega, hm]
          by_cases hx0 : x.length = 0
          · rw [lp_exit (e := nI 0) (by unfold X12_inWords_b68; simp (disch := omega) only [gdn, gb0, gb1, ixn, nm1, nI_add, nI_mul, nsub, nI_ltI, nI_leI, nI_eq, eqNO, eqNO2, ltNO, NOlt, leNO, NOle, if_pos, if_neg, Option.bind_some, if_true, if_false, and_self, eq_self, l0, l1, l2, l3, l4, l5, l6, l7, l8, l9, l10, l11, l12, l13, l14, l15, l16, l17, l18, l19, l20, l24, l26, l30, l31, l32, l40, l41, l42, l43, l45, l47, l48, l57, l58, l59, l60, l61, l62, l63, l64, l97, l99, l100, l101, l102, l103, l104, l105, l106, l107, l108, l109, l110, l122, l160, l240, l255, l600, l1000, l3000, l10000, l10007, l10116, l67108863, l67108864])]
            simp (disch := omega) only [gdn, gb0, gb1, ixn, nm1, nI_add, nI_mul, nsub, nI_ltI, nI_leI, nI_eq, eqNO, eqNO2, ltNO, NOlt, leNO, NOle, if_pos, if_neg, Option.bind_some, if_true, if_false, and_self, eq_self, l0, l1, l2, l3, l4, l5, l6, l7, l8, l9, l10, l11, l12, l13, l14, l15, l16, l17, l18, l19, l20, l24, l26, l30, l31, l32, l40, l41, l42, l43, l45, l47, l48, l57, l58, l59, l60, l61, l62, l63, l64, l97, l99, l100, l101, l102, l103, l104, l105, l106, l107, l108, l109, l110, l122, l160, l240, l255, l600, l1000, l3000, l10000, l10007, l10116, l67108863, l67108864]
          · rw [lp_exit (e := nI 0) (by unfold X12_inWords_b68; simp (disch := omega) only [gdn, gb0, gb1, ixn, nm1, nI_add, nI_mul, nsub, nI_ltI, nI_leI, nI_eq, eqNO, eqNO2, ltNO, NOlt, leNO, NOle, if_pos, if_neg, Option.bind_some, if_true, if_false, and_self, eq_self, l0, l1, l2, l3, l4, l5, l6, l7, l8, l9, l10, l11, l12, l13, l14, l15, l16, l17, l18, l19, l20, l24, l26, l30, l31, l32, l40, l41, l42, l43, l45, l47, l48, l57, l58, l59, l60, l61, l62, l63, l64, l97, l99, l100, l101, l102, l103, l104, l105, l106, l107, l108, l109, l110, l122, l160, l240, l255, l600, l1000, l3000, l10000, l10007, l10116, l67108863, l67108864])]
            simp (disch := omega) only [gdn, gb0, gb1, ixn, nm1, nI_add, nI_mul, nsub, nI_ltI, nI_leI, nI_eq, eqNO, eqNO2, ltNO, NOlt, leNO, NOle, if_pos, if_neg, Option.bind_some, if_true, if_false, and_self, eq_self, l0, l1, l2, l3, l4, l5, l6, l7, l8, l9, l10, l11, l12, l13, l14, l15, l16, l17, l18, l19, l20, l24, l26, l30, l31, l32, l40, l41, l42, l43, l45, l47, l48, l57, l58, l59, l60, l61, l62, l63, l64, l97, l99, l100, l101, l102, l103, l104, l105, l106, l107, l108, l109, l110, l122, l160, l240, l255, l600, l1000, l3000, l10000, l10007, l10116, l67108863, l67108864]
      rw [lp_step hgo, ih (j + 1) (k + x.length + 1) (by omega) hk2 c3, hbx, cond_false, List.length_cons]
      by_cases z : ws.findIdx (fun x => x == wrd c q m) < ws.length
      · rw [if_pos z, if_pos (by omega), show j + 1 + ws.findIdx (fun x => x == wrd c q m) = j + (ws.findIdx (fun x => x == wrd c q m) + 1) by omega]
      · rw [if_neg z, if_neg (by omega)]
def K2 : List (List Nat) := [[115,116,114,105,107,101,115],[109,97,121],[104,111,117,114,115],[114,111,111,109],[112,97,115,115],[102,108,97,103],[117,110,108,101,115,115],[111,114],[97,110,100],[110,111,116]]
def K3 : List (List Nat) := [[97,103,101],[116,111,110,103,117,101],[109,97,110,121],[119,101,101,107],[100,111,110,101],[114,97,105,110],[115,104,105,114,101]]
def kx (t : Nat) : Nat := [0, 1, 6, 2, 3, 4, 5, 7, 8, 9].getD (t - 100) 10
def kxI (t : Nat) : Int32 := if 100 ≤ t ∧ t < 110 then nI (kx t) else NO
def vxI (t : Nat) : Int32 := if 110 ≤ t then nI (t - 110) else NO
theorem K2_i {i : Nat} (h : i < 17) : K2.findIdx (fun x => x == KW.getD i []) = if i < 10 then kx (100 + i) else 10 := by
  have : ∀ i : Fin 17, K2.findIdx (fun x => x == KW.getD i.1 []) = if i.1 < 10 then kx (100 + i.1) else 10 := by decide
  exact this ⟨i, h⟩
theorem K3_i {i : Nat} (h : i < 17) : K3.findIdx (fun x => x == KW.getD i []) = if i < 10 then 7 else i - 10 := by
  have : ∀ i : Fin 17, K3.findIdx (fun x => x == KW.getD i.1 []) = if i.1 < 10 then 7 else i.1 - 10 := by decide
  exact this ⟨i, h⟩
theorem kx_lt {i : Nat} (h : i < 10) : kx (100 + i) < 10 := by
  have : ∀ i : Fin 10, kx (100 + i.1) < 10 := by decide
  exact this ⟨i, h⟩
theorem no_idx {K : List (List Nat)} {L : List Nat} (hK : ∀ x ∈ K, x ∈ KW) (h : ¬ widx L < 17) : K.findIdx (fun x => x == L) = K.length := by
  refine List.findIdx_eq_length.mpr (fun x hx => ?_)
  rw [beq_eq_false_iff_ne]
  intro e
  subst e
  refine h ?_
  unfold widx
  have : KW.findIdx (fun y => y == x) < KW.length := List.findIdx_lt_length.mpr ⟨x, hK x hx, by simp⟩
  rw [KW_len] at this
  exact this
theorem widx_8 {L : List Nat} (h : L.length > 8) : ¬ widx L < 17 := by
  intro z
  have h1 := (widx_i z).mp rfl
  have h2 := (KW_w _ (getD_mem (d := []) (by rw [KW_len]; exact z))).2.2
  rw [h1] at h2
  omega
theorem tkw {p : Nat} (hp : p ≤ n) (h : mkd (tk c n p) = 2) : tf c n p < n ∧ isLet (c (tf c n p)) = true ∧ te c n p = we c n p ∧ tf c n p ≤ we c n p ∧ we c n p ≤ n ∧ (tk c n p = if widx (tw c n p) < 17 then 100 + widx (tw c n p) else if we c n p - tf c n p > 8 then 4 else 3) ∧ (∀ i, tf c n p ≤ i → i < we c n p → isLet (c i) = true) := by
  obtain ⟨x1, x2, -, -⟩ := te_s (c := c) hp
  have hq : ¬ n ≤ tf c n p := by
    intro z
    have : tk c n p = 1 := by unfold tk; rw [if_pos z]
    rw [this] at h
    exact absurd h (by decide)
  have hl : isLet (c (tf c n p)) = true := by
    by_cases z : isLet (c (tf c n p)) = true
    · exact z
    · exfalso
      have : tk c n p = 0 ∨ tk c n p = 2 ∨ (40 ≤ tk c n p ∧ tk c n p ≤ 62) := by
        unfold tk
        rw [if_neg hq, if_neg z]
        split
        · split <;> omega
        · split
          · next h => have := sgn_iff.mp h; omega
          · omega
      rcases this with y | y | y
      · rw [y] at h; exact absurd h (by decide)
      · rw [y] at h; exact absurd h (by decide)
      · unfold mkd at h
        rw [if_neg (by omega), if_neg (by omega), if_neg (by omega), if_neg (by omega)] at h
        omega
  obtain ⟨y1, y2, y3, -⟩ := ext_s (P := fun i => isLet (c i)) (n := n) (p := tf c n p) (by omega)
  have hwe : we c n p = ext (fun i => isLet (c i)) n (tf c n p) := rfl
  rw [← hwe] at y1 y2 y3
  refine ⟨by omega, hl, by unfold te; rw [if_neg hq, if_pos hl], y1, y2, ?_, y3⟩
  unfold tk
  rw [if_neg hq, if_pos hl]
  by_cases z : we c n p - tf c n p > 8
  · have : ¬ widx (tw c n p) < 17 := widx_8 (by unfold tw; rw [wrd_l]; exact z)
    rw [if_pos z, if_neg this, if_pos z]
  · rw [if_neg z, if_neg z]
theorem mkd2 {t : Nat} (h : t ≤ 4 ∨ (40 ≤ t ∧ t ≤ 62) ∨ (100 ≤ t ∧ t ≤ 116)) : mkd t = 2 ↔ (t = 3 ∨ t = 4 ∨ 100 ≤ t) := by
  unfold mkd
  split
  · omega
  · split
    · omega
    · split
      · omega
      · split <;> omega
theorem mkd_lt {t : Nat} : mkd t < 5 := by
  unfold mkd
  split
  · omega
  · split
    · omega
    · split
      · omega
      · split <;> omega
theorem inK_e (hn : n ≤ 600) {ti : Nat} {S : List Nat} {K : List (List Nat)} (hS : strB.getD ti [] = S.map nI) (hN : strN.getD ti 0 = S.length) (hl : S.length < 1000) (hl1 : 1 ≤ S.length) (hKl : K.length < 20) (hck : chk S 1 K = true) {w : Wd} (hb : MB c n w) {p : Nat} (hp : p ≤ n) (hT : MT c n p w) : X12_inWords ti w = some (if mkd (tk c n p) = 2 ∧ K.findIdx (fun x => x == tw c n p) < K.length then nI (K.findIdx (fun x => x == tw c n p)) else NO) := by
  obtain ⟨t1, t2, t3, -⟩ := hT
  have hml := mkd_lt (t := tk c n p)
  unfold X12_inWords
  by_cases q : mkd (tk c n p) = 2
  · obtain ⟨k1, k2, k3, k4, k5, -, -⟩ := tkw hp q
    have h37 : w.1 97 37 = nI (tf c n p + (we c n p - tf c n p)) := by rw [t3, k3, show tf c n p + (we c n p - tf c n p) = we c n p by omega]
    have h := inw_e hn hS hN hl hb (m := we c n p - tf c n p) (by omega) t2 h37 K 0 1 (by omega) hl1 hck
    rw [show wrd c (tf c n p) (we c n p - tf c n p) = tw c n p from rfl] at h
    rw [t1, q, if_pos (show nI 2 = (2 : Int32) from rfl), show ((0 : Int32), (1 : Int32)) = (nI 0, nI 1) from rfl, h]
    by_cases z : K.findIdx (fun x => x == tw c n p) < K.length
    · rw [if_pos z, if_pos ⟨rfl, z⟩]
      simp only [Option.bind_some]
      rw [Nat.zero_add]
    · rw [if_neg z, if_neg (fun y => z y.2)]
      rfl
  · rw [t1, if_neg (by rw [show (2 : Int32) = nI 2 from rfl, nI_eq (by omega) (by omega)]; exact q), if_neg (fun y => q y.1)]
    rfl
theorem keys_e (hn : n ≤ 600) {w : Wd} (hb : MB c n w) {p : Nat} (hp : p ≤ n) (hT : MT c n p w) : X12_inWords 2 w = some (kxI (tk c n p)) := by
  rw [inK_e hn (K := K2) str2 str2n (by decide) (by decide) (by decide) (by decide) hb hp hT]
  congr 1
  have hr := tk_rng (c := c) (n := n) p
  unfold kxI
  by_cases q : mkd (tk c n p) = 2
  · obtain ⟨k1, k2, k3, k4, k5, k6, -⟩ := tkw hp q
    by_cases z : widx (tw c n p) < 17
    · rw [if_pos z] at k6
      have e := (widx_i z).mp rfl
      have h2 := K2_i z
      rw [e] at h2
      by_cases y : widx (tw c n p) < 10
      · rw [if_pos y] at h2
        have := kx_lt y
        rw [h2, if_pos ⟨q, by show _ < 10; omega⟩, if_pos (by omega), k6]
      · rw [if_neg y] at h2
        rw [h2, if_neg (fun x => absurd x.2 (by decide)), if_neg (by omega)]
    · rw [if_neg z] at k6
      rw [no_idx (K := K2) (by decide) z, if_neg (fun x => absurd x.2 (by decide)), if_neg (by split at k6 <;> omega)]
  · rw [if_neg (fun x => q x.1), if_neg (fun x => q ((mkd2 hr).mpr (by omega)))]
theorem vars_e (hn : n ≤ 600) {w : Wd} (hb : MB c n w) {p : Nat} (hp : p ≤ n) (hT : MT c n p w) : X12_inWords 3 w = some (vxI (tk c n p)) := by
  rw [inK_e hn (K := K3) str3 str3n (by decide) (by decide) (by decide) (by decide) hb hp hT]
  congr 1
  have hr := tk_rng (c := c) (n := n) p
  unfold vxI
  by_cases q : mkd (tk c n p) = 2
  · obtain ⟨k1, k2, k3, k4, k5, k6, -⟩ := tkw hp q
    by_cases z : widx (tw c n p) < 17
    · rw [if_pos z] at k6
      have e := (widx_i z).mp rfl
      have h2 := K3_i z
      rw [e] at h2
      by_cases y : widx (tw c n p) < 10
      · rw [if_pos y] at h2
        rw [h2, if_neg (fun x => absurd x.2 (by decide)), if_neg (by omega)]
      · rw [if_neg y] at h2
        rw [h2, if_pos ⟨q, by show _ < 7; omega⟩, if_pos (by omega), k6]
        congr 1
        omega
    · rw [if_neg z] at k6
      rw [no_idx (K := K3) (by decide) z, if_neg (fun x => absurd x.2 (by decide)), if_neg (by split at k6 <;> omega)]
  · rw [if_neg (fun x => q x.1), if_neg (fun x => q ((mkd2 hr).mpr (by omega)))]
theorem key_e (hn : n ≤ 600) {w : Wd} (hb : MB c n w) {p : Nat} (hp : p ≤ n) (hT : MT c n p w) {t : Nat} (h1 : 100 ≤ t) (h2 : t < 110) : X12_isKey (nI (kx t)) w = some (if tk c n p = t then nI 1 else nI 0) := by
  unfold X12_isKey
  rw [keys_e hn hb hp hT]
  simp only [Option.bind_some]
  have hk : kx t < 10 := by
    have := kx_lt (i := t - 100) (by omega)
    rw [show 100 + (t - 100) = t by omega] at this
    exact this
  unfold kxI
  by_cases q : 100 ≤ tk c n p ∧ tk c n p < 110
  · have hk2 : kx (tk c n p) < 10 := by
      have := kx_lt (i := tk c n p - 100) (by omega)
      rw [show 100 + (tk c n p - 100) = tk c n p by omega] at this
      exact this
    have inj : ∀ a b : Fin 10, kx (100 + a.1) = kx (100 + b.1) → a.1 = b.1 := by decide
    have hi : kx (tk c n p) = kx t ↔ tk c n p = t := by
      constructor
      · intro e
        have := inj ⟨tk c n p - 100, by omega⟩ ⟨t - 100, by omega⟩
        simp only [show 100 + (tk c n p - 100) = tk c n p by omega, show 100 + (t - 100) = t by omega] at this
        have := this e
        omega
      · intro e; rw [e]
    rw [if_pos q]
    simp (disch := omega) only [gdn, gb0, gb1, ixn, nm1, nI_add, nI_mul, nsub, nI_ltI, nI_leI, nI_eq, eqNO, eqNO2, ltNO, NOlt, leNO, NOle, if_pos, if_neg, Option.bind_some, if_true, if_false, and_self, eq_self, l0, l1, l2, l3, l4, l5, l6, l7, l8, l9, l10, l11, l12, l13, l14, l15, l16, l17, l18, l19, l20, l24, l26, l30, l31, l32, l40, l41, l42, l43, l45, l47, l48, l57, l58, l59, l60, l61, l62, l63, l64, l97, l99, l100, l101, l102, l103, l104, l105, l106, l107, l108, l109, l110, l122, l160, l240, l255, l600, l1000, l3000, l10000, l10007, l10116, l67108863, l67108864, hi]
    split <;> rfl
  · rw [if_neg q]
    have : ¬ tk c n p = t := by omega
    simp (disch := omega) only [gdn, gb0, gb1, ixn, nm1, nI_add, nI_mul, nsub, nI_ltI, nI_leI, nI_eq, eqNO, eqNO2, ltNO, NOlt, leNO, NOle, if_pos, if_neg, Option.bind_some, if_true, if_false, and_self, eq_self, l0, l1, l2, l3, l4, l5, l6, l7, l8, l9, l10, l11, l12, l13, l14, l15, l16, l17, l18, l19, l20, l24, l26, l30, l31, l32, l40, l41, l42, l43, l45, l47, l48, l57, l58, l59, l60, l61, l62, l63, l64, l97, l99, l100, l101, l102, l103, l104, l105, l106, l107, l108, l109, l110, l122, l160, l240, l255, l600, l1000, l3000, l10000, l10007, l10116, l67108863, l67108864]
theorem sgnm_e {w : Wd} {p : Nat} (hT : MT c n p w) {t : Nat} (h1 : 40 ≤ t) (h2 : t ≤ 62) : X12_isSign (nI t) w = if tk c n p = t then nI 1 else nI 0 := by
  obtain ⟨t1, t2, t3, t4, t5⟩ := hT
  have hr := tk_rng (c := c) (n := n) p
  have hml := mkd_lt (t := tk c n p)
  unfold X12_isSign X12_isSignO
  by_cases q : 40 ≤ tk c n p ∧ tk c n p < 100
  · have hm : mkd (tk c n p) = 4 := by
      unfold mkd
      rw [if_neg (by omega), if_neg (by omega), if_neg (by omega), if_neg (by omega)]
    have t5 := t5 q.1 q.2
    rw [hm] at t1
    simp (disch := omega) only [gdn, gb0, gb1, ixn, nm1, nI_add, nI_mul, nsub, nI_ltI, nI_leI, nI_eq, eqNO, eqNO2, ltNO, NOlt, leNO, NOle, if_pos, if_neg, Option.bind_some, if_true, if_false, and_self, eq_self, l0, l1, l2, l3, l4, l5, l6, l7, l8, l9, l10, l11, l12, l13, l14, l15, l16, l17, l18, l19, l20, l24, l26, l30, l31, l32, l40, l41, l42, l43, l45, l47, l48, l57, l58, l59, l60, l61, l62, l63, l64, l97, l99, l100, l101, l102, l103, l104, l105, l106, l107, l108, l109, l110, l122, l160, l240, l255, l600, l1000, l3000, l10000, l10007, l10116, l67108863, l67108864, t1, t5]
    split <;> rfl
  · have hm : ¬ mkd (tk c n p) = 4 := by
      unfold mkd
      split
      · omega
      · split
        · omega
        · split
          · omega
          · split
            · omega
            · omega
    have : ¬ tk c n p = t := by omega
    simp (disch := omega) only [gdn, gb0, gb1, ixn, nm1, nI_add, nI_mul, nsub, nI_ltI, nI_leI, nI_eq, eqNO, eqNO2, ltNO, NOlt, leNO, NOle, if_pos, if_neg, Option.bind_some, if_true, if_false, and_self, eq_self, l0, l1, l2, l3, l4, l5, l6, l7, l8, l9, l10, l11, l12, l13, l14, l15, l16, l17, l18, l19, l20, l24, l26, l30, l31, l32, l40, l41, l42, l43, l45, l47, l48, l57, l58, l59, l60, l61, l62, l63, l64, l97, l99, l100, l101, l102, l103, l104, l105, l106, l107, l108, l109, l110, l122, l160, l240, l255, l600, l1000, l3000, l10000, l10007, l10116, l67108863, l67108864, t1]
    rfl
theorem label_e (hn : n ≤ 600) {w : Wd} (hb : MB c n w) {p : Nat} (hp : p ≤ n) (hT : MT c n p w) : X12_labelHere w = some (if tk c n p = 3 then lN (p8 (tw c n p)) else -1) := by
  have hT' := hT
  obtain ⟨t1, t2, t3, -⟩ := hT
  have hr := tk_rng (c := c) (n := n) p
  have hml := mkd_lt (t := tk c n p)
  unfold X12_labelHere
  by_cases q : mkd (tk c n p) = 2
  · obtain ⟨k1, k2, k3, k4, k5, k6, k7⟩ := tkw hp q
    rw [t1, q, if_pos (show nI 2 = (2 : Int32) from rfl), t2, t3, k3, nsub k4, show (8 : Int32) = nI 8 from rfl]
    by_cases z : we c n p - tf c n p > 8
    · have : ¬ widx (tw c n p) < 17 := widx_8 (by unfold tw; rw [wrd_l]; exact z)
      rw [if_neg this, if_pos z] at k6
      rw [if_pos (by rw [nI_ltI (by omega) (by omega)]; exact z), if_neg (by omega)]
    · rw [if_neg (by rw [nI_ltI (by omega) (by omega)]; exact z), keys_e hn hb hp hT']
      simp only [Option.bind_some]
      by_cases y : 100 ≤ tk c n p ∧ tk c n p < 110
      · have hk2 : kx (tk c n p) < 10 := by
          have := kx_lt (i := tk c n p - 100) (by omega)
          rw [show 100 + (tk c n p - 100) = tk c n p by omega] at this
          exact this
        unfold kxI
        rw [if_pos y, if_neg (by rw [show (-1 : Int32) = NO from rfl, eqNO (by omega)]; exact id), if_neg (by omega)]
      · unfold kxI
        rw [if_neg y, if_pos (show NO = (-1 : Int32) from rfl), vars_e hn hb hp hT']
        simp only [Option.bind_some]
        unfold vxI
        by_cases y2 : 110 ≤ tk c n p
        · rw [if_pos y2, if_neg (by rw [show (-1 : Int32) = NO from rfl, eqNO (by omega)]; exact id), if_neg (by omega)]
        · have ht3 : tk c n p = 3 := by
            by_cases z2 : widx (tw c n p) < 17
            · rw [if_pos z2] at k6; omega
            · rw [if_neg z2, if_neg z] at k6; exact k6
          rw [if_neg y2, if_pos (show NO = (-1 : Int32) from rfl), if_pos ht3]
          have hlp := lp_for (b := X12_labelHere_b55 w) (e := lN (p8 (tw c n p))) (fun k => (lN (p8 (wrd c (tf c n p) k)), nI (tf c n p + k))) (we c n p - tf c n p) (fun k hk => ?_) ?_ 0 (Nat.zero_le _)
          · rw [show ((0 : Int64), nI (tf c n p)) = (lN (p8 (wrd c (tf c n p) 0)), nI (tf c n p + 0)) from rfl, hlp]
            rfl
          · obtain ⟨-, hc⟩ := hb.2 (tf c n p + k) (by omega)
            unfold X12_labelHere_b55
            rw [wrd_s, p8_s]
            have h37 : w.1 97 37 = nI (we c n p) := by rw [t3, k3]
            simp (disch := omega) only [gdn, gb0, gb1, ixn, nm1, nI_add, nI_mul, nsub, nI_ltI, nI_leI, nI_eq, eqNO, eqNO2, ltNO, NOlt, leNO, NOle, if_pos, if_neg, Option.bind_some, if_true, if_false, and_self, eq_self, l0, l1, l2, l3, l4, l5, l6, l7, l8, l9, l10, l11, l12, l13, l14, l15, l16, l17, l18, l19, l20, l24, l26, l30, l31, l32, l40, l41, l42, l43, l45, l47, l48, l57, l58, l59, l60, l61, l62, l63, l64, l97, l99, l100, l101, l102, l103, l104, l105, l106, l107, l108, l109, l110, l122, l160, l240, l255, l600, l1000, l3000, l10000, l10007, l10116, l67108863, l67108864, h37, at_e hn hb]
            rw [i64_n (n := c (tf c n p + k)) (by omega), show lN (p8 (wrd c (tf c n p) k)) <<< (Int32.toInt64 (nI 8) &&& 63) = lN (p8 (wrd c (tf c n p) k) * 2 ^ 8) from l_shln (by decide), l_or, or_add (by omega), Nat.add_assoc]
          · unfold X12_labelHere_b55
            have h37 : w.1 97 37 = nI (we c n p) := by rw [t3, k3]
            simp (disch := omega) only [gdn, gb0, gb1, ixn, nm1, nI_add, nI_mul, nsub, nI_ltI, nI_leI, nI_eq, eqNO, eqNO2, ltNO, NOlt, leNO, NOle, if_pos, if_neg, Option.bind_some, if_true, if_false, and_self, eq_self, l0, l1, l2, l3, l4, l5, l6, l7, l8, l9, l10, l11, l12, l13, l14, l15, l16, l17, l18, l19, l20, l24, l26, l30, l31, l32, l40, l41, l42, l43, l45, l47, l48, l57, l58, l59, l60, l61, l62, l63, l64, l97, l99, l100, l101, l102, l103, l104, l105, l106, l107, l108, l109, l110, l122, l160, l240, l255, l600, l1000, l3000, l10000, l10007, l10116, l67108863, l67108864, h37]
            rfl
  · rw [t1, if_neg (by rw [show (2 : Int32) = nI 2 from rfl, nI_eq (by omega) (by omega)]; exact q), if_neg (fun y => q ((mkd2 hr).mpr (Or.inl y)))]
end
