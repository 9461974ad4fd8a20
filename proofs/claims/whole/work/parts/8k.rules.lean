/-! rules, struck -/
theorem lastOf_e {w : Wd} (h : IBo w) {R : List (Nat × Nat)} (hR : okRl w R) {u : Wd} (hu : FS w u) (hM : MS w R u) {d z : Nat} (hd : 104 ≤ d) (hd2 : d ≤ 106) (hz : z < 101) : X12_lastOf (nI (dm d)) (nI z) u = some (nI (lst w R d z R.length)) := by
  obtain ⟨m1, m2, m3⟩ := hM
  have hl := hR.2
  have hT := h.1.1.2
  have hdm : dm d = d - 101 := by unfold dm; rw [if_neg (by omega)]
  have hlp := lp_for (b := X12_lastOf_b5 (nI (dm d)) u) (e := nI (lst w R d z R.length)) (fun i => (nI (lst w R d z i), nI i)) R.length (fun i hi => ?_) ?_ 0 (Nat.zero_le _)
  · unfold X12_lastOf
    rw [show (nI z, (0 : Int32)) = (nI (lst w R d z 0), nI 0) from rfl, hlp]
    rfl
  · obtain ⟨-, b2, b3, -, -, ⟨⟨e37, b37⟩, hdo, m125⟩, ⟨e38, b38⟩, m126⟩ := hR.at h hi
    have r144 : u.1 144 i = nI (mI (rr R i)) := by rw [m2 i (by rw [List.length_map]; omega), getD_map (d := (0, 0)) (by omega)]; rfl
    have r125 : u.1 125 (mI (rr R i)) = nI (dm (nn w 37 (cI w (rr R i)))) := by rw [(hu.row (k := 125) (by omega) (by omega)).1]; exact m125
    have r126 := congrFun (hu.row (k := 126) (by omega) (by omega)).1 (mI (rr R i))
    have hdlt : dm (nn w 37 (cI w (rr R i))) < 100 := by unfold dm; split <;> omega
    have r146 := m3 i hi
    unfold X12_lastOf_b5 X12_lastOf_j53
    by_cases q : stk w R i
    · have nh : ¬ hit w R d i = true := fun z => (hit_iff.mp z).1 q
      have e1 : lst w R d z (i + 1) = lst w R d z i := by rw [lst, if_neg nh]
      rw [fg_t q] at r146
      rw [e1]
      simp (disch := omega) only [gdn, gb0, gb1, ixn, nm1, nI_add, nI_mul, nsub, nI_ltI, nI_leI, nI_eq, eqNO, eqNO2, ltNO, NOlt, leNO, NOle, if_pos, if_neg, Option.bind_some, if_true, if_false, and_self, eq_self, l0, l1, l2, l3, l4, l5, l6, l7, l8, l9, l10, l11, l12, l13, l14, l15, l16, l17, l18, l19, l20, l24, l26, l30, l31, l32, l40, l41, l42, l43, l45, l47, l48, l57, l58, l59, l60, l61, l62, l63, l64, l97, l99, l100, l101, l102, l103, l104, l105, l106, l107, l108, l109, l110, l122, l160, l240, l255, l600, l1000, l3000, l10000, l10007, l10116, l67108863, l67108864, I_oth, I_J, J_oth, J_I, I_row, J_row, SI_row, SI_oth, SI_J, SJ_row, SJ_oth, SJ_I, upd_s, upd_n, updL_s, updL_n, ne_eq, not_false_eq_true, m1, r146]
    · rw [fg_f q] at r146
      by_cases q2 : nn w 37 (cI w (rr R i)) = d
      · have e1 : lst w R d z (i + 1) = nn w 38 (cI w (rr R i)) := by rw [lst, if_pos (hit_iff.mpr ⟨q, q2⟩)]
        rw [q2] at r125
        rw [m126 (by omega), e38] at r126
        rw [e1]
        simp (disch := omega) only [gdn, gb0, gb1, ixn, nm1, nI_add, nI_mul, nsub, nI_ltI, nI_leI, nI_eq, eqNO, eqNO2, ltNO, NOlt, leNO, NOle, if_pos, if_neg, Option.bind_some, if_true, if_false, and_self, eq_self, l0, l1, l2, l3, l4, l5, l6, l7, l8, l9, l10, l11, l12, l13, l14, l15, l16, l17, l18, l19, l20, l24, l26, l30, l31, l32, l40, l41, l42, l43, l45, l47, l48, l57, l58, l59, l60, l61, l62, l63, l64, l97, l99, l100, l101, l102, l103, l104, l105, l106, l107, l108, l109, l110, l122, l160, l240, l255, l600, l1000, l3000, l10000, l10007, l10116, l67108863, l67108864, I_oth, I_J, J_oth, J_I, I_row, J_row, SI_row, SI_oth, SI_J, SJ_row, SJ_oth, SJ_I, upd_s, upd_n, updL_s, updL_n, ne_eq, not_false_eq_true, m1, r146, r144, r125, r126]
      · have nh : ¬ hit w R d i = true := fun z => q2 (hit_iff.mp z).2
        have e1 : lst w R d z (i + 1) = lst w R d z i := by rw [lst, if_neg nh]
        have hne : ¬ dm (nn w 37 (cI w (rr R i))) = dm d := by
          rw [hdm]
          unfold dm
          rcases hdo with y | y
          · rw [if_pos y]; omega
          · rw [if_neg (by omega)]; omega
        rw [e1]
        simp (disch := omega) only [gdn, gb0, gb1, ixn, nm1, nI_add, nI_mul, nsub, nI_ltI, nI_leI, nI_eq, eqNO, eqNO2, ltNO, NOlt, leNO, NOle, if_pos, if_neg, Option.bind_some, if_true, if_false, and_self, eq_self, l0, l1, l2, l3, l4, l5, l6, l7, l8, l9, l10, l11, l12, l13, l14, l15, l16, l17, l18, l19, l20, l24, l26, l30, l31, l32, l40, l41, l42, l43, l45, l47, l48, l57, l58, l59, l60, l61, l62, l63, l64, l97, l99, l100, l101, l102, l103, l104, l105, l106, l107, l108, l109, l110, l122, l160, l240, l255, l600, l1000, l3000, l10000, l10007, l10116, l67108863, l67108864, I_oth, I_J, J_oth, J_I, I_row, J_row, SI_row, SI_oth, SI_J, SJ_row, SJ_oth, SJ_I, upd_s, upd_n, updL_s, updL_n, ne_eq, not_false_eq_true, m1, r146, r144, r125]
  · unfold X12_lastOf_b5
    simp (disch := omega) only [gdn, gb0, gb1, ixn, nm1, nI_add, nI_mul, nsub, nI_ltI, nI_leI, nI_eq, eqNO, eqNO2, ltNO, NOlt, leNO, NOle, if_pos, if_neg, Option.bind_some, if_true, if_false, and_self, eq_self, l0, l1, l2, l3, l4, l5, l6, l7, l8, l9, l10, l11, l12, l13, l14, l15, l16, l17, l18, l19, l20, l24, l26, l30, l31, l32, l40, l41, l42, l43, l45, l47, l48, l57, l58, l59, l60, l61, l62, l63, l64, l97, l99, l100, l101, l102, l103, l104, l105, l106, l107, l108, l109, l110, l122, l160, l240, l255, l600, l1000, l3000, l10000, l10007, l10116, l67108863, l67108864, I_oth, I_J, J_oth, J_I, I_row, J_row, SI_row, SI_oth, SI_J, SJ_row, SJ_oth, SJ_I, upd_s, upd_n, updL_s, updL_n, ne_eq, not_false_eq_true, m1]
/-! the kept part of the book, for the invariants -/
def sR_B : List Nat := [31, 32, 33, 34, 35, 36, 37, 38, 122, 123, 124, 125, 126, 132, 133]
def sF_B : List (Nat × Nat) := [(30, 0), (97, 42)]
theorem IBo.sm {w w' : Wd} (h : IBo w) (e : Sm sR_B sF_B w w') : IBo w' := by
  have r31 := (e.1 31 (by decide)).1
  have r32 := (e.1 32 (by decide)).1
  have r33 := (e.1 33 (by decide)).1
  have r34 := (e.1 34 (by decide)).1
  have r35 := (e.1 35 (by decide)).2
  have r36 := (e.1 36 (by decide)).2
  have r37 := (e.1 37 (by decide)).1
  have r38 := (e.1 38 (by decide)).1
  have r122 := (e.1 122 (by decide)).1
  have r123 := (e.1 123 (by decide)).1
  have r124 := (e.1 124 (by decide)).1
  have r125 := (e.1 125 (by decide)).1
  have r126 := (e.1 126 (by decide)).1
  have r132 := (e.1 132 (by decide)).2
  have r133 := (e.1 133 (by decide)).2
  have f0 : w'.1 30 0 = w.1 30 0 := (e.2 (30, 0) (by decide)).1
  have f1 : w'.1 97 42 = w.1 97 42 := (e.2 (97, 42) (by decide)).1
  have ek : wkF w' = wkF w := by unfold wkF nn; rw [r31]
  unfold IBo RuleOK isN at h ⊢
  unfold nn at h ⊢
  rw [ek]
  simp only [r31, r32, r33, r34, r35, r36, r37, r38, r122, r123, r124, r125, r126, r132, r133, f0, f1]
  exact h
theorem SB.of {w w' : Wd} (e : Sm sR_B sF_B w w') : SB w w' := by
  have r33 := (e.1 33 (by decide)).1
  have r124 := (e.1 124 (by decide)).1
  have r35 := (e.1 35 (by decide)).2
  have r36 := (e.1 36 (by decide)).2
  have r37 := (e.1 37 (by decide)).1
  have r38 := (e.1 38 (by decide)).1
  exact ⟨fun t _ => by rw [r33], fun t _ => by rw [r124], fun t _ => by rw [r35], fun t _ => by rw [r36], fun t _ => by rw [r37], fun t _ => by rw [r38]⟩
def sR_G : List Nat := [31, 32, 33, 34, 35, 36, 37, 38, 122, 123, 124, 125, 126, 132, 133, 45, 46, 47, 48, 49, 50, 51, 52, 53, 54, 55, 56, 57, 58, 59, 60, 61, 62, 63, 64]
theorem st_in {s j : Nat} (hs : s < 4) (hj : j < 5) : stc s + j ∈ sR_G := by
  have : stc s + j = 45 + 5 * s + j := rfl
  have h1 : (List.range 20).all (fun q => sR_G.contains (45 + q)) = true := by decide
  have h2 := List.all_eq_true.mp h1 (5 * s + j) (List.mem_range.mpr (by omega))
  rw [this, show 45 + 5 * s + j = 45 + (5 * s + j) by omega]
  exact List.contains_iff_mem.mp h2
theorem IG.sm {w w' : Wd} (hB : IBo w) (h : IG w) (e : Sm sR_G sF_B w w') : IG w' := by
  have eB : Sm sR_B sF_B w w' := e.sub (by decide) (fun _ z => z)
  have f0 : w'.1 30 0 = w.1 30 0 := (e.2 (30, 0) (by decide)).1
  intro s hs
  have c0 := (e.1 (stc s + 0) (st_in hs (by omega))).1
  rw [Nat.add_zero] at c0
  rcases h s hs with z | ⟨m, hm, z, hg⟩
  · exact Or.inl (by rw [c0]; exact z)
  · refine Or.inr ⟨m, by rw [nn_eq f0]; exact hm, by rw [c0]; exact z, GA_c hB hg (SB.of eB) (tl_c f0 (eB.1 34 (by decide)).1) (fun j hj => (e.1 (stc s + j) (st_in hs hj)).1)⟩
theorem FG.smB {c : Nat} {w w' : Wd} (h : FG c w w') (h1 : 45 ≤ c) (h2 : c + 5 ≤ 65) : Sm sR_B sF_B w w' := by
  refine ⟨fun k hk => h k ?_, fun q hq => ?_⟩
  · unfold sR_B at hk
    simp only [List.mem_cons, List.not_mem_nil, or_false] at hk
    omega
  · unfold sF_B at hq
    simp only [List.mem_cons, List.not_mem_nil, or_false] at hq
    rcases hq with rfl | rfl
    · exact ⟨congrFun (h 30 (by omega)).1 0, congrFun (h 30 (by omega)).2 0⟩
    · exact ⟨congrFun (h 97 (by omega)).1 42, congrFun (h 97 (by omega)).2 42⟩
theorem IG.fg {w w' : Wd} (hB : IBo w) (h : IG w) {s m : Nat} (hs : s < 4) (e : FG (stc s) w w') (hm : m < 2 ^ (nn w 30 0)) (h0 : w'.1 (stc s) 0 = nI m) (hg : GA w' (stc s) m) : IG w' := by
  have hc : stc s = 45 + 5 * s := rfl
  have eB := e.smB (by omega) (by omega)
  have f0 : w'.1 30 0 = w.1 30 0 := (eB.2 (30, 0) (by decide)).1
  intro r hr
  by_cases q : r = s
  · subst q
    exact Or.inr ⟨m, by rw [nn_eq f0]; exact hm, h0, hg⟩
  · have hcr : stc r = 45 + 5 * r := rfl
    have c0 := (e (stc r) (by omega)).1
    rcases h r hr with z | ⟨m', hm', z, hg'⟩
    · exact Or.inl (by rw [c0]; exact z)
    · exact Or.inr ⟨m', by rw [nn_eq f0]; exact hm', by rw [c0]; exact z, GA_c hB hg' (SB.of eB) (tl_c f0 (eB.1 34 (by decide)).1) (fun j hj => (e (stc r + j) (by omega)).1)⟩
theorem RS_c {w w' : Wd} (h : IBo w) (e : Sm sR_B sF_B w w') {s week : Nat} : RS w' s week = RS w s week := by
  have f0 : w'.1 30 0 = w.1 30 0 := (e.2 (30, 0) (by decide)).1
  unfold RS
  have hi : inF w' s week = inF w s week := by
    funext t
    unfold inF nn
    rw [(e.1 31 (by decide)).1, (e.1 32 (by decide)).1]
  rw [hi, tl_c f0 (e.1 34 (by decide)).1]
  exact rl_c (fun t _ => nn_eq (by rw [(e.1 124 (by decide)).1]))
/-- what a standing tells -/
theorem standing_e {w : Wd} (h : IBo w) (hG : IG w) {s week : Nat} (hs : s < 4) (hw : week < 60) : ∃ w', X0_standingIn (nI s) (nI week) w = some (s, w') ∧ FG (stc s) w w' ∧ IBo w' ∧ IG w' ∧ GAr w' (stc s) (RS w s week) ∧ GAs w' (stc s) (RS w s week) ∧ GAl w' w' (stc s) (RS w s week) (RS w s week).length := by
  have hc : stc s = 45 + 5 * s := rfl
  obtain ⟨w', h1, h2, h3, h4⟩ := standingIn_e h hG hs hw
  have eB := h2.smB (by omega) (by omega)
  refine ⟨w', h1, h2, h.sm eB, hG.fg h hs h2 (mkS_lt _ _) h3 h4, ?_⟩
  have f0 : w'.1 30 0 = w.1 30 0 := (eB.2 (30, 0) (by decide)).1
  have ht : rl w' (tl w' (msk w s week).testBit) = RS w s week := by
    rw [tl_c f0 (eB.1 34 (by decide)).1, tl_msk h]
    exact rl_c (fun t _ => nn_eq (by rw [(eB.1 124 (by decide)).1]))
  unfold GA at h4
  rw [ht] at h4
  exact h4
theorem FS.smB {w w' : Wd} (h : FS w w') : Sm sR_B sF_B w w' := Fr.sm h (by decide)
theorem FS.smG {w w' : Wd} (h : FS w w') : Sm sR_G sF_B w w' := Fr.sm h (by decide)
theorem St.smG {w w' : Wd} (h : St w w') : Sm sR_G sF_B w w' := h.fr.sm (by decide)
theorem two_gv {f g : Wd → Option (Int32 × Wd)} {w w1 : Wd} {P : Wd → Prop} {v : Int32} (k1 : f w = some (v, puI w1 0 10 (nI 0))) (k2 : ∃ w2, g (puI w1 0 10 (nI 0)) = some (v, puI w2 97 0 (nI 0)) ∧ P (puI w2 97 0 (nI 0))) : two f g w P := by
  obtain ⟨w2, k2, k3⟩ := k2
  exact ⟨v, _, _, k1, k2, k3⟩
theorem o_rules (a1 a2 a3 : Int32) {w : Wd} (hB : IBo w) (hG : IG w) : two (X11_rules a1 a2 a3) (X12_rules a1 a2 a3) w (fun w' => IS w' ∧ IBo w' ∧ IG w') := by
  by_cases hv : (0 ≤ a1.toInt ∧ a1.toInt < ((4 : Nat) : Int)) ∧ (0 ≤ a2.toInt ∧ a2.toInt < ((60 : Nat) : Int)) ∧ (0 ≤ a3.toInt ∧ a3.toInt < ((4 : Nat) : Int))
  · obtain ⟨v1, v2, v3⟩ := hv
    obtain ⟨s, hs, rfl⟩ := of_t v1
    obtain ⟨week, hw, rfl⟩ := of_t v2
    obtain ⟨x, hx, rfl⟩ := of_t v3
    have hc : stc s = 45 + 5 * s := rfl
    obtain ⟨w1, c1, c2, c3, c4, ⟨c5, -⟩, -, ⟨-, -, c8, c9, c10⟩⟩ := standing_e hB hG hs hw
    have e0 : Sm sR_G sF_B w1 (puI w1 0 10 (nI 0)) := fr_0.sm (by decide)
    have e0B : Sm sR_B sF_B w1 (puI w1 0 10 (nI 0)) := fr_0.sm (by decide)
    have hR : RS (puI w1 0 10 (nI 0)) s week = RS w s week := (RS_c c3 e0B).trans (RS_c hB (c2.smB (by omega) (by omega)))
    have hB1 : IBo (puI w1 0 10 (nI 0)) := c3.sm e0B
    obtain ⟨w2, d1, d2, d3⟩ := stand_e hB1 hs hw
    rw [hR] at d3
    have hRok : okRl (puI w1 0 10 (nI 0)) (RS w s week) := by rw [← hR]; exact okRl_tl hB1
    have hRok1 : okRl w1 (RS w s week) := by
      have := okRl_tl c3 (p := inF w1 s week)
      rw [← RS_c hB (c2.smB (by omega) (by omega)) (s := s) (week := week)]; exact this
    have lq : ∀ d z, lst (puI w1 0 10 (nI 0)) (RS w s week) d z (RS w s week).length = lst w1 (RS w s week) d z (RS w s week).length := fun d z => SB_lst (SB.of e0B) c3 hRok1 _ (Nat.le_refl _)
    have post : IS (puI w2 97 0 (nI 0)) ∧ IBo (puI w2 97 0 (nI 0)) ∧ IG (puI w2 97 0 (nI 0)) := by
      have k1 : Fr [] [(97, 0)] w2 (puI w2 97 0 (nI 0)) := Fr.pfI Fr.rf (by decide)
      have hB2 := hB1.sm d2.smB
      refine ⟨?_, hB2.sm (k1.sm (by decide)), IG.sm hB2 (IG.sm hB1 (IG.sm c3 c4 e0) d2.smG) (k1.sm (by decide))⟩
      unfold IS
      rw [I_oth (by decide), I_self]
      rw [(d2.row (k := 0) (by omega) (by omega)).1, I_self]
    refine two_gv (v := if x = 0 then nI (RS w s week).length else if x = 1 then nI (lst w1 (RS w s week) 104 40 (RS w s week).length) else if x = 2 then nI (lst w1 (RS w s week) 105 0 (RS w s week).length) else nI (lst w1 (RS w s week) 106 100 (RS w s week).length)) (w1 := w1) ?_ ⟨w2, ?_, post⟩
    · unfold X11_rules
      have hx4 : x = 0 ∨ x = 1 ∨ x = 2 ∨ x = 3 := by omega
      rcases hx4 with rfl | rfl | rfl | rfl
      · simp (disch := omega) only [gdn, gb0, gb1, ixn, nm1, nI_add, nI_mul, nsub, nI_ltI, nI_leI, nI_eq, eqNO, eqNO2, ltNO, NOlt, leNO, NOle, if_pos, if_neg, Option.bind_some, if_true, if_false, and_self, eq_self, l0, l1, l2, l3, l4, l5, l6, l7, l8, l9, l10, l11, l12, l13, l14, l15, l16, l17, l18, l19, l20, l24, l26, l30, l31, l32, l40, l41, l42, l43, l45, l47, l48, l57, l58, l59, l60, l61, l62, l63, l64, l97, l99, l100, l101, l102, l103, l104, l105, l106, l107, l108, l109, l110, l122, l160, l240, l255, l600, l1000, l3000, l10000, l10007, l10116, l67108863, l67108864, I_oth, I_J, J_oth, J_I, I_row, J_row, SI_row, SI_oth, SI_J, SJ_row, SJ_oth, SJ_I, upd_s, upd_n, updL_s, updL_n, ne_eq, not_false_eq_true, lt_t, le_t, tI, NO_t, flag0, flag1, ite_or2, ite_self, true_or, or_true, false_or, or_false, true_and, and_true, false_and, and_false, not_true_eq_false, shire_e, week_e, win, c1, gd_t hs, answer_e, c5]
      · simp (disch := omega) only [gdn, gb0, gb1, ixn, nm1, nI_add, nI_mul, nsub, nI_ltI, nI_leI, nI_eq, eqNO, eqNO2, ltNO, NOlt, leNO, NOle, if_pos, if_neg, Option.bind_some, if_true, if_false, and_self, eq_self, l0, l1, l2, l3, l4, l5, l6, l7, l8, l9, l10, l11, l12, l13, l14, l15, l16, l17, l18, l19, l20, l24, l26, l30, l31, l32, l40, l41, l42, l43, l45, l47, l48, l57, l58, l59, l60, l61, l62, l63, l64, l97, l99, l100, l101, l102, l103, l104, l105, l106, l107, l108, l109, l110, l122, l160, l240, l255, l600, l1000, l3000, l10000, l10007, l10116, l67108863, l67108864, I_oth, I_J, J_oth, J_I, I_row, J_row, SI_row, SI_oth, SI_J, SJ_row, SJ_oth, SJ_I, upd_s, upd_n, updL_s, updL_n, ne_eq, not_false_eq_true, lt_t, le_t, tI, NO_t, flag0, flag1, ite_or2, ite_self, true_or, or_true, false_or, or_false, true_and, and_true, false_and, and_false, not_true_eq_false, shire_e, week_e, win, c1, gd_t hs, answer_e, c8]
      · simp (disch := omega) only [gdn, gb0, gb1, ixn, nm1, nI_add, nI_mul, nsub, nI_ltI, nI_leI, nI_eq, eqNO, eqNO2, ltNO, NOlt, leNO, NOle, if_pos, if_neg, Option.bind_some, if_true, if_false, and_self, eq_self, l0, l1, l2, l3, l4, l5, l6, l7, l8, l9, l10, l11, l12, l13, l14, l15, l16, l17, l18, l19, l20, l24, l26, l30, l31, l32, l40, l41, l42, l43, l45, l47, l48, l57, l58, l59, l60, l61, l62, l63, l64, l97, l99, l100, l101, l102, l103, l104, l105, l106, l107, l108, l109, l110, l122, l160, l240, l255, l600, l1000, l3000, l10000, l10007, l10116, l67108863, l67108864, I_oth, I_J, J_oth, J_I, I_row, J_row, SI_row, SI_oth, SI_J, SJ_row, SJ_oth, SJ_I, upd_s, upd_n, updL_s, updL_n, ne_eq, not_false_eq_true, lt_t, le_t, tI, NO_t, flag0, flag1, ite_or2, ite_self, true_or, or_true, false_or, or_false, true_and, and_true, false_and, and_false, not_true_eq_false, shire_e, week_e, win, c1, gd_t hs, answer_e, c9]
      · simp (disch := omega) only [gdn, gb0, gb1, ixn, nm1, nI_add, nI_mul, nsub, nI_ltI, nI_leI, nI_eq, eqNO, eqNO2, ltNO, NOlt, leNO, NOle, if_pos, if_neg, Option.bind_some, if_true, if_false, and_self, eq_self, l0, l1, l2, l3, l4, l5, l6, l7, l8, l9, l10, l11, l12, l13, l14, l15, l16, l17, l18, l19, l20, l24, l26, l30, l31, l32, l40, l41, l42, l43, l45, l47, l48, l57, l58, l59, l60, l61, l62, l63, l64, l97, l99, l100, l101, l102, l103, l104, l105, l106, l107, l108, l109, l110, l122, l160, l240, l255, l600, l1000, l3000, l10000, l10007, l10116, l67108863, l67108864, I_oth, I_J, J_oth, J_I, I_row, J_row, SI_row, SI_oth, SI_J, SJ_row, SJ_oth, SJ_I, upd_s, upd_n, updL_s, updL_n, ne_eq, not_false_eq_true, lt_t, le_t, tI, NO_t, flag0, flag1, ite_or2, ite_self, true_or, or_true, false_or, or_false, true_and, and_true, false_and, and_false, not_true_eq_false, shire_e, week_e, win, c1, gd_t hs, answer_e, c10]
    · have t3 := lastOf_e hB1 hRok d2 d3 (d := 104) (z := 40) (by omega) (by omega) (by omega)
      have t4 := lastOf_e hB1 hRok d2 d3 (d := 105) (z := 0) (by omega) (by omega) (by omega)
      have t5 := lastOf_e hB1 hRok d2 d3 (d := 106) (z := 100) (by omega) (by omega) (by omega)
      rw [lq] at t3 t4 t5
      rw [show dm 104 = 3 from rfl] at t3
      rw [show dm 105 = 4 from rfl] at t4
      rw [show dm 106 = 5 from rfl] at t5
      unfold X12_rules X12_rules_j83
      have hx4 : x = 0 ∨ x = 1 ∨ x = 2 ∨ x = 3 := by omega
      rcases hx4 with rfl | rfl | rfl | rfl
      · simp (disch := omega) only [gdn, gb0, gb1, ixn, nm1, nI_add, nI_mul, nsub, nI_ltI, nI_leI, nI_eq, eqNO, eqNO2, ltNO, NOlt, leNO, NOle, if_pos, if_neg, Option.bind_some, if_true, if_false, and_self, eq_self, l0, l1, l2, l3, l4, l5, l6, l7, l8, l9, l10, l11, l12, l13, l14, l15, l16, l17, l18, l19, l20, l24, l26, l30, l31, l32, l40, l41, l42, l43, l45, l47, l48, l57, l58, l59, l60, l61, l62, l63, l64, l97, l99, l100, l101, l102, l103, l104, l105, l106, l107, l108, l109, l110, l122, l160, l240, l255, l600, l1000, l3000, l10000, l10007, l10116, l67108863, l67108864, I_oth, I_J, J_oth, J_I, I_row, J_row, SI_row, SI_oth, SI_J, SJ_row, SJ_oth, SJ_I, upd_s, upd_n, updL_s, updL_n, ne_eq, not_false_eq_true, lt_t, le_t, tI, NO_t, flag0, flag1, ite_or2, ite_self, true_or, or_true, false_or, or_false, true_and, and_true, false_and, and_false, not_true_eq_false, mshire_e, mweek_e, d1, mgiv_e, d3.1]
      · simp (disch := omega) only [gdn, gb0, gb1, ixn, nm1, nI_add, nI_mul, nsub, nI_ltI, nI_leI, nI_eq, eqNO, eqNO2, ltNO, NOlt, leNO, NOle, if_pos, if_neg, Option.bind_some, if_true, if_false, and_self, eq_self, l0, l1, l2, l3, l4, l5, l6, l7, l8, l9, l10, l11, l12, l13, l14, l15, l16, l17, l18, l19, l20, l24, l26, l30, l31, l32, l40, l41, l42, l43, l45, l47, l48, l57, l58, l59, l60, l61, l62, l63, l64, l97, l99, l100, l101, l102, l103, l104, l105, l106, l107, l108, l109, l110, l122, l160, l240, l255, l600, l1000, l3000, l10000, l10007, l10116, l67108863, l67108864, I_oth, I_J, J_oth, J_I, I_row, J_row, SI_row, SI_oth, SI_J, SJ_row, SJ_oth, SJ_I, upd_s, upd_n, updL_s, updL_n, ne_eq, not_false_eq_true, lt_t, le_t, tI, NO_t, flag0, flag1, ite_or2, ite_self, true_or, or_true, false_or, or_false, true_and, and_true, false_and, and_false, not_true_eq_false, mshire_e, mweek_e, d1, mgiv_e, t3]
      · simp (disch := omega) only [gdn, gb0, gb1, ixn, nm1, nI_add, nI_mul, nsub, nI_ltI, nI_leI, nI_eq, eqNO, eqNO2, ltNO, NOlt, leNO, NOle, if_pos, if_neg, Option.bind_some, if_true, if_false, and_self, eq_self, l0, l1, l2, l3, l4, l5, l6, l7, l8, l9, l10, l11, l12, l13, l14, l15, l16, l17, l18, l19, l20, l24, l26, l30, l31, l32, l40, l41, l42, l43, l45, l47, l48, l57, l58, l59, l60, l61, l62, l63, l64, l97, l99, l100, l101, l102, l103, l104, l105, l106, l107, l108, l109, l110, l122, l160, l240, l255, l600, l1000, l3000, l10000, l10007, l10116, l67108863, l67108864, I_oth, I_J, J_oth, J_I, I_row, J_row, SI_row, SI_oth, SI_J, SJ_row, SJ_oth, SJ_I, upd_s, upd_n, updL_s, updL_n, ne_eq, not_false_eq_true, lt_t, le_t, tI, NO_t, flag0, flag1, ite_or2, ite_self, true_or, or_true, false_or, or_false, true_and, and_true, false_and, and_false, not_true_eq_false, mshire_e, mweek_e, d1, mgiv_e, t4]
      · simp (disch := omega) only [gdn, gb0, gb1, ixn, nm1, nI_add, nI_mul, nsub, nI_ltI, nI_leI, nI_eq, eqNO, eqNO2, ltNO, NOlt, leNO, NOle, if_pos, if_neg, Option.bind_some, if_true, if_false, and_self, eq_self, l0, l1, l2, l3, l4, l5, l6, l7, l8, l9, l10, l11, l12, l13, l14, l15, l16, l17, l18, l19, l20, l24, l26, l30, l31, l32, l40, l41, l42, l43, l45, l47, l48, l57, l58, l59, l60, l61, l62, l63, l64, l97, l99, l100, l101, l102, l103, l104, l105, l106, l107, l108, l109, l110, l122, l160, l240, l255, l600, l1000, l3000, l10000, l10007, l10116, l67108863, l67108864, I_oth, I_J, J_oth, J_I, I_row, J_row, SI_row, SI_oth, SI_J, SJ_row, SJ_oth, SJ_I, upd_s, upd_n, updL_s, updL_n, ne_eq, not_false_eq_true, lt_t, le_t, tI, NO_t, flag0, flag1, ite_or2, ite_self, true_or, or_true, false_or, or_false, true_and, and_true, false_and, and_false, not_true_eq_false, mshire_e, mweek_e, d1, mgiv_e, t5]
  · refine two_ref (nI 1) (r := NO) ?_ ?_ (fun w' z => ⟨z.is, hB.sm (z.fr.sm (by decide)), IG.sm hB hG z.smG⟩)
    · unfold X11_rules X11_rules_j23
      rw [show (3 : Int32) = nI 3 from rfl]
      simp (disch := omega) only [gdn, gb0, gb1, ixn, nm1, nI_add, nI_mul, nsub, nI_ltI, nI_leI, nI_eq, eqNO, eqNO2, ltNO, NOlt, leNO, NOle, if_pos, if_neg, Option.bind_some, if_true, if_false, and_self, eq_self, l0, l1, l2, l3, l4, l5, l6, l7, l8, l9, l10, l11, l12, l13, l14, l15, l16, l17, l18, l19, l20, l24, l26, l30, l31, l32, l40, l41, l42, l43, l45, l47, l48, l57, l58, l59, l60, l61, l62, l63, l64, l97, l99, l100, l101, l102, l103, l104, l105, l106, l107, l108, l109, l110, l122, l160, l240, l255, l600, l1000, l3000, l10000, l10007, l10116, l67108863, l67108864, I_oth, I_J, J_oth, J_I, I_row, J_row, SI_row, SI_oth, SI_J, SJ_row, SJ_oth, SJ_I, upd_s, upd_n, updL_s, updL_n, ne_eq, not_false_eq_true, lt_t, le_t, tI, NO_t, flag0, flag1, ite_or2, ite_self, true_or, or_true, false_or, or_false, true_and, and_true, false_and, and_false, not_true_eq_false, shire_e, week_e, win, deny_e]
    · unfold X12_rules X12_rules_j23
      simp (disch := omega) only [gdn, gb0, gb1, ixn, nm1, nI_add, nI_mul, nsub, nI_ltI, nI_leI, nI_eq, eqNO, eqNO2, ltNO, NOlt, leNO, NOle, if_pos, if_neg, Option.bind_some, if_true, if_false, and_self, eq_self, l0, l1, l2, l3, l4, l5, l6, l7, l8, l9, l10, l11, l12, l13, l14, l15, l16, l17, l18, l19, l20, l24, l26, l30, l31, l32, l40, l41, l42, l43, l45, l47, l48, l57, l58, l59, l60, l61, l62, l63, l64, l97, l99, l100, l101, l102, l103, l104, l105, l106, l107, l108, l109, l110, l122, l160, l240, l255, l600, l1000, l3000, l10000, l10007, l10116, l67108863, l67108864, I_oth, I_J, J_oth, J_I, I_row, J_row, SI_row, SI_oth, SI_J, SJ_row, SJ_oth, SJ_I, upd_s, upd_n, updL_s, updL_n, ne_eq, not_false_eq_true, lt_t, le_t, tI, NO_t, flag0, flag1, ite_or2, ite_self, true_or, or_true, false_or, or_false, true_and, and_true, false_and, and_false, not_true_eq_false, mshire_e, mweek_e, mref_e]
theorem o_struck (a1 a2 a3 : Int32) {w : Wd} (hB : IBo w) (hG : IG w) : two (X11_struck a1 a2 a3) (X12_struck a1 a2 a3) w (fun w' => IS w' ∧ IBo w' ∧ IG w') := by
  by_cases hv : (0 ≤ a1.toInt ∧ a1.toInt < ((4 : Nat) : Int)) ∧ (0 ≤ a2.toInt ∧ a2.toInt < ((60 : Nat) : Int))
  · obtain ⟨v1, v2⟩ := hv
    obtain ⟨s, hs, rfl⟩ := of_t v1
    obtain ⟨week, hw, rfl⟩ := of_t v2
    have hc : stc s = 45 + 5 * s := rfl
    obtain ⟨w1, c1, c2, c3, c4, ⟨c5, -⟩, c6, -⟩ := standing_e hB hG hs hw
    have hRok1 : okRl w1 (RS w s week) := by
      have := okRl_tl c3 (p := inF w1 s week)
      rw [← RS_c hB (c2.smB (by omega) (by omega)) (s := s) (week := week)]; exact this
    have hlen := hRok1.2
    have key : ∀ x : Int32, ∃ w2, X12_stand (nI s) (nI week) (puI w1 0 10 x) = some w2 ∧ MS w1 (RS w s week) w2 ∧ (∀ y, w2.1 0 10 = x ∧ IBo (puI w2 97 0 y) ∧ IG (puI w2 97 0 y)) := by
      intro x
      have e0 : Sm sR_G sF_B w1 (puI w1 0 10 x) := fr_0.sm (by decide)
      have e0B : Sm sR_B sF_B w1 (puI w1 0 10 x) := fr_0.sm (by decide)
      have hR : RS (puI w1 0 10 x) s week = RS w s week := (RS_c c3 e0B).trans (RS_c hB (c2.smB (by omega) (by omega)))
      have hB1 : IBo (puI w1 0 10 x) := c3.sm e0B
      obtain ⟨w2, d1, d2, d3⟩ := stand_e hB1 hs hw
      rw [hR] at d3
      refine ⟨w2, d1, ⟨d3.1, d3.2.1, fun i hi => (d3.2.2 i hi).trans (fg_c (stk_c c3 hRok1 (SB.of e0B).1 (SB.of e0B).2.2.1 (SB.of e0B).2.2.2.1 hi))⟩, fun y => ?_⟩
      have k1 : Fr [] [(97, 0)] w2 (puI w2 97 0 y) := Fr.pfI Fr.rf (by decide)
      have hB2 := hB1.sm d2.smB
      refine ⟨?_, hB2.sm (k1.sm (by decide)), IG.sm hB2 (IG.sm hB1 (IG.sm c3 c4 e0) d2.smG) (k1.sm (by decide))⟩
      rw [(d2.row (k := 0) (by omega) (by omega)).1, I_self]
    have isE : ∀ (x : Int32) (w2 : Wd), w2.1 0 10 = x → IS (puI w2 97 0 x) := fun x w2 hx => by
      unfold IS
      rw [I_oth (by decide), I_self]; exact hx
    by_cases hr : 0 ≤ a3.toInt ∧ a3.toInt < ((RS w s week).length : Int)
    · obtain ⟨x, hx, rfl⟩ := of_t hr
      obtain ⟨w2, d1, d3, d4⟩ := key (nI 0)
      have k1 : X11_struck (nI s) (nI week) (nI x) w = some (fg (stk w1 (RS w s week) x), puI w1 0 10 (nI 0)) := by
        have r1 := c6 x hx
        unfold X11_struck
        have hwi : X11_within (nI x) 0 (w1.1 (stc s) 1 - 1) w1 = nI 1 := by
          rw [wic (n := (RS w s week).length) _ _ c5 (by omega), tI (by omega), if_pos (by omega)]
        by_cases q : stk w1 (RS w s week) x
        · rw [fg_t q] at r1 ⊢
          have q1 : (nI 1 = nI 0) = False := by rw [nI_eq (by omega) (by omega)]; simp
          simp only [show (0 : Int32) = nI 0 from rfl, show (1 : Int32) = nI 1 from rfl] at hwi
          simp (disch := omega) only [gdn, gb0, gb1, ixn, nm1, nI_add, nI_mul, nsub, nI_ltI, nI_leI, nI_eq, eqNO, eqNO2, ltNO, NOlt, leNO, NOle, if_pos, if_neg, Option.bind_some, if_true, if_false, and_self, eq_self, l0, l1, l2, l3, l4, l5, l6, l7, l8, l9, l10, l11, l12, l13, l14, l15, l16, l17, l18, l19, l20, l24, l26, l30, l31, l32, l40, l41, l42, l43, l45, l47, l48, l57, l58, l59, l60, l61, l62, l63, l64, l97, l99, l100, l101, l102, l103, l104, l105, l106, l107, l108, l109, l110, l122, l160, l240, l255, l600, l1000, l3000, l10000, l10007, l10116, l67108863, l67108864, I_oth, I_J, J_oth, J_I, I_row, J_row, SI_row, SI_oth, SI_J, SJ_row, SJ_oth, SJ_I, upd_s, upd_n, updL_s, updL_n, ne_eq, not_false_eq_true, lt_t, le_t, tI, NO_t, flag0, flag1, ite_or2, ite_self, true_or, or_true, false_or, or_false, true_and, and_true, false_and, and_false, not_true_eq_false, shire_e, week_e, hwi, c1, gd_t hs, ansW_e, r1]
        · rw [fg_f q] at r1 ⊢
          simp only [show (0 : Int32) = nI 0 from rfl, show (1 : Int32) = nI 1 from rfl] at hwi
          simp (disch := omega) only [gdn, gb0, gb1, ixn, nm1, nI_add, nI_mul, nsub, nI_ltI, nI_leI, nI_eq, eqNO, eqNO2, ltNO, NOlt, leNO, NOle, if_pos, if_neg, Option.bind_some, if_true, if_false, and_self, eq_self, l0, l1, l2, l3, l4, l5, l6, l7, l8, l9, l10, l11, l12, l13, l14, l15, l16, l17, l18, l19, l20, l24, l26, l30, l31, l32, l40, l41, l42, l43, l45, l47, l48, l57, l58, l59, l60, l61, l62, l63, l64, l97, l99, l100, l101, l102, l103, l104, l105, l106, l107, l108, l109, l110, l122, l160, l240, l255, l600, l1000, l3000, l10000, l10007, l10116, l67108863, l67108864, I_oth, I_J, J_oth, J_I, I_row, J_row, SI_row, SI_oth, SI_J, SJ_row, SJ_oth, SJ_I, upd_s, upd_n, updL_s, updL_n, ne_eq, not_false_eq_true, lt_t, le_t, tI, NO_t, flag0, flag1, ite_or2, ite_self, true_or, or_true, false_or, or_false, true_and, and_true, false_and, and_false, not_true_eq_false, shire_e, week_e, hwi, c1, gd_t hs, ansW_e, r1]
      refine two_gv (w1 := w1) k1 ⟨w2, ?_, isE _ _ (d4 (nI 0)).1, (d4 (nI 0)).2⟩
      have r1 := d3.2.2 x hx
      unfold X12_struck X12_struck_j61
      by_cases q : stk w1 (RS w s week) x
      · rw [fg_t q] at r1 ⊢
        simp (disch := omega) only [gdn, gb0, gb1, ixn, nm1, nI_add, nI_mul, nsub, nI_ltI, nI_leI, nI_eq, eqNO, eqNO2, ltNO, NOlt, leNO, NOle, if_pos, if_neg, Option.bind_some, if_true, if_false, and_self, eq_self, l0, l1, l2, l3, l4, l5, l6, l7, l8, l9, l10, l11, l12, l13, l14, l15, l16, l17, l18, l19, l20, l24, l26, l30, l31, l32, l40, l41, l42, l43, l45, l47, l48, l57, l58, l59, l60, l61, l62, l63, l64, l97, l99, l100, l101, l102, l103, l104, l105, l106, l107, l108, l109, l110, l122, l160, l240, l255, l600, l1000, l3000, l10000, l10007, l10116, l67108863, l67108864, I_oth, I_J, J_oth, J_I, I_row, J_row, SI_row, SI_oth, SI_J, SJ_row, SJ_oth, SJ_I, upd_s, upd_n, updL_s, updL_n, ne_eq, not_false_eq_true, lt_t, le_t, tI, NO_t, flag0, flag1, ite_or2, ite_self, true_or, or_true, false_or, or_false, true_and, and_true, false_and, and_false, not_true_eq_false, mshire_e, mweek_e, d1, mgiv_e, d3.1, r1]
      · rw [fg_f q] at r1 ⊢
        simp (disch := omega) only [gdn, gb0, gb1, ixn, nm1, nI_add, nI_mul, nsub, nI_ltI, nI_leI, nI_eq, eqNO, eqNO2, ltNO, NOlt, leNO, NOle, if_pos, if_neg, Option.bind_some, if_true, if_false, and_self, eq_self, l0, l1, l2, l3, l4, l5, l6, l7, l8, l9, l10, l11, l12, l13, l14, l15, l16, l17, l18, l19, l20, l24, l26, l30, l31, l32, l40, l41, l42, l43, l45, l47, l48, l57, l58, l59, l60, l61, l62, l63, l64, l97, l99, l100, l101, l102, l103, l104, l105, l106, l107, l108, l109, l110, l122, l160, l240, l255, l600, l1000, l3000, l10000, l10007, l10116, l67108863, l67108864, I_oth, I_J, J_oth, J_I, I_row, J_row, SI_row, SI_oth, SI_J, SJ_row, SJ_oth, SJ_I, upd_s, upd_n, updL_s, updL_n, ne_eq, not_false_eq_true, lt_t, le_t, tI, NO_t, flag0, flag1, ite_or2, ite_self, true_or, or_true, false_or, or_false, true_and, and_true, false_and, and_false, not_true_eq_false, mshire_e, mweek_e, d1, mgiv_e, d3.1, r1]
    · obtain ⟨w2, d1, d3, d4⟩ := key (nI 1)
      have hwi : X11_within a3 0 (w1.1 (stc s) 1 - 1) w1 = nI 0 := by
        rw [wic (n := (RS w s week).length) _ _ c5 (by omega), if_neg hr]
      refine ⟨NO, puI w1 0 10 (nI 1), puI w2 97 0 (nI 1), ?_, ?_, isE _ _ (d4 (nI 1)).1, (d4 (nI 1)).2⟩
      · unfold X11_struck
        simp only [show (0 : Int32) = nI 0 from rfl, show (1 : Int32) = nI 1 from rfl] at hwi
        simp (disch := omega) only [gdn, gb0, gb1, ixn, nm1, nI_add, nI_mul, nsub, nI_ltI, nI_leI, nI_eq, eqNO, eqNO2, ltNO, NOlt, leNO, NOle, if_pos, if_neg, Option.bind_some, if_true, if_false, and_self, eq_self, l0, l1, l2, l3, l4, l5, l6, l7, l8, l9, l10, l11, l12, l13, l14, l15, l16, l17, l18, l19, l20, l24, l26, l30, l31, l32, l40, l41, l42, l43, l45, l47, l48, l57, l58, l59, l60, l61, l62, l63, l64, l97, l99, l100, l101, l102, l103, l104, l105, l106, l107, l108, l109, l110, l122, l160, l240, l255, l600, l1000, l3000, l10000, l10007, l10116, l67108863, l67108864, I_oth, I_J, J_oth, J_I, I_row, J_row, SI_row, SI_oth, SI_J, SJ_row, SJ_oth, SJ_I, upd_s, upd_n, updL_s, updL_n, ne_eq, not_false_eq_true, lt_t, le_t, tI, NO_t, flag0, flag1, ite_or2, ite_self, true_or, or_true, false_or, or_false, true_and, and_true, false_and, and_false, not_true_eq_false, shire_e, week_e, hwi, c1, gd_t hs, deny_e]
      · unfold X12_struck X12_struck_j38
        simp (disch := omega) only [gdn, gb0, gb1, ixn, nm1, nI_add, nI_mul, nsub, nI_ltI, nI_leI, nI_eq, eqNO, eqNO2, ltNO, NOlt, leNO, NOle, if_pos, if_neg, Option.bind_some, if_true, if_false, and_self, eq_self, l0, l1, l2, l3, l4, l5, l6, l7, l8, l9, l10, l11, l12, l13, l14, l15, l16, l17, l18, l19, l20, l24, l26, l30, l31, l32, l40, l41, l42, l43, l45, l47, l48, l57, l58, l59, l60, l61, l62, l63, l64, l97, l99, l100, l101, l102, l103, l104, l105, l106, l107, l108, l109, l110, l122, l160, l240, l255, l600, l1000, l3000, l10000, l10007, l10116, l67108863, l67108864, I_oth, I_J, J_oth, J_I, I_row, J_row, SI_row, SI_oth, SI_J, SJ_row, SJ_oth, SJ_I, upd_s, upd_n, updL_s, updL_n, ne_eq, not_false_eq_true, lt_t, le_t, tI, NO_t, flag0, flag1, ite_or2, ite_self, true_or, or_true, false_or, or_false, true_and, and_true, false_and, and_false, not_true_eq_false, mshire_e, mweek_e, d1, mref_e, d3.1]
  · refine two_ref (nI 1) (r := NO) ?_ ?_ (fun w' z => ⟨z.is, hB.sm (z.fr.sm (by decide)), IG.sm hB hG z.smG⟩)
    · unfold X11_struck X11_struck_j14
      simp (disch := omega) only [gdn, gb0, gb1, ixn, nm1, nI_add, nI_mul, nsub, nI_ltI, nI_leI, nI_eq, eqNO, eqNO2, ltNO, NOlt, leNO, NOle, if_pos, if_neg, Option.bind_some, if_true, if_false, and_self, eq_self, l0, l1, l2, l3, l4, l5, l6, l7, l8, l9, l10, l11, l12, l13, l14, l15, l16, l17, l18, l19, l20, l24, l26, l30, l31, l32, l40, l41, l42, l43, l45, l47, l48, l57, l58, l59, l60, l61, l62, l63, l64, l97, l99, l100, l101, l102, l103, l104, l105, l106, l107, l108, l109, l110, l122, l160, l240, l255, l600, l1000, l3000, l10000, l10007, l10116, l67108863, l67108864, I_oth, I_J, J_oth, J_I, I_row, J_row, SI_row, SI_oth, SI_J, SJ_row, SJ_oth, SJ_I, upd_s, upd_n, updL_s, updL_n, ne_eq, not_false_eq_true, lt_t, le_t, tI, NO_t, flag0, flag1, ite_or2, ite_self, true_or, or_true, false_or, or_false, true_and, and_true, false_and, and_false, not_true_eq_false, shire_e, week_e, deny_e]
    · unfold X12_struck X12_struck_j14
      simp (disch := omega) only [gdn, gb0, gb1, ixn, nm1, nI_add, nI_mul, nsub, nI_ltI, nI_leI, nI_eq, eqNO, eqNO2, ltNO, NOlt, leNO, NOle, if_pos, if_neg, Option.bind_some, if_true, if_false, and_self, eq_self, l0, l1, l2, l3, l4, l5, l6, l7, l8, l9, l10, l11, l12, l13, l14, l15, l16, l17, l18, l19, l20, l24, l26, l30, l31, l32, l40, l41, l42, l43, l45, l47, l48, l57, l58, l59, l60, l61, l62, l63, l64, l97, l99, l100, l101, l102, l103, l104, l105, l106, l107, l108, l109, l110, l122, l160, l240, l255, l600, l1000, l3000, l10000, l10007, l10116, l67108863, l67108864, I_oth, I_J, J_oth, J_I, I_row, J_row, SI_row, SI_oth, SI_J, SJ_row, SJ_oth, SJ_I, upd_s, upd_n, updL_s, updL_n, ne_eq, not_false_eq_true, lt_t, le_t, tI, NO_t, flag0, flag1, ite_or2, ite_self, true_or, or_true, false_or, or_false, true_and, and_true, false_and, and_false, not_true_eq_false, mshire_e, mweek_e, mref_e]
