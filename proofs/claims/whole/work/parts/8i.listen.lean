theorem lst_le {w : Wd} {R : List (Nat × Nat)} {d z : Nat} (hz : z < 101) (hb : ∀ j, j < R.length → nn w 38 (cI w (rr R j)) < 101) : ∀ i, i ≤ R.length → lst w R d z i < 101
  | 0, _ => hz
  | i + 1, hi => by
    unfold lst
    split
    · exact hb i (by omega)
    · exact lst_le hz hb i (by omega)
theorem listen_e {w : Wd} (h : IBo w) {si : Nat} (hsi : si < 4) {u : Wd} (hu : FG (stc si) w u) {R : List (Nat × Nat)} (hR : okRl w R) (hg : u.1 (stc si) 1 = nI R.length) (hr : RowL (u.1 (stc si + 1)) (R.map (cI w))) (hs : ∀ j, j < R.length → u.1 (stc si + 2) j = fg (stk w R j)) : ok (X8_listen si u) (fun e => FG (stc si) w e ∧ e.1 (stc si) 0 = u.1 (stc si) 0 ∧ e.1 (stc si) 1 = u.1 (stc si) 1 ∧ e.1 (stc si + 1) = u.1 (stc si + 1) ∧ e.1 (stc si + 2) = u.1 (stc si + 2) ∧ GAl w e (stc si) R R.length) := by
  have hc : stc si = 45 + 5 * si := rfl
  have hl := hR.2
  unfold X8_listen
  simp only [Option.bind_some]
  refine ok_bi (R := fun e => FG (stc si) w e ∧ e.1 (stc si) 0 = u.1 (stc si) 0 ∧ e.1 (stc si) 1 = u.1 (stc si) 1 ∧ e.1 (stc si + 1) = u.1 (stc si + 1) ∧ e.1 (stc si + 2) = u.1 (stc si + 2) ∧ GAl w e (stc si) R R.length) ?_ (fun e he => ok_i he)
  refine lp_up (fun i s => s.1 = nI i ∧ FG (stc si) w s.2 ∧ s.2.1 (stc si) 0 = u.1 (stc si) 0 ∧ s.2.1 (stc si) 1 = u.1 (stc si) 1 ∧ s.2.1 (stc si + 1) = u.1 (stc si + 1) ∧ s.2.1 (stc si + 2) = u.1 (stc si + 2) ∧ GAl w s.2 (stc si) R i) R.length ?_ ?_ 0 _ (Nat.zero_le _) ⟨rfl, ((((hu.pu (by omega) (by omega)).pu (by omega) (by omega)).pu (by omega) (by omega)).pu (by omega) (by omega)).pu (by omega) (by omega), ?_, ?_, ?_, ?_, ?_⟩
  · rintro i ⟨s1, v⟩ hi ⟨h1, h2, h3, h4, h5, h6, ⟨a1, a2⟩, ⟨a3, a4⟩, a5, a6, a7⟩
    simp only at h1 h2 h3 h4 h5 h6 a1 a2 a3 a4 a5 a6 a7
    subst h1
    obtain ⟨-, b2, -, -, -, ⟨⟨e37, b37⟩, hd, -⟩, ⟨e38, b38⟩, -⟩ := hR.at h hi
    have g3 : v.1 (stc si) 1 = nI R.length := by rw [h4]; exact hg
    have rj : v.1 (stc si + 1) i = nI (cI w (rr R i)) := by
      rw [h5]
      have := hr i (by rw [List.length_map]; omega)
      rw [getD_map (d := (0, 0)) (by omega)] at this
      exact this
    have rs : v.1 (stc si + 2) i = fg (stk w R i) := by rw [h6]; exact hs i hi
    have r37 := (congrFun (h2 37 (by omega)).1 (cI w (rr R i))).trans e37
    have r38 := (congrFun (h2 38 (by omega)).1 (cI w (rr R i))).trans e38
    have ln1 := slc_len (w := w) (R := R) (d := 101) (i := i)
    have ln3 := slc_len (w := w) (R := R) (d := 103) (i := i)
    unfold X8_listen_b29
    by_cases q : stk w R i
    · have nh : ∀ d, ¬ hit w R d i = true := fun d z => (hit_iff.mp z).1 q
      rw [fg_t q] at rs
      unfold X8_listen_j63 X8_listen_j185
      simp (disch := omega) only [gdn, gb0, gb1, ixn, nm1, nI_add, nI_mul, nsub, nI_ltI, nI_leI, nI_eq, eqNO, eqNO2, ltNO, NOlt, leNO, NOle, if_pos, if_neg, Option.bind_some, if_true, if_false, and_self, eq_self, l0, l1, l2, l3, l4, l5, l6, l7, l8, l9, l10, l11, l12, l13, l14, l15, l16, l17, l18, l19, l20, l24, l26, l30, l31, l32, l40, l41, l42, l43, l45, l47, l48, l57, l58, l59, l60, l61, l62, l63, l64, l97, l99, l100, l101, l102, l103, l104, l105, l106, l107, l108, l109, l110, l122, l160, l240, l255, l600, l1000, l3000, l10000, l10007, l10116, l67108863, l67108864, I_oth, I_J, J_oth, J_I, I_row, J_row, SI_row, SI_oth, SI_J, SJ_row, SJ_oth, SJ_I, upd_s, upd_n, updL_s, updL_n, ne_eq, not_false_eq_true, g3, rj, rs]
      refine ok_i ⟨rfl, h2, h3, h4, h5, h6, ?_⟩
      unfold GAl lst
      rw [slc_f (nh 101), slc_f (nh 103), if_neg (nh 104), if_neg (nh 105), if_neg (nh 106)]
      exact ⟨⟨a1, a2⟩, ⟨a3, a4⟩, a5, a6, a7⟩
    · rw [fg_f q] at rs
      have hh : ∀ d, nn w 37 (cI w (rr R i)) = d → hit w R d i = true := fun d z => hit_iff.mpr ⟨q, z⟩
      have nh : ∀ d, ¬ nn w 37 (cI w (rr R i)) = d → ¬ hit w R d i = true := fun d z y => z (hit_iff.mp y).2
      generalize hdd : nn w 37 (cI w (rr R i)) = d at hd hh nh r37
      unfold X8_listen_j63 X8_listen_j185
      rcases hd with e | ⟨e1, e2⟩
      · subst e
        simp (disch := omega) only [gdn, gb0, gb1, ixn, nm1, nI_add, nI_mul, nsub, nI_ltI, nI_leI, nI_eq, eqNO, eqNO2, ltNO, NOlt, leNO, NOle, if_pos, if_neg, Option.bind_some, if_true, if_false, and_self, eq_self, l0, l1, l2, l3, l4, l5, l6, l7, l8, l9, l10, l11, l12, l13, l14, l15, l16, l17, l18, l19, l20, l24, l26, l30, l31, l32, l40, l41, l42, l43, l45, l47, l48, l57, l58, l59, l60, l61, l62, l63, l64, l97, l99, l100, l101, l102, l103, l104, l105, l106, l107, l108, l109, l110, l122, l160, l240, l255, l600, l1000, l3000, l10000, l10007, l10116, l67108863, l67108864, I_oth, I_J, J_oth, J_I, I_row, J_row, SI_row, SI_oth, SI_J, SJ_row, SJ_oth, SJ_I, upd_s, upd_n, updL_s, updL_n, ne_eq, not_false_eq_true, g3, rj, rs, r37, a1]
        refine ok_i ⟨rfl, (h2.pu (by omega) (by omega)).pu (by omega) (by omega), ?_, ?_, ?_, ?_, ?_⟩
        · rw [I_row, upd_n (by omega), I_oth (by omega)]; exact h3
        · rw [I_row, upd_n (by omega), I_oth (by omega)]; exact h4
        · rw [I_oth (by omega), I_oth (by omega)]; exact h5
        · rw [I_oth (by omega), I_oth (by omega)]; exact h6
        · unfold GAl lst
          rw [slc_t (hh 101 rfl), slc_f (nh 103 (by omega)), if_neg (nh 104 (by omega)), if_neg (nh 105 (by omega)), if_neg (nh 106 (by omega)), List.length_append]
          simp (disch := omega) only [gdn, gb0, gb1, ixn, nm1, nI_add, nI_mul, nsub, nI_ltI, nI_leI, nI_eq, eqNO, eqNO2, ltNO, NOlt, leNO, NOle, if_pos, if_neg, Option.bind_some, if_true, if_false, and_self, eq_self, l0, l1, l2, l3, l4, l5, l6, l7, l8, l9, l10, l11, l12, l13, l14, l15, l16, l17, l18, l19, l20, l24, l26, l30, l31, l32, l40, l41, l42, l43, l45, l47, l48, l57, l58, l59, l60, l61, l62, l63, l64, l97, l99, l100, l101, l102, l103, l104, l105, l106, l107, l108, l109, l110, l122, l160, l240, l255, l600, l1000, l3000, l10000, l10007, l10116, l67108863, l67108864, I_oth, I_J, J_oth, J_I, I_row, J_row, SI_row, SI_oth, SI_J, SJ_row, SJ_oth, SJ_I, upd_s, upd_n, updL_s, updL_n, ne_eq, not_false_eq_true]
          exact ⟨⟨rfl, a2.app⟩, ⟨a3, a4⟩, a5, a6, a7⟩
      · have e3 : d = 103 ∨ d = 104 ∨ d = 105 ∨ d = 106 := by omega
        rcases e3 with e | e | e | e
        · subst e
          simp (disch := omega) only [gdn, gb0, gb1, ixn, nm1, nI_add, nI_mul, nsub, nI_ltI, nI_leI, nI_eq, eqNO, eqNO2, ltNO, NOlt, leNO, NOle, if_pos, if_neg, Option.bind_some, if_true, if_false, and_self, eq_self, l0, l1, l2, l3, l4, l5, l6, l7, l8, l9, l10, l11, l12, l13, l14, l15, l16, l17, l18, l19, l20, l24, l26, l30, l31, l32, l40, l41, l42, l43, l45, l47, l48, l57, l58, l59, l60, l61, l62, l63, l64, l97, l99, l100, l101, l102, l103, l104, l105, l106, l107, l108, l109, l110, l122, l160, l240, l255, l600, l1000, l3000, l10000, l10007, l10116, l67108863, l67108864, I_oth, I_J, J_oth, J_I, I_row, J_row, SI_row, SI_oth, SI_J, SJ_row, SJ_oth, SJ_I, upd_s, upd_n, updL_s, updL_n, ne_eq, not_false_eq_true, g3, rj, rs, r37, a3]
          refine ok_i ⟨rfl, (h2.pu (by omega) (by omega)).pu (by omega) (by omega), ?_, ?_, ?_, ?_, ?_⟩
          · rw [I_row, upd_n (by omega), I_oth (by omega)]; exact h3
          · rw [I_row, upd_n (by omega), I_oth (by omega)]; exact h4
          · rw [I_oth (by omega), I_oth (by omega)]; exact h5
          · rw [I_oth (by omega), I_oth (by omega)]; exact h6
          · unfold GAl lst
            rw [slc_t (hh 103 rfl), slc_f (nh 101 (by omega)), if_neg (nh 104 (by omega)), if_neg (nh 105 (by omega)), if_neg (nh 106 (by omega)), List.length_append]
            simp (disch := omega) only [gdn, gb0, gb1, ixn, nm1, nI_add, nI_mul, nsub, nI_ltI, nI_leI, nI_eq, eqNO, eqNO2, ltNO, NOlt, leNO, NOle, if_pos, if_neg, Option.bind_some, if_true, if_false, and_self, eq_self, l0, l1, l2, l3, l4, l5, l6, l7, l8, l9, l10, l11, l12, l13, l14, l15, l16, l17, l18, l19, l20, l24, l26, l30, l31, l32, l40, l41, l42, l43, l45, l47, l48, l57, l58, l59, l60, l61, l62, l63, l64, l97, l99, l100, l101, l102, l103, l104, l105, l106, l107, l108, l109, l110, l122, l160, l240, l255, l600, l1000, l3000, l10000, l10007, l10116, l67108863, l67108864, I_oth, I_J, J_oth, J_I, I_row, J_row, SI_row, SI_oth, SI_J, SJ_row, SJ_oth, SJ_I, upd_s, upd_n, updL_s, updL_n, ne_eq, not_false_eq_true]
            exact ⟨⟨a1, a2⟩, ⟨rfl, a4.app⟩, a5, a6, a7⟩
        · subst e
          simp (disch := omega) only [gdn, gb0, gb1, ixn, nm1, nI_add, nI_mul, nsub, nI_ltI, nI_leI, nI_eq, eqNO, eqNO2, ltNO, NOlt, leNO, NOle, if_pos, if_neg, Option.bind_some, if_true, if_false, and_self, eq_self, l0, l1, l2, l3, l4, l5, l6, l7, l8, l9, l10, l11, l12, l13, l14, l15, l16, l17, l18, l19, l20, l24, l26, l30, l31, l32, l40, l41, l42, l43, l45, l47, l48, l57, l58, l59, l60, l61, l62, l63, l64, l97, l99, l100, l101, l102, l103, l104, l105, l106, l107, l108, l109, l110, l122, l160, l240, l255, l600, l1000, l3000, l10000, l10007, l10116, l67108863, l67108864, I_oth, I_J, J_oth, J_I, I_row, J_row, SI_row, SI_oth, SI_J, SJ_row, SJ_oth, SJ_I, upd_s, upd_n, updL_s, updL_n, ne_eq, not_false_eq_true, g3, rj, rs, r37, r38]
          refine ok_i ⟨rfl, h2.pu (by omega) (by omega), ?_, ?_, ?_, ?_, ?_⟩
          · rw [I_row, upd_n (by omega)]; exact h3
          · rw [I_row, upd_n (by omega)]; exact h4
          · rw [I_oth (by omega)]; exact h5
          · rw [I_oth (by omega)]; exact h6
          · unfold GAl lst
            rw [slc_f (nh 103 (by omega)), slc_f (nh 101 (by omega)), if_pos (hh 104 rfl), if_neg (nh 105 (by omega)), if_neg (nh 106 (by omega))]
            simp (disch := omega) only [gdn, gb0, gb1, ixn, nm1, nI_add, nI_mul, nsub, nI_ltI, nI_leI, nI_eq, eqNO, eqNO2, ltNO, NOlt, leNO, NOle, if_pos, if_neg, Option.bind_some, if_true, if_false, and_self, eq_self, l0, l1, l2, l3, l4, l5, l6, l7, l8, l9, l10, l11, l12, l13, l14, l15, l16, l17, l18, l19, l20, l24, l26, l30, l31, l32, l40, l41, l42, l43, l45, l47, l48, l57, l58, l59, l60, l61, l62, l63, l64, l97, l99, l100, l101, l102, l103, l104, l105, l106, l107, l108, l109, l110, l122, l160, l240, l255, l600, l1000, l3000, l10000, l10007, l10116, l67108863, l67108864, I_oth, I_J, J_oth, J_I, I_row, J_row, SI_row, SI_oth, SI_J, SJ_row, SJ_oth, SJ_I, upd_s, upd_n, updL_s, updL_n, ne_eq, not_false_eq_true]
            exact ⟨⟨a1, a2⟩, ⟨a3, a4⟩, trivial, a6, a7⟩
        · subst e
          simp (disch := omega) only [gdn, gb0, gb1, ixn, nm1, nI_add, nI_mul, nsub, nI_ltI, nI_leI, nI_eq, eqNO, eqNO2, ltNO, NOlt, leNO, NOle, if_pos, if_neg, Option.bind_some, if_true, if_false, and_self, eq_self, l0, l1, l2, l3, l4, l5, l6, l7, l8, l9, l10, l11, l12, l13, l14, l15, l16, l17, l18, l19, l20, l24, l26, l30, l31, l32, l40, l41, l42, l43, l45, l47, l48, l57, l58, l59, l60, l61, l62, l63, l64, l97, l99, l100, l101, l102, l103, l104, l105, l106, l107, l108, l109, l110, l122, l160, l240, l255, l600, l1000, l3000, l10000, l10007, l10116, l67108863, l67108864, I_oth, I_J, J_oth, J_I, I_row, J_row, SI_row, SI_oth, SI_J, SJ_row, SJ_oth, SJ_I, upd_s, upd_n, updL_s, updL_n, ne_eq, not_false_eq_true, g3, rj, rs, r37, r38]
          refine ok_i ⟨rfl, h2.pu (by omega) (by omega), ?_, ?_, ?_, ?_, ?_⟩
          · rw [I_row, upd_n (by omega)]; exact h3
          · rw [I_row, upd_n (by omega)]; exact h4
          · rw [I_oth (by omega)]; exact h5
          · rw [I_oth (by omega)]; exact h6
          · unfold GAl lst
            rw [slc_f (nh 103 (by omega)), slc_f (nh 101 (by omega)), if_neg (nh 104 (by omega)), if_pos (hh 105 rfl), if_neg (nh 106 (by omega))]
            simp (disch := omega) only [gdn, gb0, gb1, ixn, nm1, nI_add, nI_mul, nsub, nI_ltI, nI_leI, nI_eq, eqNO, eqNO2, ltNO, NOlt, leNO, NOle, if_pos, if_neg, Option.bind_some, if_true, if_false, and_self, eq_self, l0, l1, l2, l3, l4, l5, l6, l7, l8, l9, l10, l11, l12, l13, l14, l15, l16, l17, l18, l19, l20, l24, l26, l30, l31, l32, l40, l41, l42, l43, l45, l47, l48, l57, l58, l59, l60, l61, l62, l63, l64, l97, l99, l100, l101, l102, l103, l104, l105, l106, l107, l108, l109, l110, l122, l160, l240, l255, l600, l1000, l3000, l10000, l10007, l10116, l67108863, l67108864, I_oth, I_J, J_oth, J_I, I_row, J_row, SI_row, SI_oth, SI_J, SJ_row, SJ_oth, SJ_I, upd_s, upd_n, updL_s, updL_n, ne_eq, not_false_eq_true]
            exact ⟨⟨a1, a2⟩, ⟨a3, a4⟩, a5, trivial, a7⟩
        · subst e
          simp (disch := omega) only [gdn, gb0, gb1, ixn, nm1, nI_add, nI_mul, nsub, nI_ltI, nI_leI, nI_eq, eqNO, eqNO2, ltNO, NOlt, leNO, NOle, if_pos, if_neg, Option.bind_some, if_true, if_false, and_self, eq_self, l0, l1, l2, l3, l4, l5, l6, l7, l8, l9, l10, l11, l12, l13, l14, l15, l16, l17, l18, l19, l20, l24, l26, l30, l31, l32, l40, l41, l42, l43, l45, l47, l48, l57, l58, l59, l60, l61, l62, l63, l64, l97, l99, l100, l101, l102, l103, l104, l105, l106, l107, l108, l109, l110, l122, l160, l240, l255, l600, l1000, l3000, l10000, l10007, l10116, l67108863, l67108864, I_oth, I_J, J_oth, J_I, I_row, J_row, SI_row, SI_oth, SI_J, SJ_row, SJ_oth, SJ_I, upd_s, upd_n, updL_s, updL_n, ne_eq, not_false_eq_true, g3, rj, rs, r37, r38]
          refine ok_i ⟨rfl, h2.pu (by omega) (by omega), ?_, ?_, ?_, ?_, ?_⟩
          · rw [I_row, upd_n (by omega)]; exact h3
          · rw [I_row, upd_n (by omega)]; exact h4
          · rw [I_oth (by omega)]; exact h5
          · rw [I_oth (by omega)]; exact h6
          · unfold GAl lst
            rw [slc_f (nh 103 (by omega)), slc_f (nh 101 (by omega)), if_neg (nh 104 (by omega)), if_neg (nh 105 (by omega)), if_pos (hh 106 rfl)]
            simp (disch := omega) only [gdn, gb0, gb1, ixn, nm1, nI_add, nI_mul, nsub, nI_ltI, nI_leI, nI_eq, eqNO, eqNO2, ltNO, NOlt, leNO, NOle, if_pos, if_neg, Option.bind_some, if_true, if_false, and_self, eq_self, l0, l1, l2, l3, l4, l5, l6, l7, l8, l9, l10, l11, l12, l13, l14, l15, l16, l17, l18, l19, l20, l24, l26, l30, l31, l32, l40, l41, l42, l43, l45, l47, l48, l57, l58, l59, l60, l61, l62, l63, l64, l97, l99, l100, l101, l102, l103, l104, l105, l106, l107, l108, l109, l110, l122, l160, l240, l255, l600, l1000, l3000, l10000, l10007, l10116, l67108863, l67108864, I_oth, I_J, J_oth, J_I, I_row, J_row, SI_row, SI_oth, SI_J, SJ_row, SJ_oth, SJ_I, upd_s, upd_n, updL_s, updL_n, ne_eq, not_false_eq_true]
            exact ⟨⟨a1, a2⟩, ⟨a3, a4⟩, a5, a6, trivial⟩
  · rintro ⟨s1, v⟩ ⟨h1, h2, h3, h4, h5, h6, h7⟩
    simp only at h1 h2 h3 h4 h5 h6 h7
    subst h1
    have g3 : v.1 (stc si) 1 = nI R.length := by rw [h4]; exact hg
    unfold X8_listen_b29
    simp (disch := omega) only [gdn, gb0, gb1, ixn, nm1, nI_add, nI_mul, nsub, nI_ltI, nI_leI, nI_eq, eqNO, eqNO2, ltNO, NOlt, leNO, NOle, if_pos, if_neg, Option.bind_some, if_true, if_false, and_self, eq_self, l0, l1, l2, l3, l4, l5, l6, l7, l8, l9, l10, l11, l12, l13, l14, l15, l16, l17, l18, l19, l20, l24, l26, l30, l31, l32, l40, l41, l42, l43, l45, l47, l48, l57, l58, l59, l60, l61, l62, l63, l64, l97, l99, l100, l101, l102, l103, l104, l105, l106, l107, l108, l109, l110, l122, l160, l240, l255, l600, l1000, l3000, l10000, l10007, l10116, l67108863, l67108864, I_oth, I_J, J_oth, J_I, I_row, J_row, SI_row, SI_oth, SI_J, SJ_row, SJ_oth, SJ_I, upd_s, upd_n, updL_s, updL_n, ne_eq, not_false_eq_true, g3]
    exact ok_i ⟨h2, h3, h4, h5, h6, h7⟩
  · simp (disch := omega) only [gdn, gb0, gb1, ixn, nm1, nI_add, nI_mul, nsub, nI_ltI, nI_leI, nI_eq, eqNO, eqNO2, ltNO, NOlt, leNO, NOle, if_pos, if_neg, Option.bind_some, if_true, if_false, and_self, eq_self, l0, l1, l2, l3, l4, l5, l6, l7, l8, l9, l10, l11, l12, l13, l14, l15, l16, l17, l18, l19, l20, l24, l26, l30, l31, l32, l40, l41, l42, l43, l45, l47, l48, l57, l58, l59, l60, l61, l62, l63, l64, l97, l99, l100, l101, l102, l103, l104, l105, l106, l107, l108, l109, l110, l122, l160, l240, l255, l600, l1000, l3000, l10000, l10007, l10116, l67108863, l67108864, I_oth, I_J, J_oth, J_I, I_row, J_row, SI_row, SI_oth, SI_J, SJ_row, SJ_oth, SJ_I, upd_s, upd_n, updL_s, updL_n, ne_eq, not_false_eq_true]
  · simp (disch := omega) only [gdn, gb0, gb1, ixn, nm1, nI_add, nI_mul, nsub, nI_ltI, nI_leI, nI_eq, eqNO, eqNO2, ltNO, NOlt, leNO, NOle, if_pos, if_neg, Option.bind_some, if_true, if_false, and_self, eq_self, l0, l1, l2, l3, l4, l5, l6, l7, l8, l9, l10, l11, l12, l13, l14, l15, l16, l17, l18, l19, l20, l24, l26, l30, l31, l32, l40, l41, l42, l43, l45, l47, l48, l57, l58, l59, l60, l61, l62, l63, l64, l97, l99, l100, l101, l102, l103, l104, l105, l106, l107, l108, l109, l110, l122, l160, l240, l255, l600, l1000, l3000, l10000, l10007, l10116, l67108863, l67108864, I_oth, I_J, J_oth, J_I, I_row, J_row, SI_row, SI_oth, SI_J, SJ_row, SJ_oth, SJ_I, upd_s, upd_n, updL_s, updL_n, ne_eq, not_false_eq_true]
  · simp (disch := omega) only [gdn, gb0, gb1, ixn, nm1, nI_add, nI_mul, nsub, nI_ltI, nI_leI, nI_eq, eqNO, eqNO2, ltNO, NOlt, leNO, NOle, if_pos, if_neg, Option.bind_some, if_true, if_false, and_self, eq_self, l0, l1, l2, l3, l4, l5, l6, l7, l8, l9, l10, l11, l12, l13, l14, l15, l16, l17, l18, l19, l20, l24, l26, l30, l31, l32, l40, l41, l42, l43, l45, l47, l48, l57, l58, l59, l60, l61, l62, l63, l64, l97, l99, l100, l101, l102, l103, l104, l105, l106, l107, l108, l109, l110, l122, l160, l240, l255, l600, l1000, l3000, l10000, l10007, l10116, l67108863, l67108864, I_oth, I_J, J_oth, J_I, I_row, J_row, SI_row, SI_oth, SI_J, SJ_row, SJ_oth, SJ_I, upd_s, upd_n, updL_s, updL_n, ne_eq, not_false_eq_true]
  · simp (disch := omega) only [gdn, gb0, gb1, ixn, nm1, nI_add, nI_mul, nsub, nI_ltI, nI_leI, nI_eq, eqNO, eqNO2, ltNO, NOlt, leNO, NOle, if_pos, if_neg, Option.bind_some, if_true, if_false, and_self, eq_self, l0, l1, l2, l3, l4, l5, l6, l7, l8, l9, l10, l11, l12, l13, l14, l15, l16, l17, l18, l19, l20, l24, l26, l30, l31, l32, l40, l41, l42, l43, l45, l47, l48, l57, l58, l59, l60, l61, l62, l63, l64, l97, l99, l100, l101, l102, l103, l104, l105, l106, l107, l108, l109, l110, l122, l160, l240, l255, l600, l1000, l3000, l10000, l10007, l10116, l67108863, l67108864, I_oth, I_J, J_oth, J_I, I_row, J_row, SI_row, SI_oth, SI_J, SJ_row, SJ_oth, SJ_I, upd_s, upd_n, updL_s, updL_n, ne_eq, not_false_eq_true]
  · unfold GAl
    simp (disch := omega) only [gdn, gb0, gb1, ixn, nm1, nI_add, nI_mul, nsub, nI_ltI, nI_leI, nI_eq, eqNO, eqNO2, ltNO, NOlt, leNO, NOle, if_pos, if_neg, Option.bind_some, if_true, if_false, and_self, eq_self, l0, l1, l2, l3, l4, l5, l6, l7, l8, l9, l10, l11, l12, l13, l14, l15, l16, l17, l18, l19, l20, l24, l26, l30, l31, l32, l40, l41, l42, l43, l45, l47, l48, l57, l58, l59, l60, l61, l62, l63, l64, l97, l99, l100, l101, l102, l103, l104, l105, l106, l107, l108, l109, l110, l122, l160, l240, l255, l600, l1000, l3000, l10000, l10007, l10116, l67108863, l67108864, I_oth, I_J, J_oth, J_I, I_row, J_row, SI_row, SI_oth, SI_J, SJ_row, SJ_oth, SJ_I, upd_s, upd_n, updL_s, updL_n, ne_eq, not_false_eq_true]
    exact ⟨⟨rfl, RowL.nil⟩, ⟨rfl, RowL.nil⟩, rfl, rfl, rfl⟩
/-! what a standing's cells rest on -/
theorem stk_c {w w' : Wd} (hw : IBo w) {R : List (Nat × Nat)} (hR : okRl w R) (e33 : ∀ t, t < nn w 30 0 → w'.1 33 t = w.1 33 t) (e35 : ∀ r, r < nn w 33 (nn w 30 0) → w'.2 35 r = w.2 35 r) (e36 : ∀ r, r < nn w 33 (nn w 30 0) → w'.2 36 r = w.2 36 r) {i : Nat} (hi : i < R.length) : stk w' R i ↔ stk w R i := by
  have ec : ∀ j, j < R.length → cI w' (rr R j) = cI w (rr R j) := fun j hj => by
    unfold cI
    rw [nn_eq (e33 _ (hR.1 (rr R j) (getD_mem hj)).1)]
  unfold stk
  constructor
  · rintro ⟨j, h1, h2, h3⟩
    refine ⟨j, h1, h2, ?_⟩
    rw [ec j h2, ec i hi, e36 _ (hR.at hw h2).1, e35 _ (hR.at hw hi).1] at h3
    exact h3
  · rintro ⟨j, h1, h2, h3⟩
    refine ⟨j, h1, h2, ?_⟩
    rw [ec j h2, ec i hi, e36 _ (hR.at hw h2).1, e35 _ (hR.at hw hi).1]
    exact h3
/-- the kept part of the book is the same -/
def SB (w w' : Wd) : Prop := (∀ t, t < nn w 30 0 → w'.1 33 t = w.1 33 t) ∧ (∀ t, t < nn w 30 0 → w'.1 124 t = w.1 124 t) ∧ (∀ r, r < nn w 33 (nn w 30 0) → w'.2 35 r = w.2 35 r) ∧ (∀ r, r < nn w 33 (nn w 30 0) → w'.2 36 r = w.2 36 r) ∧ (∀ r, r < nn w 33 (nn w 30 0) → w'.1 37 r = w.1 37 r) ∧ (∀ r, r < nn w 33 (nn w 30 0) → w'.1 38 r = w.1 38 r)
theorem SB_cI {w w' : Wd} (e : SB w w') {R : List (Nat × Nat)} (hR : okRl w R) {j : Nat} (hj : j < R.length) : cI w' (rr R j) = cI w (rr R j) := by
  unfold cI
  rw [nn_eq (e.1 _ (hR.1 (rr R j) (getD_mem hj)).1)]
theorem SB_hit {w w' : Wd} (e : SB w w') (hw : IBo w) {R : List (Nat × Nat)} (hR : okRl w R) {d j : Nat} (hj : j < R.length) : hit w' R d j = hit w R d j := by
  rw [Bool.eq_iff_iff, hit_iff, hit_iff, stk_c hw hR e.1 e.2.2.1 e.2.2.2.1 hj, SB_cI e hR hj, nn_eq (e.2.2.2.2.1 _ (hR.at hw hj).1)]
theorem SB_slc {w w' : Wd} (e : SB w w') (hw : IBo w) {R : List (Nat × Nat)} (hR : okRl w R) {d : Nat} (i : Nat) (hi : i ≤ R.length) : slc w' R d i = slc w R d i := by
  induction i with
  | zero => simp [slc]
  | succ i ih =>
    have ih := ih (by omega)
    have hh := SB_hit e hw hR (d := d) (j := i) (by omega)
    by_cases q : hit w R d i = true
    · rw [slc_t q, slc_t (by rw [hh]; exact q), ih, SB_cI e hR (by omega)]
    · rw [slc_f q, slc_f (by rw [hh]; exact q), ih]
theorem SB_lst {w w' : Wd} (e : SB w w') (hw : IBo w) {R : List (Nat × Nat)} (hR : okRl w R) {d z : Nat} : ∀ i, i ≤ R.length → lst w' R d z i = lst w R d z i
  | 0, _ => rfl
  | i + 1, hi => by
    unfold lst
    rw [SB_lst e hw hR i (by omega), SB_hit e hw hR (by omega), SB_cI e hR (by omega), nn_eq (e.2.2.2.2.2 _ (hR.at hw (by omega)).1)]
theorem rl_c {w w' : Wd} : ∀ {L : List Nat}, (∀ t ∈ L, nn w' 124 t = nn w 124 t) → rl w' L = rl w L
  | [], _ => by simp [rl]
  | t :: L, h => by
    have e1 : rl w' (t :: L) = (List.range (nn w' 124 t)).map (fun k => (t, k)) ++ rl w' L := by unfold rl; rw [List.flatMap_cons]
    have e2 : rl w (t :: L) = (List.range (nn w 124 t)).map (fun k => (t, k)) ++ rl w L := by unfold rl; rw [List.flatMap_cons]
    rw [e1, e2, rl_c (L := L) (fun x hx => h x (List.mem_cons_of_mem _ hx)), h t List.mem_cons_self]
theorem okRl_c {w w' : Wd} {R : List (Nat × Nat)} (e30 : nn w 30 0 ≤ nn w' 30 0) (e : SB w w') (hR : okRl w R) : okRl w' R := ⟨fun q hq => by
  obtain ⟨h1, h2⟩ := hR.1 q hq
  rw [nn_eq (e.2.1 _ h1)]
  exact ⟨by omega, h2⟩, hR.2⟩
theorem GA_c {w w' : Wd} (hw : IBo w) {c m : Nat} (h : GA w c m) (e : SB w w') (ht : tl w' m.testBit = tl w m.testBit) (hc : ∀ j, j < 5 → w'.1 (c + j) = w.1 (c + j)) : GA w' c m := by
  have hR := okRl_tl hw (p := m.testBit)
  have hrl : rl w' (tl w' m.testBit) = rl w (tl w m.testBit) := by
    rw [ht]
    exact rl_c (fun t htm => nn_eq (e.2.1 t ((tl_mem hw).mp htm).1))
  have hci : (rl w (tl w m.testBit)).map (cI w') = (rl w (tl w m.testBit)).map (cI w) := by
    refine List.map_congr_left (fun q hq => ?_)
    unfold cI
    rw [nn_eq (e.1 _ (hR.1 q hq).1)]
  have c0 := hc 0 (by omega)
  rw [Nat.add_zero] at c0
  obtain ⟨⟨h1, h2⟩, h3, ⟨a1, a2⟩, ⟨a3, a4⟩, a5, a6, a7⟩ := h
  unfold GA GAr GAs GAl
  rw [hrl, hci, c0, hc 1 (by omega), hc 2 (by omega), hc 3 (by omega), hc 4 (by omega)]
  simp only [SB_slc e hw hR _ (Nat.le_refl _), SB_lst e hw hR _ (Nat.le_refl _)]
  refine ⟨⟨h1, h2⟩, fun i hi => ?_, ⟨a1, a2⟩, ⟨a3, a4⟩, a5, a6, a7⟩
  rw [h3 i hi]
  exact fg_c (stk_c hw hR e.1 e.2.2.1 e.2.2.2.1 hi).symm
/-! standings -/
def IG (w : Wd) : Prop := ∀ s, s < 4 → w.1 (stc s) 0 = NO ∨ ∃ m, m < 2 ^ (nn w 30 0) ∧ w.1 (stc s) 0 = nI m ∧ GA w (stc s) m
theorem FG.sb {c : Nat} {w w' : Wd} (h : FG c w w') (h1 : 45 ≤ c) (h2 : c + 5 ≤ 65) : SB w w' := by
  have r33 := (h 33 (by omega)).1
  have r124 := (h 124 (by omega)).1
  have r35 := (h 35 (by omega)).2
  have r36 := (h 36 (by omega)).2
  have r37 := (h 37 (by omega)).1
  have r38 := (h 38 (by omega)).1
  exact ⟨fun t _ => by rw [r33], fun t _ => by rw [r124], fun t _ => by rw [r35], fun t _ => by rw [r36], fun t _ => by rw [r37], fun t _ => by rw [r38]⟩
theorem tl_c {w w' : Wd} (e30 : w'.1 30 0 = w.1 30 0) (e34 : w'.1 34 = w.1 34) {p : Nat → Bool} : tl w' p = tl w p := by
  unfold tl nn
  rw [e30, e34]
theorem gather_e2 {w : Wd} (h : IBo w) (hG : IG w) {si : Nat} (hsi : si < 4) {m : Nat} (hm : m < 2 ^ (nn w 30 0)) : ok (X8_gather si (nI m) w) (fun e => FG (stc si) w e ∧ e.1 (stc si) 0 = nI m ∧ GA e (stc si) m) := by
  have hc : stc si = 45 + 5 * si := rfl
  have hm31 : m < 2 ^ 31 := by
    have h1 := h.1.1.2
    have h2 : 2 ^ (nn w 30 0) ≤ 2 ^ 6 := Nat.pow_le_pow_right (by omega) (by omega)
    omega
  unfold X8_gather
  by_cases q : nI m = w.1 (stc si) 0
  · rw [if_pos q]
    refine ok_i ⟨FG.rf, q.symm, ?_⟩
    rcases hG si hsi with z | ⟨m', hm', z, hga⟩
    · rw [z, eqNO (by omega)] at q; exact q.elim
    · have hm31' : m' < 2 ^ 31 := by
        have h1 := h.1.1.2
        have h2 : 2 ^ (nn w 30 0) ≤ 2 ^ 6 := Nat.pow_le_pow_right (by omega) (by omega)
        omega
      rw [z, nI_eq (by omega) (by omega)] at q
      rw [q]; exact hga
  · rw [if_neg q]
    simp only [Option.bind_some]
    have hR := okRl_tl h (p := m.testBit)
    refine ok_bi (gout_e h hsi hm31 (u := puI (puI w (stc si) 0 (nI m)) (stc si) 1 (nI 0)) ((FG.rf.pu (by omega) (by omega)).pu (by omega) (by omega)) (by rw [I_self])) ?_
    rintro e1 ⟨f1, f2, f3, f4⟩
    refine ok_bi (strike_e h hsi f1 hR f3 f4) ?_
    rintro e2 ⟨g1, g2, g3, g4⟩
    refine ok_bi (listen_e h hsi g1 hR (by rw [g2]; exact f3) (by rw [g3]; exact f4) g4) ?_
    rintro e3 ⟨k1, k2, k3, k4, k5, k6⟩
    refine ok_i ⟨k1, ?_, ?_⟩
    · rw [k2, g2, f2]
      simp (disch := omega) only [gdn, gb0, gb1, ixn, nm1, nI_add, nI_mul, nsub, nI_ltI, nI_leI, nI_eq, eqNO, eqNO2, ltNO, NOlt, leNO, NOle, if_pos, if_neg, Option.bind_some, if_true, if_false, and_self, eq_self, l0, l1, l2, l3, l4, l5, l6, l7, l8, l9, l10, l11, l12, l13, l14, l15, l16, l17, l18, l19, l20, l24, l26, l30, l31, l32, l40, l41, l42, l43, l45, l47, l48, l57, l58, l59, l60, l61, l62, l63, l64, l97, l99, l100, l101, l102, l103, l104, l105, l106, l107, l108, l109, l110, l122, l160, l240, l255, l600, l1000, l3000, l10000, l10007, l10116, l67108863, l67108864, I_oth, I_J, J_oth, J_I, I_row, J_row, SI_row, SI_oth, SI_J, SJ_row, SJ_oth, SJ_I, upd_s, upd_n, updL_s, updL_n, ne_eq, not_false_eq_true]
    · have sb := k1.sb (by omega) (by omega)
      have ht : tl e3 m.testBit = tl w m.testBit := tl_c (by rw [(k1 30 (by omega)).1]) (k1 34 (by omega)).1
      have hrl : rl e3 (tl e3 m.testBit) = rl w (tl w m.testBit) := by
        rw [ht]
        exact rl_c (fun t htm => nn_eq (sb.2.1 t ((tl_mem h).mp htm).1))
      have hci : (rl w (tl w m.testBit)).map (cI e3) = (rl w (tl w m.testBit)).map (cI w) := by
        refine List.map_congr_left (fun q hq => ?_)
        unfold cI
        rw [nn_eq (sb.1 _ (hR.1 q hq).1)]
      unfold GA GAr GAs GAl
      rw [hrl, hci, k3, k4, k5, g2, g3]
      simp only [SB_slc sb h hR _ (Nat.le_refl _), SB_lst sb h hR _ (Nat.le_refl _)]
      refine ⟨⟨f3, f4⟩, fun i hi => ?_, k6⟩
      rw [g4 i hi]
      exact fg_c (stk_c h hR sb.1 sb.2.2.1 sb.2.2.2.1 hi).symm
def inF (w : Wd) (s week t : Nat) : Bool := decide (nn w 31 t ≤ week) && (nn w 32 t).testBit s
def msk (w : Wd) (s week : Nat) : Nat := mkS (inF w s week) (nn w 30 0)
def RS (w : Wd) (s week : Nat) : List (Nat × Nat) := rl w (tl w (inF w s week))
theorem tl_msk {w : Wd} (h : IBo w) {s week : Nat} : tl w (msk w s week).testBit = tl w (inF w s week) := by
  refine sorted_eq (lt := lt2 (wkF w)) lt2_irr lt2_tr _ _ (tl_sorted h) (tl_sorted h) (fun x => ?_)
  rw [tl_mem h, tl_mem h]
  unfold msk
  rw [mkS_bit]
  constructor
  · rintro ⟨h1, h2⟩
    simp only [Bool.and_eq_true] at h2
    exact ⟨h1, h2.2⟩
  · rintro ⟨h1, h2⟩
    simp only [Bool.and_eq_true, decide_eq_true_eq]
    exact ⟨h1, h1, h2⟩
theorem standingIn_e {w : Wd} (h : IBo w) (hG : IG w) {s week : Nat} (hs : s < 4) (hw : week < 60) : ∃ w', X0_standingIn (nI s) (nI week) w = some (s, w') ∧ FG (stc s) w w' ∧ w'.1 (stc s) 0 = nI (msk w s week) ∧ GA w' (stc s) (msk w s week) := by
  have hT := h.1.1.2
  have eT := h.1.1.1
  obtain ⟨w', h1, h2⟩ := gather_e2 h hG hs (m := msk w s week) (mkS_lt _ _)
  refine ⟨w', ?_, h2⟩
  unfold X0_standingIn
  have hlp := lp_for (b := X0_standingIn_b5 (nI s) (nI week) w) (e := nI (msk w s week)) (fun t => (nI (mkS (inF w s week) t), nI t)) (nn w 30 0) (fun t ht => ?_) ?_ 0 (Nat.zero_le _)
  · rw [show ((0 : Int32), (0 : Int32)) = (nI (mkS (inF w s week) 0), nI 0) from rfl, hlp]
    simp (disch := omega) only [gdn, gb0, gb1, ixn, nm1, nI_add, nI_mul, nsub, nI_ltI, nI_leI, nI_eq, eqNO, eqNO2, ltNO, NOlt, leNO, NOle, if_pos, if_neg, Option.bind_some, if_true, if_false, and_self, eq_self, l0, l1, l2, l3, l4, l5, l6, l7, l8, l9, l10, l11, l12, l13, l14, l15, l16, l17, l18, l19, l20, l24, l26, l30, l31, l32, l40, l41, l42, l43, l45, l47, l48, l57, l58, l59, l60, l61, l62, l63, l64, l97, l99, l100, l101, l102, l103, l104, l105, l106, l107, l108, l109, l110, l122, l160, l240, l255, l600, l1000, l3000, l10000, l10007, l10116, l67108863, l67108864, I_oth, I_J, J_oth, J_I, I_row, J_row, SI_row, SI_oth, SI_J, SJ_row, SJ_oth, SJ_I, upd_s, upd_n, updL_s, updL_n, ne_eq, not_false_eq_true, h1, gd_t hs]
  · obtain ⟨⟨e31, b31⟩, -, ⟨e32, b32⟩, -⟩ := h.2.1 t ht
    have hsm := mkS_lt (inF w s week) t
    unfold X0_standingIn_b5 X0_standingIn_j46
    by_cases q1 : nn w 31 t ≤ week
    · by_cases q2 : (nn w 32 t).testBit s = true
      · have hq : (nI (nn w 32 t) >>> (nI s &&& nI 31)) &&& nI 1 = nI 1 := by rw [bit_e (by omega) (by omega), if_pos q2]
        have hm : mkS (inF w s week) (t + 1) = mkS (inF w s week) t ||| 2 ^ t := by rw [mkS, if_pos (by unfold inF; simp [q1, q2])]
        rw [hm]
        simp (disch := omega) only [gdn, gb0, gb1, ixn, nm1, nI_add, nI_mul, nsub, nI_ltI, nI_leI, nI_eq, eqNO, eqNO2, ltNO, NOlt, leNO, NOle, if_pos, if_neg, Option.bind_some, if_true, if_false, and_self, eq_self, l0, l1, l2, l3, l4, l5, l6, l7, l8, l9, l10, l11, l12, l13, l14, l15, l16, l17, l18, l19, l20, l24, l26, l30, l31, l32, l40, l41, l42, l43, l45, l47, l48, l57, l58, l59, l60, l61, l62, l63, l64, l97, l99, l100, l101, l102, l103, l104, l105, l106, l107, l108, l109, l110, l122, l160, l240, l255, l600, l1000, l3000, l10000, l10007, l10116, l67108863, l67108864, I_oth, I_J, J_oth, J_I, I_row, J_row, SI_row, SI_oth, SI_J, SJ_row, SJ_oth, SJ_I, upd_s, upd_n, updL_s, updL_n, ne_eq, not_false_eq_true, eT, e31, e32, show (31 : Int32) = nI 31 from rfl, hq, shl1, or_e]
      · have hq : (nI (nn w 32 t) >>> (nI s &&& nI 31)) &&& nI 1 = nI 0 := by rw [bit_e (by omega) (by omega), if_neg q2]
        have hm : mkS (inF w s week) (t + 1) = mkS (inF w s week) t := by rw [mkS, if_neg (by unfold inF; simp [q2])]
        rw [hm]
        simp (disch := omega) only [gdn, gb0, gb1, ixn, nm1, nI_add, nI_mul, nsub, nI_ltI, nI_leI, nI_eq, eqNO, eqNO2, ltNO, NOlt, leNO, NOle, if_pos, if_neg, Option.bind_some, if_true, if_false, and_self, eq_self, l0, l1, l2, l3, l4, l5, l6, l7, l8, l9, l10, l11, l12, l13, l14, l15, l16, l17, l18, l19, l20, l24, l26, l30, l31, l32, l40, l41, l42, l43, l45, l47, l48, l57, l58, l59, l60, l61, l62, l63, l64, l97, l99, l100, l101, l102, l103, l104, l105, l106, l107, l108, l109, l110, l122, l160, l240, l255, l600, l1000, l3000, l10000, l10007, l10116, l67108863, l67108864, I_oth, I_J, J_oth, J_I, I_row, J_row, SI_row, SI_oth, SI_J, SJ_row, SJ_oth, SJ_I, upd_s, upd_n, updL_s, updL_n, ne_eq, not_false_eq_true, eT, e31, e32, show (31 : Int32) = nI 31 from rfl, hq]
    · have hm : mkS (inF w s week) (t + 1) = mkS (inF w s week) t := by rw [mkS, if_neg (by unfold inF; simp [q1])]
      rw [hm]
      simp (disch := omega) only [gdn, gb0, gb1, ixn, nm1, nI_add, nI_mul, nsub, nI_ltI, nI_leI, nI_eq, eqNO, eqNO2, ltNO, NOlt, leNO, NOle, if_pos, if_neg, Option.bind_some, if_true, if_false, and_self, eq_self, l0, l1, l2, l3, l4, l5, l6, l7, l8, l9, l10, l11, l12, l13, l14, l15, l16, l17, l18, l19, l20, l24, l26, l30, l31, l32, l40, l41, l42, l43, l45, l47, l48, l57, l58, l59, l60, l61, l62, l63, l64, l97, l99, l100, l101, l102, l103, l104, l105, l106, l107, l108, l109, l110, l122, l160, l240, l255, l600, l1000, l3000, l10000, l10007, l10116, l67108863, l67108864, I_oth, I_J, J_oth, J_I, I_row, J_row, SI_row, SI_oth, SI_J, SJ_row, SJ_oth, SJ_I, upd_s, upd_n, updL_s, updL_n, ne_eq, not_false_eq_true, eT, e31, e32]
  · unfold X0_standingIn_b5
    simp (disch := omega) only [gdn, gb0, gb1, ixn, nm1, nI_add, nI_mul, nsub, nI_ltI, nI_leI, nI_eq, eqNO, eqNO2, ltNO, NOlt, leNO, NOle, if_pos, if_neg, Option.bind_some, if_true, if_false, and_self, eq_self, l0, l1, l2, l3, l4, l5, l6, l7, l8, l9, l10, l11, l12, l13, l14, l15, l16, l17, l18, l19, l20, l24, l26, l30, l31, l32, l40, l41, l42, l43, l45, l47, l48, l57, l58, l59, l60, l61, l62, l63, l64, l97, l99, l100, l101, l102, l103, l104, l105, l106, l107, l108, l109, l110, l122, l160, l240, l255, l600, l1000, l3000, l10000, l10007, l10116, l67108863, l67108864, I_oth, I_J, J_oth, J_I, I_row, J_row, SI_row, SI_oth, SI_J, SJ_row, SJ_oth, SJ_I, upd_s, upd_n, updL_s, updL_n, ne_eq, not_false_eq_true, eT]
    rfl
