theorem keepT_e {u : Wd} {T F D A : Nat} {f wk : Nat → Nat} {week sh : Nat} (hT : T < 5) (h0 : u.1 30 0 = nI T) (h33 : u.1 33 T = nI F) (h14 : u.1 30 14 = nI D) (h15 : u.1 30 15 = nI A) (h34 : ∀ i, i < T → u.1 34 i = nI (f i)) (hf : ∀ i, i < T → f i < T) (h31 : ∀ i, i < T → u.1 31 i = nI (wk i)) (hwk : ∀ i, i < T → wk i < 60) (hw : week < 60) (hs : ∀ i j, i < j → j < T → lt2 wk (f i) (f j)) : ∃ u' k, X0_keepText (nI week) (nI sh) u = some (nI D, u') ∧ Fr [31, 32, 33, 34] [(30, 0), (30, 13)] u u' ∧ u'.1 31 = upd (u.1 31) T (nI week) ∧ u'.1 32 = upd (u.1 32) T (nI sh) ∧ u'.1 33 = upd (u.1 33) (T + 1) (nI (F + D)) ∧ u'.1 30 13 = nI A ∧ u'.1 30 0 = nI (T + 1) ∧ k ≤ T ∧ (∀ i, i < T + 1 → u'.1 34 i = nI (insF f k T i)) ∧ (∀ i, k ≤ i → i < T → week < wk (f i)) ∧ (∀ i, i < k → wk (f i) ≤ week) := by
  obtain ⟨⟨r, v⟩, hr, k, k1, k2, k3, k4, k5, k6, k7⟩ := keepL_e (a2 := nI sh) hT h34 hf h31 hwk hw hs
  simp only at k2 k3 k4 k5
  subst k2
  have r31 : v.1 31 = u.1 31 := (k3.row 31 (by decide) (by decide)).1
  have r32 : v.1 32 = u.1 32 := (k3.row 32 (by decide) (by decide)).1
  have r33 : v.1 33 = u.1 33 := (k3.row 33 (by decide) (by decide)).1
  have r30 : ∀ j, v.1 30 j = u.1 30 j := fun j => by rw [(k3.row 30 (by decide) (by decide)).1]
  refine ⟨puI (puI (puI (puI (puI (puI v 34 k (nI T)) 31 T (nI week)) 32 T (nI sh)) 33 (T + 1) (nI (F + D))) 30 13 (nI A)) 30 0 (nI (T + 1)), k, ?_, ?_, ?_, ?_, ?_, ?_, I_self, k1, fun i hi => ?_, k6, k7⟩
  · have g1 : (puI v 34 k (nI T)).1 30 0 = nI T := by rw [I_oth (by decide), r30]; exact h0
    have g2 : (puI (puI v 34 k (nI T)) 31 T (nI week)).1 30 0 = nI T := by rw [I_oth (by decide)]; exact g1
    have g3 : (puI (puI (puI v 34 k (nI T)) 31 T (nI week)) 32 T (nI sh)).1 30 0 = nI T := by rw [I_oth (by decide)]; exact g2
    have g4 : (puI (puI (puI v 34 k (nI T)) 31 T (nI week)) 32 T (nI sh)).1 33 T = nI F := by rw [I_oth (by decide), I_oth (by decide), I_oth (by decide), r33]; exact h33
    have g5 : (puI (puI (puI v 34 k (nI T)) 31 T (nI week)) 32 T (nI sh)).1 30 14 = nI D := by rw [I_oth (by decide), I_oth (by decide), I_oth (by decide), r30]; exact h14
    have g6 : (puI (puI (puI (puI v 34 k (nI T)) 31 T (nI week)) 32 T (nI sh)) 33 (T + 1) (nI (F + D))).1 30 15 = nI A := by rw [I_oth (by decide), I_oth (by decide), I_oth (by decide), I_oth (by decide), r30]; exact h15
    have g7 : (puI (puI (puI (puI (puI v 34 k (nI T)) 31 T (nI week)) 32 T (nI sh)) 33 (T + 1) (nI (F + D))) 30 13 (nI A)).1 30 0 = nI T := by rw [puI_ne (by decide), I_oth (by decide)]; exact g3
    have g8 : (puI (puI (puI (puI (puI (puI v 34 k (nI T)) 31 T (nI week)) 32 T (nI sh)) 33 (T + 1) (nI (F + D))) 30 13 (nI A)) 30 0 (nI (T + 1))).1 30 14 = nI D := by rw [puI_ne (by decide), puI_ne (by decide), I_oth (by decide)]; exact g5
    have hvT : v.1 30 0 = nI T := by rw [r30]; exact h0
    unfold X0_keepText
    rw [h0, hr]
    simp (disch := omega) only [gdn, gb0, gb1, ixn, nm1, nI_add, nI_mul, nsub, nI_ltI, nI_leI, nI_eq, eqNO, eqNO2, ltNO, NOlt, leNO, NOle, if_pos, if_neg, Option.bind_some, if_true, if_false, and_self, eq_self, l0, l1, l2, l3, l4, l5, l6, l7, l8, l9, l10, l11, l12, l13, l14, l15, l16, l17, l18, l19, l20, l24, l26, l30, l31, l32, l40, l41, l42, l43, l45, l47, l48, l57, l58, l59, l60, l61, l62, l63, l64, l97, l99, l100, l101, l102, l103, l104, l105, l106, l107, l108, l109, l110, l122, l160, l240, l255, l600, l1000, l3000, l10000, l10007, l10116, l67108863, l67108864, hvT, g1, g2, g3, g4, g5, g6, g7, g8]
  · exact Fr.pfI (Fr.pfI (Fr.puI (Fr.puI (Fr.puI (Fr.puI ((Fr.rf : Fr [31, 32, 33, 34] [(30, 0), (30, 13)] u u).next k3 (by decide) (by decide)) (by decide)) (by decide)) (by decide)) (by decide)) (by decide)) (by decide)
  · rw [I_oth (by decide), I_oth (by decide), I_oth (by decide), I_oth (by decide), I_row, I_oth (by decide), r31]
  · rw [I_oth (by decide), I_oth (by decide), I_oth (by decide), I_row, I_oth (by decide), I_oth (by decide), r32]
  · rw [I_oth (by decide), I_oth (by decide), I_row, I_oth (by decide), I_oth (by decide), I_oth (by decide), r33]
  · rw [puI_ne (by decide), I_self]
  · rw [I_oth (by decide), I_oth (by decide), I_oth (by decide), I_oth (by decide), I_oth (by decide), I_row]
    unfold insF
    by_cases z : i = k
    · subst z; rw [upd_s, if_neg (by omega), if_pos rfl]
    · rw [upd_n z]
      by_cases y : i < k
      · rw [if_pos y]; exact k4 i y
      · rw [if_neg y, if_neg z]; exact k5 i (by omega) (by omega)
/-! what is kept of all TEXTS -/
def IR (w : Wd) : Prop := ∃ A S O, (w.1 30 13 = nI A ∧ w.1 97 43 = nI S ∧ w.1 97 44 = nI O) ∧ (A ≤ 600 * nn w 30 0 ∧ S ≤ 600 * nn w 30 0 ∧ O ≤ 200 * nn w 30 0) ∧ ∀ t, t < nn w 30 0 → ∀ k, k < nn w 124 t → (nn w 37 (nn w 33 t + k) = 101 ∨ nn w 37 (nn w 33 t + k) = 103) → RCx w w (nn w 33 t + k) (20 * t + k) A S O
def IF (w : Wd) : Prop := w.1 97 39 = w.1 65 4 ∧ w.1 97 40 = w.1 65 5
/-- the RULES that stood stand as they stood -/
def BK (w w' : Wd) : Prop := (∀ t, t < nn w 30 0 → w'.1 31 t = w.1 31 t ∧ w'.1 32 t = w.1 32 t ∧ w'.1 33 t = w.1 33 t ∧ w'.1 124 t = w.1 124 t) ∧ (∀ r, r < nn w 33 (nn w 30 0) → ∀ k, 35 ≤ k → k ≤ 41 → w'.1 k r = w.1 k r ∧ w'.2 k r = w.2 k r)
/-- the model's beginning -/
theorem mord_s {v : Wd} {n t S O : Nat} {a2 a3 : Int32} (hn : n ≤ 600) {c : Nat → Nat} (ht : t < 5) (h120 : ∀ i, i < n → v.1 120 i &&& nI 255 = nI (c i) ∧ c i < 256 ∧ vp_nar .byte (v.1 120 i) = v.1 120 i) (h33 : ∃ m, n ≤ m ∧ m ≤ 600 ∧ v.1 97 33 = nI m) (h42 : v.1 97 42 = nI t) (h43 : v.1 97 43 = nI S) (h44 : v.1 97 44 = nI O) (hw : 0 ≤ a2.toInt ∧ a2.toInt < ((60 : Nat) : Int)) (hs : 1 ≤ a3.toInt ∧ a3.toInt ≤ 15) : ∃ w0 wm, X12_orders (nI n) a2 a3 v = X12_orders_j142 a2 a3 (nI S) (nI O) (nI (if tk c n 0 = 1 then 0 else 1)) wm ∧ Fr [121] [(97, 33), (97, 34), (97, 37), (97, 40), (97, 41), (124, t)] v w0 ∧ MB c n w0 ∧ (w0.1 97 33 = nI 0 ∧ w0.1 97 41 = nI 0 ∧ w0.1 97 40 = NO ∧ w0.1 124 t = nI 0) ∧ Fr [] [(97, 35), (97, 36), (97, 37), (97, 38)] w0 wm ∧ MT c n 0 wm := by
  obtain ⟨m, hm1, hm2, h33⟩ := h33
  have hcopy : ok (lp (X12_orders_b58 (nI n) a2 a3) (nI 0, puI v 97 34 (nI n))) (fun e => Fr [121] [(97, 34)] v e ∧ e.1 97 34 = nI n ∧ ∀ i, i < n → e.1 121 i = v.1 120 i) := by
    refine lp_up (fun k s => s.1 = nI k ∧ Fr [121] [(97, 34)] v s.2 ∧ s.2.1 97 34 = nI n ∧ ∀ i, i < k → s.2.1 121 i = v.1 120 i) n ?_ ?_ 0 _ (Nat.zero_le _) ⟨rfl, Fr.pfI Fr.rf (by decide), I_self, fun i hi => by omega⟩
    · rintro k ⟨z, e⟩ hk ⟨rfl, h1, h2, h3⟩
      simp only at h1 h2 h3
      have r120 : e.1 120 k = v.1 120 k := by rw [(h1.row 120 (by decide) (by decide)).1]
      unfold X12_orders_b58
      simp (disch := omega) only [gdn, gb0, gb1, ixn, nm1, nI_add, nI_mul, nsub, nI_ltI, nI_leI, nI_eq, eqNO, eqNO2, ltNO, NOlt, leNO, NOle, if_pos, if_neg, Option.bind_some, if_true, if_false, and_self, eq_self, l0, l1, l2, l3, l4, l5, l6, l7, l8, l9, l10, l11, l12, l13, l14, l15, l16, l17, l18, l19, l20, l24, l26, l30, l31, l32, l40, l41, l42, l43, l45, l47, l48, l57, l58, l59, l60, l61, l62, l63, l64, l97, l99, l100, l101, l102, l103, l104, l105, l106, l107, l108, l109, l110, l122, l160, l240, l255, l600, l1000, l3000, l10000, l10007, l10116, l67108863, l67108864, r120, (h120 k hk).2.2]
      refine ok_i ⟨rfl, Fr.puI h1 (by decide), by rw [I_oth (by decide)]; exact h2, fun i hi => ?_⟩
      rw [I_row]
      by_cases z : i = k
      · subst z; rw [upd_s]
      · rw [upd_n z]; exact h3 i (by omega)
    · rintro ⟨z, e⟩ ⟨rfl, h1, h2, h3⟩
      simp only at h1 h2 h3
      unfold X12_orders_b58
      simp (disch := omega) only [gdn, gb0, gb1, ixn, nm1, nI_add, nI_mul, nsub, nI_ltI, nI_leI, nI_eq, eqNO, eqNO2, ltNO, NOlt, leNO, NOle, if_pos, if_neg, Option.bind_some, if_true, if_false, and_self, eq_self, l0, l1, l2, l3, l4, l5, l6, l7, l8, l9, l10, l11, l12, l13, l14, l15, l16, l17, l18, l19, l20, l24, l26, l30, l31, l32, l40, l41, l42, l43, l45, l47, l48, l57, l58, l59, l60, l61, l62, l63, l64, l97, l99, l100, l101, l102, l103, l104, l105, l106, l107, l108, l109, l110, l122, l160, l240, l255, l600, l1000, l3000, l10000, l10007, l10116, l67108863, l67108864]
      exact ok_i ⟨h1, h2, h3⟩
  obtain ⟨e, he, f1, f2, f3⟩ := hcopy
  have e42 : e.1 97 42 = nI t := by rw [(f1 97 (by decide) 42 (by decide)).1]; exact h42
  have hMB : MB c n (puI (puI (puI (puI (puI e 97 33 (nI 0)) 97 41 (nI 0)) 97 40 NO) 97 37 (nI 0)) 124 t (nI 0)) := by
    refine ⟨?_, fun i hi => ?_⟩
    · rw [I_oth (by decide), puI_ne (by decide), puI_ne (by decide), puI_ne (by decide), puI_ne (by decide)]; exact f2
    · rw [I_oth (by decide), I_oth (by decide), I_oth (by decide), I_oth (by decide), I_oth (by decide), f3 i hi]
      exact ⟨(h120 i hi).1, (h120 i hi).2.1⟩
  obtain ⟨wm, n1, n2, n3⟩ := next_e hn hMB (p := 0) (by omega) (by rw [I_oth (by decide), I_self])
  have hml := mkd_lt (t := tk c n 0)
  have hm0 : mkd (tk c n 0) = 0 ↔ tk c n 0 = 1 := by
    unfold mkd
    (repeat' split) <;> omega
  refine ⟨_, wm, ?_, ?_, hMB, ⟨?_, ?_, ?_, ?_⟩, n2, n3⟩
  · have d42 : (puI (puI (puI (puI e 97 33 (nI 0)) 97 41 (nI 0)) 97 40 NO) 97 37 (nI 0)).1 97 42 = nI t := by rw [puI_ne (by decide), puI_ne (by decide), puI_ne (by decide), puI_ne (by decide)]; exact e42
    have d43 : (puI (puI (puI (puI (puI e 97 33 (nI 0)) 97 41 (nI 0)) 97 40 NO) 97 37 (nI 0)) 124 t (nI 0)).1 97 43 = nI S := by rw [I_oth (by decide), puI_ne (by decide), puI_ne (by decide), puI_ne (by decide), puI_ne (by decide), (f1 97 (by decide) 43 (by decide)).1]; exact h43
    have d44 : (puI (puI (puI (puI (puI e 97 33 (nI 0)) 97 41 (nI 0)) 97 40 NO) 97 37 (nI 0)) 124 t (nI 0)).1 97 44 = nI O := by rw [I_oth (by decide), puI_ne (by decide), puI_ne (by decide), puI_ne (by decide), puI_ne (by decide), (f1 97 (by decide) 44 (by decide)).1]; exact h44
    have w60 : X12_isWeek a2 v = nI 1 := by rw [mweek_e, if_pos hw]
    have s1 : ¬ a3 < (1 : Int32) := by rw [lt_t, tl_1]; omega
    have s15 : a3 ≤ (15 : Int32) := by rw [le_t, show (15 : Int32).toInt = 15 by decide]; omega
    unfold X12_orders
    rw [if_neg (show ¬ nI n < (0 : Int32) by rw [show (0 : Int32) = nI 0 from rfl, nI_ltI (by omega) (by omega)]; omega), h33, if_neg (show ¬ nI m < nI n by rw [nI_ltI (by omega) (by omega)]; omega), w60, if_neg (by decide), if_neg s1, if_pos s15, h42, if_neg (show ¬ nI t = (5 : Int32) by rw [show (5 : Int32) = nI 5 from rfl, nI_eq (by omega) (by omega)]; omega)]
    simp only [Option.bind_some]
    rw [show ((0 : Int32), puI v 97 34 (nI n)) = (nI 0, puI v 97 34 (nI n)) from rfl, he]
    simp only [Option.bind_some]
    rw [show puI (puI (puI (puI e 97 33 (0 : Int32)) 97 41 (0 : Int32)) 97 40 (-1 : Int32)) 97 37 (0 : Int32) = puI (puI (puI (puI e 97 33 (nI 0)) 97 41 (nI 0)) 97 40 NO) 97 37 (nI 0) from rfl, d42, gdn (by omega) (by omega), ixn (by omega), show ∀ x, puI x 124 t (0 : Int32) = puI x 124 t (nI 0) from fun _ => rfl, n1, d43, d44]
    simp only [Option.bind_some]
    by_cases z : tk c n 0 = 1
    · rw [if_pos z, if_pos (by rw [n3.1, hm0.mpr z]; rfl)]; rfl
    · rw [if_neg z, if_neg (by rw [n3.1, show (0 : Int32) = nI 0 from rfl, nI_eq (by omega) (by omega)]; exact fun y => z (hm0.mp y))]; rfl
  · exact Fr.pfI (Fr.pfI (Fr.pfI (Fr.pfI (Fr.pfI ((Fr.rf : Fr [121] [(97, 33), (97, 34), (97, 37), (97, 40), (97, 41), (124, t)] v v).next f1 (by decide) (by simp)) (by simp)) (by simp)) (by simp)) (by simp)) (by simp)
  · rw [I_oth (by decide), puI_ne (by decide), puI_ne (by decide), puI_ne (by decide), I_self]
  · rw [I_oth (by decide), puI_ne (by decide), puI_ne (by decide), I_self]
  · rw [I_oth (by decide), puI_ne (by decide), I_self]
  · rw [I_self]
