/-! operators that wait: the top first -/
def SK (w : Wd) : List Nat → Prop
  | [] => True
  | x :: L => w.1 68 L.length = nI x ∧ x < 128 ∧ SK w L
theorem SK.c {w w' : Wd} : ∀ {L : List Nat}, SK w L → (∀ i, i < L.length → w'.1 68 i = w.1 68 i) → SK w' L
  | [], _, _ => trivial
  | x :: L, h, e => ⟨(e _ (by rw [List.length_cons]; omega)).trans h.1, h.2.1, SK.c h.2.2 (fun i hi => e i (by rw [List.length_cons]; omega))⟩
theorem SK.drop {w : Wd} : ∀ {A L : List Nat}, SK w (A ++ L) → SK w L
  | [], _, h => h
  | _ :: A, L, h => SK.drop (A := A) (L := L) h.2.2
def bnd (x : Nat) : Nat := if x = 40 then 0 else if x = 43 then 5 else if x = 45 then 5 else if x = 60 then 4 else if x = 61 then 4 else if x = 62 then 4 else if x = 107 then 1 else if x = 108 then 2 else if x = 109 then 3 else 6
theorem bnd_e {x : Nat} (h : x < 128) (w : Wd) : X6_bindingOf (nI x) w = nI (bnd x) := by
  have : ∀ x : Fin 128, X6_bindingOf (nI x.1) w = nI (bnd x.1) := by
    intro x
    have h2 : ∀ x : Fin 128, (if (nI x.1) = (40 : Int32) then some (0 : Int32) else (if (nI x.1) = (43 : Int32) then some (5 : Int32) else (if (nI x.1) = (45 : Int32) then some (5 : Int32) else (if (nI x.1) = (60 : Int32) then some (4 : Int32) else (if (nI x.1) = (61 : Int32) then some (4 : Int32) else (if (nI x.1) = (62 : Int32) then some (4 : Int32) else (if (nI x.1) = (107 : Int32) then some (1 : Int32) else (if (nI x.1) = (108 : Int32) then some (2 : Int32) else (if (nI x.1) = (109 : Int32) then some (3 : Int32) else some (6 : Int32)))))))))).getD 0 = nI (bnd x.1) := by decide
    exact h2 x
  exact this ⟨x, h⟩
theorem bnd_lt (x : Nat) : bnd x < 7 := by
  unfold bnd
  iterate 9 (split; · omega)
  omega
/-! codes -/
def CB (w : Wd) (a : Nat) (C : List Nat) : Prop := ∀ i, i < C.length → w.1 42 (a + i) = nI (C.getD i 0)
theorem CB.app {w w' : Wd} {a v : Nat} {C : List Nat} (h : CB w a C) (e : w'.1 42 = upd (w.1 42) (a + C.length) (nI v)) : CB w' a (C ++ [v]) := by
  intro i hi
  rw [List.length_append, List.length_singleton] at hi
  rw [e]
  by_cases q : i = C.length
  · subst q; rw [upd_s, getD_last]
  · rw [upd_n (by omega), getD_app (by omega)]; exact h i (by omega)
theorem CB.row {w w' : Wd} {a : Nat} {C : List Nat} (h : CB w a C) (e : w'.1 42 = w.1 42) : CB w' a C := fun i hi => by rw [e]; exact h i hi
theorem add_e {w : Wd} {dc v : Nat} (h : w.1 30 15 = nI dc) (hd : dc < 3000) : X0_addCode (nI v) w = some (puI (puI w 42 dc (nI v)) 30 15 (nI (dc + 1))) := by
  unfold X0_addCode
  have h2 : (puI w 42 dc (nI v)).1 30 15 = nI dc := by simp (disch := omega) only [gdn, gb0, gb1, ixn, nm1, nI_add, nI_mul, nsub, nI_ltI, nI_leI, nI_eq, eqNO, eqNO2, ltNO, NOlt, leNO, NOle, if_pos, if_neg, Option.bind_some, if_true, if_false, and_self, eq_self, l0, l1, l2, l3, l4, l5, l6, l7, l8, l9, l10, l11, l12, l13, l14, l15, l16, l17, l18, l19, l20, l24, l26, l30, l31, l32, l40, l41, l42, l43, l45, l47, l48, l57, l58, l59, l60, l61, l62, l63, l64, l97, l99, l100, l101, l102, l103, l104, l105, l106, l107, l108, l109, l110, l122, l160, l240, l255, l600, l1000, l3000, l10000, l10007, l10116, l67108863, l67108864, I_oth, I_J, J_oth, J_I, I_row, J_row, SI_row, SI_oth, SI_J, SJ_row, SJ_oth, SJ_I, upd_s, upd_n, updL_s, updL_n, ne_eq, not_false_eq_true, h]
  simp (disch := omega) only [gdn, gb0, gb1, ixn, nm1, nI_add, nI_mul, nsub, nI_ltI, nI_leI, nI_eq, eqNO, eqNO2, ltNO, NOlt, leNO, NOle, if_pos, if_neg, Option.bind_some, if_true, if_false, and_self, eq_self, l0, l1, l2, l3, l4, l5, l6, l7, l8, l9, l10, l11, l12, l13, l14, l15, l16, l17, l18, l19, l20, l24, l26, l30, l31, l32, l40, l41, l42, l43, l45, l47, l48, l57, l58, l59, l60, l61, l62, l63, l64, l97, l99, l100, l101, l102, l103, l104, l105, l106, l107, l108, l109, l110, l122, l160, l240, l255, l600, l1000, l3000, l10000, l10007, l10116, l67108863, l67108864, h, h2]
/-- what a SUM's TOKENS may change in the class -/
def fS : List (Nat × Nat) := [(30, 15), (65, 4), (65, 5), (65, 6), (65, 7), (65, 8), (65, 9), (65, 10), (65, 11), (65, 12), (65, 14), (65, 16)]
def KS (a : Nat) (w w' : Wd) : Prop := Fr [42, 68] fS w w' ∧ ∀ i, i < a → w'.1 42 i = w.1 42 i
theorem KS.rf {a : Nat} {w : Wd} : KS a w w := ⟨Fr.rf, fun _ _ => rfl⟩
theorem KS.tr {a : Nat} {w w1 w2 : Wd} (h : KS a w w1) (h2 : KS a w1 w2) : KS a w w2 := ⟨h.1.next h2.1 (fun _ z => z) (fun _ z => z), fun i hi => (h2.2 i hi).trans (h.2 i hi)⟩
theorem KS.mono {a b : Nat} {w w1 : Wd} (h : KS b w w1) (hab : a ≤ b) : KS a w w1 := ⟨h.1, fun i hi => h.2 i (by omega)⟩
theorem KS.fld {a k j : Nat} {w w1 : Wd} {v : Int32} (h : KS a w w1) (hm : (k, j) ∈ fS) (hk : k ≠ 42) : KS a w (puI w1 k j v) := ⟨Fr.pfI h.1 hm, fun i hi => by rw [I_oth (by omega)]; exact h.2 i hi⟩
theorem KS.code {a i : Nat} {w w1 : Wd} {v : Int32} (h : KS a w w1) (hi : a ≤ i) : KS a w (puI w1 42 i v) := ⟨Fr.puI h.1 (by decide), fun j hj => by rw [I_row, upd_n (by omega)]; exact h.2 j hj⟩
theorem KS.wait {a i : Nat} {w w1 : Wd} {v : Int32} (h : KS a w w1) : KS a w (puI w1 68 i v) := ⟨Fr.puI h.1 (by decide), fun j hj => by rw [I_oth (by decide)]; exact h.2 j hj⟩
theorem KS.scan {a : Nat} {w w1 w2 : Wd} (h : KS a w w1) (h2 : Fr [] [(65, 6), (65, 7), (65, 8), (65, 9), (65, 10)] w1 w2) : KS a w w2 := h.tr ⟨fun k hk j hj => h2 k (by simp) j (fun z => hj ((by decide : ∀ q ∈ ([(65, 6), (65, 7), (65, 8), (65, 9), (65, 10)] : List (Nat × Nat)), q ∈ fS) _ z)), fun i _ => (h2 42 (by decide) i (by simp only [List.mem_cons, Prod.mk.injEq, List.not_mem_nil, or_false]; omega)).1⟩
/-- waiting operators, codes -/
def WQ (w : Wd) (L : List Nat) (a : Nat) (C : List Nat) : Prop := w.1 65 16 = nI L.length ∧ SK w L ∧ w.1 30 15 = nI (a + C.length) ∧ CB w a C
def opc (x : Nat) : Nat := 10007 + x
theorem rel_b {b : Nat} {w : Wd} {x : Nat} {L : List Nat} {a : Nat} {C : List Nat} (h : WQ w (x :: L) a C) (hb : b ≤ bnd x) (hL : L.length < 63) (hC : a + C.length < 3000) : ∃ w', (X6_release_b0 (nI b) w = some (.inl w') ∧ X6_release (nI b) w = (lp (X6_release_b0 (nI b)) w').bind some) ∧ WQ w' L a (C ++ [opc x]) ∧ Fr [42] [(30, 15), (65, 16)] w w' ∧ (∀ i, i < a → w'.1 42 i = w.1 42 i) := by
  obtain ⟨h1, ⟨h2, hx, h3⟩, h4, h5⟩ := h
  rw [List.length_cons] at h1
  have hbl := bnd_lt x
  refine ⟨puI (puI (puI w 65 16 (nI L.length)) 42 (a + C.length) (nI (opc x))) 30 15 (nI (a + C.length + 1)), ?_, ⟨?_, ?_, ?_, ?_⟩, ?_, ?_⟩
  · have g1 : (puI w 65 16 (nI L.length)).1 65 16 = nI L.length := I_self
    have g2 : (puI w 65 16 (nI L.length)).1 68 L.length = nI x := by rw [I_oth (by decide)]; exact h2
    have g3 : (puI w 65 16 (nI L.length)).1 30 15 = nI (a + C.length) := by rw [I_oth (by decide)]; exact h4
    constructor
    · unfold X6_release_b0
      simp (disch := omega) only [gdn, gb0, gb1, ixn, nm1, nI_add, nI_mul, nsub, nI_ltI, nI_leI, nI_eq, eqNO, eqNO2, ltNO, NOlt, leNO, NOle, if_pos, if_neg, Option.bind_some, if_true, if_false, and_self, eq_self, l0, l1, l2, l3, l4, l5, l6, l7, l8, l9, l10, l11, l12, l13, l14, l15, l16, l17, l18, l19, l20, l24, l26, l30, l31, l32, l40, l41, l42, l43, l45, l47, l48, l57, l58, l59, l60, l61, l62, l63, l64, l97, l99, l100, l101, l102, l103, l104, l105, l106, l107, l108, l109, l110, l122, l160, l240, l255, l600, l1000, l3000, l10000, l10007, l10116, l67108863, l67108864, h1, h2, bnd_e hx, show L.length + 1 - 1 = L.length by omega, g1, g2, add_e g3 hC]
      rfl
    · unfold X6_release
      simp (disch := omega) only [gdn, gb0, gb1, ixn, nm1, nI_add, nI_mul, nsub, nI_ltI, nI_leI, nI_eq, eqNO, eqNO2, ltNO, NOlt, leNO, NOle, if_pos, if_neg, Option.bind_some, if_true, if_false, and_self, eq_self, l0, l1, l2, l3, l4, l5, l6, l7, l8, l9, l10, l11, l12, l13, l14, l15, l16, l17, l18, l19, l20, l24, l26, l30, l31, l32, l40, l41, l42, l43, l45, l47, l48, l57, l58, l59, l60, l61, l62, l63, l64, l97, l99, l100, l101, l102, l103, l104, l105, l106, l107, l108, l109, l110, l122, l160, l240, l255, l600, l1000, l3000, l10000, l10007, l10116, l67108863, l67108864, h1, h2, bnd_e hx, show L.length + 1 - 1 = L.length by omega, g1, g2, add_e g3 hC]
      rfl
  · simp (disch := omega) only [gdn, gb0, gb1, ixn, nm1, nI_add, nI_mul, nsub, nI_ltI, nI_leI, nI_eq, eqNO, eqNO2, ltNO, NOlt, leNO, NOle, if_pos, if_neg, Option.bind_some, if_true, if_false, and_self, eq_self, l0, l1, l2, l3, l4, l5, l6, l7, l8, l9, l10, l11, l12, l13, l14, l15, l16, l17, l18, l19, l20, l24, l26, l30, l31, l32, l40, l41, l42, l43, l45, l47, l48, l57, l58, l59, l60, l61, l62, l63, l64, l97, l99, l100, l101, l102, l103, l104, l105, l106, l107, l108, l109, l110, l122, l160, l240, l255, l600, l1000, l3000, l10000, l10007, l10116, l67108863, l67108864, I_oth, I_J, J_oth, J_I, I_row, J_row, SI_row, SI_oth, SI_J, SJ_row, SJ_oth, SJ_I, upd_s, upd_n, updL_s, updL_n, ne_eq, not_false_eq_true]
  · exact h3.c (fun i hi => by simp (disch := omega) only [gdn, gb0, gb1, ixn, nm1, nI_add, nI_mul, nsub, nI_ltI, nI_leI, nI_eq, eqNO, eqNO2, ltNO, NOlt, leNO, NOle, if_pos, if_neg, Option.bind_some, if_true, if_false, and_self, eq_self, l0, l1, l2, l3, l4, l5, l6, l7, l8, l9, l10, l11, l12, l13, l14, l15, l16, l17, l18, l19, l20, l24, l26, l30, l31, l32, l40, l41, l42, l43, l45, l47, l48, l57, l58, l59, l60, l61, l62, l63, l64, l97, l99, l100, l101, l102, l103, l104, l105, l106, l107, l108, l109, l110, l122, l160, l240, l255, l600, l1000, l3000, l10000, l10007, l10116, l67108863, l67108864, I_oth, I_J, J_oth, J_I, I_row, J_row, SI_row, SI_oth, SI_J, SJ_row, SJ_oth, SJ_I, upd_s, upd_n, updL_s, updL_n, ne_eq, not_false_eq_true])
  · rw [I_self, List.length_append, List.length_singleton]; rfl
  · refine h5.app ?_
    simp (disch := omega) only [gdn, gb0, gb1, ixn, nm1, nI_add, nI_mul, nsub, nI_ltI, nI_leI, nI_eq, eqNO, eqNO2, ltNO, NOlt, leNO, NOle, if_pos, if_neg, Option.bind_some, if_true, if_false, and_self, eq_self, l0, l1, l2, l3, l4, l5, l6, l7, l8, l9, l10, l11, l12, l13, l14, l15, l16, l17, l18, l19, l20, l24, l26, l30, l31, l32, l40, l41, l42, l43, l45, l47, l48, l57, l58, l59, l60, l61, l62, l63, l64, l97, l99, l100, l101, l102, l103, l104, l105, l106, l107, l108, l109, l110, l122, l160, l240, l255, l600, l1000, l3000, l10000, l10007, l10116, l67108863, l67108864, I_oth, I_J, J_oth, J_I, I_row, J_row, SI_row, SI_oth, SI_J, SJ_row, SJ_oth, SJ_I, upd_s, upd_n, updL_s, updL_n, ne_eq, not_false_eq_true]
  · exact Fr.pfI (Fr.puI (Fr.pfI Fr.rf (by decide)) (by decide)) (by decide)
  · intro i hi
    simp (disch := omega) only [gdn, gb0, gb1, ixn, nm1, nI_add, nI_mul, nsub, nI_ltI, nI_leI, nI_eq, eqNO, eqNO2, ltNO, NOlt, leNO, NOle, if_pos, if_neg, Option.bind_some, if_true, if_false, and_self, eq_self, l0, l1, l2, l3, l4, l5, l6, l7, l8, l9, l10, l11, l12, l13, l14, l15, l16, l17, l18, l19, l20, l24, l26, l30, l31, l32, l40, l41, l42, l43, l45, l47, l48, l57, l58, l59, l60, l61, l62, l63, l64, l97, l99, l100, l101, l102, l103, l104, l105, l106, l107, l108, l109, l110, l122, l160, l240, l255, l600, l1000, l3000, l10000, l10007, l10116, l67108863, l67108864, I_oth, I_J, J_oth, J_I, I_row, J_row, SI_row, SI_oth, SI_J, SJ_row, SJ_oth, SJ_I, upd_s, upd_n, updL_s, updL_n, ne_eq, not_false_eq_true]
theorem rel_lp {b : Nat} {w : Wd} {A R : List Nat} {a : Nat} {C : List Nat} (h : WQ w (A ++ R) a C) (hA : ∀ x ∈ A, b ≤ bnd x) (hR : ∀ x, R.head? = some x → bnd x < b) (hL : (A ++ R).length < 64) (hC : a + C.length + A.length ≤ 3000) (hb7 : b < 100) : ∃ w', lp (X6_release_b0 (nI b)) w = some w' ∧ WQ w' R a (C ++ A.map opc) ∧ Fr [42] [(30, 15), (65, 16)] w w' ∧ (∀ i, i < a → w'.1 42 i = w.1 42 i) := by
  induction A generalizing w C with
  | nil =>
    rw [List.nil_append] at h hL
    refine ⟨w, lp_exit ?_, by rw [List.map_nil, List.append_nil]; exact h, Fr.rf, fun _ _ => rfl⟩
    obtain ⟨h1, h2, -, -⟩ := h
    unfold X6_release_b0
    cases R with
    | nil => simp (disch := omega) only [gdn, gb0, gb1, ixn, nm1, nI_add, nI_mul, nsub, nI_ltI, nI_leI, nI_eq, eqNO, eqNO2, ltNO, NOlt, leNO, NOle, if_pos, if_neg, Option.bind_some, if_true, if_false, and_self, eq_self, l0, l1, l2, l3, l4, l5, l6, l7, l8, l9, l10, l11, l12, l13, l14, l15, l16, l17, l18, l19, l20, l24, l26, l30, l31, l32, l40, l41, l42, l43, l45, l47, l48, l57, l58, l59, l60, l61, l62, l63, l64, l97, l99, l100, l101, l102, l103, l104, l105, l106, l107, l108, l109, l110, l122, l160, l240, l255, l600, l1000, l3000, l10000, l10007, l10116, l67108863, l67108864, h1, List.length_nil]
    | cons x R =>
      obtain ⟨h3, hx, -⟩ := h2
      have hb := hR x rfl
      have hb2 := bnd_lt x
      rw [List.length_cons] at h1 hL
      simp (disch := omega) only [gdn, gb0, gb1, ixn, nm1, nI_add, nI_mul, nsub, nI_ltI, nI_leI, nI_eq, eqNO, eqNO2, ltNO, NOlt, leNO, NOle, if_pos, if_neg, Option.bind_some, if_true, if_false, and_self, eq_self, l0, l1, l2, l3, l4, l5, l6, l7, l8, l9, l10, l11, l12, l13, l14, l15, l16, l17, l18, l19, l20, l24, l26, l30, l31, l32, l40, l41, l42, l43, l45, l47, l48, l57, l58, l59, l60, l61, l62, l63, l64, l97, l99, l100, l101, l102, l103, l104, l105, l106, l107, l108, l109, l110, l122, l160, l240, l255, l600, l1000, l3000, l10000, l10007, l10116, l67108863, l67108864, h1, h3, bnd_e hx, show R.length + 1 - 1 = R.length by omega]
  | cons x A ih =>
    rw [List.cons_append] at h
    rw [List.cons_append, List.length_cons] at hL
    rw [List.length_cons] at hC
    obtain ⟨w1, r1, r2, r3, r4⟩ := rel_b h (hA x List.mem_cons_self) (by omega) (by omega)
    obtain ⟨w2, k1, k2, k3, k4⟩ := ih r2 (fun y hy => hA y (List.mem_cons_of_mem _ hy)) (by omega) (by rw [List.length_append, List.length_singleton]; omega)
    refine ⟨w2, by rw [lp_step r1.1]; exact k1, ?_, r3.next k3 (fun _ z => z) (fun _ z => z), fun i hi => (k4 i hi).trans (r4 i hi)⟩
    rw [List.map_cons]
    rw [List.append_assoc] at k2
    exact k2
theorem release_e {b : Nat} {w : Wd} {A R : List Nat} {a : Nat} {C : List Nat} (h : WQ w (A ++ R) a C) (hA : ∀ x ∈ A, b ≤ bnd x) (hR : ∀ x, R.head? = some x → bnd x < b) (hL : (A ++ R).length < 64) (hC : a + C.length + A.length ≤ 3000) (hb7 : b < 100) : ∃ w', X6_release (nI b) w = some w' ∧ WQ w' R a (C ++ A.map opc) ∧ Fr [42] [(30, 15), (65, 16)] w w' ∧ (∀ i, i < a → w'.1 42 i = w.1 42 i) := by
  cases A with
  | nil =>
    rw [List.nil_append] at h hL
    refine ⟨w, ?_, by rw [List.map_nil, List.append_nil]; exact h, Fr.rf, fun _ _ => rfl⟩
    obtain ⟨h1, h2, -, -⟩ := h
    unfold X6_release
    cases R with
    | nil => simp (disch := omega) only [gdn, gb0, gb1, ixn, nm1, nI_add, nI_mul, nsub, nI_ltI, nI_leI, nI_eq, eqNO, eqNO2, ltNO, NOlt, leNO, NOle, if_pos, if_neg, Option.bind_some, if_true, if_false, and_self, eq_self, l0, l1, l2, l3, l4, l5, l6, l7, l8, l9, l10, l11, l12, l13, l14, l15, l16, l17, l18, l19, l20, l24, l26, l30, l31, l32, l40, l41, l42, l43, l45, l47, l48, l57, l58, l59, l60, l61, l62, l63, l64, l97, l99, l100, l101, l102, l103, l104, l105, l106, l107, l108, l109, l110, l122, l160, l240, l255, l600, l1000, l3000, l10000, l10007, l10116, l67108863, l67108864, h1, List.length_nil]
    | cons x R =>
      obtain ⟨h3, hx, -⟩ := h2
      have hb := hR x rfl
      have hb2 := bnd_lt x
      rw [List.length_cons] at h1 hL
      simp (disch := omega) only [gdn, gb0, gb1, ixn, nm1, nI_add, nI_mul, nsub, nI_ltI, nI_leI, nI_eq, eqNO, eqNO2, ltNO, NOlt, leNO, NOle, if_pos, if_neg, Option.bind_some, if_true, if_false, and_self, eq_self, l0, l1, l2, l3, l4, l5, l6, l7, l8, l9, l10, l11, l12, l13, l14, l15, l16, l17, l18, l19, l20, l24, l26, l30, l31, l32, l40, l41, l42, l43, l45, l47, l48, l57, l58, l59, l60, l61, l62, l63, l64, l97, l99, l100, l101, l102, l103, l104, l105, l106, l107, l108, l109, l110, l122, l160, l240, l255, l600, l1000, l3000, l10000, l10007, l10116, l67108863, l67108864, h1, h3, bnd_e hx, show R.length + 1 - 1 = R.length by omega]
  | cons x A =>
    rw [List.cons_append] at h
    rw [List.cons_append, List.length_cons] at hL
    rw [List.length_cons] at hC
    obtain ⟨w1, r1, r2, r3, r4⟩ := rel_b h (hA x List.mem_cons_self) (by omega) (by omega)
    obtain ⟨w2, k1, k2, k3, k4⟩ := rel_lp r2 (fun y hy => hA y (List.mem_cons_of_mem _ hy)) hR (by omega) (by rw [List.length_append, List.length_singleton]; omega) hb7
    refine ⟨w2, by rw [r1.2, k1]; rfl, ?_, r3.next k3 (fun _ z => z) (fun _ z => z), fun i hi => (k4 i hi).trans (r4 i hi)⟩
    rw [List.map_cons]
    rw [List.append_assoc] at k2
    exact k2
theorem await_e {w : Wd} {x : Nat} {L : List Nat} {a : Nat} {C : List Nat} (h : WQ w L a C) (hx : x < 128) (hL : L.length < 64) : ∃ w', X6_await (nI x) w = some w' ∧ WQ w' (x :: L) a C ∧ Fr [68] [(65, 16)] w w' := by
  obtain ⟨h1, h2, h3, h4⟩ := h
  refine ⟨puI (puI w 68 L.length (nI x)) 65 16 (nI (L.length + 1)), ?_, ⟨?_, ⟨?_, hx, ?_⟩, ?_, ?_⟩, Fr.pfI (Fr.puI Fr.rf (by decide)) (by decide)⟩
  · have g : (puI w 68 L.length (nI x)).1 65 16 = nI L.length := by rw [I_oth (by decide)]; exact h1
    unfold X6_await
    simp (disch := omega) only [gdn, gb0, gb1, ixn, nm1, nI_add, nI_mul, nsub, nI_ltI, nI_leI, nI_eq, eqNO, eqNO2, ltNO, NOlt, leNO, NOle, if_pos, if_neg, Option.bind_some, if_true, if_false, and_self, eq_self, l0, l1, l2, l3, l4, l5, l6, l7, l8, l9, l10, l11, l12, l13, l14, l15, l16, l17, l18, l19, l20, l24, l26, l30, l31, l32, l40, l41, l42, l43, l45, l47, l48, l57, l58, l59, l60, l61, l62, l63, l64, l97, l99, l100, l101, l102, l103, l104, l105, l106, l107, l108, l109, l110, l122, l160, l240, l255, l600, l1000, l3000, l10000, l10007, l10116, l67108863, l67108864, h1, g]
  · rw [I_self, List.length_cons]
  · simp (disch := omega) only [gdn, gb0, gb1, ixn, nm1, nI_add, nI_mul, nsub, nI_ltI, nI_leI, nI_eq, eqNO, eqNO2, ltNO, NOlt, leNO, NOle, if_pos, if_neg, Option.bind_some, if_true, if_false, and_self, eq_self, l0, l1, l2, l3, l4, l5, l6, l7, l8, l9, l10, l11, l12, l13, l14, l15, l16, l17, l18, l19, l20, l24, l26, l30, l31, l32, l40, l41, l42, l43, l45, l47, l48, l57, l58, l59, l60, l61, l62, l63, l64, l97, l99, l100, l101, l102, l103, l104, l105, l106, l107, l108, l109, l110, l122, l160, l240, l255, l600, l1000, l3000, l10000, l10007, l10116, l67108863, l67108864, I_oth, I_J, J_oth, J_I, I_row, J_row, SI_row, SI_oth, SI_J, SJ_row, SJ_oth, SJ_I, upd_s, upd_n, updL_s, updL_n, ne_eq, not_false_eq_true]
  · exact h2.c (fun i hi => by simp (disch := omega) only [gdn, gb0, gb1, ixn, nm1, nI_add, nI_mul, nsub, nI_ltI, nI_leI, nI_eq, eqNO, eqNO2, ltNO, NOlt, leNO, NOle, if_pos, if_neg, Option.bind_some, if_true, if_false, and_self, eq_self, l0, l1, l2, l3, l4, l5, l6, l7, l8, l9, l10, l11, l12, l13, l14, l15, l16, l17, l18, l19, l20, l24, l26, l30, l31, l32, l40, l41, l42, l43, l45, l47, l48, l57, l58, l59, l60, l61, l62, l63, l64, l97, l99, l100, l101, l102, l103, l104, l105, l106, l107, l108, l109, l110, l122, l160, l240, l255, l600, l1000, l3000, l10000, l10007, l10116, l67108863, l67108864, I_oth, I_J, J_oth, J_I, I_row, J_row, SI_row, SI_oth, SI_J, SJ_row, SJ_oth, SJ_I, upd_s, upd_n, updL_s, updL_n, ne_eq, not_false_eq_true])
  · simp (disch := omega) only [gdn, gb0, gb1, ixn, nm1, nI_add, nI_mul, nsub, nI_ltI, nI_leI, nI_eq, eqNO, eqNO2, ltNO, NOlt, leNO, NOle, if_pos, if_neg, Option.bind_some, if_true, if_false, and_self, eq_self, l0, l1, l2, l3, l4, l5, l6, l7, l8, l9, l10, l11, l12, l13, l14, l15, l16, l17, l18, l19, l20, l24, l26, l30, l31, l32, l40, l41, l42, l43, l45, l47, l48, l57, l58, l59, l60, l61, l62, l63, l64, l97, l99, l100, l101, l102, l103, l104, l105, l106, l107, l108, l109, l110, l122, l160, l240, l255, l600, l1000, l3000, l10000, l10007, l10116, l67108863, l67108864, I_oth, I_J, J_oth, J_I, I_row, J_row, SI_row, SI_oth, SI_J, SJ_row, SJ_oth, SJ_I, upd_s, upd_n, updL_s, updL_n, ne_eq, not_false_eq_true, h3]
  · refine h4.row ?_
    simp (disch := omega) only [gdn, gb0, gb1, ixn, nm1, nI_add, nI_mul, nsub, nI_ltI, nI_leI, nI_eq, eqNO, eqNO2, ltNO, NOlt, leNO, NOle, if_pos, if_neg, Option.bind_some, if_true, if_false, and_self, eq_self, l0, l1, l2, l3, l4, l5, l6, l7, l8, l9, l10, l11, l12, l13, l14, l15, l16, l17, l18, l19, l20, l24, l26, l30, l31, l32, l40, l41, l42, l43, l45, l47, l48, l57, l58, l59, l60, l61, l62, l63, l64, l97, l99, l100, l101, l102, l103, l104, l105, l106, l107, l108, l109, l110, l122, l160, l240, l255, l600, l1000, l3000, l10000, l10007, l10116, l67108863, l67108864, I_oth, I_J, J_oth, J_I, I_row, J_row, SI_row, SI_oth, SI_J, SJ_row, SJ_oth, SJ_I, upd_s, upd_n, updL_s, updL_n, ne_eq, not_false_eq_true]
theorem pscode_e {w : Wd} {v : Nat} {L : List Nat} {a : Nat} {C : List Nat} (h : WQ w L a C) (hC : a + C.length < 3000) : ∃ w', X0_addCode (nI v) w = some w' ∧ WQ w' L a (C ++ [v]) ∧ Fr [42] [(30, 15)] w w' ∧ (∀ i, i < a → w'.1 42 i = w.1 42 i) := by
  obtain ⟨h1, h2, h3, h4⟩ := h
  refine ⟨_, add_e h3 hC, ⟨?_, ?_, ?_, ?_⟩, Fr.pfI (Fr.puI Fr.rf (by decide)) (by decide), fun i hi => ?_⟩
  · simp (disch := omega) only [gdn, gb0, gb1, ixn, nm1, nI_add, nI_mul, nsub, nI_ltI, nI_leI, nI_eq, eqNO, eqNO2, ltNO, NOlt, leNO, NOle, if_pos, if_neg, Option.bind_some, if_true, if_false, and_self, eq_self, l0, l1, l2, l3, l4, l5, l6, l7, l8, l9, l10, l11, l12, l13, l14, l15, l16, l17, l18, l19, l20, l24, l26, l30, l31, l32, l40, l41, l42, l43, l45, l47, l48, l57, l58, l59, l60, l61, l62, l63, l64, l97, l99, l100, l101, l102, l103, l104, l105, l106, l107, l108, l109, l110, l122, l160, l240, l255, l600, l1000, l3000, l10000, l10007, l10116, l67108863, l67108864, I_oth, I_J, J_oth, J_I, I_row, J_row, SI_row, SI_oth, SI_J, SJ_row, SJ_oth, SJ_I, upd_s, upd_n, updL_s, updL_n, ne_eq, not_false_eq_true, h1]
  · exact h2.c (fun i hi => by simp (disch := omega) only [gdn, gb0, gb1, ixn, nm1, nI_add, nI_mul, nsub, nI_ltI, nI_leI, nI_eq, eqNO, eqNO2, ltNO, NOlt, leNO, NOle, if_pos, if_neg, Option.bind_some, if_true, if_false, and_self, eq_self, l0, l1, l2, l3, l4, l5, l6, l7, l8, l9, l10, l11, l12, l13, l14, l15, l16, l17, l18, l19, l20, l24, l26, l30, l31, l32, l40, l41, l42, l43, l45, l47, l48, l57, l58, l59, l60, l61, l62, l63, l64, l97, l99, l100, l101, l102, l103, l104, l105, l106, l107, l108, l109, l110, l122, l160, l240, l255, l600, l1000, l3000, l10000, l10007, l10116, l67108863, l67108864, I_oth, I_J, J_oth, J_I, I_row, J_row, SI_row, SI_oth, SI_J, SJ_row, SJ_oth, SJ_I, upd_s, upd_n, updL_s, updL_n, ne_eq, not_false_eq_true])
  · rw [I_self, List.length_append, List.length_singleton]; rfl
  · refine h4.app ?_
    simp (disch := omega) only [gdn, gb0, gb1, ixn, nm1, nI_add, nI_mul, nsub, nI_ltI, nI_leI, nI_eq, eqNO, eqNO2, ltNO, NOlt, leNO, NOle, if_pos, if_neg, Option.bind_some, if_true, if_false, and_self, eq_self, l0, l1, l2, l3, l4, l5, l6, l7, l8, l9, l10, l11, l12, l13, l14, l15, l16, l17, l18, l19, l20, l24, l26, l30, l31, l32, l40, l41, l42, l43, l45, l47, l48, l57, l58, l59, l60, l61, l62, l63, l64, l97, l99, l100, l101, l102, l103, l104, l105, l106, l107, l108, l109, l110, l122, l160, l240, l255, l600, l1000, l3000, l10000, l10007, l10116, l67108863, l67108864, I_oth, I_J, J_oth, J_I, I_row, J_row, SI_row, SI_oth, SI_J, SJ_row, SJ_oth, SJ_I, upd_s, upd_n, updL_s, updL_n, ne_eq, not_false_eq_true]
  · simp (disch := omega) only [gdn, gb0, gb1, ixn, nm1, nI_add, nI_mul, nsub, nI_ltI, nI_leI, nI_eq, eqNO, eqNO2, ltNO, NOlt, leNO, NOle, if_pos, if_neg, Option.bind_some, if_true, if_false, and_self, eq_self, l0, l1, l2, l3, l4, l5, l6, l7, l8, l9, l10, l11, l12, l13, l14, l15, l16, l17, l18, l19, l20, l24, l26, l30, l31, l32, l40, l41, l42, l43, l45, l47, l48, l57, l58, l59, l60, l61, l62, l63, l64, l97, l99, l100, l101, l102, l103, l104, l105, l106, l107, l108, l109, l110, l122, l160, l240, l255, l600, l1000, l3000, l10000, l10007, l10116, l67108863, l67108864, I_oth, I_J, J_oth, J_I, I_row, J_row, SI_row, SI_oth, SI_J, SJ_row, SJ_oth, SJ_I, upd_s, upd_n, updL_s, updL_n, ne_eq, not_false_eq_true]
/-! the class's loop, TOKEN by TOKEN -/
noncomputable def PS (n st : Nat) (w : Wd) : Option Wd := lp (X6_parse_b31 (nI n)) (nI 0, nI st, w)
section
variable {n st : Nat} {w e : Wd}
theorem ps_end1 {x : Nat} (hx : x < 2 ^ 31) (hn : n < 2 ^ 31) : lp (X6_parse_b31 (nI n)) (nI 1, nI x, w) = some w := by
  refine lp_exit ?_
  unfold X6_parse_b31
  simp (disch := omega) only [gdn, gb0, gb1, ixn, nm1, nI_add, nI_mul, nsub, nI_ltI, nI_leI, nI_eq, eqNO, eqNO2, ltNO, NOlt, leNO, NOle, if_pos, if_neg, Option.bind_some, if_true, if_false, and_self, eq_self, l0, l1, l2, l3, l4, l5, l6, l7, l8, l9, l10, l11, l12, l13, l14, l15, l16, l17, l18, l19, l20, l24, l26, l30, l31, l32, l40, l41, l42, l43, l45, l47, l48, l57, l58, l59, l60, l61, l62, l63, l64, l97, l99, l100, l101, l102, l103, l104, l105, l106, l107, l108, l109, l110, l122, l160, l240, l255, l600, l1000, l3000, l10000, l10007, l10116, l67108863, l67108864]
  split <;> rfl
theorem ps_step (hn : n ≤ 600) (hst : st ≤ n) (hs : X6_scan (nI n) w = some e) {t : Nat} (ht : e.1 65 7 = nI t) (h0 : ¬ t = 0) (h1 : ¬ t = 1) (ht2 : t < 1000) {e2 : Wd} (hk : X6_take e = some (nI 0, e2)) (h7 : e2.1 65 7 = e.1 65 7) : PS n st w = PS n (st + 1) e2 := by
  unfold PS
  refine lp_step ?_
  rw [ht] at h7
  unfold X6_parse_b31 X6_parse_j60 X6_parse_j81 X6_parse_j99
  simp (disch := omega) only [gdn, gb0, gb1, ixn, nm1, nI_add, nI_mul, nsub, nI_ltI, nI_leI, nI_eq, eqNO, eqNO2, ltNO, NOlt, leNO, NOle, if_pos, if_neg, Option.bind_some, if_true, if_false, and_self, eq_self, l0, l1, l2, l3, l4, l5, l6, l7, l8, l9, l10, l11, l12, l13, l14, l15, l16, l17, l18, l19, l20, l24, l26, l30, l31, l32, l40, l41, l42, l43, l45, l47, l48, l57, l58, l59, l60, l61, l62, l63, l64, l97, l99, l100, l101, l102, l103, l104, l105, l106, l107, l108, l109, l110, l122, l160, l240, l255, l600, l1000, l3000, l10000, l10007, l10116, l67108863, l67108864, hs, ht, hk, h7]
theorem ps_bad (hn : n ≤ 600) (hst : st ≤ n) (hs : X6_scan (nI n) w = some e) (ht : e.1 65 7 = nI 0) : PS n st w = some (puI (puI e 65 4 (nI 1)) 65 5 (e.1 65 8)) := by
  unfold PS
  have h : X6_parse_b31 (nI n) (nI 0, nI st, w) = some (.inl (nI 1, nI (st + 1), puI (puI e 65 4 (nI 1)) 65 5 (e.1 65 8))) := by
    have g : (puI e 65 4 (nI 1)).1 65 8 = e.1 65 8 := by simp (disch := omega) only [gdn, gb0, gb1, ixn, nm1, nI_add, nI_mul, nsub, nI_ltI, nI_leI, nI_eq, eqNO, eqNO2, ltNO, NOlt, leNO, NOle, if_pos, if_neg, Option.bind_some, if_true, if_false, and_self, eq_self, l0, l1, l2, l3, l4, l5, l6, l7, l8, l9, l10, l11, l12, l13, l14, l15, l16, l17, l18, l19, l20, l24, l26, l30, l31, l32, l40, l41, l42, l43, l45, l47, l48, l57, l58, l59, l60, l61, l62, l63, l64, l97, l99, l100, l101, l102, l103, l104, l105, l106, l107, l108, l109, l110, l122, l160, l240, l255, l600, l1000, l3000, l10000, l10007, l10116, l67108863, l67108864, I_oth, I_J, J_oth, J_I, I_row, J_row, SI_row, SI_oth, SI_J, SJ_row, SJ_oth, SJ_I, upd_s, upd_n, updL_s, updL_n, ne_eq, not_false_eq_true]
    unfold X6_parse_b31 X6_parse_j60 X6_parse_j81 X6_parse_j94 X6_parse_j99
    simp (disch := omega) only [gdn, gb0, gb1, ixn, nm1, nI_add, nI_mul, nsub, nI_ltI, nI_leI, nI_eq, eqNO, eqNO2, ltNO, NOlt, leNO, NOle, if_pos, if_neg, Option.bind_some, if_true, if_false, and_self, eq_self, l0, l1, l2, l3, l4, l5, l6, l7, l8, l9, l10, l11, l12, l13, l14, l15, l16, l17, l18, l19, l20, l24, l26, l30, l31, l32, l40, l41, l42, l43, l45, l47, l48, l57, l58, l59, l60, l61, l62, l63, l64, l97, l99, l100, l101, l102, l103, l104, l105, l106, l107, l108, l109, l110, l122, l160, l240, l255, l600, l1000, l3000, l10000, l10007, l10116, l67108863, l67108864, hs, ht, g]
  rw [lp_step h, ps_end1 (by omega) (by omega)]
theorem ps_fault (hn : n ≤ 600) (hst : st ≤ n) (hs : X6_scan (nI n) w = some e) {t : Nat} (ht : e.1 65 7 = nI t) (h0 : ¬ t = 0) (ht2 : t < 1000) {k : Nat} {e2 : Wd} (hk : X6_take e = some (nI k, e2)) (hk0 : ¬ k = 0) (hk2 : k < 10) : PS n st w = some (puI (puI e2 65 4 (nI k)) 65 5 (e2.1 65 8)) := by
  unfold PS
  have h : X6_parse_b31 (nI n) (nI 0, nI st, w) = some (.inl (nI 1, nI (st + 1), puI (puI e2 65 4 (nI k)) 65 5 (e2.1 65 8))) := by
    have g : (puI e2 65 4 (nI k)).1 65 8 = e2.1 65 8 := by simp (disch := omega) only [gdn, gb0, gb1, ixn, nm1, nI_add, nI_mul, nsub, nI_ltI, nI_leI, nI_eq, eqNO, eqNO2, ltNO, NOlt, leNO, NOle, if_pos, if_neg, Option.bind_some, if_true, if_false, and_self, eq_self, l0, l1, l2, l3, l4, l5, l6, l7, l8, l9, l10, l11, l12, l13, l14, l15, l16, l17, l18, l19, l20, l24, l26, l30, l31, l32, l40, l41, l42, l43, l45, l47, l48, l57, l58, l59, l60, l61, l62, l63, l64, l97, l99, l100, l101, l102, l103, l104, l105, l106, l107, l108, l109, l110, l122, l160, l240, l255, l600, l1000, l3000, l10000, l10007, l10116, l67108863, l67108864, I_oth, I_J, J_oth, J_I, I_row, J_row, SI_row, SI_oth, SI_J, SJ_row, SJ_oth, SJ_I, upd_s, upd_n, updL_s, updL_n, ne_eq, not_false_eq_true]
    unfold X6_parse_b31 X6_parse_j60 X6_parse_j81 X6_parse_j94 X6_parse_j99
    simp (disch := omega) only [gdn, gb0, gb1, ixn, nm1, nI_add, nI_mul, nsub, nI_ltI, nI_leI, nI_eq, eqNO, eqNO2, ltNO, NOlt, leNO, NOle, if_pos, if_neg, Option.bind_some, if_true, if_false, and_self, eq_self, l0, l1, l2, l3, l4, l5, l6, l7, l8, l9, l10, l11, l12, l13, l14, l15, l16, l17, l18, l19, l20, l24, l26, l30, l31, l32, l40, l41, l42, l43, l45, l47, l48, l57, l58, l59, l60, l61, l62, l63, l64, l97, l99, l100, l101, l102, l103, l104, l105, l106, l107, l108, l109, l110, l122, l160, l240, l255, l600, l1000, l3000, l10000, l10007, l10116, l67108863, l67108864, hs, ht, hk, g]
  rw [lp_step h, ps_end1 (by omega) (by omega)]
theorem ps_done (hn : n ≤ 600) (hst : st ≤ n) (hs : X6_scan (nI n) w = some e) (ht : e.1 65 7 = nI 1) {e2 : Wd} (hk : X6_take e = some (nI 0, e2)) (h7 : e2.1 65 7 = e.1 65 7) : PS n st w = some e2 := by
  unfold PS
  rw [ht] at h7
  have h : X6_parse_b31 (nI n) (nI 0, nI st, w) = some (.inl (nI 1, nI (st + 1), e2)) := by
    unfold X6_parse_b31 X6_parse_j60 X6_parse_j81 X6_parse_j94 X6_parse_j99
    simp (disch := omega) only [gdn, gb0, gb1, ixn, nm1, nI_add, nI_mul, nsub, nI_ltI, nI_leI, nI_eq, eqNO, eqNO2, ltNO, NOlt, leNO, NOle, if_pos, if_neg, Option.bind_some, if_true, if_false, and_self, eq_self, l0, l1, l2, l3, l4, l5, l6, l7, l8, l9, l10, l11, l12, l13, l14, l15, l16, l17, l18, l19, l20, l24, l26, l30, l31, l32, l40, l41, l42, l43, l45, l47, l48, l57, l58, l59, l60, l61, l62, l63, l64, l97, l99, l100, l101, l102, l103, l104, l105, l106, l107, l108, l109, l110, l122, l160, l240, l255, l600, l1000, l3000, l10000, l10007, l10116, l67108863, l67108864, hs, ht, hk, h7]
  rw [lp_step h, ps_end1 (by omega) (by omega)]
end
