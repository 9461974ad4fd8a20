/-! what a TOKEN does in a SUM (class) -/
def CX (w : Wd) (s D : Nat) (L : List Nat) (A : Nat) (C : List Nat) : Prop := w.1 65 11 = nI s ∧ w.1 65 14 = nI D ∧ WQ w L A C
def fT : List (Nat × Nat) := [(30, 15), (65, 11), (65, 12), (65, 14), (65, 16)]
def KT (A : Nat) (w w' : Wd) : Prop := Fr [42, 68] fT w w' ∧ ∀ i, i < A → w'.1 42 i = w.1 42 i
theorem KT.rf {A : Nat} {w : Wd} : KT A w w := ⟨Fr.rf, fun _ _ => rfl⟩
theorem KT.ks {A : Nat} {w w1 w2 : Wd} (h : KS A w w1) (h2 : KT A w1 w2) : KS A w w2 := h.tr ⟨fun k hk j hj => h2.1 k hk j (fun z => hj ((by decide : ∀ q ∈ fT, q ∈ fS) _ z)), h2.2⟩
theorem goOn_e (s : Int32) (w : Wd) : X6_goOn s w = some (nI 0, puI w 65 11 s) := rfl
theorem WQ.fld {w : Wd} {L : List Nat} {A : Nat} {C : List Nat} (h : WQ w L A C) {k j : Nat} {v : Int32} (h1 : k ≠ 68) (h2 : k ≠ 42) (h3 : ¬ (k = 65 ∧ j = 16)) (h4 : ¬ (k = 30 ∧ j = 15)) : WQ (puI w k j v) L A C := by
  obtain ⟨a1, a2, a3, a4⟩ := h
  refine ⟨?_, a2.c (fun i hi => by rw [I_oth (by omega)]), ?_, a4.row (I_oth (by omega))⟩
  · rw [puI_ne (by intro z; injection z; omega)]; exact a1
  · rw [puI_ne (by intro z; injection z; omega)]; exact a3
section
variable {w : Wd} {s D : Nat} {L : List Nat} {A : Nat} {C : List Nat}
theorem t_num (h : CX w s D L A C) (hs : s = 7 ∨ s = 8) {v : Nat} (h7 : w.1 65 7 = nI 2) (h10 : w.1 65 10 = nI v) (hC : A + C.length < 3000) : ∃ e, X6_take w = some (nI 0, e) ∧ CX e 9 D L A (C ++ [v]) ∧ KT A w e ∧ e.1 65 12 = w.1 65 12 := by
  obtain ⟨h11, h14, hq⟩ := h
  obtain ⟨w1, r1, r2, r3, r4⟩ := pscode_e (v := v) hq hC
  refine ⟨puI w1 65 11 (nI 9), ?_, ⟨I_self, ?_, r2.fld (by decide) (by decide) (by decide) (by decide)⟩, ⟨?_, fun i hi => ?_⟩, ?_⟩
  · unfold X6_take X6_takeOne X6_takeAtom
    rcases hs with e | e
    · subst e; simp (disch := omega) only [gdn, gb0, gb1, ixn, nm1, nI_add, nI_mul, nsub, nI_ltI, nI_leI, nI_eq, eqNO, eqNO2, ltNO, NOlt, leNO, NOle, if_pos, if_neg, Option.bind_some, if_true, if_false, and_self, eq_self, l0, l1, l2, l3, l4, l5, l6, l7, l8, l9, l10, l11, l12, l13, l14, l15, l16, l17, l18, l19, l20, l24, l26, l30, l31, l32, l40, l41, l42, l43, l45, l47, l48, l57, l58, l59, l60, l61, l62, l63, l64, l97, l99, l100, l101, l102, l103, l104, l105, l106, l107, l108, l109, l110, l122, l160, l240, l255, l600, l1000, l3000, l10000, l10007, l10116, l67108863, l67108864, h11, h7, h10, r1, goOn_e]
    · subst e; simp (disch := omega) only [gdn, gb0, gb1, ixn, nm1, nI_add, nI_mul, nsub, nI_ltI, nI_leI, nI_eq, eqNO, eqNO2, ltNO, NOlt, leNO, NOle, if_pos, if_neg, Option.bind_some, if_true, if_false, and_self, eq_self, l0, l1, l2, l3, l4, l5, l6, l7, l8, l9, l10, l11, l12, l13, l14, l15, l16, l17, l18, l19, l20, l24, l26, l30, l31, l32, l40, l41, l42, l43, l45, l47, l48, l57, l58, l59, l60, l61, l62, l63, l64, l97, l99, l100, l101, l102, l103, l104, l105, l106, l107, l108, l109, l110, l122, l160, l240, l255, l600, l1000, l3000, l10000, l10007, l10116, l67108863, l67108864, h11, h7, h10, r1, goOn_e]
  · rw [puI_ne (by decide), (r3 65 (by decide) 14 (by decide)).1]; exact h14
  · exact Fr.pfI (fun k hk j hj => r3 k (by intro z; exact hk (by simp only [List.mem_cons, List.not_mem_nil, or_false] at z ⊢; omega)) j (fun z => hj ((by decide : ∀ q ∈ ([(30, 15)] : List (Nat × Nat)), q ∈ fT) _ z))) (by decide)
  · rw [I_oth (by decide)]; exact r4 i hi
  · rw [puI_ne (by decide), (r3 65 (by decide) 12 (by decide)).1]
theorem t_var (h : CX w s D L A C) (hs : s = 7 ∨ s = 8) {t : Nat} (h7 : w.1 65 7 = nI t) (ht : 110 ≤ t) (ht2 : t ≤ 116) (hC : A + C.length < 3000) : ∃ e, X6_take w = some (nI 0, e) ∧ CX e 9 D L A (C ++ [10000 + (t - 110)]) ∧ KT A w e ∧ e.1 65 12 = w.1 65 12 := by
  obtain ⟨h11, h14, hq⟩ := h
  obtain ⟨w1, r1, r2, r3, r4⟩ := pscode_e (v := 10000 + (t - 110)) hq hC
  refine ⟨puI w1 65 11 (nI 9), ?_, ⟨I_self, ?_, r2.fld (by decide) (by decide) (by decide) (by decide)⟩, ⟨?_, fun i hi => ?_⟩, ?_⟩
  · unfold X6_take X6_takeOne X6_takeAtom
    have e1 : 10000 + t - 110 = 10000 + (t - 110) := by omega
    rcases hs with e | e
    · subst e; simp (disch := omega) only [gdn, gb0, gb1, ixn, nm1, nI_add, nI_mul, nsub, nI_ltI, nI_leI, nI_eq, eqNO, eqNO2, ltNO, NOlt, leNO, NOle, if_pos, if_neg, Option.bind_some, if_true, if_false, and_self, eq_self, l0, l1, l2, l3, l4, l5, l6, l7, l8, l9, l10, l11, l12, l13, l14, l15, l16, l17, l18, l19, l20, l24, l26, l30, l31, l32, l40, l41, l42, l43, l45, l47, l48, l57, l58, l59, l60, l61, l62, l63, l64, l97, l99, l100, l101, l102, l103, l104, l105, l106, l107, l108, l109, l110, l122, l160, l240, l255, l600, l1000, l3000, l10000, l10007, l10116, l67108863, l67108864, h11, h7, e1, r1, goOn_e]
    · subst e; simp (disch := omega) only [gdn, gb0, gb1, ixn, nm1, nI_add, nI_mul, nsub, nI_ltI, nI_leI, nI_eq, eqNO, eqNO2, ltNO, NOlt, leNO, NOle, if_pos, if_neg, Option.bind_some, if_true, if_false, and_self, eq_self, l0, l1, l2, l3, l4, l5, l6, l7, l8, l9, l10, l11, l12, l13, l14, l15, l16, l17, l18, l19, l20, l24, l26, l30, l31, l32, l40, l41, l42, l43, l45, l47, l48, l57, l58, l59, l60, l61, l62, l63, l64, l97, l99, l100, l101, l102, l103, l104, l105, l106, l107, l108, l109, l110, l122, l160, l240, l255, l600, l1000, l3000, l10000, l10007, l10116, l67108863, l67108864, h11, h7, e1, r1, goOn_e]
  · rw [puI_ne (by decide), (r3 65 (by decide) 14 (by decide)).1]; exact h14
  · exact Fr.pfI (fun k hk j hj => r3 k (by intro z; exact hk (by simp only [List.mem_cons, List.not_mem_nil, or_false] at z ⊢; omega)) j (fun z => hj ((by decide : ∀ q ∈ ([(30, 15)] : List (Nat × Nat)), q ∈ fT) _ z))) (by decide)
  · rw [I_oth (by decide)]; exact r4 i hi
  · rw [puI_ne (by decide), (r3 65 (by decide) 12 (by decide)).1]
theorem t_open (h : CX w s D L A C) (hs : s = 7 ∨ s = 8) (h7 : w.1 65 7 = nI 40) (hD : D < 6) (hL : L.length < 64) : ∃ e, X6_take w = some (nI 0, e) ∧ CX e 8 (D + 1) (40 :: L) A C ∧ KT A w e ∧ e.1 65 12 = w.1 65 12 := by
  obtain ⟨h11, h14, hq⟩ := h
  obtain ⟨w1, r1, r2, r3⟩ := await_e (x := 40) (hq.fld (k := 65) (j := 14) (v := nI (D + 1)) (by decide) (by decide) (by decide) (by decide)) (by omega) hL
  have f0 : Fr [42, 68] fT w w1 := (Fr.pfI Fr.rf (by decide) : Fr [42, 68] fT w (puI w 65 14 (nI (D + 1)))).next r3 (by decide) (by decide)
  refine ⟨puI w1 65 11 (nI 8), ?_, ⟨I_self, ?_, r2.fld (by decide) (by decide) (by decide) (by decide)⟩, ⟨Fr.pfI f0 (by decide), fun i hi => ?_⟩, ?_⟩
  · unfold X6_take X6_takeOne X6_takeAtom
    rcases hs with e | e
    · subst e; simp (disch := omega) only [gdn, gb0, gb1, ixn, nm1, nI_add, nI_mul, nsub, nI_ltI, nI_leI, nI_eq, eqNO, eqNO2, ltNO, NOlt, leNO, NOle, if_pos, if_neg, Option.bind_some, if_true, if_false, and_self, eq_self, l0, l1, l2, l3, l4, l5, l6, l7, l8, l9, l10, l11, l12, l13, l14, l15, l16, l17, l18, l19, l20, l24, l26, l30, l31, l32, l40, l41, l42, l43, l45, l47, l48, l57, l58, l59, l60, l61, l62, l63, l64, l97, l99, l100, l101, l102, l103, l104, l105, l106, l107, l108, l109, l110, l122, l160, l240, l255, l600, l1000, l3000, l10000, l10007, l10116, l67108863, l67108864, h11, h7, h14, r1, goOn_e]
    · subst e; simp (disch := omega) only [gdn, gb0, gb1, ixn, nm1, nI_add, nI_mul, nsub, nI_ltI, nI_leI, nI_eq, eqNO, eqNO2, ltNO, NOlt, leNO, NOle, if_pos, if_neg, Option.bind_some, if_true, if_false, and_self, eq_self, l0, l1, l2, l3, l4, l5, l6, l7, l8, l9, l10, l11, l12, l13, l14, l15, l16, l17, l18, l19, l20, l24, l26, l30, l31, l32, l40, l41, l42, l43, l45, l47, l48, l57, l58, l59, l60, l61, l62, l63, l64, l97, l99, l100, l101, l102, l103, l104, l105, l106, l107, l108, l109, l110, l122, l160, l240, l255, l600, l1000, l3000, l10000, l10007, l10116, l67108863, l67108864, h11, h7, h14, r1, goOn_e]
  · rw [puI_ne (by decide), (r3 65 (by decide) 14 (by decide)).1, I_self]
  · rw [I_oth (by decide), (r3.row 42 (by decide) (by decide)).1, I_oth (by decide)]
  · rw [puI_ne (by decide), (r3 65 (by decide) 12 (by decide)).1, puI_ne (by decide)]
theorem t_deep (h : CX w s D L A C) (hs : s = 7 ∨ s = 8) (h7 : w.1 65 7 = nI 40) (hD : 6 ≤ D) (hD2 : D < 100) : X6_take w = some (nI 5, w) := by
  obtain ⟨h11, h14, hq⟩ := h
  unfold X6_take X6_takeOne X6_takeAtom
  rcases hs with e | e
  · subst e; simp (disch := omega) only [gdn, gb0, gb1, ixn, nm1, nI_add, nI_mul, nsub, nI_ltI, nI_leI, nI_eq, eqNO, eqNO2, ltNO, NOlt, leNO, NOle, if_pos, if_neg, Option.bind_some, if_true, if_false, and_self, eq_self, l0, l1, l2, l3, l4, l5, l6, l7, l8, l9, l10, l11, l12, l13, l14, l15, l16, l17, l18, l19, l20, l24, l26, l30, l31, l32, l40, l41, l42, l43, l45, l47, l48, l57, l58, l59, l60, l61, l62, l63, l64, l97, l99, l100, l101, l102, l103, l104, l105, l106, l107, l108, l109, l110, l122, l160, l240, l255, l600, l1000, l3000, l10000, l10007, l10116, l67108863, l67108864, h11, h7, h14, goOn_e]
  · subst e; simp (disch := omega) only [gdn, gb0, gb1, ixn, nm1, nI_add, nI_mul, nsub, nI_ltI, nI_leI, nI_eq, eqNO, eqNO2, ltNO, NOlt, leNO, NOle, if_pos, if_neg, Option.bind_some, if_true, if_false, and_self, eq_self, l0, l1, l2, l3, l4, l5, l6, l7, l8, l9, l10, l11, l12, l13, l14, l15, l16, l17, l18, l19, l20, l24, l26, l30, l31, l32, l40, l41, l42, l43, l45, l47, l48, l57, l58, l59, l60, l61, l62, l63, l64, l97, l99, l100, l101, l102, l103, l104, l105, l106, l107, l108, l109, l110, l122, l160, l240, l255, l600, l1000, l3000, l10000, l10007, l10116, l67108863, l67108864, h11, h7, h14, goOn_e]
theorem t_noatom (h : CX w s D L A C) {t : Nat} (hs : s = 7 ∨ s = 8) (h109 : s = 7 → ¬ t = 109) (h7 : w.1 65 7 = nI t) (h1 : ¬ t = 40) (h2 : ¬ t = 2) (h3 : t < 110) : X6_take w = some (nI 2, w) := by
  obtain ⟨h11, h14, hq⟩ := h
  unfold X6_take X6_takeOne X6_takeAtom
  rcases hs with e | e
  · subst e
    have := h109 rfl
    simp (disch := omega) only [gdn, gb0, gb1, ixn, nm1, nI_add, nI_mul, nsub, nI_ltI, nI_leI, nI_eq, eqNO, eqNO2, ltNO, NOlt, leNO, NOle, if_pos, if_neg, Option.bind_some, if_true, if_false, and_self, eq_self, l0, l1, l2, l3, l4, l5, l6, l7, l8, l9, l10, l11, l12, l13, l14, l15, l16, l17, l18, l19, l20, l24, l26, l30, l31, l32, l40, l41, l42, l43, l45, l47, l48, l57, l58, l59, l60, l61, l62, l63, l64, l97, l99, l100, l101, l102, l103, l104, l105, l106, l107, l108, l109, l110, l122, l160, l240, l255, l600, l1000, l3000, l10000, l10007, l10116, l67108863, l67108864, h11, h7, h14, goOn_e]
  · subst e; simp (disch := omega) only [gdn, gb0, gb1, ixn, nm1, nI_add, nI_mul, nsub, nI_ltI, nI_leI, nI_eq, eqNO, eqNO2, ltNO, NOlt, leNO, NOle, if_pos, if_neg, Option.bind_some, if_true, if_false, and_self, eq_self, l0, l1, l2, l3, l4, l5, l6, l7, l8, l9, l10, l11, l12, l13, l14, l15, l16, l17, l18, l19, l20, l24, l26, l30, l31, l32, l40, l41, l42, l43, l45, l47, l48, l57, l58, l59, l60, l61, l62, l63, l64, l97, l99, l100, l101, l102, l103, l104, l105, l106, l107, l108, l109, l110, l122, l160, l240, l255, l600, l1000, l3000, l10000, l10007, l10116, l67108863, l67108864, h11, h7, h14, goOn_e]
theorem t_not (h : CX w 7 D L A C) (h7 : w.1 65 7 = nI 109) (hL : L.length < 64) : ∃ e, X6_take w = some (nI 0, e) ∧ CX e 8 D (109 :: L) A C ∧ KT A w e ∧ e.1 65 12 = w.1 65 12 := by
  obtain ⟨h11, h14, hq⟩ := h
  obtain ⟨w1, r1, r2, r3⟩ := await_e (x := 109) hq (by omega) hL
  have f0 : Fr [42, 68] fT w w1 := (Fr.rf : Fr [42, 68] fT w w).next r3 (by decide) (by decide)
  refine ⟨puI w1 65 11 (nI 8), ?_, ⟨I_self, ?_, r2.fld (by decide) (by decide) (by decide) (by decide)⟩, ⟨Fr.pfI f0 (by decide), fun i hi => ?_⟩, ?_⟩
  · unfold X6_take X6_takeOne
    simp (disch := omega) only [gdn, gb0, gb1, ixn, nm1, nI_add, nI_mul, nsub, nI_ltI, nI_leI, nI_eq, eqNO, eqNO2, ltNO, NOlt, leNO, NOle, if_pos, if_neg, Option.bind_some, if_true, if_false, and_self, eq_self, l0, l1, l2, l3, l4, l5, l6, l7, l8, l9, l10, l11, l12, l13, l14, l15, l16, l17, l18, l19, l20, l24, l26, l30, l31, l32, l40, l41, l42, l43, l45, l47, l48, l57, l58, l59, l60, l61, l62, l63, l64, l97, l99, l100, l101, l102, l103, l104, l105, l106, l107, l108, l109, l110, l122, l160, l240, l255, l600, l1000, l3000, l10000, l10007, l10116, l67108863, l67108864, h11, h7, r1, goOn_e]
  · rw [puI_ne (by decide), (r3 65 (by decide) 14 (by decide)).1]; exact h14
  · rw [I_oth (by decide), (r3.row 42 (by decide) (by decide)).1]
  · rw [puI_ne (by decide), (r3 65 (by decide) 12 (by decide)).1]
theorem reck_e {t : Nat} (ht : t < 128) (w : Wd) : X6_isReckoner (nI t) w = if t = 43 ∨ t = 45 ∨ t = 42 ∨ t = 47 then nI 1 else nI 0 := by
  unfold X6_isReckoner X6_isReckonerO
  by_cases q : t = 43 ∨ t = 45 ∨ t = 42 ∨ t = 47
  · rw [if_pos q]
    rcases q with e | e | e | e <;> subst e <;> rfl
  · rw [if_neg q]
    simp (disch := omega) only [gdn, gb0, gb1, ixn, nm1, nI_add, nI_mul, nsub, nI_ltI, nI_leI, nI_eq, eqNO, eqNO2, ltNO, NOlt, leNO, NOle, if_pos, if_neg, Option.bind_some, if_true, if_false, and_self, eq_self, l0, l1, l2, l3, l4, l5, l6, l7, l8, l9, l10, l11, l12, l13, l14, l15, l16, l17, l18, l19, l20, l24, l26, l30, l31, l32, l40, l41, l42, l43, l45, l47, l48, l57, l58, l59, l60, l61, l62, l63, l64, l97, l99, l100, l101, l102, l103, l104, l105, l106, l107, l108, l109, l110, l122, l160, l240, l255, l600, l1000, l3000, l10000, l10007, l10116, l67108863, l67108864]
    rfl
/-- an operator is taken: what waits and binds as close goes before it -/
theorem t_op {t b sm to : Nat} {V R : List Nat} (h : WQ w (V ++ R) A C) (h7 : w.1 65 7 = nI t) (ht : t < 128) (hb : bnd t = b) (hV : ∀ x ∈ V, b ≤ bnd x) (hR : ∀ x, R.head? = some x → bnd x < b) (hL : (V ++ R).length < 63) (hC : A + C.length + V.length ≤ 3000) : ∃ e, X6_takeOperator (nI sm) (nI to) w = some (nI 0, e) ∧ WQ e (t :: R) A (C ++ V.map opc) ∧ e.1 65 11 = nI to ∧ e.1 65 12 = nI sm ∧ e.1 65 14 = w.1 65 14 ∧ KT A w e := by
  have hb7 := bnd_lt t
  obtain ⟨w1, r1, r2, r3, r4⟩ := release_e h hV hR (by omega) hC (by omega)
  have f7 : w1.1 65 7 = nI t := by rw [(r3 65 (by decide) 7 (by decide)).1]; exact h7
  obtain ⟨w2, k1, k2, k3⟩ := await_e (x := t) r2 ht (by rw [List.length_append] at hL; omega)
  have f0 : Fr [42, 68] fT w w2 := ((Fr.rf : Fr [42, 68] fT w w).next r3 (by decide) (by decide)).next k3 (by decide) (by decide)
  refine ⟨puI (puI w2 65 12 (nI sm)) 65 11 (nI to), ?_, (k2.fld (by decide) (by decide) (by decide) (by decide)).fld (by decide) (by decide) (by decide) (by decide), I_self, ?_, ?_, ⟨Fr.pfI (Fr.pfI f0 (by decide)) (by decide), fun i hi => ?_⟩⟩
  · unfold X6_takeOperator
    rw [h7, bnd_e ht, hb, r1]
    simp only [Option.bind_some]
    rw [f7, k1]
    rfl
  · rw [puI_ne (by decide), I_self]
  · rw [puI_ne (by decide), puI_ne (by decide), (k3 65 (by decide) 14 (by decide)).1, (r3 65 (by decide) 14 (by decide)).1]
  · rw [I_oth (by decide), I_oth (by decide), (k3.row 42 (by decide) (by decide)).1]; exact r4 i hi
theorem t_reck {t : Nat} {V R : List Nat} (h : CX w 9 D (V ++ R) A C) (h7 : w.1 65 7 = nI t) (ht : t = 43 ∨ t = 45 ∨ t = 42 ∨ t = 47) (hV : ∀ x ∈ V, bnd t ≤ bnd x) (hR : ∀ x, R.head? = some x → bnd x < bnd t) (hL : (V ++ R).length < 63) (hC : A + C.length + V.length ≤ 3000) (hD : D < 100) {sm : Nat} (h12 : w.1 65 12 = nI sm) : ∃ e, X6_take w = some (nI 0, e) ∧ CX e 8 D (t :: R) A (C ++ V.map opc) ∧ KT A w e ∧ e.1 65 12 = w.1 65 12 := by
  obtain ⟨h11, h14, hq⟩ := h
  obtain ⟨e, r1, r2, r3, r4, r5, r6⟩ := t_op (sm := sm) (to := 8) hq h7 (by omega) rfl hV hR hL hC
  refine ⟨e, ?_, ⟨r3, by rw [r5]; exact h14, r2⟩, r6, by rw [r4, h12]⟩
  have hr : X6_isReckoner (nI t) w = nI 1 := by rw [reck_e (by omega), if_pos ht]
  unfold X6_take X6_take_j144 X6_takeInSum
  by_cases q : 0 < D
  · simp (disch := omega) only [gdn, gb0, gb1, ixn, nm1, nI_add, nI_mul, nsub, nI_ltI, nI_leI, nI_eq, eqNO, eqNO2, ltNO, NOlt, leNO, NOle, if_pos, if_neg, Option.bind_some, if_true, if_false, and_self, eq_self, l0, l1, l2, l3, l4, l5, l6, l7, l8, l9, l10, l11, l12, l13, l14, l15, l16, l17, l18, l19, l20, l24, l26, l30, l31, l32, l40, l41, l42, l43, l45, l47, l48, l57, l58, l59, l60, l61, l62, l63, l64, l97, l99, l100, l101, l102, l103, l104, l105, l106, l107, l108, l109, l110, l122, l160, l240, l255, l600, l1000, l3000, l10000, l10007, l10116, l67108863, l67108864, h11, h14, h7, hr, h12, r1]
  · simp (disch := omega) only [gdn, gb0, gb1, ixn, nm1, nI_add, nI_mul, nsub, nI_ltI, nI_leI, nI_eq, eqNO, eqNO2, ltNO, NOlt, leNO, NOle, if_pos, if_neg, Option.bind_some, if_true, if_false, and_self, eq_self, l0, l1, l2, l3, l4, l5, l6, l7, l8, l9, l10, l11, l12, l13, l14, l15, l16, l17, l18, l19, l20, l24, l26, l30, l31, l32, l40, l41, l42, l43, l45, l47, l48, l57, l58, l59, l60, l61, l62, l63, l64, l97, l99, l100, l101, l102, l103, l104, l105, l106, l107, l108, l109, l110, l122, l160, l240, l255, l600, l1000, l3000, l10000, l10007, l10116, l67108863, l67108864, h11, h14, h7, hr, h12, r1]
theorem t_close {V R : List Nat} (h : CX w 9 D (V ++ 40 :: R) A C) (h7 : w.1 65 7 = nI 41) (hV : ∀ x ∈ V, 1 ≤ bnd x) (hL : (V ++ 40 :: R).length < 63) (hC : A + C.length + V.length ≤ 3000) (hD : 0 < D) (hD2 : D < 100) : ∃ e, X6_take w = some (nI 0, e) ∧ CX e 9 (D - 1) R A (C ++ V.map opc) ∧ KT A w e ∧ e.1 65 12 = w.1 65 12 := by
  obtain ⟨h11, h14, hq⟩ := h
  obtain ⟨w1, r1, r2, r3, r4⟩ := release_e (b := 1) hq hV (fun x hx => by cases hx; decide) (by omega) hC (by omega)
  have f0 : Fr [42, 68] fT w w1 := (Fr.rf : Fr [42, 68] fT w w).next r3 (by decide) (by decide)
  obtain ⟨q1, q2, q3, q4⟩ := r2
  rw [List.length_append, List.length_cons] at hL
  rw [List.length_cons] at q1
  have f14 : w1.1 65 14 = nI D := by rw [(r3 65 (by decide) 14 (by decide)).1]; exact h14
  have f11 : w1.1 65 11 = nI 9 := by rw [(r3 65 (by decide) 11 (by decide)).1]; exact h11
  refine ⟨puI (puI w1 65 16 (nI R.length)) 65 14 (nI (D - 1)), ?_, ⟨?_, I_self, ?_, ?_, ?_, ?_⟩, ⟨Fr.pfI (Fr.pfI f0 (by decide)) (by decide), fun i hi => ?_⟩, ?_⟩
  · have hr : X6_isReckoner (nI 41) w = nI 0 := by rw [reck_e (by omega), if_neg (by omega)]
    have g14 : (puI w1 65 16 (nI R.length)).1 65 14 = nI D := by rw [puI_ne (by decide)]; exact f14
    unfold X6_take X6_take_j144 X6_takeInSum X6_takeInSum_j54
    simp (disch := omega) only [gdn, gb0, gb1, ixn, nm1, nI_add, nI_mul, nsub, nI_ltI, nI_leI, nI_eq, eqNO, eqNO2, ltNO, NOlt, leNO, NOle, if_pos, if_neg, Option.bind_some, if_true, if_false, and_self, eq_self, l0, l1, l2, l3, l4, l5, l6, l7, l8, l9, l10, l11, l12, l13, l14, l15, l16, l17, l18, l19, l20, l24, l26, l30, l31, l32, l40, l41, l42, l43, l45, l47, l48, l57, l58, l59, l60, l61, l62, l63, l64, l97, l99, l100, l101, l102, l103, l104, l105, l106, l107, l108, l109, l110, l122, l160, l240, l255, l600, l1000, l3000, l10000, l10007, l10116, l67108863, l67108864, h11, h14, h7, hr, r1, q1, show R.length + 1 - 1 = R.length by omega, g14]
  · rw [puI_ne (by decide), puI_ne (by decide)]; exact f11
  · rw [puI_ne (by decide), I_self]
  · exact q2.2.2.c (fun i hi => by rw [I_oth (by decide), I_oth (by decide)])
  · rw [puI_ne (by decide), puI_ne (by decide)]; exact q3
  · exact q4.row (by rw [I_oth (by decide), I_oth (by decide)])
  · rw [I_oth (by decide), I_oth (by decide)]; exact r4 i hi
  · rw [puI_ne (by decide), puI_ne (by decide), (r3 65 (by decide) 12 (by decide)).1]
theorem t_badin {t : Nat} (h : CX w 9 D L A C) (h7 : w.1 65 7 = nI t) (ht : t < 128) (hr : ¬ (t = 43 ∨ t = 45 ∨ t = 42 ∨ t = 47)) (h41 : ¬ t = 41) (hD : 0 < D) (hD2 : D < 100) : X6_take w = some (nI 2, w) := by
  obtain ⟨h11, h14, hq⟩ := h
  have hr : X6_isReckoner (nI t) w = nI 0 := by rw [reck_e (by omega), if_neg hr]
  unfold X6_take X6_take_j144 X6_takeInSum
  simp (disch := omega) only [gdn, gb0, gb1, ixn, nm1, nI_add, nI_mul, nsub, nI_ltI, nI_leI, nI_eq, eqNO, eqNO2, ltNO, NOlt, leNO, NOle, if_pos, if_neg, Option.bind_some, if_true, if_false, and_self, eq_self, l0, l1, l2, l3, l4, l5, l6, l7, l8, l9, l10, l11, l12, l13, l14, l15, l16, l17, l18, l19, l20, l24, l26, l30, l31, l32, l40, l41, l42, l43, l45, l47, l48, l57, l58, l59, l60, l61, l62, l63, l64, l97, l99, l100, l101, l102, l103, l104, l105, l106, l107, l108, l109, l110, l122, l160, l240, l255, l600, l1000, l3000, l10000, l10007, l10116, l67108863, l67108864, h11, h14, h7, hr]
end
