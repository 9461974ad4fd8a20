/-! the height of a stack -/
def hg (B : Nat) : List Nat → Nat → Option Nat
  | [], h => some h
  | x :: cs, h => if x < 10007 then (if h < B then hg B cs (h + 1) else none) else if x = 10116 then (if 1 ≤ h then hg B cs h else none) else if 2 ≤ h then hg B cs (h - 1) else none
theorem hg_app {B : Nat} {b : List Nat} : ∀ {a : List Nat} {h : Nat}, hg B (a ++ b) h = (hg B a h).bind (hg B b)
  | [], _ => rfl
  | x :: a, h => by
    rw [List.cons_append]
    unfold hg
    by_cases q1 : x < 10007
    · rw [if_pos q1, if_pos q1]
      by_cases q2 : h < B
      · rw [if_pos q2, if_pos q2]; exact hg_app
      · rw [if_neg q2, if_neg q2]; rfl
    · rw [if_neg q1, if_neg q1]
      by_cases q3 : x = 10116
      · rw [if_pos q3, if_pos q3]
        by_cases q2 : 1 ≤ h
        · rw [if_pos q2, if_pos q2]; exact hg_app
        · rw [if_neg q2, if_neg q2]; rfl
      · rw [if_neg q3, if_neg q3]
        by_cases q2 : 2 ≤ h
        · rw [if_pos q2, if_pos q2]; exact hg_app
        · rw [if_neg q2, if_neg q2]; rfl
theorem hg_push {B : Nat} {C : List Nat} {v h0 h : Nat} (hC : hg B C h0 = some h) (hv : v < 10007) (hB : h < B) : hg B (C ++ [v]) h0 = some (h + 1) := by
  rw [hg_app, hC]
  show (if v < 10007 then (if h < B then some (h + 1) else none) else _) = _
  rw [if_pos hv, if_pos hB]
theorem hg_op {B : Nat} {C : List Nat} {x h0 h : Nat} (hC : hg B C h0 = some (h + 1)) (hx : ¬ x = 109) (hB : 1 ≤ h) : hg B (C ++ [opc x]) h0 = some h := by
  rw [hg_app, hC]
  show (if opc x < 10007 then _ else if opc x = 10116 then _ else if 2 ≤ h + 1 then some (h + 1 - 1) else none) = _
  unfold opc
  rw [if_neg (by omega), if_neg (by omega), if_pos (by omega)]
  rfl
theorem hg_ops {B : Nat} : ∀ {V C : List Nat} {h0 h : Nat}, hg B C h0 = some (h + V.length) → (∀ x ∈ V, ¬ x = 109) → 1 ≤ h → hg B (C ++ V.map opc) h0 = some h
  | [], C, h0, h, hC, _, _ => by rw [List.map_nil, List.append_nil]; exact hC
  | x :: V, C, h0, h, hC, hV, hh => by
    rw [List.map_cons, show C ++ opc x :: V.map opc = (C ++ [opc x]) ++ V.map opc by simp]
    rw [List.length_cons] at hC
    exact hg_ops (hg_op (h := h + V.length) hC (hV x List.mem_cons_self) (by omega)) (fun y hy => hV y (List.mem_cons_of_mem _ hy)) hh
/-! what the model writes of a SUM -/
def dec1 (x : Nat) : Int32 := if x < 10000 then nI 0 else if x < 10007 then nI 1 else nI (x - 10007)
def dec2 (x : Nat) : Int32 := if x < 10000 then nI x else if x < 10007 then nI (x - 10000) else nI 0
def QM (w : Wd) (S : Nat) (C : List Nat) : Prop := w.1 97 43 = nI (S + C.length) ∧ ∀ i, i < C.length → w.1 140 (S + i) = dec1 (C.getD i 0) ∧ w.1 141 (S + i) = dec2 (C.getD i 0)
def fM : List (Nat × Nat) := [(97, 35), (97, 36), (97, 37), (97, 38), (97, 40), (97, 41), (97, 43)]
def KM (S : Nat) (w w' : Wd) : Prop := Fr [140, 141, 142, 143] fM w w' ∧ ∀ i, i < S → w'.1 140 i = w.1 140 i ∧ w'.1 141 i = w.1 141 i
theorem KM.rf {S : Nat} {w : Wd} : KM S w w := ⟨Fr.rf, fun _ _ => ⟨rfl, rfl⟩⟩
theorem KM.tr {S : Nat} {w w1 w2 : Wd} (h : KM S w w1) (h2 : KM S w1 w2) : KM S w w2 := ⟨h.1.next h2.1 (fun _ z => z) (fun _ z => z), fun i hi => ⟨(h2.2 i hi).1.trans (h.2 i hi).1, (h2.2 i hi).2.trans (h.2 i hi).2⟩⟩
theorem KM.mono {a b : Nat} {w w1 : Wd} (h : KM b w w1) (hab : a ≤ b) : KM a w w1 := ⟨h.1, fun i hi => h.2 i (by omega)⟩
theorem KM.nx {S : Nat} {w w1 w2 : Wd} (h : KM S w w1) (h2 : Fr [] [(97, 35), (97, 36), (97, 37), (97, 38)] w1 w2) : KM S w w2 := h.tr ⟨fun k hk j hj => h2 k (by simp) j (fun z => hj ((by decide : ∀ q ∈ ([(97, 35), (97, 36), (97, 37), (97, 38)] : List (Nat × Nat)), q ∈ fM) _ z)), fun i _ => ⟨by rw [(h2.row 140 (by decide) (by decide)).1], by rw [(h2.row 141 (by decide) (by decide)).1]⟩⟩
theorem KM.fl {S : Nat} {w w1 : Wd} {j : Nat} {v : Int32} (h : KM S w w1) (hj : (97, j) ∈ fM) : KM S w (puI w1 97 j v) := ⟨Fr.pfI h.1 hj, fun i hi => by rw [I_oth (by decide), I_oth (by decide)]; exact h.2 i hi⟩
theorem KM.lv {S : Nat} {w w1 : Wd} {k i : Nat} {v : Int32} (h : KM S w w1) (hk : k = 142 ∨ k = 143) : KM S w (puI w1 k i v) := ⟨Fr.puI h.1 (by rcases hk with e | e <;> rw [e] <;> decide), fun j hj => by rw [I_oth (by omega), I_oth (by omega)]; exact h.2 j hj⟩
theorem puts_e {w : Wd} {S : Nat} {C : List Nat} (h : QM w S C) (x : Nat) (hS : S + C.length < 4000) : ∃ w', X12_puts (dec1 x) (dec2 x) w = some w' ∧ QM w' S (C ++ [x]) ∧ Fr [140, 141] [(97, 43)] w w' ∧ KM S w w' := by
  obtain ⟨h1, h2⟩ := h
  refine ⟨puI (puI (puI w 140 (S + C.length) (dec1 x)) 141 (S + C.length) (dec2 x)) 97 43 (nI (S + C.length + 1)), ?_, ⟨?_, fun i hi => ?_⟩, Fr.pfI (Fr.puI (Fr.puI Fr.rf (by decide)) (by decide)) (by decide), ⟨Fr.pfI (Fr.puI (Fr.puI Fr.rf (by decide)) (by decide)) (by decide), fun i hi => ?_⟩⟩
  · have g1 : (puI w 140 (S + C.length) (dec1 x)).1 97 43 = nI (S + C.length) := by rw [I_oth (by decide)]; exact h1
    have g2 : (puI (puI w 140 (S + C.length) (dec1 x)) 141 (S + C.length) (dec2 x)).1 97 43 = nI (S + C.length) := by rw [I_oth (by decide)]; exact g1
    unfold X12_puts
    simp (disch := omega) only [gdn, gb0, gb1, ixn, nm1, nI_add, nI_mul, nsub, nI_ltI, nI_leI, nI_eq, eqNO, eqNO2, ltNO, NOlt, leNO, NOle, if_pos, if_neg, Option.bind_some, if_true, if_false, and_self, eq_self, l0, l1, l2, l3, l4, l5, l6, l7, l8, l9, l10, l11, l12, l13, l14, l15, l16, l17, l18, l19, l20, l24, l26, l30, l31, l32, l40, l41, l42, l43, l45, l47, l48, l57, l58, l59, l60, l61, l62, l63, l64, l97, l99, l100, l101, l102, l103, l104, l105, l106, l107, l108, l109, l110, l122, l160, l240, l255, l600, l1000, l3000, l10000, l10007, l10116, l67108863, l67108864, h1, g1, g2]
  · rw [I_self, List.length_append, List.length_singleton]; rfl
  · rw [List.length_append, List.length_singleton] at hi
    by_cases q : i = C.length
    · subst q
      rw [getD_last]
      simp (disch := omega) only [gdn, gb0, gb1, ixn, nm1, nI_add, nI_mul, nsub, nI_ltI, nI_leI, nI_eq, eqNO, eqNO2, ltNO, NOlt, leNO, NOle, if_pos, if_neg, Option.bind_some, if_true, if_false, and_self, eq_self, l0, l1, l2, l3, l4, l5, l6, l7, l8, l9, l10, l11, l12, l13, l14, l15, l16, l17, l18, l19, l20, l24, l26, l30, l31, l32, l40, l41, l42, l43, l45, l47, l48, l57, l58, l59, l60, l61, l62, l63, l64, l97, l99, l100, l101, l102, l103, l104, l105, l106, l107, l108, l109, l110, l122, l160, l240, l255, l600, l1000, l3000, l10000, l10007, l10116, l67108863, l67108864, I_oth, I_J, J_oth, J_I, I_row, J_row, SI_row, SI_oth, SI_J, SJ_row, SJ_oth, SJ_I, upd_s, upd_n, updL_s, updL_n, ne_eq, not_false_eq_true]
    · rw [getD_app (by omega)]
      obtain ⟨a1, a2⟩ := h2 i (by omega)
      simp (disch := omega) only [gdn, gb0, gb1, ixn, nm1, nI_add, nI_mul, nsub, nI_ltI, nI_leI, nI_eq, eqNO, eqNO2, ltNO, NOlt, leNO, NOle, if_pos, if_neg, Option.bind_some, if_true, if_false, and_self, eq_self, l0, l1, l2, l3, l4, l5, l6, l7, l8, l9, l10, l11, l12, l13, l14, l15, l16, l17, l18, l19, l20, l24, l26, l30, l31, l32, l40, l41, l42, l43, l45, l47, l48, l57, l58, l59, l60, l61, l62, l63, l64, l97, l99, l100, l101, l102, l103, l104, l105, l106, l107, l108, l109, l110, l122, l160, l240, l255, l600, l1000, l3000, l10000, l10007, l10116, l67108863, l67108864, I_oth, I_J, J_oth, J_I, I_row, J_row, SI_row, SI_oth, SI_J, SJ_row, SJ_oth, SJ_I, upd_s, upd_n, updL_s, updL_n, ne_eq, not_false_eq_true, a1, a2]
  · simp (disch := omega) only [gdn, gb0, gb1, ixn, nm1, nI_add, nI_mul, nsub, nI_ltI, nI_leI, nI_eq, eqNO, eqNO2, ltNO, NOlt, leNO, NOle, if_pos, if_neg, Option.bind_some, if_true, if_false, and_self, eq_self, l0, l1, l2, l3, l4, l5, l6, l7, l8, l9, l10, l11, l12, l13, l14, l15, l16, l17, l18, l19, l20, l24, l26, l30, l31, l32, l40, l41, l42, l43, l45, l47, l48, l57, l58, l59, l60, l61, l62, l63, l64, l97, l99, l100, l101, l102, l103, l104, l105, l106, l107, l108, l109, l110, l122, l160, l240, l255, l600, l1000, l3000, l10000, l10007, l10116, l67108863, l67108864, I_oth, I_J, J_oth, J_I, I_row, J_row, SI_row, SI_oth, SI_J, SJ_row, SJ_oth, SJ_I, upd_s, upd_n, updL_s, updL_n, ne_eq, not_false_eq_true]
theorem MT.c {c : Nat → Nat} {n p : Nat} {w w' : Wd} (h : MT c n p w) (e : ∀ j, 35 ≤ j → j ≤ 38 → w'.1 97 j = w.1 97 j) : MT c n p w' := by
  obtain ⟨t1, t2, t3, t4, t5⟩ := h
  exact ⟨by rw [e 35 (by omega) (by omega)]; exact t1, by rw [e 36 (by omega) (by omega)]; exact t2, by rw [e 37 (by omega) (by omega)]; exact t3, fun z => by rw [e 38 (by omega) (by omega)]; exact t4 z, fun z y => by rw [e 38 (by omega) (by omega)]; exact t5 z y⟩
theorem mkd1 {t : Nat} : mkd t = 1 ↔ t = 0 := by
  unfold mkd
  split
  · omega
  · split
    · omega
    · split
      · omega
      · split <;> omega
theorem fails_e {c : Nat → Nat} {n p : Nat} {w : Wd} (hT : MT c n p w) (h0 : w.1 97 41 = nI 0) {k : Nat} : ∃ w', X12_fails (nI k) w = some (nI 0, w') ∧ w'.1 97 41 = nI (if tk c n p = 0 then 1 else k) ∧ w'.1 97 40 = nI (tf c n p) ∧ Fr [] [(97, 40), (97, 41)] w w' := by
  obtain ⟨t1, t2, -⟩ := hT
  refine ⟨puI (puI w 97 41 (nI (if tk c n p = 0 then 1 else k))) 97 40 (nI (tf c n p)), ?_, ?_, I_self, Fr.pfI (Fr.pfI Fr.rf (by decide)) (by decide)⟩
  · have g : ∀ v, (puI w 97 41 v).1 97 36 = nI (tf c n p) := fun v => by rw [puI_ne (by decide)]; exact t2
    have hml := mkd_lt (t := tk c n p)
    unfold X12_fails X12_fails_j21
    by_cases q : tk c n p = 0
    · have := mkd1.mpr q
      rw [if_pos q]
      rw [this] at t1
      simp (disch := omega) only [gdn, gb0, gb1, ixn, nm1, nI_add, nI_mul, nsub, nI_ltI, nI_leI, nI_eq, eqNO, eqNO2, ltNO, NOlt, leNO, NOle, if_pos, if_neg, Option.bind_some, if_true, if_false, and_self, eq_self, l0, l1, l2, l3, l4, l5, l6, l7, l8, l9, l10, l11, l12, l13, l14, l15, l16, l17, l18, l19, l20, l24, l26, l30, l31, l32, l40, l41, l42, l43, l45, l47, l48, l57, l58, l59, l60, l61, l62, l63, l64, l97, l99, l100, l101, l102, l103, l104, l105, l106, l107, l108, l109, l110, l122, l160, l240, l255, l600, l1000, l3000, l10000, l10007, l10116, l67108863, l67108864, h0, t1, g]
    · have : ¬ mkd (tk c n p) = 1 := fun z => q (mkd1.mp z)
      rw [if_neg q]
      simp (disch := omega) only [gdn, gb0, gb1, ixn, nm1, nI_add, nI_mul, nsub, nI_ltI, nI_leI, nI_eq, eqNO, eqNO2, ltNO, NOlt, leNO, NOle, if_pos, if_neg, Option.bind_some, if_true, if_false, and_self, eq_self, l0, l1, l2, l3, l4, l5, l6, l7, l8, l9, l10, l11, l12, l13, l14, l15, l16, l17, l18, l19, l20, l24, l26, l30, l31, l32, l40, l41, l42, l43, l45, l47, l48, l57, l58, l59, l60, l61, l62, l63, l64, l97, l99, l100, l101, l102, l103, l104, l105, l106, l107, l108, l109, l110, l122, l160, l240, l255, l600, l1000, l3000, l10000, l10007, l10116, l67108863, l67108864, h0, t1, g]
  · rw [puI_ne (by decide), I_self]
theorem KM.fails {S : Nat} {w w1 w2 : Wd} (h : KM S w w1) (h2 : Fr [] [(97, 40), (97, 41)] w1 w2) : KM S w w2 := h.tr ⟨fun k hk j hj => h2 k (by simp) j (fun z => hj ((by decide : ∀ q ∈ ([(97, 40), (97, 41)] : List (Nat × Nat)), q ∈ fM) _ z)), fun i _ => ⟨by rw [(h2.row 140 (by decide) (by decide)).1], by rw [(h2.row 141 (by decide) (by decide)).1]⟩⟩
/-! levels of brackets -/
def lv (x y : Nat) : List Nat := (if x = 0 then [] else [x]) ++ (if y = 0 then [] else [y])
def wlb (it si : Nat → Nat) (W : List Nat) : Nat → List Nat
  | 0 => W
  | d + 1 => 40 :: (lv (it d) (si d) ++ wlb it si W d)
def pnd (it si : Nat → Nat) : Nat → Nat
  | 0 => 0
  | d + 1 => (lv (it d) (si d)).length + pnd it si d
theorem lv_len (x y : Nat) : (lv x y).length ≤ 2 := by unfold lv; split <;> split <;> simp
theorem wlb_c {it si it' si' : Nat → Nat} {W : List Nat} : ∀ D, (∀ i, i < D → it' i = it i ∧ si' i = si i) → wlb it' si' W D = wlb it si W D
  | 0, _ => rfl
  | d + 1, h => by unfold wlb; rw [(h d (by omega)).1, (h d (by omega)).2, wlb_c d (fun i hi => h i (by omega))]
theorem pnd_c {it si it' si' : Nat → Nat} : ∀ D, (∀ i, i < D → it' i = it i ∧ si' i = si i) → pnd it' si' D = pnd it si D
  | 0, _ => rfl
  | d + 1, h => by unfold pnd; rw [(h d (by omega)).1, (h d (by omega)).2, pnd_c d (fun i hi => h i (by omega))]
theorem wlb_len {it si : Nat → Nat} {W : List Nat} : ∀ D, (wlb it si W D).length = W.length + D + pnd it si D
  | 0 => rfl
  | d + 1 => by unfold wlb pnd; rw [List.length_cons, List.length_append, wlb_len d]; omega
theorem pnd_le {it si : Nat → Nat} : ∀ D, pnd it si D ≤ 2 * D
  | 0 => Nat.le_refl _
  | d + 1 => by unfold pnd; have := pnd_le (it := it) (si := si) d; have := lv_len (it d) (si d); omega
def isIt (x : Nat) : Prop := x = 0 ∨ x = 42 ∨ x = 47
def isSi (x : Nat) : Prop := x = 0 ∨ x = 43 ∨ x = 45
def smC (x : Nat) : Prop := x < 10007 ∨ x = 10049 ∨ x = 10050 ∨ x = 10052 ∨ x = 10054
theorem lv_mem {x y : Nat} (hx : isIt x) (hy : isSi y) : ∀ z ∈ lv x y, z = 42 ∨ z = 47 ∨ z = 43 ∨ z = 45 := by
  intro z hz
  unfold lv at hz
  rw [List.mem_append] at hz
  unfold isIt at hx
  unfold isSi at hy
  rcases hz with hz | hz
  · split at hz
    · simp at hz
    · simp at hz; omega
  · split at hz
    · simp at hz
    · simp at hz; omega
theorem bnd_42 {z : Nat} (h : z = 42 ∨ z = 47) : bnd z = 6 := by rcases h with e | e <;> subst e <;> rfl
theorem bnd_43 {z : Nat} (h : z = 43 ∨ z = 45) : bnd z = 5 := by rcases h with e | e <;> subst e <;> rfl
theorem bnd_ge {z : Nat} (h : z = 42 ∨ z = 47 ∨ z = 43 ∨ z = 45) : 5 ≤ bnd z ∧ ¬ z = 109 ∧ z < 128 := by rcases h with e | e | e | e <;> subst e <;> decide
theorem opc_sm {z : Nat} (h : z = 42 ∨ z = 47 ∨ z = 43 ∨ z = 45) : smC (opc z) := by unfold smC opc; omega
/-- what waits under a level binds less than a SUM's operators -/
theorem wlb_head {it si : Nat → Nat} {W : List Nat} (hW : ∀ x, W.head? = some x → bnd x < 5) : ∀ D x, (wlb it si W D).head? = some x → bnd x < 5
  | 0, x, h => hW x h
  | d + 1, x, h => by
    unfold wlb at h
    cases h
    decide
