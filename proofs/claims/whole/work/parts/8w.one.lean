/-! a SUM, from its beginning -/
section
variable {c : Nat → Nat} {n : Nat}
theorem sum_e (hn : n ≤ 600) {w0c w0m : Wd} (hW : IW w0c) (hB : ∀ i, i < n → BY (w0c.1 66 i) (c i)) (hMB : MB c n w0m) {W0 : List Nat} (hW0 : ∀ x, W0.head? = some x → bnd x < 5) (hWl : W0.length ≤ 8) {A0 S0 KA KB p st s sm : Nat} (hKA : KA ≤ 2400) (hKB : KB ≤ 2400) (h12 : w0c.1 65 12 = nI sm) (hst : st ≤ p) (hp : p ≤ n) (h6 : w0c.1 65 6 = nI p) (hCX : CX w0c s 0 W0 A0 []) (hs : s = 7 ∨ s = 8) (hs7 : s = 7 → ¬ tk c n p = 109) (hMT : MT c n p w0m) (h41 : w0m.1 97 41 = nI 0) (h43 : w0m.1 97 43 = nI S0) (bA : A0 + W0.length ≤ KA + p) (bS : S0 ≤ KB + p) : ok (X12_sum w0m) (fun r => SP c n w0c w0m W0 A0 S0 KA KB p (PS n st w0c) r ∨ FP (KS A0 w0c) (KM S0 w0m) (PS n st w0c) r) := by
  have e1 : X12_sum w0m = (lp X12_sum_b18 (nI 0, nI 1, puI (puI w0m 142 0 (nI 0)) 143 0 (nI 0))).bind smK := by
    unfold X12_sum
    simp (disch := omega) only [gdn, gb0, gb1, ixn, nm1, nI_add, nI_mul, nsub, nI_ltI, nI_leI, nI_eq, eqNO, eqNO2, ltNO, NOlt, leNO, NOle, if_pos, if_neg, Option.bind_some, if_true, if_false, and_self, eq_self, l0, l1, l2, l3, l4, l5, l6, l7, l8, l9, l10, l11, l12, l13, l14, l15, l16, l17, l18, l19, l20, l24, l26, l30, l31, l32, l40, l41, l42, l43, l45, l47, l48, l57, l58, l59, l60, l61, l62, l63, l64, l97, l99, l100, l101, l102, l103, l104, l105, l106, l107, l108, l109, l110, l122, l160, l240, l255, l600, l1000, l3000, l10000, l10007, l10116, l67108863, l67108864]
    rfl
  rw [e1]
  refine sum_lp hn hW hB hMB hW0 hWl hKA hKB h12 st p w0c _ 0 1 s (fun _ => 0) (fun _ => 0) [] ⟨⟨hst, hp, h6⟩, ⟨Nat.le_refl _, fun z => by omega, Or.inr rfl⟩, hCX, ⟨fun z => by omega, fun _ => ⟨hs, hs7⟩⟩, KS.rf, ⟨rfl, rfl, rfl⟩, (KM.rf.lv (Or.inl rfl)).lv (Or.inr rfl), hMT.c (fun j _ _ => by rw [I_oth (by decide), I_oth (by decide)]), ⟨?_, ?_⟩, ⟨?_, fun i hi => by simp at hi⟩, fun i hi => ?_, by omega, ⟨?_, ?_⟩, rfl, fun x hx => by cases hx⟩ rfl
  · rw [I_oth (by decide), I_oth (by decide)]; exact h41
  · rw [I_oth (by decide), I_oth (by decide)]
  · rw [I_oth (by decide), I_oth (by decide)]; exact h43
  · have : i = 0 := by omega
    subst this
    exact ⟨by simp (disch := omega) only [gdn, gb0, gb1, ixn, nm1, nI_add, nI_mul, nsub, nI_ltI, nI_leI, nI_eq, eqNO, eqNO2, ltNO, NOlt, leNO, NOle, if_pos, if_neg, Option.bind_some, if_true, if_false, and_self, eq_self, l0, l1, l2, l3, l4, l5, l6, l7, l8, l9, l10, l11, l12, l13, l14, l15, l16, l17, l18, l19, l20, l24, l26, l30, l31, l32, l40, l41, l42, l43, l45, l47, l48, l57, l58, l59, l60, l61, l62, l63, l64, l97, l99, l100, l101, l102, l103, l104, l105, l106, l107, l108, l109, l110, l122, l160, l240, l255, l600, l1000, l3000, l10000, l10007, l10116, l67108863, l67108864, I_oth, I_J, J_oth, J_I, I_row, J_row, SI_row, SI_oth, SI_J, SJ_row, SJ_oth, SJ_I, upd_s, upd_n, updL_s, updL_n, ne_eq, not_false_eq_true], by simp (disch := omega) only [gdn, gb0, gb1, ixn, nm1, nI_add, nI_mul, nsub, nI_ltI, nI_leI, nI_eq, eqNO, eqNO2, ltNO, NOlt, leNO, NOle, if_pos, if_neg, Option.bind_some, if_true, if_false, and_self, eq_self, l0, l1, l2, l3, l4, l5, l6, l7, l8, l9, l10, l11, l12, l13, l14, l15, l16, l17, l18, l19, l20, l24, l26, l30, l31, l32, l40, l41, l42, l43, l45, l47, l48, l57, l58, l59, l60, l61, l62, l63, l64, l97, l99, l100, l101, l102, l103, l104, l105, l106, l107, l108, l109, l110, l122, l160, l240, l255, l600, l1000, l3000, l10000, l10007, l10116, l67108863, l67108864, I_oth, I_J, J_oth, J_I, I_row, J_row, SI_row, SI_oth, SI_J, SJ_row, SJ_oth, SJ_I, upd_s, upd_n, updL_s, updL_n, ne_eq, not_false_eq_true], Or.inl rfl, Or.inl rfl⟩
  · show A0 + 0 + 0 + W0.length ≤ _
    omega
  · show S0 + 0 + 0 + W0.length ≤ _
    omega
/-- one TOKEN that the class takes -/
theorem cls_e (hn : n ≤ 600) {st p A : Nat} {wc : Wd} (hW : IW wc) (hB : ∀ i, i < n → BY (wc.1 66 i) (c i)) (hst : st ≤ p) (hp : p ≤ n) (h6 : wc.1 65 6 = nI p) (h0 : ¬ tk c n p = 0) (h1 : ¬ tk c n p = 1) {Q : Wd → Prop} (hcl : ∀ e, Fr [] f5 wc e → TC c n p e → ∃ e2, X6_take e = some (nI 0, e2) ∧ Q e2 ∧ KT A e e2) : ∃ e2, PS n st wc = PS n (st + 1) e2 ∧ e2.1 65 6 = nI (te c n p) ∧ Q e2 ∧ KS A wc e2 ∧ e2.1 65 4 = wc.1 65 4 ∧ e2.1 65 5 = wc.1 65 5 := by
  obtain ⟨e, e2, q1, q2, q3, q4, q5, q6⟩ := cstep (st := st) hn hW hB hst hp h6 h0 h1 (Q := fun e e2 => Q e2 ∧ KT A e e2) (fun e he hT => by
    obtain ⟨e2, z1, z2, z3⟩ := hcl e he hT
    exact ⟨e2, z1, z3.f76.1, z3.f76.2, z2, z3⟩)
  have f2 : ∀ k, k = 4 ∨ k = 5 → e2.1 65 k = wc.1 65 k := fun k hk => by
    rw [(q6.1 65 (by decide) k (by rcases hk with e | e <;> subst e <;> decide)).1, (q2 65 (by decide) k (by rcases hk with e | e <;> subst e <;> decide)).1]
  exact ⟨e2, q1, q4, q5, KT.ks (KS.rf.scan q2) q6, f2 4 (Or.inl rfl), f2 5 (Or.inr rfl)⟩
theorem KS.iw {A : Nat} {w w1 : Wd} (h : KS A w w1) (hW : IW w) : IW w1 := fun i hi => by rw [h.rows.2]; exact hW i hi
theorem KS.by {A : Nat} {w w1 : Wd} (h : KS A w w1) (hB : ∀ i, i < n → BY (w.1 66 i) (c i)) : ∀ i, i < n → BY (w1.1 66 i) (c i) := by rw [h.rows.1]; exact hB
end
theorem CX.base {w : Wd} {s D : Nat} {L : List Nat} {A : Nat} {C : List Nat} (h : CX w s D L A C) : CX w s D L (A + C.length) [] := ⟨h.1, h.2.1, h.2.2.1, h.2.2.2.1, h.2.2.2.2.1, fun i hi => by simp at hi⟩
theorem CX.join {w w1 : Wd} {s s1 D D1 : Nat} {L L1 : List Nat} {A : Nat} {C C1 : List Nat} (h : CX w s D L A C) (hk : KS (A + C.length) w w1) (h1 : CX w1 s1 D1 L1 (A + C.length) C1) : CX w1 s1 D1 L1 A (C ++ C1) := by
  obtain ⟨-, -, -, -, -, hb⟩ := h
  obtain ⟨x1, x2, x3, x4, x5, hb1⟩ := h1
  refine ⟨x1, x2, x3, x4, by rw [x5, List.length_append, Nat.add_assoc], fun i hi => ?_⟩
  rw [List.length_append] at hi
  by_cases q : i < C.length
  · rw [hk.2 (A + i) (by omega), hb i q, List.getD_eq_getElem?_getD, List.getD_eq_getElem?_getD, List.getElem?_append_left q]
  · have := hb1 (i - C.length) (by omega)
    rw [show A + C.length + (i - C.length) = A + i by omega] at this
    rw [this, List.getD_eq_getElem?_getD, List.getD_eq_getElem?_getD, List.getElem?_append_right (by omega)]
/-! what a TEST may change in the model -/
def RV : List Nat := [134, 135, 136, 137, 138, 139, 140, 141, 142, 143]
def fV : List (Nat × Nat) := [(97, 35), (97, 36), (97, 37), (97, 38), (97, 40), (97, 41), (97, 43), (97, 44)]
def KV (O S : Nat) (w w' : Wd) : Prop := Fr RV fV w w' ∧ (∀ i, i < S → w'.1 140 i = w.1 140 i ∧ w'.1 141 i = w.1 141 i) ∧ (∀ i, i < O → ∀ k, 134 ≤ k → k ≤ 139 → w'.1 k i = w.1 k i)
theorem KV.rf {O S : Nat} {w : Wd} : KV O S w w := ⟨Fr.rf, fun _ _ => ⟨rfl, rfl⟩, fun _ _ _ _ _ => rfl⟩
theorem KV.tr {O S : Nat} {w w1 w2 : Wd} (h : KV O S w w1) (h2 : KV O S w1 w2) : KV O S w w2 := ⟨h.1.next h2.1 (fun _ z => z) (fun _ z => z), fun i hi => ⟨(h2.2.1 i hi).1.trans (h.2.1 i hi).1, (h2.2.1 i hi).2.trans (h.2.1 i hi).2⟩, fun i hi k k1 k2 => (h2.2.2 i hi k k1 k2).trans (h.2.2 i hi k k1 k2)⟩
theorem KV.mono {O S O' S' : Nat} {w w1 : Wd} (h : KV O S w w1) (hO : O' ≤ O) (hS : S' ≤ S) : KV O' S' w w1 := ⟨h.1, fun i hi => h.2.1 i (by omega), fun i hi => h.2.2 i (by omega)⟩
theorem KM.ones {S : Nat} {w w1 : Wd} (h : KM S w w1) {k : Nat} (h1 : 134 ≤ k) (h2 : k ≤ 139) : w1.1 k = w.1 k := (h.1.row k (by simp only [List.mem_cons, List.not_mem_nil, or_false]; omega) (by simp only [fM, List.map_cons, List.map_nil, List.mem_cons, List.not_mem_nil, or_false]; omega)).1
theorem KM.kv {O S : Nat} {w w1 : Wd} (h : KM S w w1) : KV O S w w1 := ⟨(Fr.rf : Fr RV fV w w).next h.1 (by decide) (by decide), h.2, fun i _ k k1 k2 => by rw [h.ones k1 k2]⟩
theorem KV.pu {O S : Nat} {w w1 : Wd} (h : KV O S w w1) {k i : Nat} {v : Int32} (h1 : 134 ≤ k) (h2 : k ≤ 139) (hi : O ≤ i) : KV O S w (puI w1 k i v) := ⟨Fr.puI h.1 (by unfold RV; simp only [List.mem_cons, List.not_mem_nil, or_false]; omega), fun j hj => by rw [I_oth (by omega), I_oth (by omega)]; exact h.2.1 j hj, fun j hj k' k1 k2 => by
  by_cases q : k' = k
  · subst q; rw [I_row, upd_n (by omega)]; exact h.2.2 j hj k' k1 k2
  · rw [I_oth q]; exact h.2.2 j hj k' k1 k2⟩
theorem KV.fl {O S : Nat} {w w1 : Wd} (h : KV O S w w1) {j : Nat} {v : Int32} (hj : (97, j) ∈ fV) : KV O S w (puI w1 97 j v) := ⟨Fr.pfI h.1 hj, fun i hi => by rw [I_oth (by decide), I_oth (by decide)]; exact h.2.1 i hi, fun i hi k k1 k2 => by rw [I_oth (by omega)]; exact h.2.2 i hi k k1 k2⟩
theorem KV.nx {O S : Nat} {w w1 w2 : Wd} (h : KV O S w w1) (h2 : Fr [] [(97, 35), (97, 36), (97, 37), (97, 38)] w1 w2) : KV O S w w2 := h.tr ((KM.rf.nx h2).kv)
theorem KV.fails {O S : Nat} {w w1 w2 : Wd} (h : KV O S w w1) (h2 : Fr [] [(97, 40), (97, 41)] w1 w2) : KV O S w w2 := h.tr ((KM.rf.fails h2).kv)
theorem KV.mb {c : Nat → Nat} {n O S : Nat} {w w1 : Wd} (h : KV O S w w1) (hb : MB c n w) : MB c n w1 := hb.fr (h.1 97 (by decide) 34 (by decide)).1 (h.1.row 121 (by decide) (by decide)).1
/-! a ONE -/
def SGN (w : Wd) (s : Nat) (C : List Nat) : Prop := ∀ i, i < C.length → w.1 140 (s + i) = dec1 (C.getD i 0) ∧ w.1 141 (s + i) = dec2 (C.getD i 0)
def OQ (w : Wd) (k t : Nat) (L R : List Nat) (S : Nat) : Prop := w.1 137 k = nI t ∧ ∃ s, w.1 134 k = nI s ∧ w.1 135 k = nI (s + L.length) ∧ w.1 136 k = nI (s + L.length + R.length) ∧ s + L.length + R.length ≤ S ∧ SGN w s L ∧ SGN w (s + L.length) R
def okO (t : Nat) (L R : List Nat) : Prop := (t = 60 ∨ t = 61 ∨ t = 62) ∧ hg 20 L 0 = some 1 ∧ hg 20 R 0 = some 1 ∧ (∀ x ∈ L, smC x) ∧ (∀ x ∈ R, smC x)
def OM (c : Nat → Nat) (n : Nat) (w0c w0m : Wd) (W1 : List Nat) (A S K KA KB p0 : Nat) (P : Option Wd) (r : Int32 × Wd) : Prop := r.1 = nI 1 ∧ ∃ st p wc U C t L R, P = PS n st wc ∧ (st ≤ p ∧ p ≤ n ∧ wc.1 65 6 = nI p) ∧ p0 + 3 ≤ p ∧ CX wc 9 0 (U ++ W1) A C ∧ KS A w0c wc ∧ (wc.1 65 4 = w0c.1 65 4 ∧ wc.1 65 5 = w0c.1 65 5 ∧ wc.1 65 12 = nI 2) ∧ ((∀ x ∈ U, 4 ≤ bnd x) ∧ U.length ≤ 3) ∧ C ++ U.map opc = L ++ R ++ [opc t] ∧ okO t L R ∧ KV K S w0m r.2 ∧ MT c n p r.2 ∧ (r.2.1 97 41 = nI 0 ∧ r.2.1 97 40 = w0m.1 97 40) ∧ r.2.1 97 44 = nI (K + 1) ∧ OQ r.2 K t L R (S + L.length + R.length) ∧ r.2.1 97 43 = nI (S + L.length + R.length) ∧ (r.2.1 138 K = w0m.1 138 K ∧ r.2.1 139 K = w0m.1 139 K) ∧ ¬ (tk c n p = 43 ∨ tk c n p = 45 ∨ tk c n p = 42 ∨ tk c n p = 47) ∧ (A + C.length + U.length + W1.length ≤ KA + p ∧ S + L.length + R.length ≤ KB + p)
section
variable {w : Wd} {A : Nat} {C : List Nat}
theorem t_cmp {t : Nat} {V R : List Nat} (h : CX w 9 0 (V ++ R) A C) (h7 : w.1 65 7 = nI t) (ht : t = 60 ∨ t = 61 ∨ t = 62) (hV : ∀ x ∈ V, 4 ≤ bnd x) (hR : ∀ x, R.head? = some x → bnd x < 4) (hL : (V ++ R).length < 63) (hC : A + C.length + V.length ≤ 3000) (h12 : w.1 65 12 = nI 1) : ∃ e, X6_take w = some (nI 0, e) ∧ (CX e 8 0 (t :: R) A (C ++ V.map opc) ∧ e.1 65 12 = nI 2) ∧ KT A w e := by
  obtain ⟨h11, h14, hq⟩ := h
  have hb : bnd t = 4 := by rcases ht with e | e | e <;> subst e <;> rfl
  obtain ⟨e, r1, r2, r3, r4, r5, r6⟩ := t_op (sm := 2) (to := 8) hq h7 (by omega) hb hV hR hL hC
  refine ⟨e, ?_, ⟨⟨r3, by rw [r5]; exact h14, r2⟩, r4⟩, r6⟩
  have hr : X6_isReckoner (nI t) w = nI 0 := by rw [reck_e (by omega), if_neg (by omega)]
  unfold X6_take X6_takeBehindSum X6_takeBehindSum_j72
  rcases ht with e | e | e
  · subst e; simp (disch := omega) only [gdn, gb0, gb1, ixn, nm1, nI_add, nI_mul, nsub, nI_ltI, nI_leI, nI_eq, eqNO, eqNO2, ltNO, NOlt, leNO, NOle, if_pos, if_neg, Option.bind_some, if_true, if_false, and_self, eq_self, l0, l1, l2, l3, l4, l5, l6, l7, l8, l9, l10, l11, l12, l13, l14, l15, l16, l17, l18, l19, l20, l24, l26, l30, l31, l32, l40, l41, l42, l43, l45, l47, l48, l57, l58, l59, l60, l61, l62, l63, l64, l97, l99, l100, l101, l102, l103, l104, l105, l106, l107, l108, l109, l110, l122, l160, l240, l255, l600, l1000, l3000, l10000, l10007, l10116, l67108863, l67108864, h11, h14, h7, hr, h12, r1]
  · subst e; simp (disch := omega) only [gdn, gb0, gb1, ixn, nm1, nI_add, nI_mul, nsub, nI_ltI, nI_leI, nI_eq, eqNO, eqNO2, ltNO, NOlt, leNO, NOle, if_pos, if_neg, Option.bind_some, if_true, if_false, and_self, eq_self, l0, l1, l2, l3, l4, l5, l6, l7, l8, l9, l10, l11, l12, l13, l14, l15, l16, l17, l18, l19, l20, l24, l26, l30, l31, l32, l40, l41, l42, l43, l45, l47, l48, l57, l58, l59, l60, l61, l62, l63, l64, l97, l99, l100, l101, l102, l103, l104, l105, l106, l107, l108, l109, l110, l122, l160, l240, l255, l600, l1000, l3000, l10000, l10007, l10116, l67108863, l67108864, h11, h14, h7, hr, h12, r1]
  · subst e; simp (disch := omega) only [gdn, gb0, gb1, ixn, nm1, nI_add, nI_mul, nsub, nI_ltI, nI_leI, nI_eq, eqNO, eqNO2, ltNO, NOlt, leNO, NOle, if_pos, if_neg, Option.bind_some, if_true, if_false, and_self, eq_self, l0, l1, l2, l3, l4, l5, l6, l7, l8, l9, l10, l11, l12, l13, l14, l15, l16, l17, l18, l19, l20, l24, l26, l30, l31, l32, l40, l41, l42, l43, l45, l47, l48, l57, l58, l59, l60, l61, l62, l63, l64, l97, l99, l100, l101, l102, l103, l104, l105, l106, l107, l108, l109, l110, l122, l160, l240, l255, l600, l1000, l3000, l10000, l10007, l10116, l67108863, l67108864, h11, h14, h7, hr, h12, r1]
theorem t_nocmp {t : Nat} {L : List Nat} (h : CX w 9 0 L A C) (h7 : w.1 65 7 = nI t) (ht : ¬ (t = 60 ∨ t = 61 ∨ t = 62)) (hr : ¬ (t = 43 ∨ t = 45 ∨ t = 42 ∨ t = 47)) (ht2 : t < 128) (h12 : w.1 65 12 = nI 1) : X6_take w = some (nI 2, w) := by
  obtain ⟨h11, h14, hq⟩ := h
  have hr : X6_isReckoner (nI t) w = nI 0 := by rw [reck_e (by omega), if_neg hr]
  unfold X6_take X6_takeBehindSum X6_takeBehindSum_j92
  by_cases q1 : t = 59
  · subst q1; simp (disch := omega) only [gdn, gb0, gb1, ixn, nm1, nI_add, nI_mul, nsub, nI_ltI, nI_leI, nI_eq, eqNO, eqNO2, ltNO, NOlt, leNO, NOle, if_pos, if_neg, Option.bind_some, if_true, if_false, and_self, eq_self, l0, l1, l2, l3, l4, l5, l6, l7, l8, l9, l10, l11, l12, l13, l14, l15, l16, l17, l18, l19, l20, l24, l26, l30, l31, l32, l40, l41, l42, l43, l45, l47, l48, l57, l58, l59, l60, l61, l62, l63, l64, l97, l99, l100, l101, l102, l103, l104, l105, l106, l107, l108, l109, l110, l122, l160, l240, l255, l600, l1000, l3000, l10000, l10007, l10116, l67108863, l67108864, h11, h14, h7, hr, h12]
  · by_cases q2 : t = 102
    · subst q2; simp (disch := omega) only [gdn, gb0, gb1, ixn, nm1, nI_add, nI_mul, nsub, nI_ltI, nI_leI, nI_eq, eqNO, eqNO2, ltNO, NOlt, leNO, NOle, if_pos, if_neg, Option.bind_some, if_true, if_false, and_self, eq_self, l0, l1, l2, l3, l4, l5, l6, l7, l8, l9, l10, l11, l12, l13, l14, l15, l16, l17, l18, l19, l20, l24, l26, l30, l31, l32, l40, l41, l42, l43, l45, l47, l48, l57, l58, l59, l60, l61, l62, l63, l64, l97, l99, l100, l101, l102, l103, l104, l105, l106, l107, l108, l109, l110, l122, l160, l240, l255, l600, l1000, l3000, l10000, l10007, l10116, l67108863, l67108864, h11, h14, h7, hr, h12]
    · by_cases q3 : t = 107
      · subst q3; simp (disch := omega) only [gdn, gb0, gb1, ixn, nm1, nI_add, nI_mul, nsub, nI_ltI, nI_leI, nI_eq, eqNO, eqNO2, ltNO, NOlt, leNO, NOle, if_pos, if_neg, Option.bind_some, if_true, if_false, and_self, eq_self, l0, l1, l2, l3, l4, l5, l6, l7, l8, l9, l10, l11, l12, l13, l14, l15, l16, l17, l18, l19, l20, l24, l26, l30, l31, l32, l40, l41, l42, l43, l45, l47, l48, l57, l58, l59, l60, l61, l62, l63, l64, l97, l99, l100, l101, l102, l103, l104, l105, l106, l107, l108, l109, l110, l122, l160, l240, l255, l600, l1000, l3000, l10000, l10007, l10116, l67108863, l67108864, h11, h14, h7, hr, h12]
      · by_cases q4 : t = 108
        · subst q4; simp (disch := omega) only [gdn, gb0, gb1, ixn, nm1, nI_add, nI_mul, nsub, nI_ltI, nI_leI, nI_eq, eqNO, eqNO2, ltNO, NOlt, leNO, NOle, if_pos, if_neg, Option.bind_some, if_true, if_false, and_self, eq_self, l0, l1, l2, l3, l4, l5, l6, l7, l8, l9, l10, l11, l12, l13, l14, l15, l16, l17, l18, l19, l20, l24, l26, l30, l31, l32, l40, l41, l42, l43, l45, l47, l48, l57, l58, l59, l60, l61, l62, l63, l64, l97, l99, l100, l101, l102, l103, l104, l105, l106, l107, l108, l109, l110, l122, l160, l240, l255, l600, l1000, l3000, l10000, l10007, l10116, l67108863, l67108864, h11, h14, h7, hr, h12]
        · simp (disch := omega) only [gdn, gb0, gb1, ixn, nm1, nI_add, nI_mul, nsub, nI_ltI, nI_leI, nI_eq, eqNO, eqNO2, ltNO, NOlt, leNO, NOle, if_pos, if_neg, Option.bind_some, if_true, if_false, and_self, eq_self, l0, l1, l2, l3, l4, l5, l6, l7, l8, l9, l10, l11, l12, l13, l14, l15, l16, l17, l18, l19, l20, l24, l26, l30, l31, l32, l40, l41, l42, l43, l45, l47, l48, l57, l58, l59, l60, l61, l62, l63, l64, l97, l99, l100, l101, l102, l103, l104, l105, l106, l107, l108, l109, l110, l122, l160, l240, l255, l600, l1000, l3000, l10000, l10007, l10116, l67108863, l67108864, h11, h14, h7, hr, h12]
end
section
variable {c : Nat → Nat} {n : Nat}
theorem QM.sgn {w : Wd} {S : Nat} {C : List Nat} (h : QM w S C) : SGN w S C := h.2
theorem SGN.cg {w w' : Wd} {S : Nat} {C : List Nat} (h : SGN w S C) (e : ∀ i, i < S + C.length → w'.1 140 i = w.1 140 i ∧ w'.1 141 i = w.1 141 i) : SGN w' S C := fun i hi => by
  rw [(e (S + i) (by omega)).1, (e (S + i) (by omega)).2]; exact h i hi
theorem one_mid (hn : n ≤ 600) {w0c w0m : Wd} (hW : IW w0c) (hB : ∀ i, i < n → BY (w0c.1 66 i) (c i)) (hMB : MB c n w0m) {W1 : List Nat} (hW1 : ∀ x, W1.head? = some x → bnd x < 4) (hWl : W1.length ≤ 7) {A S K KA KB p st s : Nat} (hKA : KA ≤ 2400) (hKB : KB ≤ 2400) (hK : K < 1500) (h12 : w0c.1 65 12 = nI 1) (hst : st ≤ p) (hp : p ≤ n) (h6 : w0c.1 65 6 = nI p) (hCX : CX w0c s 0 W1 A []) (hs : s = 7 ∨ s = 8) (hs7 : s = 7 → ¬ tk c n p = 109) (hMT : MT c n p w0m) (h41 : w0m.1 97 41 = nI 0) (h43 : w0m.1 97 43 = nI S) (h44 : w0m.1 97 44 = nI K) (bA : A + W1.length ≤ KA + p) (bS : S ≤ KB + p) : ok (X12_one_j37 (nI K) w0m) (fun r => OM c n w0c w0m W1 A S K KA KB p (PS n st w0c) r ∨ FP (KS A w0c) (KV K S w0m) (PS n st w0c) r) := by
  have kA : KV K S w0m (puI w0m 134 K (nI S)) := KV.rf.pu (by omega) (by omega) (Nat.le_refl _)
  obtain ⟨⟨r, wr⟩, hr, hout⟩ := sum_e hn hW hB (kA.mb hMB) (fun x hx => by have := hW1 x hx; omega) (by omega) hKA hKB h12 hst hp h6 hCX hs hs7 (hMT.c (fun j _ _ => by rw [I_oth (by decide)])) (by rw [I_oth (by decide)]; exact h41) (by rw [I_oth (by decide)]; exact h43) bA bS
  unfold X12_one_j37
  rw [h43]
  simp (disch := omega) only [gdn, gb0, gb1, ixn, nm1, nI_add, nI_mul, nsub, nI_ltI, nI_leI, nI_eq, eqNO, eqNO2, ltNO, NOlt, leNO, NOle, if_pos, if_neg, Option.bind_some, if_true, if_false, and_self, eq_self, l0, l1, l2, l3, l4, l5, l6, l7, l8, l9, l10, l11, l12, l13, l14, l15, l16, l17, l18, l19, l20, l24, l26, l30, l31, l32, l40, l41, l42, l43, l45, l47, l48, l57, l58, l59, l60, l61, l62, l63, l64, l97, l99, l100, l101, l102, l103, l104, l105, l106, l107, l108, l109, l110, l122, l160, l240, l255, l600, l1000, l3000, l10000, l10007, l10116, l67108863, l67108864, hr]
  rcases hout with ⟨e1, st1, p1, wc1, C1, V1, hP1, ⟨g1, g2, g3⟩, gp, hCX1, hKS1, ⟨k4, k5, k12⟩, ⟨mV1, lV1⟩, hKM1, hMT1, ⟨m41, m40⟩, hQ1, hg1, sm1, nr1, bA1, bS1⟩ | ⟨e1, k, pl, e, f1, f2, f3, f4, f5, f6, f7, f8, f9, f10⟩
  · simp only at e1 hKM1 hMT1 m41 m40 hQ1
    subst e1
    have hC1 : (C1 ++ V1.map opc).length = C1.length + V1.length := by rw [List.length_append, List.length_map]
    have q43 : wr.1 97 43 = nI (S + (C1 ++ V1.map opc).length) := hQ1.1
    have hkB : KV K S w0m (puI wr 135 K (nI (S + (C1 ++ V1.map opc).length))) := (kA.tr hKM1.kv).pu (by omega) (by omega) (Nat.le_refl _)
    have hMT2 : MT c n p1 (puI wr 135 K (nI (S + (C1 ++ V1.map opc).length))) := hMT1.c (fun j _ _ => by rw [I_oth (by decide)])
    have b41 : (puI wr 135 K (nI (S + (C1 ++ V1.map opc).length))).1 97 41 = nI 0 := by rw [I_oth (by decide)]; exact m41
    have b40 : (puI wr 135 K (nI (S + (C1 ++ V1.map opc).length))).1 97 40 = w0m.1 97 40 := by rw [I_oth (by decide), m40, I_oth (by decide)]
    have b43 : (puI wr 135 K (nI (S + (C1 ++ V1.map opc).length))).1 97 43 = nI (S + (C1 ++ V1.map opc).length) := by rw [I_oth (by decide)]; exact q43
    have b44 : (puI wr 135 K (nI (S + (C1 ++ V1.map opc).length))).1 97 44 = nI K := by rw [I_oth (by decide), (hKM1.1 97 (by decide) 44 (by decide)).1, I_oth (by decide)]; exact h44
    have b134 : (puI wr 135 K (nI (S + (C1 ++ V1.map opc).length))).1 134 K = nI S := by rw [I_oth (by decide), hKM1.ones (by omega) (by omega), I_self]
    have b135 : (puI wr 135 K (nI (S + (C1 ++ V1.map opc).length))).1 135 K = nI (S + (C1 ++ V1.map opc).length) := I_self
    have b138 : ∀ k, k = 138 ∨ k = 139 → (puI wr 135 K (nI (S + (C1 ++ V1.map opc).length))).1 k K = w0m.1 k K := fun k hk => by rw [I_oth (by omega), hKM1.ones (by omega) (by omega), I_oth (by omega)]
    have bS1' : SGN (puI wr 135 K (nI (S + (C1 ++ V1.map opc).length))) S (C1 ++ V1.map opc) := SGN.cg hQ1.sgn (fun i _ => ⟨by rw [I_oth (by decide)], by rw [I_oth (by decide)]⟩)
    simp (disch := omega) only [gdn, gb0, gb1, ixn, nm1, nI_add, nI_mul, nsub, nI_ltI, nI_leI, nI_eq, eqNO, eqNO2, ltNO, NOlt, leNO, NOle, if_pos, if_neg, Option.bind_some, if_true, if_false, and_self, eq_self, l0, l1, l2, l3, l4, l5, l6, l7, l8, l9, l10, l11, l12, l13, l14, l15, l16, l17, l18, l19, l20, l24, l26, l30, l31, l32, l40, l41, l42, l43, l45, l47, l48, l57, l58, l59, l60, l61, l62, l63, l64, l97, l99, l100, l101, l102, l103, l104, l105, l106, l107, l108, l109, l110, l122, l160, l240, l255, l600, l1000, l3000, l10000, l10007, l10116, l67108863, l67108864, q43]
    generalize puI wr 135 K (nI (S + (C1 ++ V1.map opc).length)) = wB at *
    have hrg := tk_rng (c := c) (n := n) p1
    obtain ⟨te1, te2, te3, te4⟩ := te_s (c := c) g2
    have s60 := sgnm_e hMT2 (t := 60) (by omega) (by omega)
    have s61 := sgnm_e hMT2 (t := 61) (by omega) (by omega)
    have s62 := sgnm_e hMT2 (t := 62) (by omega) (by omega)
    by_cases tC : tk c n p1 = 60 ∨ tk c n p1 = 61 ∨ tk c n p1 = 62
    · -- both go on behind COMPARES
      have hval := hMT2.2.2.2.2 (by omega) (by omega)
      have kC : KV K S w0m (puI wB 137 K (nI (tk c n p1))) := hkB.pu (by omega) (by omega) (Nat.le_refl _)
      obtain ⟨w2, n1, n2, n3⟩ := nxt hn (kC.mb hMB) g2 (w := puI wB 137 K (nI (tk c n p1))) (by rw [I_oth (by decide)]; exact hMT2.2.2.1)
      have kD := kC.nx n2
      obtain ⟨e2, q1, q4, ⟨q5, q5b⟩, q6, q7, q8⟩ := cls_e (A := A) hn (hKS1.iw hW) (hKS1.by hB) g1 g2 g3 (by omega) (by omega) (Q := fun e2 => CX e2 8 0 (tk c n p1 :: W1) A (C1 ++ V1.map opc) ∧ e2.1 65 12 = nI 2) (fun e he hT => t_cmp (hCX1.scan he) hT.1 tC (fun x hx => by have := (bnd_ge (mV1 x hx)).1; omega) hW1 (by rw [List.length_append]; omega) (by omega) (by rw [(he 65 (by decide) 12 (by decide)).1, k12]; exact h12))
      have hj : X12_one_j37 (nI K) w0m = X12_one_j37 (nI K) w0m := rfl
      obtain ⟨⟨r2, wr2⟩, hr2, hout2⟩ := sum_e hn ((hKS1.tr q6).iw hW) ((hKS1.tr q6).by hB) (kD.mb hMB) (W0 := tk c n p1 :: W1) (A0 := A + (C1 ++ V1.map opc).length) (S0 := S + (C1 ++ V1.map opc).length) (KA := KA) (KB := KB) (p := te c n p1) (st := st1 + 1) (s := 8) (sm := 2) (fun x hx => by
          cases hx
          rcases tC with e | e | e <;> rw [e] <;> decide) (by rw [List.length_cons]; omega) hKA hKB q5b (by have := te4 (by omega); omega) te3 q4 q5.base (Or.inr rfl) (fun z => by omega) n3 (by rw [(n2 97 (by decide) 41 (by decide)).1, I_oth (by decide)]; exact b41) (by rw [(n2 97 (by decide) 43 (by decide)).1, I_oth (by decide)]; exact b43) (by rw [hC1, List.length_cons]; have := te4 (by omega); omega) (by rw [hC1]; have := te4 (by omega); omega)
      have d43 : w2.1 97 43 = nI (S + (C1 ++ V1.map opc).length) := by rw [(n2 97 (by decide) 43 (by decide)).1, I_oth (by decide)]; exact b43
      have d44 : w2.1 97 44 = nI K := by rw [(n2 97 (by decide) 44 (by decide)).1, I_oth (by decide)]; exact b44
      have d40 : w2.1 97 40 = w0m.1 97 40 := by rw [(n2 97 (by decide) 40 (by decide)).1, I_oth (by decide)]; exact b40
      have dK : ∀ k, 134 ≤ k → k ≤ 139 → k ≠ 137 → w2.1 k K = wB.1 k K := fun k k1 k2 k3 => by rw [((KM.rf.nx n2 : KM 0 _ _)).ones k1 k2, I_oth k3]
      have d137 : w2.1 137 K = nI (tk c n p1) := by rw [((KM.rf.nx n2 : KM 0 _ _)).ones (by omega) (by omega), I_self]
      have dS : SGN w2 S (C1 ++ V1.map opc) := bS1'.cg (fun i _ => ⟨by rw [(n2.row 140 (by decide) (by decide)).1, I_oth (by decide)], by rw [(n2.row 141 (by decide) (by decide)).1, I_oth (by decide)]⟩)
      have hj99 : X12_one_j99 (nI K) wB = (X12_sum w2).bind fun q12 => (if q12.1 = 0 then some ((0 : Int32), q12.2) else gd (vp_in (nI K) 1500) <| (some (puI q12.2 136 (ix (nI K)) (q12.2.1 97 43))).bind fun w14 => (some (puI w14 97 44 ((w14.1 97 44) + (1 : Int32)))).bind fun w15 => some ((1 : Int32), w15)) := by
        unfold X12_one_j99
        rw [hval]
        simp (disch := omega) only [gdn, gb0, gb1, ixn, nm1, nI_add, nI_mul, nsub, nI_ltI, nI_leI, nI_eq, eqNO, eqNO2, ltNO, NOlt, leNO, NOle, if_pos, if_neg, Option.bind_some, if_true, if_false, and_self, eq_self, l0, l1, l2, l3, l4, l5, l6, l7, l8, l9, l10, l11, l12, l13, l14, l15, l16, l17, l18, l19, l20, l24, l26, l30, l31, l32, l40, l41, l42, l43, l45, l47, l48, l57, l58, l59, l60, l61, l62, l63, l64, l97, l99, l100, l101, l102, l103, l104, l105, l106, l107, l108, l109, l110, l122, l160, l240, l255, l600, l1000, l3000, l10000, l10007, l10116, l67108863, l67108864, n1]
      have go : ok (X12_one_j99 (nI K) wB) (fun r => OM c n w0c w0m W1 A S K KA KB p (PS n st w0c) r ∨ FP (KS A w0c) (KV K S w0m) (PS n st w0c) r) := by
        rw [hj99, hr2]
        simp (disch := omega) only [gdn, gb0, gb1, ixn, nm1, nI_add, nI_mul, nsub, nI_ltI, nI_leI, nI_eq, eqNO, eqNO2, ltNO, NOlt, leNO, NOle, if_pos, if_neg, Option.bind_some, if_true, if_false, and_self, eq_self, l0, l1, l2, l3, l4, l5, l6, l7, l8, l9, l10, l11, l12, l13, l14, l15, l16, l17, l18, l19, l20, l24, l26, l30, l31, l32, l40, l41, l42, l43, l45, l47, l48, l57, l58, l59, l60, l61, l62, l63, l64, l97, l99, l100, l101, l102, l103, l104, l105, l106, l107, l108, l109, l110, l122, l160, l240, l255, l600, l1000, l3000, l10000, l10007, l10116, l67108863, l67108864]
        rcases hout2 with ⟨e1, st2, p2, wc2, C2, V2, hP2, ⟨x1, x2, x3⟩, xp, hCX2, hKS2, ⟨y4, y5, y12⟩, ⟨mV2, lV2⟩, hKM2, hMT3, ⟨z41, z40⟩, hQ2, hg2, sm2, nr2, bA2, bS2⟩ | ⟨e1, k, pl, e, f1, f2, f3, f4, f5, f6, f7, f8, f9, f10⟩
        · simp only at e1 hKM2 hMT3 z41 z40 hQ2
          subst e1
          have hC2 : (C2 ++ V2.map opc).length = C2.length + V2.length := by rw [List.length_append, List.length_map]
          have z43 := hQ2.1
          have z44 : wr2.1 97 44 = nI K := by rw [(hKM2.1 97 (by decide) 44 (by decide)).1]; exact d44
          have z44' : ∀ v, (puI wr2 136 K v).1 97 44 = nI K := fun v => by rw [I_oth (by decide)]; exact z44
          simp (disch := omega) only [gdn, gb0, gb1, ixn, nm1, nI_add, nI_mul, nsub, nI_ltI, nI_leI, nI_eq, eqNO, eqNO2, ltNO, NOlt, leNO, NOle, if_pos, if_neg, Option.bind_some, if_true, if_false, and_self, eq_self, l0, l1, l2, l3, l4, l5, l6, l7, l8, l9, l10, l11, l12, l13, l14, l15, l16, l17, l18, l19, l20, l24, l26, l30, l31, l32, l40, l41, l42, l43, l45, l47, l48, l57, l58, l59, l60, l61, l62, l63, l64, l97, l99, l100, l101, l102, l103, l104, l105, l106, l107, l108, l109, l110, l122, l160, l240, l255, l600, l1000, l3000, l10000, l10007, l10116, l67108863, l67108864, z43, z44, z44']
          refine ok_i (Or.inl ⟨rfl, st2, p2, wc2, V2 ++ [tk c n p1], (C1 ++ V1.map opc) ++ C2, tk c n p1, C1 ++ V1.map opc, C2 ++ V2.map opc, by rw [hP1, q1, hP2], ⟨x1, x2, x3⟩, ?_, ?_, ?_, ⟨?_, ?_, ?_⟩, ⟨?_, ?_⟩, ?_, ⟨tC, hg1, hg2, sm1, sm2⟩, ?_, ?_, ⟨?_, ?_⟩, ?_, ?_, ?_, ⟨?_, ?_⟩, nr2, ?_, ?_⟩)
          · have := te4 (by omega); omega
          · have := q5.join hKS2 hCX2
            rw [List.append_assoc, List.singleton_append]; exact this
          · exact (hKS1.tr q6).tr (hKS2.mono (by omega))
          · rw [y4, q7, k4]
          · rw [y5, q8, k5]
          · rw [y12]; exact q5b
          · intro x hx
            rcases List.mem_append.mp hx with z | z
            · have := (bnd_ge (mV2 x z)).1; omega
            · rw [List.mem_singleton.mp z]
              rcases tC with e | e | e <;> rw [e] <;> decide
          · rw [List.length_append, List.length_singleton]; omega
          · rw [List.map_append, List.map_singleton]; simp only [List.append_assoc]
          · refine KV.fl (KV.pu (kD.tr ?_) (by omega) (by omega) (Nat.le_refl _)) (by decide)
            exact KV.mono (hKM2.kv (O := K)) (Nat.le_refl _) (by omega)
          · exact hMT3.c (fun j h1 h2 => by rw [puI_ne (by intro z; injection z; omega), I_oth (by decide)])
          · rw [puI_ne (by decide), I_oth (by decide)]; exact z41
          · rw [puI_ne (by decide), I_oth (by decide), z40]; exact d40
          · rw [I_self]
          · refine ⟨?_, S, ?_, ?_, ?_, Nat.le_refl _, ?_, ?_⟩
            · rw [I_oth (by decide), I_oth (by decide), hKM2.ones (by omega) (by omega)]; exact d137
            · rw [I_oth (by decide), I_oth (by decide), hKM2.ones (by omega) (by omega), dK 134 (by omega) (by omega) (by omega)]; exact b134
            · rw [I_oth (by decide), I_oth (by decide), hKM2.ones (by omega) (by omega), dK 135 (by omega) (by omega) (by omega)]; exact b135
            · rw [I_oth (by decide), I_self]
            · refine dS.cg (fun i hi => ?_)
              rw [I_oth (by decide), I_oth (by decide), I_oth (by decide), I_oth (by decide)]
              exact hKM2.2 i hi
            · refine hQ2.sgn.cg (fun i hi => ?_)
              rw [I_oth (by decide), I_oth (by decide), I_oth (by decide), I_oth (by decide)]
              exact ⟨rfl, rfl⟩
          · rw [puI_ne (by decide), I_oth (by decide)]; exact z43
          · rw [I_oth (by decide), I_oth (by decide), hKM2.ones (by omega) (by omega), dK 138 (by omega) (by omega) (by omega)]; exact b138 138 (Or.inl rfl)
          · rw [I_oth (by decide), I_oth (by decide), hKM2.ones (by omega) (by omega), dK 139 (by omega) (by omega) (by omega)]; exact b138 139 (Or.inr rfl)
          · simp only [List.length_append, List.length_map, List.length_cons, List.length_nil] at bA2 ⊢
            omega
          · rw [hC2]; omega
        · simp only at e1 f4 f5 f6
          subst e1
          simp (disch := omega) only [gdn, gb0, gb1, ixn, nm1, nI_add, nI_mul, nsub, nI_ltI, nI_leI, nI_eq, eqNO, eqNO2, ltNO, NOlt, leNO, NOle, if_pos, if_neg, Option.bind_some, if_true, if_false, and_self, eq_self, l0, l1, l2, l3, l4, l5, l6, l7, l8, l9, l10, l11, l12, l13, l14, l15, l16, l17, l18, l19, l20, l24, l26, l30, l31, l32, l40, l41, l42, l43, l45, l47, l48, l57, l58, l59, l60, l61, l62, l63, l64, l97, l99, l100, l101, l102, l103, l104, l105, l106, l107, l108, l109, l110, l122, l160, l240, l255, l600, l1000, l3000, l10000, l10007, l10116, l67108863, l67108864]
          refine ok_i (Or.inr ⟨rfl, k, pl, e, f1, f2, f3, f4, f5, kD.tr (KV.mono (KM.kv (O := K) f6) (Nat.le_refl _) (by omega)), by rw [hP1, q1]; exact f7, f8, f9, (hKS1.tr q6).tr (f10.mono (by omega))⟩)
      rcases tC with e | e | e
      · rw [if_pos e] at s60
        simp (disch := omega) only [gdn, gb0, gb1, ixn, nm1, nI_add, nI_mul, nsub, nI_ltI, nI_leI, nI_eq, eqNO, eqNO2, ltNO, NOlt, leNO, NOle, if_pos, if_neg, Option.bind_some, if_true, if_false, and_self, eq_self, l0, l1, l2, l3, l4, l5, l6, l7, l8, l9, l10, l11, l12, l13, l14, l15, l16, l17, l18, l19, l20, l24, l26, l30, l31, l32, l40, l41, l42, l43, l45, l47, l48, l57, l58, l59, l60, l61, l62, l63, l64, l97, l99, l100, l101, l102, l103, l104, l105, l106, l107, l108, l109, l110, l122, l160, l240, l255, l600, l1000, l3000, l10000, l10007, l10116, l67108863, l67108864, s60]
        exact go
      · rw [if_neg (by omega)] at s60 s62
        rw [if_pos e] at s61
        simp (disch := omega) only [gdn, gb0, gb1, ixn, nm1, nI_add, nI_mul, nsub, nI_ltI, nI_leI, nI_eq, eqNO, eqNO2, ltNO, NOlt, leNO, NOle, if_pos, if_neg, Option.bind_some, if_true, if_false, and_self, eq_self, l0, l1, l2, l3, l4, l5, l6, l7, l8, l9, l10, l11, l12, l13, l14, l15, l16, l17, l18, l19, l20, l24, l26, l30, l31, l32, l40, l41, l42, l43, l45, l47, l48, l57, l58, l59, l60, l61, l62, l63, l64, l97, l99, l100, l101, l102, l103, l104, l105, l106, l107, l108, l109, l110, l122, l160, l240, l255, l600, l1000, l3000, l10000, l10007, l10116, l67108863, l67108864, s60, s61, s62]
        exact go
      · rw [if_neg (by omega)] at s60
        rw [if_pos e] at s62
        simp (disch := omega) only [gdn, gb0, gb1, ixn, nm1, nI_add, nI_mul, nsub, nI_ltI, nI_leI, nI_eq, eqNO, eqNO2, ltNO, NOlt, leNO, NOle, if_pos, if_neg, Option.bind_some, if_true, if_false, and_self, eq_self, l0, l1, l2, l3, l4, l5, l6, l7, l8, l9, l10, l11, l12, l13, l14, l15, l16, l17, l18, l19, l20, l24, l26, l30, l31, l32, l40, l41, l42, l43, l45, l47, l48, l57, l58, l59, l60, l61, l62, l63, l64, l97, l99, l100, l101, l102, l103, l104, l105, l106, l107, l108, l109, l110, l122, l160, l240, l255, l600, l1000, l3000, l10000, l10007, l10116, l67108863, l67108864, s60, s62]
        exact go
    · rw [if_neg (by omega)] at s60 s61 s62
      obtain ⟨w2, f1, f2, f3, f4⟩ := fails_e hMT2 b41 (k := 2)
      obtain ⟨e, e1, e2, e3, e4⟩ := cfault (st := st1) hn (hKS1.iw hW) (hKS1.by hB) g1 g2 g3 (k := 2) (by omega) (by omega) (fun e he hT h0 => t_nocmp (hCX1.scan he) hT.1 tC nr1 (by omega) (by rw [(he 65 (by decide) 12 (by decide)).1, k12]; exact h12))
      simp (disch := omega) only [gdn, gb0, gb1, ixn, nm1, nI_add, nI_mul, nsub, nI_ltI, nI_leI, nI_eq, eqNO, eqNO2, ltNO, NOlt, leNO, NOle, if_pos, if_neg, Option.bind_some, if_true, if_false, and_self, eq_self, l0, l1, l2, l3, l4, l5, l6, l7, l8, l9, l10, l11, l12, l13, l14, l15, l16, l17, l18, l19, l20, l24, l26, l30, l31, l32, l40, l41, l42, l43, l45, l47, l48, l57, l58, l59, l60, l61, l62, l63, l64, l97, l99, l100, l101, l102, l103, l104, l105, l106, l107, l108, l109, l110, l122, l160, l240, l255, l600, l1000, l3000, l10000, l10007, l10116, l67108863, l67108864, s60, s61, s62, f1]
      refine ok_i (Or.inr ⟨rfl, _, _, e, ?_, ?_, ?_, f2, f3, hkB.fails f4, by rw [hP1]; exact e1, e2, e3, hKS1.fr7 e4⟩)
      · split <;> omega
      · split <;> omega
      · omega
  · simp only at e1 f4 f5 f6
    subst e1
    simp (disch := omega) only [gdn, gb0, gb1, ixn, nm1, nI_add, nI_mul, nsub, nI_ltI, nI_leI, nI_eq, eqNO, eqNO2, ltNO, NOlt, leNO, NOle, if_pos, if_neg, Option.bind_some, if_true, if_false, and_self, eq_self, l0, l1, l2, l3, l4, l5, l6, l7, l8, l9, l10, l11, l12, l13, l14, l15, l16, l17, l18, l19, l20, l24, l26, l30, l31, l32, l40, l41, l42, l43, l45, l47, l48, l57, l58, l59, l60, l61, l62, l63, l64, l97, l99, l100, l101, l102, l103, l104, l105, l106, l107, l108, l109, l110, l122, l160, l240, l255, l600, l1000, l3000, l10000, l10007, l10116, l67108863, l67108864]
    exact ok_i (Or.inr ⟨rfl, k, pl, e, f1, f2, f3, f4, f5, kA.tr f6.kv, f7, f8, f9, f10⟩)
end
