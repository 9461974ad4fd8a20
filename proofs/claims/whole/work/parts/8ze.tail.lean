/-- a good RULE -/
def RG (c : Nat → Nat) (n : Nat) (w0c w0m : Wd) (t F D a m S O KA KB KO p0 : Nat) (P : Option Wd) (r : Int32 × Wd) : Prop := r.1 = nI 1 ∧ ∃ st p wc A' S' O', P = PS n st wc ∧ (st ≤ p ∧ p ≤ n ∧ wc.1 65 6 = nI p) ∧ p0 < p ∧ wc.1 65 11 = nI 0 ∧ DRF wc t F D ∧ wc.1 30 15 = nI A' ∧ Kg fR (F + D) a w0c wc ∧ (wc.1 65 4 = w0c.1 65 4 ∧ wc.1 65 5 = w0c.1 65 5) ∧ KU t m O S w0m r.2 ∧ MT c n p r.2 ∧ (r.2.1 97 41 = nI 0 ∧ r.2.1 97 40 = w0m.1 97 40) ∧ (r.2.1 97 43 = nI S' ∧ r.2.1 97 44 = nI O' ∧ r.2.1 124 t = nI (D + 1)) ∧ (a ≤ A' ∧ S ≤ S' ∧ O ≤ O') ∧ (A' ≤ KA + p ∧ S' ≤ KB + p ∧ 3 * O' ≤ 3 * KO + p) ∧ (wc.2 35 = w0c.2 35 ∧ wc.2 36 = w0c.2 36 ∧ r.2.2 132 = w0m.2 132 ∧ r.2.2 133 = w0m.2 133) ∧ (isN wc 37 (F + D) 107 ∧ isDoes (nn wc 37 (F + D)) ∧ r.2.1 125 m = nI (dm (nn wc 37 (F + D)))) ∧ (isN wc 38 (F + D) 101 ∧ (104 ≤ nn wc 37 (F + D) → r.2.1 126 m = wc.1 38 (F + D))) ∧ (nn wc 37 (F + D) = 101 ∨ nn wc 37 (F + D) = 103 → RCx wc r.2 (F + D) m A' S' O')
section
variable {c : Nat → Nat} {n : Nat}
theorem FPkk {w0c wc w0m wm : Wd} {f a t m O S O1 S1 k p : Nat} (hn : n ≤ 600) {P : Option Wd} {st : Nat} (hW : IW wc) (hB : ∀ i, i < n → BY (wc.1 66 i) (c i)) (hst : st ≤ p) (hp : p ≤ n) (h6 : wc.1 65 6 = nI p) (hk : 1 ≤ k) (hk6 : k ≤ 6) (hP : P = PS n st wc) (hKg : Kg fR f a w0c wc) (hKU : KU t m O S w0m wm) (ht : ∀ e, Fr [] f5 wc e → TC c n p e → ¬ tk c n p = 0 → ∃ e2, X6_take e = some (nI k, e2) ∧ Kg fQ f a e e2) {w2 : Wd} (f2 : w2.1 97 41 = nI (if tk c n p = 0 then 1 else k)) (f3 : w2.1 97 40 = nI (tf c n p)) (f4 : Fr [] [(97, 40), (97, 41)] wm w2) : FP (Kg fR f a w0c) (KU t m O S w0m) P (nI 0, w2) := by
  obtain ⟨te1, te2, te3, te4⟩ := te_s (c := c) hp
  obtain ⟨e, e1, e2, e3, e4⟩ := cfaultR (f := f) (a := a) (st := st) hn hW hB hst hp h6 hk hk6 ht
  refine ⟨rfl, _, _, e, ?_, ?_, ?_, f2, f3, hKU.fails f4, by rw [hP]; exact e1, e2, e3, hKg.tr e4⟩
  · split <;> omega
  · split <;> omega
  · omega
/-- the model's end of a RULE -/
theorem j283_e {w : Wd} {t D : Nat} (h42 : w.1 97 42 = nI t) (ht : t < 6) (h124 : w.1 124 t = nI D) : X12_rule_j283 (nI 1) w = (X12_want (nI 59) (puI w 124 t (nI (D + 1)))).bind fun q28 => gd (narrow .boolean (.int q28.1) = .int q28.1) <| some (q28.1, q28.2) := by
  unfold X12_rule_j283
  simp (disch := omega) only [gdn, gb0, gb1, ixn, nm1, nI_add, nI_mul, nsub, nI_ltI, nI_leI, nI_eq, eqNO, eqNO2, ltNO, NOlt, leNO, NOle, if_pos, if_neg, Option.bind_some, if_true, if_false, and_self, eq_self, l0, l1, l2, l3, l4, l5, l6, l7, l8, l9, l10, l11, l12, l13, l14, l15, l16, l17, l18, l19, l20, l24, l26, l30, l31, l32, l40, l41, l42, l43, l45, l47, l48, l57, l58, l59, l60, l61, l62, l63, l64, l97, l99, l100, l101, l102, l103, l104, l105, l106, l107, l108, l109, l110, l122, l160, l240, l255, l600, l1000, l3000, l10000, l10007, l10116, l67108863, l67108864, h42, h124]
theorem kxI_ok {d : Nat} (h : d = 101 ∨ (103 ≤ d ∧ d ≤ 106)) : kxI d = nI (dm d) ∧ 1 ≤ dm d ∧ dm d ≤ 5 := by
  rcases (by omega : d = 101 ∨ d = 103 ∨ d = 104 ∨ d = 105 ∨ d = 106) with z | z | z | z | z <;> subst z <;> exact ⟨rfl, by decide, by decide⟩
theorem kxI_no {d : Nat} (h : ¬ (d = 101 ∨ (103 ≤ d ∧ d ≤ 106))) : kxI d = NO ∨ ∃ k, kxI d = nI k ∧ k < 10 ∧ (k = 0 ∨ 6 ≤ k) := by
  by_cases q : 100 ≤ d ∧ d < 110
  · right
    rcases (by omega : d = 100 ∨ d = 102 ∨ d = 107 ∨ d = 108 ∨ d = 109) with z | z | z | z | z
    · subst z; exact ⟨0, rfl, by omega, Or.inl rfl⟩
    · subst z; exact ⟨6, rfl, by omega, Or.inr (by omega)⟩
    · subst z; exact ⟨7, rfl, by omega, Or.inr (by omega)⟩
    · subst z; exact ⟨8, rfl, by omega, Or.inr (by omega)⟩
    · subst z; exact ⟨9, rfl, by omega, Or.inr (by omega)⟩
  · left; unfold kxI; rw [if_neg q]
theorem Kg.f6 {f a : Nat} {w w' : Wd} (h : Kg fR f a w w') : w'.1 30 0 = w.1 30 0 ∧ w'.1 33 = w.1 33 := ⟨(h.1 30 (by decide) 0 (by decide)).1, (h.1.row 33 (by decide) (by decide)).1⟩
theorem KU.f42 {t g o s : Nat} {w w' : Wd} (h : KU t g o s w w') : w'.1 97 42 = w.1 97 42 := (h.1 97 (by decide) 42 (by decide)).1
theorem tail_e (hn : n ≤ 600) {w0c w0m : Wd} (hW : IW w0c) (hB : ∀ i, i < n → BY (w0c.1 66 i) (c i)) (hMB : MB c n w0m) {t F D a m S O KA KB KO p st s : Nat} (hKA : KA ≤ 2400) (hKB : KB ≤ 2400) (hKO : KO ≤ 800) (hm : m < 120) (hst : st ≤ p) (hp : p ≤ n) (h6 : w0c.1 65 6 = nI p) (h11 : w0c.1 65 11 = nI s) (hs : s = 1 ∨ s = 3) (hs1 : s = 1 → ¬ tk c n p = 100) (hD : DRF w0c t F D) (h15 : w0c.1 30 15 = nI a) (h39 : w0c.1 39 (F + D) = nI a) (h40 : w0c.1 40 (F + D) = NO) (h38 : w0c.1 38 (F + D) = nI 0) (hMT : MT c n p w0m) (h41 : w0m.1 97 41 = nI 0) (h43 : w0m.1 97 43 = nI S) (h44 : w0m.1 97 44 = nI O) (h42 : w0m.1 97 42 = nI t) (h124 : w0m.1 124 t = nI D) (hDl : D < 20) (bd : a ≤ KA + p ∧ S ≤ KB + p ∧ 3 * O ≤ 3 * KO + p) : ok (X12_rule_j161 (nI m) w0m) (fun r => RG c n w0c w0m t F D a m S O KA KB KO p (PS n st w0c) r ∨ FP (Kg fR (F + D) a w0c) (KU t m O S w0m) (PS n st w0c) r) := by
  have ht5 : t < 5 := hD.2.1
  have hrg := tk_rng (c := c) (n := n) p
  by_cases q58 : tk c n p = 58
  · obtain ⟨w1, a1, a2, a3⟩ := want_t hn hMB hp hMT (t := 58) (by omega) (by omega) q58
    obtain ⟨te1, te2, te3, te4⟩ := te_s (c := c) hp
    have te5 := te4 (by omega)
    obtain ⟨e1, q1, q4, ⟨q5, q5b, q5c, q5d⟩, q6, q7⟩ := clsR (f := F + D) (a := a) (st := st) hn hW hB hst hp h6 (by omega) (by omega) (Q := fun e => e.1 65 11 = nI 4 ∧ DRF e t F D ∧ e.1 30 15 = nI a ∧ (∀ k, 35 ≤ k → k ≤ 41 → e.1 k = w0c.1 k ∧ e.2 k = w0c.2 k)) (fun e he hT => by
      have z := (t_colon (w := e) (by rw [(he 65 (by decide) 11 (by decide)).1]; exact h11) hs hT.1 (by omega) hs1).1 q58
      refine ⟨_, z, ⟨I_self, (f5.drf he hD).c (by rw [I_oth (by decide)]) (by rw [I_oth (by decide)]) (by rw [I_oth (by decide)]), by rw [I_oth (by decide), (he 30 (by decide) 15 (by decide)).1]; exact h15, fun k k1 k2 => ?_⟩, Kg.rf.fI (by decide) (Or.inr rfl)⟩
      have := he.row k (by simp) (by simp only [f5, List.map_cons, List.map_nil, List.mem_cons, List.not_mem_nil, or_false]; omega)
      rw [I_oth (by omega), I_J, this.1, this.2]; exact ⟨rfl, rfl⟩)
    have kA : KU t m O S w0m w1 := KU.rf.nx a2
    have b97 : ∀ j, 39 ≤ j → w1.1 97 j = w0m.1 97 j := fun j hj => (a2 97 (by decide) j (by simp only [List.mem_cons, List.not_mem_nil, or_false, Prod.mk.injEq]; omega)).1
    have b3 : ∀ k, 98 ≤ k → w1.1 k = w0m.1 k ∧ w1.2 k = w0m.2 k := fun k hk => a2.row k (by simp) (by simp only [List.map_cons, List.map_nil, List.mem_cons, List.not_mem_nil, or_false]; omega)
    have hkey := keys_e hn (kA.mb hMB) te3 a3
    -- the model has the key
    have hj : X12_rule_j161 (nI m) w0m = (if kxI (tk c n (te c n p)) < (1 : Int32) then X12_rule_j205 (puI w1 125 m (kxI (tk c n (te c n p)))) else gd (vp_in (nI m) 120) <| (if kxI (tk c n (te c n p)) ≤ (5 : Int32) then (X12_next (puI w1 125 m (kxI (tk c n (te c n p))))).bind fun q23 => gd (vp_in (nI m) 120) <| (if (q23.1 125 (ix (nI m))) = (3 : Int32) then (X12_numberIn (nI m) (1 : Int32) (40 : Int32) q23).bind fun q34 => X12_rule_j283 q34.1 q34.2 else gd (vp_in (nI m) 120) <| (if (q23.1 125 (ix (nI m))) = (4 : Int32) then (X12_numberIn (nI m) (0 : Int32) (40 : Int32) q23).bind fun q32 => X12_rule_j283 q32.1 q32.2 else gd (vp_in (nI m) 120) <| (if (q23.1 125 (ix (nI m))) = (5 : Int32) then (X12_numberIn (nI m) (1 : Int32) (100 : Int32) q23).bind fun q30 => X12_rule_j283 q30.1 q30.2 else (X12_says (nI m) q23).bind fun q25 => X12_rule_j283 q25.1 q25.2))) else X12_rule_j205 (puI w1 125 m (kxI (tk c n (te c n p)))))) := by
      unfold X12_rule_j161
      rw [show (58 : Int32) = nI 58 from rfl, a1]
      simp only [Option.bind_some]
      rw [if_neg (by decide), hkey]
      simp only [Option.bind_some]
      rw [gdn hm (by omega), gdn hm (by omega), ixn (by omega), I_self]
    rw [hj]
    generalize hp1 : te c n p = p1 at *
    obtain ⟨ue1, ue2, ue3, ue4⟩ := te_s (c := c) te3
    have hrg1 := tk_rng (c := c) (n := n) p1
    have C97 : ∀ v j, (puI w1 125 m v).1 97 j = w1.1 97 j := fun v j => by rw [I_oth (by decide)]
    have hMT1 : ∀ v, MT c n p1 (puI w1 125 m v) := fun v => a3.c (fun j _ _ => C97 v j)
    have kB : ∀ v, KU t m O S w0m (puI w1 125 m v) := fun v => kA.rI (by omega) (by omega) (Nat.le_refl _)
    by_cases hd : tk c n p1 = 101 ∨ (103 ≤ tk c n p1 ∧ tk c n p1 ≤ 106)
    · -- what the RULE does
      obtain ⟨x1, x2, x3⟩ := kxI_ok hd
      obtain ⟨w3, n1, n2, n3⟩ := nxt hn ((kB (nI (dm (tk c n p1)))).mb hMB) te3 (hMT1 (nI (dm (tk c n p1)))).2.2.1
      have kC := (kB (nI (dm (tk c n p1)))).nx n2
      have d97 : ∀ j, 39 ≤ j → w3.1 97 j = w0m.1 97 j := fun j hj => by rw [(n2 97 (by decide) j (by simp only [List.mem_cons, List.not_mem_nil, or_false, Prod.mk.injEq]; omega)).1, C97, b97 j hj]
      have d3 : ∀ k, 98 ≤ k → k ≠ 125 → w3.1 k = w0m.1 k ∧ w3.2 k = w0m.2 k := fun k hk h5 => by
        have := n2.row k (by simp) (by simp only [List.map_cons, List.map_nil, List.mem_cons, List.not_mem_nil, or_false]; omega)
        rw [this.1, this.2, I_oth h5, I_J]; exact b3 k hk
      have d125 : w3.1 125 m = nI (dm (tk c n p1)) := by rw [(n2.row 125 (by decide) (by decide)).1, I_self]
      obtain ⟨e2, r1, r4, ⟨r5a, r5b, r5c, r5d, r5e, r5f, r5g⟩, r6, r7⟩ := clsR (f := F + D) (a := a) (st := st + 1) (p := p1) hn (q6.iw hW) (q6.by hB) (by omega) te3 q4 (by omega) (by omega) (Q := fun e => DRF e t F D ∧ e.1 37 (F + D) = nI (tk c n p1) ∧ e.1 65 13 = nI (tk c n p1) ∧ e.1 30 15 = nI a ∧ (∀ q, 35 ≤ q → q ≤ 41 → q ≠ 37 → e.1 q = w0c.1 q ∧ e.2 q = w0c.2 q) ∧ (tk c n p1 = 101 ∨ tk c n p1 = 103 → CX e (if tk c n p1 = 101 then 7 else 8) 0 [] a [] ∧ e.1 65 12 = nI (if tk c n p1 = 101 then 1 else 0)) ∧ (104 ≤ tk c n p1 → tk c n p1 ≤ 106 → e.1 65 11 = nI 5)) (fun e he hT => by
        obtain ⟨k, e', y1, y2, y3, y4, y5, y6, y7, y8, y9, y10, y11, y12⟩ := t_does (a := a) (f5.drf he q5b) (by rw [(he 65 (by decide) 11 (by decide)).1]; exact q5) hT.1 (by omega) (by rw [(he 30 (by decide) 15 (by decide)).1]; exact q5c)
        rw [if_pos hd] at y2
        subst y2
        refine ⟨e', y1, ⟨y3, y4, y5, y6, fun q z1 z2 z3 => ?_, y10, y11⟩, y12⟩
        have := he.row q (by simp) (by simp only [f5, List.map_cons, List.map_nil, List.mem_cons, List.not_mem_nil, or_false]; omega)
        rw [(y7 q z1 z2 z3).1, (y7 q z1 z2 z3).2, this.1, this.2]; exact q5d q z1 z2)
      have kK : Kg fR (F + D) a w0c e2 := q6.tr r6
      have hP2 : PS n st w0c = PS n (st + 1 + 1) e2 := by rw [q1, r1]
      have ue5 := ue4 (by omega)
      generalize hp2 : te c n p1 = p2 at *
      obtain ⟨ve1, ve2, ve3, ve4⟩ := te_s (c := c) ue3
      have hrg2 := tk_rng (c := c) (n := n) p2
      have d35 : w3.2 132 = w0m.2 132 ∧ w3.2 133 = w0m.2 133 := ⟨(d3 132 (by omega) (by omega)).2, (d3 133 (by omega) (by omega)).2⟩
      by_cases hl : 104 ≤ tk c n p1
      · -- a NUMBER
        have h11' := r5g hl (by omega)
        have hdm : dm (tk c n p1) = tk c n p1 - 101 := by unfold dm; rw [if_neg (by omega)]
        have hni : (if kxI (tk c n p1) < (1 : Int32) then X12_rule_j205 (puI w1 125 m (kxI (tk c n p1))) else gd (vp_in (nI m) 120) <| (if kxI (tk c n p1) ≤ (5 : Int32) then (X12_next (puI w1 125 m (kxI (tk c n p1)))).bind fun q23 => gd (vp_in (nI m) 120) <| (if (q23.1 125 (ix (nI m))) = (3 : Int32) then (X12_numberIn (nI m) (1 : Int32) (40 : Int32) q23).bind fun q34 => X12_rule_j283 q34.1 q34.2 else gd (vp_in (nI m) 120) <| (if (q23.1 125 (ix (nI m))) = (4 : Int32) then (X12_numberIn (nI m) (0 : Int32) (40 : Int32) q23).bind fun q32 => X12_rule_j283 q32.1 q32.2 else gd (vp_in (nI m) 120) <| (if (q23.1 125 (ix (nI m))) = (5 : Int32) then (X12_numberIn (nI m) (1 : Int32) (100 : Int32) q23).bind fun q30 => X12_rule_j283 q30.1 q30.2 else (X12_says (nI m) q23).bind fun q25 => X12_rule_j283 q25.1 q25.2))) else X12_rule_j205 (puI w1 125 m (kxI (tk c n p1))))) = (X12_numberIn (nI m) (nI (loV (tk c n p1))) (nI (hiV (tk c n p1))) w3).bind fun q => X12_rule_j283 q.1 q.2 := by
          rw [x1]
          unfold loV hiV
          rcases (by omega : tk c n p1 = 104 ∨ tk c n p1 = 105 ∨ tk c n p1 = 106) with z | z | z
          · rw [z] at n1 d125 ⊢
            rw [show dm 104 = 3 from rfl] at n1 d125 ⊢
            simp (disch := omega) only [gdn, gb0, gb1, ixn, nm1, nI_add, nI_mul, nsub, nI_ltI, nI_leI, nI_eq, eqNO, eqNO2, ltNO, NOlt, leNO, NOle, if_pos, if_neg, Option.bind_some, if_true, if_false, and_self, eq_self, l0, l1, l2, l3, l4, l5, l6, l7, l8, l9, l10, l11, l12, l13, l14, l15, l16, l17, l18, l19, l20, l24, l26, l30, l31, l32, l40, l41, l42, l43, l45, l47, l48, l57, l58, l59, l60, l61, l62, l63, l64, l97, l99, l100, l101, l102, l103, l104, l105, l106, l107, l108, l109, l110, l122, l160, l240, l255, l600, l1000, l3000, l10000, l10007, l10116, l67108863, l67108864, n1, d125]
          · rw [z] at n1 d125 ⊢
            rw [show dm 105 = 4 from rfl] at n1 d125 ⊢
            simp (disch := omega) only [gdn, gb0, gb1, ixn, nm1, nI_add, nI_mul, nsub, nI_ltI, nI_leI, nI_eq, eqNO, eqNO2, ltNO, NOlt, leNO, NOle, if_pos, if_neg, Option.bind_some, if_true, if_false, and_self, eq_self, l0, l1, l2, l3, l4, l5, l6, l7, l8, l9, l10, l11, l12, l13, l14, l15, l16, l17, l18, l19, l20, l24, l26, l30, l31, l32, l40, l41, l42, l43, l45, l47, l48, l57, l58, l59, l60, l61, l62, l63, l64, l97, l99, l100, l101, l102, l103, l104, l105, l106, l107, l108, l109, l110, l122, l160, l240, l255, l600, l1000, l3000, l10000, l10007, l10116, l67108863, l67108864, n1, d125]
          · rw [z] at n1 d125 ⊢
            rw [show dm 106 = 5 from rfl] at n1 d125 ⊢
            simp (disch := omega) only [gdn, gb0, gb1, ixn, nm1, nI_add, nI_mul, nsub, nI_ltI, nI_leI, nI_eq, eqNO, eqNO2, ltNO, NOlt, leNO, NOle, if_pos, if_neg, Option.bind_some, if_true, if_false, and_self, eq_self, l0, l1, l2, l3, l4, l5, l6, l7, l8, l9, l10, l11, l12, l13, l14, l15, l16, l17, l18, l19, l20, l24, l26, l30, l31, l32, l40, l41, l42, l43, l45, l47, l48, l57, l58, l59, l60, l61, l62, l63, l64, l97, l99, l100, l101, l102, l103, l104, l105, l106, l107, l108, l109, l110, l122, l160, l240, l255, l600, l1000, l3000, l10000, l10007, l10116, l67108863, l67108864, n1, d125]
        rw [hni]
        have hlh : loV (tk c n p1) ≤ 1 ∧ hiV (tk c n p1) ≤ 100 := by unfold loV hiV; constructor <;> split <;> omega
        have lim : ∀ e, Fr [] f5 e2 e → TC c n p2 e → (¬ tk c n p2 = 2 → X6_take e = some (nI 2, e)) ∧ (tk c n p2 = 2 → ¬ (loV (tk c n p1) ≤ tv c n p2 ∧ tv c n p2 ≤ hiV (tk c n p1)) → X6_take e = some (nI 6, e)) ∧ (tk c n p2 = 2 → loV (tk c n p1) ≤ tv c n p2 → tv c n p2 ≤ hiV (tk c n p1) → X6_take e = some (nI 0, puI (puI e 38 (F + D) (nI (tv c n p2))) 65 11 (nI 6))) := by
          intro e he hT
          by_cases z : tk c n p2 = 2
          · exact t_limit (d := tk c n p1) (v := tv c n p2) (f5.drf he r5a) (by rw [(he 65 (by decide) 11 (by decide)).1]; exact h11') hT.1 (by omega) (by rw [(he 65 (by decide) 13 (by decide)).1]; exact r5c) hl (by omega) hT.2.2.2.1 (tv_lt ue3 z)
          · have := t_limit (d := tk c n p1) (v := 0) (f5.drf he r5a) (by rw [(he 65 (by decide) 11 (by decide)).1]; exact h11') hT.1 (by omega) (by rw [(he 65 (by decide) 13 (by decide)).1]; exact r5c) hl (by omega) (fun y => (z y).elim) (by omega)
            exact ⟨this.1, fun y => (z y).elim, fun y => (z y).elim⟩
        have hj0 : ∀ w2, X12_rule_j283 (nI 0) w2 = some (nI 0, w2) := fun w2 => by
          unfold X12_rule_j283
          simp (disch := omega) only [gdn, gb0, gb1, ixn, nm1, nI_add, nI_mul, nsub, nI_ltI, nI_leI, nI_eq, eqNO, eqNO2, ltNO, NOlt, leNO, NOle, if_pos, if_neg, Option.bind_some, if_true, if_false, and_self, eq_self, l0, l1, l2, l3, l4, l5, l6, l7, l8, l9, l10, l11, l12, l13, l14, l15, l16, l17, l18, l19, l20, l24, l26, l30, l31, l32, l40, l41, l42, l43, l45, l47, l48, l57, l58, l59, l60, l61, l62, l63, l64, l97, l99, l100, l101, l102, l103, l104, l105, l106, l107, l108, l109, l110, l122, l160, l240, l255, l600, l1000, l3000, l10000, l10007, l10116, l67108863, l67108864]
        by_cases t2 : tk c n p2 = 2
        · have hm3 : w3.1 97 35 = nI 3 := by rw [n3.1, t2]; rfl
          have hval := n3.2.2.2.1 t2
          have hvl := tv_lt ue3 t2
          by_cases hin : loV (tk c n p1) ≤ tv c n p2 ∧ tv c n p2 ≤ hiV (tk c n p1)
          · obtain ⟨w4, o1, o2, o3⟩ := nxt hn (w := puI w3 126 m (nI (tv c n p2))) ((kC.rI (by omega) (by omega) (Nat.le_refl _)).mb hMB) ue3 (by rw [I_oth (by decide)]; exact n3.2.2.1)
            have kD : KU t m O S w0m w4 := (kC.rI (by omega) (by omega) (Nat.le_refl _)).nx o2
            have hnum : X12_numberIn (nI m) (nI (loV (tk c n p1))) (nI (hiV (tk c n p1))) w3 = some (nI 1, w4) := by
              unfold X12_numberIn
              simp (disch := omega) only [gdn, gb0, gb1, ixn, nm1, nI_add, nI_mul, nsub, nI_ltI, nI_leI, nI_eq, eqNO, eqNO2, ltNO, NOlt, leNO, NOle, if_pos, if_neg, Option.bind_some, if_true, if_false, and_self, eq_self, l0, l1, l2, l3, l4, l5, l6, l7, l8, l9, l10, l11, l12, l13, l14, l15, l16, l17, l18, l19, l20, l24, l26, l30, l31, l32, l40, l41, l42, l43, l45, l47, l48, l57, l58, l59, l60, l61, l62, l63, l64, l97, l99, l100, l101, l102, l103, l104, l105, l106, l107, l108, l109, l110, l122, l160, l240, l255, l600, l1000, l3000, l10000, l10007, l10116, l67108863, l67108864, hm3, hval, o1]
            have ve5 := ve4 (by omega)
            obtain ⟨e3, s1, s4, ⟨s5a, s5b, s5c, s5d, s5e⟩, s6, s7⟩ := clsR (f := F + D) (a := a) (st := st + 1 + 1) (p := p2) hn (kK.iw hW) (kK.by hB) (by omega) ue3 r4 (by omega) (by omega) (Q := fun e => DRF e t F D ∧ e.1 38 (F + D) = nI (tv c n p2) ∧ e.1 65 11 = nI 6 ∧ e.1 30 15 = nI a ∧ (∀ q, 35 ≤ q → q ≤ 41 → q ≠ 38 → e.1 q = e2.1 q ∧ e.2 q = e2.2 q)) (fun e he hT => by
              refine ⟨_, (lim e he hT).2.2 t2 hin.1 hin.2, ⟨(f5.drf he r5a).c (by rw [I_oth (by decide), I_oth (by decide)]) (by rw [I_oth (by decide), I_oth (by decide)]) (by rw [I_oth (by decide), I_oth (by decide)]), by rw [I_oth (by decide), I_self], I_self, by rw [I_oth (by decide), I_oth (by decide), (he 30 (by decide) 15 (by decide)).1]; exact r5d, fun q z1 z2 z3 => ?_⟩, (Kg.rf.rI (by omega) (by omega) (Nat.le_refl _)).fI (by decide) (Or.inr rfl)⟩
              have := he.row q (by simp) (by simp only [f5, List.map_cons, List.map_nil, List.mem_cons, List.not_mem_nil, or_false]; omega)
              rw [I_oth (by omega), I_oth z3, I_J, I_J, this.1, this.2]; exact ⟨rfl, rfl⟩)
            have kL : Kg fR (F + D) a w0c e3 := kK.tr s6
            have f97 : ∀ j, 39 ≤ j → w4.1 97 j = w0m.1 97 j := fun j hj => by rw [(o2 97 (by decide) j (by simp only [List.mem_cons, List.not_mem_nil, or_false, Prod.mk.injEq]; omega)).1, I_oth (by decide), d97 j hj]
            have f3 : ∀ k, 98 ≤ k → k ≠ 125 → k ≠ 126 → w4.1 k = w0m.1 k ∧ w4.2 k = w0m.2 k := fun k hk h5 h6 => by
              have := o2.row k (by simp) (by simp only [List.map_cons, List.map_nil, List.mem_cons, List.not_mem_nil, or_false]; omega)
              rw [this.1, this.2, I_oth h6, I_J]; exact d3 k hk h5
            have f125 : w4.1 125 m = nI (dm (tk c n p1)) := by rw [(o2.row 125 (by decide) (by decide)).1, I_oth (by decide)]; exact d125
            have f126 : w4.1 126 m = nI (tv c n p2) := by rw [(o2.row 126 (by decide) (by decide)).1, I_self]
            have f132 : w4.2 132 = w0m.2 132 ∧ w4.2 133 = w0m.2 133 := ⟨(f3 132 (by omega) (by omega) (by omega)).2, (f3 133 (by omega) (by omega) (by omega)).2⟩
            rw [hnum]
            simp only [Option.bind_some]
            rw [j283_e (by rw [f97 42 (by omega)]; exact h42) (by omega) (by rw [(f3 124 (by omega) (by omega) (by omega)).1]; exact h124)]
            generalize hp3 : te c n p2 = p3 at *
            obtain ⟨we1, we2, we3, we4⟩ := te_s (c := c) ve3
            have hrg3 := tk_rng (c := c) (n := n) p3
            have kE : KU t m O S w0m (puI w4 124 t (nI (D + 1))) := kD.r124
            have hMT4 : MT c n p3 (puI w4 124 t (nI (D + 1))) := o3.c (fun j _ _ => by rw [I_oth (by decide)])
            by_cases t59 : tk c n p3 = 59
            · obtain ⟨w5, b1, b2, b3'⟩ := want_t hn (kE.mb hMB) ve3 hMT4 (t := 59) (by omega) (by omega) t59
              have we5 := we4 (by omega)
              obtain ⟨e4, g1, g4, ⟨g5a, g5b, g5c, g5d⟩, g6, g7⟩ := clsR (f := F + D) (a := a) (st := st + 1 + 1 + 1) (p := p3) hn (kL.iw hW) (kL.by hB) (by omega) ve3 s4 (by omega) (by omega) (Q := fun e => DRF e t F D ∧ e.1 65 11 = nI 0 ∧ e.1 30 15 = nI a ∧ (∀ q, 35 ≤ q → q ≤ 41 → e.1 q = e3.1 q ∧ e.2 q = e3.2 q)) (fun e he hT => by
                have z := (t_semi (w := e) (by rw [(he 65 (by decide) 11 (by decide)).1]; exact s5c) hT.1 (by omega)).1 t59
                refine ⟨_, z, ⟨(f5.drf he s5a).c (by rw [I_oth (by decide)]) (by rw [I_oth (by decide)]) (by rw [I_oth (by decide)]), I_self, by rw [I_oth (by decide), (he 30 (by decide) 15 (by decide)).1]; exact s5d, fun q z1 z2 => ?_⟩, Kg.rf.fI (by decide) (Or.inr rfl)⟩
                have := he.row q (by simp) (by simp only [f5, List.map_cons, List.map_nil, List.mem_cons, List.not_mem_nil, or_false]; omega)
                rw [I_oth (by omega), I_J, this.1, this.2]; exact ⟨rfl, rfl⟩)
              rw [b1]
              simp only [Option.bind_some]
              rw [gb1]
              have n37 : e4.1 37 (F + D) = nI (tk c n p1) := by rw [(g5d 37 (by omega) (by omega)).1, (s5e 37 (by omega) (by omega) (by omega)).1]; exact r5b
              have nn37 : nn e4 37 (F + D) = tk c n p1 := nn_of n37 (by omega)
              have n38 : e4.1 38 (F + D) = nI (tv c n p2) := by rw [(g5d 38 (by omega) (by omega)).1]; exact s5b
              have c97 : ∀ j, 39 ≤ j → w5.1 97 j = w0m.1 97 j := fun j hj => by rw [(b2 97 (by decide) j (by simp only [List.mem_cons, List.not_mem_nil, or_false, Prod.mk.injEq]; omega)).1, I_oth (by decide), f97 j hj]
              have c3 : ∀ k, 98 ≤ k → k ≠ 124 → w5.1 k = w4.1 k ∧ w5.2 k = w4.2 k := fun k hk h5 => by
                have := b2.row k (by simp) (by simp only [List.map_cons, List.map_nil, List.mem_cons, List.not_mem_nil, or_false]; omega)
                rw [this.1, this.2, I_oth h5, I_J]; exact ⟨rfl, rfl⟩
              refine ok_i (Or.inl ⟨rfl, st + 1 + 1 + 1 + 1, te c n p3, e4, a, S, O, by rw [hP2, s1, g1], ⟨by omega, we3, g4⟩, by omega, g5b, g5a, g5c, kL.tr g6, ⟨by rw [g7.1, s7.1, r7.1, q7.1], by rw [g7.2, s7.2, r7.2, q7.2]⟩, kE.nx b2, b3', ⟨by rw [c97 41 (by omega)]; exact h41, c97 40 (by omega)⟩, ⟨by rw [c97 43 (by omega)]; exact h43, by rw [c97 44 (by omega)]; exact h44, ?_⟩, ⟨Nat.le_refl _, Nat.le_refl _, Nat.le_refl _⟩, ⟨by omega, by omega, by omega⟩, ⟨?_, ?_, ?_, ?_⟩, ⟨isN.of n37 (by omega) (by omega), ?_, ?_⟩, ⟨isN.of n38 (by omega) (by omega), fun _ => ?_⟩, fun z => by rw [nn37] at z; omega⟩)
              · rw [(b2.row 124 (by decide) (by decide)).1, I_self]
              · rw [(g5d 35 (by omega) (by omega)).2, (s5e 35 (by omega) (by omega) (by omega)).2, (r5e 35 (by omega) (by omega) (by omega)).2]
              · rw [(g5d 36 (by omega) (by omega)).2, (s5e 36 (by omega) (by omega) (by omega)).2, (r5e 36 (by omega) (by omega) (by omega)).2]
              · rw [(c3 132 (by omega) (by omega)).2]; exact f132.1
              · rw [(c3 133 (by omega) (by omega)).2]; exact f132.2
              · rw [nn37]; exact hd
              · rw [nn37, (c3 125 (by omega) (by omega)).1]; exact f125
              · rw [(c3 126 (by omega) (by omega)).1, f126, n38]
            · obtain ⟨w5, b1, b2, b3', b4⟩ := want_f hMT4 (by rw [I_oth (by decide), f97 41 (by omega)]; exact h41) (t := 59) (by omega) (by omega) t59
              rw [b1]
              simp only [Option.bind_some]
              rw [gb0]
              exact ok_i (Or.inr (FPkk hn (st := st + 1 + 1 + 1) (O1 := 0) (S1 := 0) (kL.iw hW) (kL.by hB) (by omega) ve3 s4 (by omega) (by omega) (by rw [hP2, s1]) kL kE (fun e he hT h0 => ⟨e, (t_semi (w := e) (by rw [(he 65 (by decide) 11 (by decide)).1]; exact s5c) hT.1 (by omega)).2 t59, Kg.rf⟩) b2 b3' b4))
          · obtain ⟨w4, b1, b2, b3', b4⟩ := fails_e n3 (by rw [d97 41 (by omega)]; exact h41) (k := 6)
            have hnum : X12_numberIn (nI m) (nI (loV (tk c n p1))) (nI (hiV (tk c n p1))) w3 = some (nI 0, w4) := by
              unfold X12_numberIn X12_numberIn_j30
              by_cases z : tv c n p2 < loV (tk c n p1)
              · simp (disch := omega) only [gdn, gb0, gb1, ixn, nm1, nI_add, nI_mul, nsub, nI_ltI, nI_leI, nI_eq, eqNO, eqNO2, ltNO, NOlt, leNO, NOle, if_pos, if_neg, Option.bind_some, if_true, if_false, and_self, eq_self, l0, l1, l2, l3, l4, l5, l6, l7, l8, l9, l10, l11, l12, l13, l14, l15, l16, l17, l18, l19, l20, l24, l26, l30, l31, l32, l40, l41, l42, l43, l45, l47, l48, l57, l58, l59, l60, l61, l62, l63, l64, l97, l99, l100, l101, l102, l103, l104, l105, l106, l107, l108, l109, l110, l122, l160, l240, l255, l600, l1000, l3000, l10000, l10007, l10116, l67108863, l67108864, hm3, hval, b1]
              · simp (disch := omega) only [gdn, gb0, gb1, ixn, nm1, nI_add, nI_mul, nsub, nI_ltI, nI_leI, nI_eq, eqNO, eqNO2, ltNO, NOlt, leNO, NOle, if_pos, if_neg, Option.bind_some, if_true, if_false, and_self, eq_self, l0, l1, l2, l3, l4, l5, l6, l7, l8, l9, l10, l11, l12, l13, l14, l15, l16, l17, l18, l19, l20, l24, l26, l30, l31, l32, l40, l41, l42, l43, l45, l47, l48, l57, l58, l59, l60, l61, l62, l63, l64, l97, l99, l100, l101, l102, l103, l104, l105, l106, l107, l108, l109, l110, l122, l160, l240, l255, l600, l1000, l3000, l10000, l10007, l10116, l67108863, l67108864, hm3, hval, b1]
            rw [hnum]
            simp only [Option.bind_some]
            rw [hj0]
            exact ok_i (Or.inr (FPkk hn (st := st + 1 + 1) (O1 := 0) (S1 := 0) (kK.iw hW) (kK.by hB) (by omega) ue3 r4 (by omega) (by omega) hP2 kK kC (fun e he hT h0 => ⟨e, (lim e he hT).2.1 t2 hin, Kg.rf⟩) b2 b3' b4))
        · obtain ⟨w4, b1, b2, b3', b4⟩ := fails_e n3 (by rw [d97 41 (by omega)]; exact h41) (k := 2)
          have hm3 : ¬ mkd (tk c n p2) = 3 := by
            unfold mkd
            (repeat' split) <;> omega
          have hml := mkd_lt (t := tk c n p2)
          have hnum : X12_numberIn (nI m) (nI (loV (tk c n p1))) (nI (hiV (tk c n p1))) w3 = some (nI 0, w4) := by
            unfold X12_numberIn
            simp (disch := omega) only [gdn, gb0, gb1, ixn, nm1, nI_add, nI_mul, nsub, nI_ltI, nI_leI, nI_eq, eqNO, eqNO2, ltNO, NOlt, leNO, NOle, if_pos, if_neg, Option.bind_some, if_true, if_false, and_self, eq_self, l0, l1, l2, l3, l4, l5, l6, l7, l8, l9, l10, l11, l12, l13, l14, l15, l16, l17, l18, l19, l20, l24, l26, l30, l31, l32, l40, l41, l42, l43, l45, l47, l48, l57, l58, l59, l60, l61, l62, l63, l64, l97, l99, l100, l101, l102, l103, l104, l105, l106, l107, l108, l109, l110, l122, l160, l240, l255, l600, l1000, l3000, l10000, l10007, l10116, l67108863, l67108864, n3.1, hm3, b1]
          rw [hnum]
          simp only [Option.bind_some]
          rw [hj0]
          exact ok_i (Or.inr (FPkk hn (st := st + 1 + 1) (O1 := 0) (S1 := 0) (kK.iw hW) (kK.by hB) (by omega) ue3 r4 (by omega) (by omega) hP2 kK kC (fun e he hT h0 => ⟨e, (lim e he hT).1 t2, Kg.rf⟩) b2 b3' b4))
      · -- may, hours
        have hd2 : tk c n p1 = 101 ∨ tk c n p1 = 103 := by omega
        obtain ⟨z1, z2⟩ := r5f hd2
        obtain ⟨⟨r, wr⟩, hr2, hout⟩ := says_e (st := st + 1 + 1) (p := p2) (t := t) (F := F) (D := D) (a := a) (m := m) (d := tk c n p1) (S := S) (O := O) (KA := KA) (KB := KB) (KO := KO) hn (kK.iw hW) (kK.by hB) (kC.mb hMB) hKA hKB hKO hm (by omega) ue3 r4 hd2 z1 z2 r5a (by rw [(r5e 40 (by omega) (by omega) (by omega)).1]; exact h40) d125 n3 (by rw [d97 41 (by omega)]; exact h41) (by rw [d97 43 (by omega)]; exact h43) (by rw [d97 44 (by omega)]; exact h44) ⟨by omega, by omega, by omega⟩
        have hni : (if kxI (tk c n p1) < (1 : Int32) then X12_rule_j205 (puI w1 125 m (kxI (tk c n p1))) else gd (vp_in (nI m) 120) <| (if kxI (tk c n p1) ≤ (5 : Int32) then (X12_next (puI w1 125 m (kxI (tk c n p1)))).bind fun q23 => gd (vp_in (nI m) 120) <| (if (q23.1 125 (ix (nI m))) = (3 : Int32) then (X12_numberIn (nI m) (1 : Int32) (40 : Int32) q23).bind fun q34 => X12_rule_j283 q34.1 q34.2 else gd (vp_in (nI m) 120) <| (if (q23.1 125 (ix (nI m))) = (4 : Int32) then (X12_numberIn (nI m) (0 : Int32) (40 : Int32) q23).bind fun q32 => X12_rule_j283 q32.1 q32.2 else gd (vp_in (nI m) 120) <| (if (q23.1 125 (ix (nI m))) = (5 : Int32) then (X12_numberIn (nI m) (1 : Int32) (100 : Int32) q23).bind fun q30 => X12_rule_j283 q30.1 q30.2 else (X12_says (nI m) q23).bind fun q25 => X12_rule_j283 q25.1 q25.2))) else X12_rule_j205 (puI w1 125 m (kxI (tk c n p1))))) = X12_rule_j283 r wr := by
          rw [x1]
          rcases hd2 with z | z
          · rw [z] at n1 d125 ⊢
            rw [show dm 101 = 1 from rfl] at n1 d125 ⊢
            simp (disch := omega) only [gdn, gb0, gb1, ixn, nm1, nI_add, nI_mul, nsub, nI_ltI, nI_leI, nI_eq, eqNO, eqNO2, ltNO, NOlt, leNO, NOle, if_pos, if_neg, Option.bind_some, if_true, if_false, and_self, eq_self, l0, l1, l2, l3, l4, l5, l6, l7, l8, l9, l10, l11, l12, l13, l14, l15, l16, l17, l18, l19, l20, l24, l26, l30, l31, l32, l40, l41, l42, l43, l45, l47, l48, l57, l58, l59, l60, l61, l62, l63, l64, l97, l99, l100, l101, l102, l103, l104, l105, l106, l107, l108, l109, l110, l122, l160, l240, l255, l600, l1000, l3000, l10000, l10007, l10116, l67108863, l67108864, n1, d125, hr2]
          · rw [z] at n1 d125 ⊢
            rw [show dm 103 = 2 from rfl] at n1 d125 ⊢
            simp (disch := omega) only [gdn, gb0, gb1, ixn, nm1, nI_add, nI_mul, nsub, nI_ltI, nI_leI, nI_eq, eqNO, eqNO2, ltNO, NOlt, leNO, NOle, if_pos, if_neg, Option.bind_some, if_true, if_false, and_self, eq_self, l0, l1, l2, l3, l4, l5, l6, l7, l8, l9, l10, l11, l12, l13, l14, l15, l16, l17, l18, l19, l20, l24, l26, l30, l31, l32, l40, l41, l42, l43, l45, l47, l48, l57, l58, l59, l60, l61, l62, l63, l64, l97, l99, l100, l101, l102, l103, l104, l105, l106, l107, l108, l109, l110, l122, l160, l240, l255, l600, l1000, l3000, l10000, l10007, l10116, l67108863, l67108864, n1, d125, hr2]
        rw [hni]
        rcases hout with ⟨x1', st3, p3, wc3, U3, Y3, C, Cu, tt, Tu, S3, O3, y1, y2, y3, y4, y5, y6, y7, y8, y9, y10, y11, y12, y13, y14, y15, y16, y17, y18, y19, y20, y21⟩ | ⟨e1', k, pl, e, f1, f2, f3, f4, f5', f6, f7, f8, f9, f10⟩
        · simp only at x1' y12 y13 y14 y15 y16 y17 y20 y21
          subst x1'
          have kL : Kg fR (F + D) a w0c wc3 := kK.tr y5
          have kD : KU t m O S w0m wr := kC.tr y12
          rw [j283_e (by rw [kD.f42]; exact h42) (by omega) (by rw [(y17 124 (Or.inl rfl)).1, (d3 124 (by omega) (by omega)).1]; exact h124)]
          have kE : KU t m O S w0m (puI wr 124 t (nI (D + 1))) := kD.r124
          have hMT4 : MT c n p3 (puI wr 124 t (nI (D + 1))) := y13.c (fun j _ _ => by rw [I_oth (by decide)])
          obtain ⟨we1, we2, we3, we4⟩ := te_s (c := c) y2.2.1
          have hrg3 := tk_rng (c := c) (n := n) p3
          have hC : (Y3 ++ U3.map opc).length = Y3.length + U3.length := by rw [List.length_append, List.length_map]
          have hlen : Y3.length + U3.length = C.length + Cu.length := by rw [← hC, y9, List.length_append]
          by_cases t59 : tk c n p3 = 59
          · obtain ⟨w5, b1, b2, b3'⟩ := want_t hn (kE.mb hMB) y2.2.1 hMT4 (t := 59) (by omega) (by omega) t59
            have we5 := we4 (by omega)
            obtain ⟨e4, g1, g4, ⟨g5a, g5b, g5c, g5d, g5e, g5f, g5g⟩, g6, g7⟩ := clsR (f := F + D) (a := a) (st := st3) (p := p3) hn (kL.iw hW) (kL.by hB) y2.1 y2.2.1 y2.2.2.1 (by omega) (by omega) (Q := fun e => e.1 65 11 = nI 0 ∧ e.1 30 15 = nI (a + Y3.length + U3.length) ∧ CB e a (Y3 ++ U3.map opc) ∧ DRF e t F D ∧ e.1 41 (F + D) = nI (a + Y3.length + U3.length) ∧ e.1 40 (F + D) = (if wc3.1 40 (F + D) = NO then nI (a + Y3.length + U3.length) else wc3.1 40 (F + D)) ∧ (∀ k, 35 ≤ k → k ≤ 39 → e.1 k = wc3.1 k ∧ e.2 k = wc3.2 k)) (fun e he hT => by
              obtain ⟨e', v1, ⟨v2, v3, v4, v5, v6, v7, v8⟩, v9⟩ := t_end (t := t) (F := F) (D := D) (y3.scan he) (f5.drf he y4) (by rw [hT.1, t59]) y8.1 y8.2 (by omega) (by rw [(he 65 (by decide) 12 (by decide)).1]; exact y7.imp id And.left)
              refine ⟨e', v1, ⟨v2, v3, v4, v5, v6, by rw [v7, (he.row 40 (by decide) (by decide)).1], fun q z1 z2 => ?_⟩, v9⟩
              have := he.row q (by simp) (by simp only [f5, List.map_cons, List.map_nil, List.mem_cons, List.not_mem_nil, or_false]; omega)
              rw [(v8 q z1 z2).1, (v8 q z1 z2).2, this.1, this.2]; exact ⟨rfl, rfl⟩)
            rw [b1]
            simp only [Option.bind_some]
            rw [gb1]
            have n37 : e4.1 37 (F + D) = nI (tk c n p1) := by rw [(g5g 37 (by omega) (by omega)).1, (y10 37 (by omega) (by omega) (by omega)).1]; exact r5b
            have nn37 : nn e4 37 (F + D) = tk c n p1 := nn_of n37 (by omega)
            have n38 : e4.1 38 (F + D) = nI 0 := by rw [(g5g 38 (by omega) (by omega)).1, (y10 38 (by omega) (by omega) (by omega)).1, (r5e 38 (by omega) (by omega) (by omega)).1]; exact h38
            have n39 : e4.1 39 (F + D) = nI a := by rw [(g5g 39 (by omega) (by omega)).1, (y10 39 (by omega) (by omega) (by omega)).1, (r5e 39 (by omega) (by omega) (by omega)).1]; exact h39
            have c97 : ∀ j, 39 ≤ j → w5.1 97 j = wr.1 97 j := fun j hj => by rw [(b2 97 (by decide) j (by simp only [List.mem_cons, List.not_mem_nil, or_false, Prod.mk.injEq]; omega)).1, I_oth (by decide)]
            have c3 : ∀ k, 98 ≤ k → k ≠ 124 → w5.1 k = wr.1 k ∧ w5.2 k = wr.2 k := fun k hk h5 => by
              have := b2.row k (by simp) (by simp only [List.map_cons, List.map_nil, List.mem_cons, List.not_mem_nil, or_false]; omega)
              rw [this.1, this.2, I_oth h5, I_J]; exact ⟨rfl, rfl⟩
            refine ok_i (Or.inl ⟨rfl, st3 + 1, te c n p3, e4, a + Y3.length + U3.length, S3, O3, by rw [hP2, y1, g1], ⟨by omega, we3, g4⟩, ?_, g5a, g5d, g5b, kL.tr g6, ⟨by rw [g7.1, y6.1, r7.1, q7.1], by rw [g7.2, y6.2, r7.2, q7.2]⟩, kE.nx b2, b3', ⟨by rw [c97 41 (by omega)]; exact y14.1, by rw [c97 40 (by omega), y14.2, d97 40 (by omega)]⟩, ⟨by rw [c97 43 (by omega)]; exact y15.1, by rw [c97 44 (by omega)]; exact y15.2.1, ?_⟩, ⟨by omega, y15.2.2.1, y15.2.2.2⟩, ⟨by omega, by omega, by omega⟩, ⟨?_, ?_, ?_, ?_⟩, ⟨isN.of n37 (by omega) (by omega), ?_, ?_⟩, ⟨isN.of n38 (by omega) (by omega), fun z => by rw [nn37] at z; omega⟩, fun _ => ?_⟩)
            · omega
            · rw [(b2.row 124 (by decide) (by decide)).1, I_self]
            · rw [(g5g 35 (by omega) (by omega)).2, (y10 35 (by omega) (by omega) (by omega)).2, (r5e 35 (by omega) (by omega) (by omega)).2]
            · rw [(g5g 36 (by omega) (by omega)).2, (y10 36 (by omega) (by omega) (by omega)).2, (r5e 36 (by omega) (by omega) (by omega)).2]
            · rw [(c3 132 (by omega) (by omega)).2, (y17 132 (by omega)).2]; exact d35.1
            · rw [(c3 133 (by omega) (by omega)).2, (y17 133 (by omega)).2]; exact d35.2
            · rw [nn37]; exact hd
            · rw [nn37, (c3 125 (by omega) (by omega)).1, (y17 125 (by omega)).1]; exact d125
            · have tac : ∀ {T : List One} {o : Nat}, TA wr o S3 T → TA w5 o S3 T := fun {T o} h => h.c (K := o + T.length) (fun i _ => ⟨by rw [(c3 140 (by omega) (by omega)).1], by rw [(c3 141 (by omega) (by omega)).1]⟩) (fun i _ k k1 k2 => by rw [(c3 k (by omega) (by omega)).1]) (Nat.le_refl _)
              have h40' : e4.1 40 (F + D) = nI (a + C.length) := by
                rw [g5f]
                rcases y11 with ⟨v1, v2, v3, v4⟩ | ⟨v1, v2, v3⟩
                · rw [if_pos v1]
                  rw [v2, List.length_nil] at hlen
                  congr 1; omega
                · rw [v1, if_neg (by rw [eqNO (by omega)]; exact id)]
              refine ⟨a, C, Cu, tt, Tu, n39, h40', by rw [g5e, Nat.add_assoc, hlen, Nat.add_assoc], by omega, by rw [← y9]; exact g5c, ⟨by rw [(c3 130 (by omega) (by omega)).1]; exact y16.1, by rw [(c3 131 (by omega) (by omega)).1]; exact y16.2.1, y16.2.2.1, tac y16.2.2.2, ?_⟩, fun z => ?_, fun z => ?_⟩
              · rcases y11 with ⟨v1, v2, v3, v4⟩ | ⟨v1, v2, v3⟩
                · exact Or.inl ⟨v3, v2⟩
                · exact Or.inr ⟨v2, v3⟩
              · rw [nn37] at z
                obtain ⟨tf', T, v1, v2, v3, v4, v5⟩ := y20 z
                exact ⟨tf', T, by rw [(c3 129 (by omega) (by omega)).1]; exact v1, v2, tac v3, v4, v5⟩
              · rw [nn37] at z
                obtain ⟨sf, v1, v2, v3, v4, v5⟩ := y21 z
                exact ⟨sf, by rw [(c3 127 (by omega) (by omega)).1]; exact v1, by rw [(c3 128 (by omega) (by omega)).1]; exact v2, v3, v4.cg (fun i _ => ⟨by rw [(c3 140 (by omega) (by omega)).1], by rw [(c3 141 (by omega) (by omega)).1]⟩), v5⟩
          · obtain ⟨w5, b1, b2, b3', b4⟩ := want_f hMT4 (by rw [I_oth (by decide)]; exact y14.1) (t := 59) (by omega) (by omega) t59
            rw [b1]
            simp only [Option.bind_some]
            rw [gb0]
            exact ok_i (Or.inr (FPkk hn (st := st3) (O1 := 0) (S1 := 0) (kL.iw hW) (kL.by hB) y2.1 y2.2.1 y2.2.2.1 (by omega) (by omega) (by rw [hP2, y1]) kL kE (fun e he hT h0 => ⟨e, t_noend (t := t) (F := F) (D := D) (y3.scan he) (f5.drf he y4) hT.1 (by omega) t59 y18 (by rw [(he 65 (by decide) 12 (by decide)).1]; exact y7) (fun z => by
              rw [(he.row 40 (by decide) (by decide)).1]
              rcases y11 with ⟨v1, v2, v3, v4⟩ | ⟨v1, v2, v3⟩
              · exact (v4 z).elim
              · rw [v1, eqNO (by omega)]; exact id), Kg.rf⟩) b2 b3' b4))
        · simp only at e1' f4 f5' f6
          subst e1'
          have : X12_rule_j283 (nI 0) wr = some (nI 0, wr) := by
            unfold X12_rule_j283
            simp (disch := omega) only [gdn, gb0, gb1, ixn, nm1, nI_add, nI_mul, nsub, nI_ltI, nI_leI, nI_eq, eqNO, eqNO2, ltNO, NOlt, leNO, NOle, if_pos, if_neg, Option.bind_some, if_true, if_false, and_self, eq_self, l0, l1, l2, l3, l4, l5, l6, l7, l8, l9, l10, l11, l12, l13, l14, l15, l16, l17, l18, l19, l20, l24, l26, l30, l31, l32, l40, l41, l42, l43, l45, l47, l48, l57, l58, l59, l60, l61, l62, l63, l64, l97, l99, l100, l101, l102, l103, l104, l105, l106, l107, l108, l109, l110, l122, l160, l240, l255, l600, l1000, l3000, l10000, l10007, l10116, l67108863, l67108864]
          rw [this]
          exact ok_i (Or.inr ⟨rfl, k, pl, e, f1, f2, f3, f4, f5', kC.tr f6, by rw [hP2]; exact f7, f8, f9, kK.tr f10⟩)
    · -- no such word
      obtain ⟨w2, f1, f2, f3, f4⟩ := fails_e (hMT1 (kxI (tk c n p1))) (by rw [C97, b97 41 (by omega)]; exact h41) (k := 2)
      have hx : X12_rule_j205 (puI w1 125 m (kxI (tk c n p1))) = some (nI 0, w2) := by
        unfold X12_rule_j205
        simp (disch := omega) only [gdn, gb0, gb1, ixn, nm1, nI_add, nI_mul, nsub, nI_ltI, nI_leI, nI_eq, eqNO, eqNO2, ltNO, NOlt, leNO, NOle, if_pos, if_neg, Option.bind_some, if_true, if_false, and_self, eq_self, l0, l1, l2, l3, l4, l5, l6, l7, l8, l9, l10, l11, l12, l13, l14, l15, l16, l17, l18, l19, l20, l24, l26, l30, l31, l32, l40, l41, l42, l43, l45, l47, l48, l57, l58, l59, l60, l61, l62, l63, l64, l97, l99, l100, l101, l102, l103, l104, l105, l106, l107, l108, l109, l110, l122, l160, l240, l255, l600, l1000, l3000, l10000, l10007, l10116, l67108863, l67108864, f1]
      have hni : (if kxI (tk c n p1) < (1 : Int32) then X12_rule_j205 (puI w1 125 m (kxI (tk c n p1))) else gd (vp_in (nI m) 120) <| (if kxI (tk c n p1) ≤ (5 : Int32) then (X12_next (puI w1 125 m (kxI (tk c n p1)))).bind fun q23 => gd (vp_in (nI m) 120) <| (if (q23.1 125 (ix (nI m))) = (3 : Int32) then (X12_numberIn (nI m) (1 : Int32) (40 : Int32) q23).bind fun q34 => X12_rule_j283 q34.1 q34.2 else gd (vp_in (nI m) 120) <| (if (q23.1 125 (ix (nI m))) = (4 : Int32) then (X12_numberIn (nI m) (0 : Int32) (40 : Int32) q23).bind fun q32 => X12_rule_j283 q32.1 q32.2 else gd (vp_in (nI m) 120) <| (if (q23.1 125 (ix (nI m))) = (5 : Int32) then (X12_numberIn (nI m) (1 : Int32) (100 : Int32) q23).bind fun q30 => X12_rule_j283 q30.1 q30.2 else (X12_says (nI m) q23).bind fun q25 => X12_rule_j283 q25.1 q25.2))) else X12_rule_j205 (puI w1 125 m (kxI (tk c n p1))))) = some (nI 0, w2) := by
        rw [hx]
        rcases kxI_no hd with z | ⟨k, z, z2, z3 | z3⟩
        · rw [z]; simp (disch := omega) only [gdn, gb0, gb1, ixn, nm1, nI_add, nI_mul, nsub, nI_ltI, nI_leI, nI_eq, eqNO, eqNO2, ltNO, NOlt, leNO, NOle, if_pos, if_neg, Option.bind_some, if_true, if_false, and_self, eq_self, l0, l1, l2, l3, l4, l5, l6, l7, l8, l9, l10, l11, l12, l13, l14, l15, l16, l17, l18, l19, l20, l24, l26, l30, l31, l32, l40, l41, l42, l43, l45, l47, l48, l57, l58, l59, l60, l61, l62, l63, l64, l97, l99, l100, l101, l102, l103, l104, l105, l106, l107, l108, l109, l110, l122, l160, l240, l255, l600, l1000, l3000, l10000, l10007, l10116, l67108863, l67108864]
        · rw [z]; simp (disch := omega) only [gdn, gb0, gb1, ixn, nm1, nI_add, nI_mul, nsub, nI_ltI, nI_leI, nI_eq, eqNO, eqNO2, ltNO, NOlt, leNO, NOle, if_pos, if_neg, Option.bind_some, if_true, if_false, and_self, eq_self, l0, l1, l2, l3, l4, l5, l6, l7, l8, l9, l10, l11, l12, l13, l14, l15, l16, l17, l18, l19, l20, l24, l26, l30, l31, l32, l40, l41, l42, l43, l45, l47, l48, l57, l58, l59, l60, l61, l62, l63, l64, l97, l99, l100, l101, l102, l103, l104, l105, l106, l107, l108, l109, l110, l122, l160, l240, l255, l600, l1000, l3000, l10000, l10007, l10116, l67108863, l67108864]
        · rw [z]; simp (disch := omega) only [gdn, gb0, gb1, ixn, nm1, nI_add, nI_mul, nsub, nI_ltI, nI_leI, nI_eq, eqNO, eqNO2, ltNO, NOlt, leNO, NOle, if_pos, if_neg, Option.bind_some, if_true, if_false, and_self, eq_self, l0, l1, l2, l3, l4, l5, l6, l7, l8, l9, l10, l11, l12, l13, l14, l15, l16, l17, l18, l19, l20, l24, l26, l30, l31, l32, l40, l41, l42, l43, l45, l47, l48, l57, l58, l59, l60, l61, l62, l63, l64, l97, l99, l100, l101, l102, l103, l104, l105, l106, l107, l108, l109, l110, l122, l160, l240, l255, l600, l1000, l3000, l10000, l10007, l10116, l67108863, l67108864]
      rw [hni]
      refine ok_i (Or.inr (FPkk hn (st := st + 1) (O1 := 0) (S1 := 0) (q6.iw hW) (q6.by hB) (by omega) te3 q4 (k := 2) (by omega) (by omega) q1 q6 (kB _) (fun e he hT h0 => ?_) f2 f3 f4))
      obtain ⟨k, e', y1, y2, y3, y4, y5, y6, y7, y8, y9, y10, y11, y12⟩ := t_does (a := a) (f5.drf he q5b) (by rw [(he 65 (by decide) 11 (by decide)).1]; exact q5) hT.1 (by omega) (by rw [(he 30 (by decide) 15 (by decide)).1]; exact q5c)
      rw [if_neg hd] at y2
      subst y2
      exact ⟨e', y1, y12⟩
  · obtain ⟨w2, b1, b2, b3', b4⟩ := want_f hMT h41 (t := 58) (by omega) (by omega) q58
    have hj : X12_rule_j161 (nI m) w0m = some (nI 0, w2) := by
      unfold X12_rule_j161
      simp (disch := omega) only [gdn, gb0, gb1, ixn, nm1, nI_add, nI_mul, nsub, nI_ltI, nI_leI, nI_eq, eqNO, eqNO2, ltNO, NOlt, leNO, NOle, if_pos, if_neg, Option.bind_some, if_true, if_false, and_self, eq_self, l0, l1, l2, l3, l4, l5, l6, l7, l8, l9, l10, l11, l12, l13, l14, l15, l16, l17, l18, l19, l20, l24, l26, l30, l31, l32, l40, l41, l42, l43, l45, l47, l48, l57, l58, l59, l60, l61, l62, l63, l64, l97, l99, l100, l101, l102, l103, l104, l105, l106, l107, l108, l109, l110, l122, l160, l240, l255, l600, l1000, l3000, l10000, l10007, l10116, l67108863, l67108864, b1]
    rw [hj]
    exact ok_i (Or.inr (FPkk hn (st := st) (O1 := 0) (S1 := 0) hW hB hst hp h6 (by omega) (by omega) rfl Kg.rf KU.rf (fun e he hT h0 => ⟨e, (t_colon (w := e) (by rw [(he 65 (by decide) 11 (by decide)).1]; exact h11) hs hT.1 (by omega) hs1).2 q58, Kg.rf⟩) b2 b3' b4))
end
