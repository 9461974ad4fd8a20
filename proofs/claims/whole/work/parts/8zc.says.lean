/-- behind what a RULE says, and unless -/
def UG (c : Nat → Nat) (n : Nat) (w0c w0m : Wd) (t F D a m S O KA KB KO p0 : Nat) (C : List Nat) (P : Option Wd) (r : Int32 × Wd) : Prop := r.1 = nI 1 ∧ ∃ st p wc U Y Cu Tu S' O', P = PS n st wc ∧ (st ≤ p ∧ p ≤ n ∧ wc.1 65 6 = nI p ∧ p0 ≤ p) ∧ CX wc 9 0 U a Y ∧ DRF wc t F D ∧ Kg fR (F + D) a w0c wc ∧ (wc.1 65 4 = w0c.1 65 4 ∧ wc.1 65 5 = w0c.1 65 5) ∧ (wc.1 65 12 = nI 0 ∨ (wc.1 65 12 = nI 2 ∧ ¬ (tk c n p = 107 ∨ tk c n p = 108))) ∧ ((∀ x ∈ U, 1 ≤ bnd x) ∧ U.length ≤ 8) ∧ Y ++ U.map opc = C ++ Cu ∧ (∀ k, 35 ≤ k → k ≤ 41 → k ≠ 40 → wc.1 k = w0c.1 k ∧ wc.2 k = w0c.2 k) ∧ ((wc.1 40 (F + D) = NO ∧ Cu = [] ∧ Tu = [] ∧ ¬ tk c n p = 102) ∨ (wc.1 40 (F + D) = nI (a + C.length) ∧ Tu ≠ [] ∧ tOK Cu Tu)) ∧ KU t m O S w0m r.2 ∧ MT c n p r.2 ∧ (r.2.1 97 41 = nI 0 ∧ r.2.1 97 40 = w0m.1 97 40) ∧ (r.2.1 97 43 = nI S' ∧ r.2.1 97 44 = nI O' ∧ S ≤ S' ∧ O ≤ O') ∧ (r.2.1 130 m = nI O ∧ r.2.1 131 m = nI (O + Tu.length) ∧ O + Tu.length ≤ O' ∧ TA r.2 O S' Tu) ∧ (∀ k, 124 ≤ k → k ≤ 133 → k ≠ 130 → k ≠ 131 → r.2.1 k = w0m.1 k ∧ r.2.2 k = w0m.2 k) ∧ ¬ (tk c n p = 43 ∨ tk c n p = 45 ∨ tk c n p = 42 ∨ tk c n p = 47) ∧ (a + Y.length + U.length ≤ KA + p ∧ S' ≤ KB + p ∧ 3 * O' ≤ 3 * KO + p)
section
variable {c : Nat → Nat} {n : Nat}
theorem unl_e (hn : n ≤ 600) {w0c w0m : Wd} (hW : IW w0c) (hB : ∀ i, i < n → BY (w0c.1 66 i) (c i)) (hMB : MB c n w0m) {t F D a m S O KA KB KO p st : Nat} {U Y : List Nat} (hKA : KA ≤ 2400) (hKB : KB ≤ 2400) (hKO : KO ≤ 800) (hm : m < 120) (hst : st ≤ p) (hp : p ≤ n) (h6 : w0c.1 65 6 = nI p) (hCX : CX w0c 9 0 U a Y) (hD : DRF w0c t F D) (h12 : w0c.1 65 12 = nI 0 ∨ (w0c.1 65 12 = nI 2 ∧ ¬ (tk c n p = 107 ∨ tk c n p = 108))) (hU : (∀ x ∈ U, 1 ≤ bnd x) ∧ U.length ≤ 8) (h40 : w0c.1 40 (F + D) = NO) (hMT : MT c n p w0m) (h41 : w0m.1 97 41 = nI 0) (h43 : w0m.1 97 43 = nI S) (h44 : w0m.1 97 44 = nI O) (hr : ¬ (tk c n p = 43 ∨ tk c n p = 45 ∨ tk c n p = 42 ∨ tk c n p = 47)) (bd : a + Y.length + U.length ≤ KA + p ∧ S ≤ KB + p ∧ 3 * O ≤ 3 * KO + p) : ok (X12_says_j68 (nI m) w0m) (fun r => UG c n w0c w0m t F D a m S O KA KB KO p (Y ++ U.map opc) (PS n st w0c) r ∨ FP (Kg fR (F + D) a w0c) (KU t m O S w0m) (PS n st w0c) r) := by
  have kA : KU t m O S w0m (puI (puI w0m 130 m (nI O)) 131 m (nI O)) := (KU.rf.rI (by omega) (by omega) (Nat.le_refl _)).rI (by omega) (by omega) (Nat.le_refl _)
  have B97 : ∀ j, (puI (puI w0m 130 m (nI O)) 131 m (nI O)).1 97 j = w0m.1 97 j := fun j => by rw [I_oth (by decide), I_oth (by decide)]
  have hMT1 : MT c n p (puI (puI w0m 130 m (nI O)) 131 m (nI O)) := hMT.c (fun j _ _ => B97 j)
  have hk := key_e hn (kA.mb hMB) hp hMT1 (t := 102) (by omega) (by omega)
  rw [show kx 102 = 6 from rfl] at hk
  have hj : X12_says_j68 (nI m) w0m = (X12_isKey (6 : Int32) (puI (puI w0m 130 m (nI O)) 131 m (nI O))).bind fun q6 => (if q6 = 0 then some ((1 : Int32), (puI (puI w0m 130 m (nI O)) 131 m (nI O))) else (X12_next (puI (puI w0m 130 m (nI O)) 131 m (nI O))).bind fun q8 => (X12_test q8).bind fun q10 => (if q10.1 = 0 then some ((0 : Int32), q10.2) else gd (vp_in (nI m) 120) <| (some (puI q10.2 131 (ix (nI m)) (q10.2.1 97 44))).bind fun w12 => some ((1 : Int32), w12))) := by
    have g : (puI w0m 130 m (nI O)).1 97 44 = nI O := by rw [I_oth (by decide)]; exact h44
    unfold X12_says_j68
    simp (disch := omega) only [gdn, gb0, gb1, ixn, nm1, nI_add, nI_mul, nsub, nI_ltI, nI_leI, nI_eq, eqNO, eqNO2, ltNO, NOlt, leNO, NOle, if_pos, if_neg, Option.bind_some, if_true, if_false, and_self, eq_self, l0, l1, l2, l3, l4, l5, l6, l7, l8, l9, l10, l11, l12, l13, l14, l15, l16, l17, l18, l19, l20, l24, l26, l30, l31, l32, l40, l41, l42, l43, l45, l47, l48, l57, l58, l59, l60, l61, l62, l63, l64, l97, l99, l100, l101, l102, l103, l104, l105, l106, l107, l108, l109, l110, l122, l160, l240, l255, l600, l1000, l3000, l10000, l10007, l10116, l67108863, l67108864, h44, g]
  rw [hj]
  by_cases q : tk c n p = 102
  · rw [if_pos q] at hk
    obtain ⟨te1, te2, te3, te4⟩ := te_s (c := c) hp
    have te5 := te4 (by omega)
    have hlen : (Y ++ U.map opc).length = Y.length + U.length := by rw [List.length_append, List.length_map]
    obtain ⟨e2, q1, q4, ⟨q5, q5b, q5c, q5d, q5e⟩, q6, q7⟩ := clsR (f := F + D) (a := a) (st := st) hn hW hB hst hp h6 (by omega) (by omega) (Q := fun e => CX e 7 0 [] a (Y ++ U.map opc) ∧ e.1 65 12 = nI 1 ∧ DRF e t F D ∧ e.1 40 (F + D) = nI (a + Y.length + U.length) ∧ (∀ k, 35 ≤ k → k ≤ 41 → k ≠ 40 → e.1 k = w0c.1 k ∧ e.2 k = w0c.2 k)) (fun e he hT => by
      obtain ⟨e2, z1, ⟨z2, z3, z4, z5, z6⟩, z7⟩ := t_unless (t := t) (F := F) (D := D) (hCX.scan he) (f5.drf he hD) (by rw [hT.1, q]) hU.1 hU.2 (by omega) (by rw [(he 65 (by decide) 12 (by decide)).1]; exact h12.imp id And.left) (by rw [(he.row 40 (by decide) (by decide)).1]; exact h40)
      refine ⟨e2, z1, ⟨z2, z3, z4, z5, fun k k1 k2 k3 => ?_⟩, z7⟩
      have := he.row k (by simp) (by simp only [f5, List.map_cons, List.map_nil, List.mem_cons, List.not_mem_nil, or_false]; omega)
      rw [(z6 k k1 k2 k3).1, (z6 k k1 k2 k3).2, this.1, this.2]; exact ⟨rfl, rfl⟩)
    obtain ⟨w2, n1, n2, n3⟩ := nxt hn (kA.mb hMB) hp hMT1.2.2.1
    have kB := kA.nx n2
    have hO1 : (60 : Nat) ≤ 60 := Nat.le_refl _
    obtain ⟨⟨r, wr⟩, hr2, hout⟩ := test_e (st := st + 1) (p := te c n p) hn (q6.iw hW) (q6.by hB) (kB.mb hMB) hKA hKB hKO (A := a + (Y ++ U.map opc).length) (S := S) (O := O) (by omega) (by omega) te3 q4 q5.base q5b n3 (by rw [(n2 97 (by decide) 41 (by decide)).1, B97]; exact h41) (by rw [(n2 97 (by decide) 43 (by decide)).1, B97]; exact h43) (by rw [(n2 97 (by decide) 44 (by decide)).1, B97]; exact h44) (by rw [hlen]; omega) (by omega)
    have hk2 : X12_isKey (6 : Int32) (puI (puI w0m 130 m (nI O)) 131 m (nI O)) = some (nI 1) := hk
    rw [hk2]
    simp (disch := omega) only [gdn, gb0, gb1, ixn, nm1, nI_add, nI_mul, nsub, nI_ltI, nI_leI, nI_eq, eqNO, eqNO2, ltNO, NOlt, leNO, NOle, if_pos, if_neg, Option.bind_some, if_true, if_false, and_self, eq_self, l0, l1, l2, l3, l4, l5, l6, l7, l8, l9, l10, l11, l12, l13, l14, l15, l16, l17, l18, l19, l20, l24, l26, l30, l31, l32, l40, l41, l42, l43, l45, l47, l48, l57, l58, l59, l60, l61, l62, l63, l64, l97, l99, l100, l101, l102, l103, l104, l105, l106, l107, l108, l109, l110, l122, l160, l240, l255, l600, l1000, l3000, l10000, l10007, l10116, l67108863, l67108864, n1, hr2]
    rcases hout with ⟨e1, st2, p2, wc2, U2, C2, T, S', h1, h2, h3, h4, h5, h6', h7, h8, h9, h10, h11, h12', h13, h14, h15, h16, h17, h18⟩ | ⟨e1, k, pl, e, f1, f2, f3, f4, f5, f6, f7, f8, f9, f10⟩
    · simp only at e1 h9 h10 h11 h12' h13 h14
      subst e1
      simp (disch := omega) only [gdn, gb0, gb1, ixn, nm1, nI_add, nI_mul, nsub, nI_ltI, nI_leI, nI_eq, eqNO, eqNO2, ltNO, NOlt, leNO, NOle, if_pos, if_neg, Option.bind_some, if_true, if_false, and_self, eq_self, l0, l1, l2, l3, l4, l5, l6, l7, l8, l9, l10, l11, l12, l13, l14, l15, l16, l17, l18, l19, l20, l24, l26, l30, l31, l32, l40, l41, l42, l43, l45, l47, l48, l57, l58, l59, l60, l61, l62, l63, l64, l97, l99, l100, l101, l102, l103, l104, l105, l106, l107, l108, l109, l110, l122, l160, l240, l255, l600, l1000, l3000, l10000, l10007, l10116, l67108863, l67108864, h12']
      have hTn : T ≠ [] := fun z => by rw [z] at h3; simp at h3
      refine ok_i (Or.inl ⟨rfl, st2, p2, wc2, U2, (Y ++ U.map opc) ++ C2, C2 ++ U2.map opc, T, S', O + T.length, by rw [q1, h1], ⟨h2.1, h2.2.1, h2.2.2, by omega⟩, q5.join h5 h4, h5.drf q5c, ?_, ⟨by rw [h6'.1]; exact q7.1, by rw [h6'.2.1]; exact q7.2⟩, Or.inr ⟨h6'.2.2, h17⟩, h7, by rw [List.append_assoc], fun k k1 k2 k3 => ?_, Or.inr ⟨?_, hTn, h8⟩, ?_, ?_, ⟨?_, ?_⟩, ⟨?_, ?_, h15, by omega⟩, ⟨?_, ?_, Nat.le_refl _, ?_⟩, fun k k1 k2 k3 k4 => ?_, h16, ?_, h18.2, by omega⟩)
      · exact q6.tr ((h5.mono (by omega)).kg)
      · rw [(h5.r7 k1 k2).1, (h5.r7 k1 k2).2]; exact q5e k k1 k2 k3
      · rw [(h5.r7 (k := 40) (by omega) (by omega)).1, q5d, hlen, Nat.add_assoc]
      · exact (kB.tr h9.ku).rI (by omega) (by omega) (Nat.le_refl _)
      · exact h10.c (fun j _ _ => by rw [I_oth (by decide)])
      · rw [I_oth (by decide)]; exact h11.1
      · rw [I_oth (by decide), h11.2, (n2 97 (by decide) 40 (by decide)).1, B97]
      · rw [I_oth (by decide)]; exact h14
      · rw [I_oth (by decide)]; exact h12'
      · rw [I_oth (by decide), (h9.row (by omega) (by omega)).1, (n2.row 130 (by decide) (by decide)).1, I_oth (by decide), I_self]
      · rw [I_self]
      · exact h13.c (K := O + T.length) (fun i _ => ⟨by rw [I_oth (by decide)], by rw [I_oth (by decide)]⟩) (fun i _ k k1 k2 => by rw [I_oth (by omega)]) (Nat.le_refl _)
      · have z1 := h9.row (k := k) (by omega) (by omega)
        have z2 := n2.row k (by simp) (by simp only [List.map_cons, List.map_nil, List.mem_cons, List.not_mem_nil, or_false]; omega)
        rw [I_oth k4, I_J, z1.1, z1.2, z2.1, z2.2, I_oth k4, I_oth k3, I_J, I_J]
        exact ⟨rfl, rfl⟩
      · have := h18.1
        rw [List.length_append]; omega
    · simp only at e1 f4 f5 f6
      subst e1
      simp (disch := omega) only [gdn, gb0, gb1, ixn, nm1, nI_add, nI_mul, nsub, nI_ltI, nI_leI, nI_eq, eqNO, eqNO2, ltNO, NOlt, leNO, NOle, if_pos, if_neg, Option.bind_some, if_true, if_false, and_self, eq_self, l0, l1, l2, l3, l4, l5, l6, l7, l8, l9, l10, l11, l12, l13, l14, l15, l16, l17, l18, l19, l20, l24, l26, l30, l31, l32, l40, l41, l42, l43, l45, l47, l48, l57, l58, l59, l60, l61, l62, l63, l64, l97, l99, l100, l101, l102, l103, l104, l105, l106, l107, l108, l109, l110, l122, l160, l240, l255, l600, l1000, l3000, l10000, l10007, l10116, l67108863, l67108864]
      refine ok_i (Or.inr ⟨rfl, k, pl, e, f1, f2, f3, f4, f5, kB.tr f6.ku, by rw [q1]; exact f7, f8, f9, q6.tr ((f10.mono (by omega)).kg)⟩)
  · rw [if_neg q] at hk
    have hk2 : X12_isKey (6 : Int32) (puI (puI w0m 130 m (nI O)) 131 m (nI O)) = some (nI 0) := hk
    rw [hk2]
    simp (disch := omega) only [gdn, gb0, gb1, ixn, nm1, nI_add, nI_mul, nsub, nI_ltI, nI_leI, nI_eq, eqNO, eqNO2, ltNO, NOlt, leNO, NOle, if_pos, if_neg, Option.bind_some, if_true, if_false, and_self, eq_self, l0, l1, l2, l3, l4, l5, l6, l7, l8, l9, l10, l11, l12, l13, l14, l15, l16, l17, l18, l19, l20, l24, l26, l30, l31, l32, l40, l41, l42, l43, l45, l47, l48, l57, l58, l59, l60, l61, l62, l63, l64, l97, l99, l100, l101, l102, l103, l104, l105, l106, l107, l108, l109, l110, l122, l160, l240, l255, l600, l1000, l3000, l10000, l10007, l10116, l67108863, l67108864]
    refine ok_i (Or.inl ⟨rfl, st, p, w0c, U, Y, [], [], S, O, rfl, ⟨hst, hp, h6, Nat.le_refl _⟩, hCX, hD, Kg.rf, ⟨rfl, rfl⟩, h12, hU, by rw [List.append_nil], fun _ _ _ _ => ⟨rfl, rfl⟩, Or.inl ⟨h40, rfl, rfl, q⟩, kA, hMT1, ⟨by rw [B97]; exact h41, B97 _⟩, ⟨by rw [B97]; exact h43, by rw [B97]; exact h44, Nat.le_refl _, Nat.le_refl _⟩, ⟨?_, ?_, Nat.le_refl _, trivial⟩, fun k k1 k2 k3 k4 => ?_, hr, bd⟩)
    · rw [I_oth (by decide), I_self]
    · exact I_self
    · rw [I_oth k4, I_oth k3, I_J, I_J]; exact ⟨rfl, rfl⟩
/-- what a RULE says -/
def SYG (c : Nat → Nat) (n : Nat) (w0c w0m : Wd) (t F D a m d S O KA KB KO p0 : Nat) (P : Option Wd) (r : Int32 × Wd) : Prop := r.1 = nI 1 ∧ ∃ st p wc U Y C Cu tt Tu S' O', P = PS n st wc ∧ (st ≤ p ∧ p ≤ n ∧ wc.1 65 6 = nI p ∧ p0 ≤ p) ∧ CX wc 9 0 U a Y ∧ DRF wc t F D ∧ Kg fR (F + D) a w0c wc ∧ (wc.1 65 4 = w0c.1 65 4 ∧ wc.1 65 5 = w0c.1 65 5) ∧ (wc.1 65 12 = nI 0 ∨ (wc.1 65 12 = nI 2 ∧ ¬ (tk c n p = 107 ∨ tk c n p = 108))) ∧ ((∀ x ∈ U, 1 ≤ bnd x) ∧ U.length ≤ 8) ∧ Y ++ U.map opc = C ++ Cu ∧ (∀ k, 35 ≤ k → k ≤ 41 → k ≠ 40 → wc.1 k = w0c.1 k ∧ wc.2 k = w0c.2 k) ∧ ((wc.1 40 (F + D) = NO ∧ Cu = [] ∧ Tu = [] ∧ ¬ tk c n p = 102) ∨ (wc.1 40 (F + D) = nI (a + C.length) ∧ Tu ≠ [] ∧ tOK Cu Tu)) ∧ KU t m O S w0m r.2 ∧ MT c n p r.2 ∧ (r.2.1 97 41 = nI 0 ∧ r.2.1 97 40 = w0m.1 97 40) ∧ (r.2.1 97 43 = nI S' ∧ r.2.1 97 44 = nI O' ∧ S ≤ S' ∧ O ≤ O') ∧ (r.2.1 130 m = nI tt ∧ r.2.1 131 m = nI (tt + Tu.length) ∧ tt + Tu.length ≤ O' ∧ TA r.2 tt S' Tu) ∧ (∀ k, k = 124 ∨ k = 125 ∨ k = 126 ∨ k = 132 ∨ k = 133 → r.2.1 k = w0m.1 k ∧ r.2.2 k = w0m.2 k) ∧ ¬ (tk c n p = 43 ∨ tk c n p = 45 ∨ tk c n p = 42 ∨ tk c n p = 47) ∧ (a + Y.length + U.length ≤ KA + p ∧ S' ≤ KB + p ∧ 3 * O' ≤ 3 * KO + p) ∧ (d = 101 → ∃ tf T, r.2.1 129 m = nI tf ∧ tt = tf + T.length ∧ TA r.2 tf S' T ∧ T ≠ [] ∧ tOK C T) ∧ (d = 103 → ∃ sf, r.2.1 127 m = nI sf ∧ r.2.1 128 m = nI (sf + C.length) ∧ sf + C.length ≤ S' ∧ SGN r.2 sf C ∧ hg 20 C 0 = some 1 ∧ ∀ x ∈ C, smC x)
theorem says_e (hn : n ≤ 600) {w0c w0m : Wd} (hW : IW w0c) (hB : ∀ i, i < n → BY (w0c.1 66 i) (c i)) (hMB : MB c n w0m) {t F D a m d S O KA KB KO p st : Nat} (hKA : KA ≤ 2400) (hKB : KB ≤ 2400) (hKO : KO ≤ 800) (hm : m < 120) (hst : st ≤ p) (hp : p ≤ n) (h6 : w0c.1 65 6 = nI p) (hd : d = 101 ∨ d = 103) (hCX : CX w0c (if d = 101 then 7 else 8) 0 [] a []) (h12 : w0c.1 65 12 = nI (if d = 101 then 1 else 0)) (hD : DRF w0c t F D) (h40 : w0c.1 40 (F + D) = NO) (h125 : w0m.1 125 m = nI (dm d)) (hMT : MT c n p w0m) (h41 : w0m.1 97 41 = nI 0) (h43 : w0m.1 97 43 = nI S) (h44 : w0m.1 97 44 = nI O) (bd : a ≤ KA + p ∧ S ≤ KB + p ∧ 3 * O ≤ 3 * KO + p) : ok (X12_says (nI m) w0m) (fun r => SYG c n w0c w0m t F D a m d S O KA KB KO p (PS n st w0c) r ∨ FP (Kg fR (F + D) a w0c) (KU t m O S w0m) (PS n st w0c) r) := by
  have kA : KU t m O S w0m (puI w0m 127 m (nI S)) := KU.rf.rI (by omega) (by omega) (Nat.le_refl _)
  have B97 : ∀ j, (puI w0m 127 m (nI S)).1 97 j = w0m.1 97 j := fun j => by rw [I_oth (by decide)]
  have hMT1 : MT c n p (puI w0m 127 m (nI S)) := hMT.c (fun j _ _ => B97 j)
  have g125 : (puI w0m 127 m (nI S)).1 125 m = nI (dm d) := by rw [I_oth (by decide)]; exact h125
  rcases hd with rfl | rfl
  · -- may
    rw [if_pos rfl] at hCX h12
    have e1 : dm 101 = 1 := rfl
    rw [e1] at g125
    have kB : KU t m O S w0m (puI (puI (puI w0m 127 m (nI S)) 128 m (nI S)) 129 m (nI O)) := (kA.rI (by omega) (by omega) (Nat.le_refl _)).rI (by omega) (by omega) (Nat.le_refl _)
    have C97 : ∀ j, (puI (puI (puI w0m 127 m (nI S)) 128 m (nI S)) 129 m (nI O)).1 97 j = w0m.1 97 j := fun j => by rw [I_oth (by decide), I_oth (by decide), I_oth (by decide)]
    have hMT2 : MT c n p (puI (puI (puI w0m 127 m (nI S)) 128 m (nI S)) 129 m (nI O)) := hMT.c (fun j _ _ => C97 j)
    obtain ⟨⟨r, wr⟩, hr2, hout⟩ := test_e (st := st) (p := p) hn hW hB (kB.mb hMB) hKA hKB hKO (A := a) (S := S) (O := O) (by omega) hst hp h6 hCX h12 hMT2 (by rw [C97]; exact h41) (by rw [C97]; exact h43) (by rw [C97]; exact h44) (by omega) (by omega)
    have hj : X12_says (nI m) w0m = (if r = 0 then some ((0 : Int32), wr) else X12_says_j68 (nI m) wr) := by
      have g1 : (puI (puI w0m 127 m (nI S)) 128 m (nI S)).1 97 44 = nI O := by rw [I_oth (by decide), B97]; exact h44
      have g2 : (puI (puI (puI w0m 127 m (nI S)) 128 m (nI S)) 129 m (nI O)).1 125 m = nI 1 := by rw [I_oth (by decide), I_oth (by decide)]; exact g125
      have g3 : (puI w0m 127 m (nI S)).1 97 43 = nI S := by rw [B97]; exact h43
      unfold X12_says X12_says_j29
      simp (disch := omega) only [gdn, gb0, gb1, ixn, nm1, nI_add, nI_mul, nsub, nI_ltI, nI_leI, nI_eq, eqNO, eqNO2, ltNO, NOlt, leNO, NOle, if_pos, if_neg, Option.bind_some, if_true, if_false, and_self, eq_self, l0, l1, l2, l3, l4, l5, l6, l7, l8, l9, l10, l11, l12, l13, l14, l15, l16, l17, l18, l19, l20, l24, l26, l30, l31, l32, l40, l41, l42, l43, l45, l47, l48, l57, l58, l59, l60, l61, l62, l63, l64, l97, l99, l100, l101, l102, l103, l104, l105, l106, l107, l108, l109, l110, l122, l160, l240, l255, l600, l1000, l3000, l10000, l10007, l10116, l67108863, l67108864, h43, g125, g3, g1, g2, hr2]
    rw [hj]
    rcases hout with ⟨e1, st2, p2, wc2, U2, C2, T, S', h1, h2, h3, h4, h5, h6', h7, h8, h9, h10, h11, h12', h13, h14, h15, h16, h17, h18⟩ | ⟨e1, k, pl, e, f1, f2, f3, f4, f5, f6, f7, f8, f9, f10⟩
    · simp only at e1 h9 h10 h11 h12' h13 h14
      subst e1
      have hTn : T ≠ [] := fun z => by rw [z] at h3; simp at h3
      rw [if_neg (by decide)]
      have kC : KU t m O S w0m wr := kB.tr h9.ku
      refine ok_mono (unl_e (t := t) (F := F) (D := D) (a := a) (S := S') (O := O + T.length) (KA := KA) (KB := KB) (KO := KO) hn (h5.iw hW) (h5.by hB) (kC.mb hMB) hKA hKB hKO hm h2.1 h2.2.1 h2.2.2 h4 (h5.drf hD) (Or.inr ⟨h6'.2.2, h17⟩) h7 (by rw [(h5.r7 (k := 40) (by omega) (by omega)).1]; exact h40) h10 h11.1 h14 h12' h16 ⟨h18.1, h18.2, by omega⟩) (fun q hq => ?_)
      rcases hq with ⟨x1, st3, p3, wc3, U3, Y3, Cu, Tu, S3, O3, y1, y2, y3, y4, y5, y6, y7, y8, y9, y10, y11, y12, y13, y14, y15, y16, y17, y18, y19⟩ | ⟨e1, k, pl, e, f1, f2, f3, f4, f5, f6, f7, f8, f9, f10⟩
      · refine Or.inl ⟨x1, st3, p3, wc3, U3, Y3, C2 ++ U2.map opc, Cu, O + T.length, Tu, S3, O3, by rw [h1, y1], ⟨y2.1, y2.2.1, y2.2.2.1, by omega⟩, y3, y4, h5.kg.tr y5, ⟨by rw [y6.1]; exact h6'.1, by rw [y6.2]; exact h6'.2.1⟩, y7, y8, y9, fun k k1 k2 k3 => ?_, y11, kC.tr (y12.mono (Nat.le_refl _) (by omega) (by omega)), y13, ⟨y14.1, ?_⟩, ⟨y15.1, y15.2.1, by omega, by omega⟩, ⟨y16.1, y16.2.1, y16.2.2.1, y16.2.2.2⟩, fun k hk => ?_, y18, y19, fun _ => ⟨O, T, ?_, rfl, ?_, hTn, h8⟩, fun z => by omega⟩
        · rw [(y10 k k1 k2 k3).1, (y10 k k1 k2 k3).2]; exact h5.r7 k1 k2
        · rw [y14.2, h11.2, C97]
        · have z1 := y17 k (by omega) (by omega) (by omega) (by omega)
          have z2 := h9.row (k := k) (by omega) (by omega)
          rw [z1.1, z1.2, z2.1, z2.2, I_oth (by omega), I_oth (by omega), I_oth (by omega), I_J, I_J, I_J]
          exact ⟨rfl, rfl⟩
        · rw [(y17 129 (by omega) (by omega) (by omega) (by omega)).1, (h9.row (k := 129) (by omega) (by omega)).1, I_self]
        · exact (h13.c (K := O + T.length) y12.2.2.1 y12.2.2.2.1 (Nat.le_refl _)).up y15.2.2.1
      · exact Or.inr ⟨e1, k, pl, e, f1, f2, f3, f4, f5, kC.tr (f6.mono (Nat.le_refl _) (by omega) (by omega)), by rw [h1]; exact f7, f8, f9, h5.kg.tr f10⟩
    · simp only at e1 f4 f5 f6
      subst e1
      rw [if_pos (by decide)]
      exact ok_i (Or.inr ⟨rfl, k, pl, e, f1, f2, f3, f4, f5, kB.tr f6.ku, f7, f8, f9, f10.kg⟩)
  · -- hours
    rw [if_neg (by omega)] at hCX h12
    have e1 : dm 103 = 2 := rfl
    rw [e1] at g125
    obtain ⟨⟨r, wr⟩, hr2, hout⟩ := sum_e (st := st) (p := p) hn hW hB (kA.mb hMB) (W0 := []) (fun x hx => by cases hx) (by decide) hKA hKB (A0 := a) (S0 := S) (sm := 0) (s := 8) h12 hst hp h6 hCX (Or.inr rfl) (fun z => by omega) hMT1 (by rw [B97]; exact h41) (by rw [B97]; exact h43) (by show a + 0 ≤ _; omega) (by omega)
    have hj : X12_says (nI m) w0m = (if r = 0 then some ((0 : Int32), wr) else X12_says_j29 (nI m) wr) := by
      unfold X12_says
      simp (disch := omega) only [gdn, gb0, gb1, ixn, nm1, nI_add, nI_mul, nsub, nI_ltI, nI_leI, nI_eq, eqNO, eqNO2, ltNO, NOlt, leNO, NOle, if_pos, if_neg, Option.bind_some, if_true, if_false, and_self, eq_self, l0, l1, l2, l3, l4, l5, l6, l7, l8, l9, l10, l11, l12, l13, l14, l15, l16, l17, l18, l19, l20, l24, l26, l30, l31, l32, l40, l41, l42, l43, l45, l47, l48, l57, l58, l59, l60, l61, l62, l63, l64, l97, l99, l100, l101, l102, l103, l104, l105, l106, l107, l108, l109, l110, l122, l160, l240, l255, l600, l1000, l3000, l10000, l10007, l10116, l67108863, l67108864, h43, g125, hr2]
    rw [hj]
    rcases hout with ⟨e1, st1, p1, wc1, C1, V1, hP1, ⟨g1, g2, g3⟩, gp, hCX1, hKS1, ⟨k4, k5, k12⟩, ⟨mV1, lV1⟩, hKM1, hMT3, ⟨m41, m40⟩, hQ1, hg1, sm1, nr1, bA1, bS1⟩ | ⟨e1, k, pl, e, f1, f2, f3, f4, f5, f6, f7, f8, f9, f10⟩
    · simp only at e1 hKM1 hMT3 m41 m40 hQ1
      subst e1
      rw [if_neg (by decide)]
      rw [List.append_nil] at hCX1
      rw [List.length_nil] at bA1
      have hlen : (C1 ++ V1.map opc).length = C1.length + V1.length := by rw [List.length_append, List.length_map]
      have kB : KU t m O S w0m wr := kA.tr (hKM1.kv (O := O)).ku
      have q43 := hQ1.1
      have q44 : wr.1 97 44 = nI O := by rw [(hKM1.1 97 (by decide) 44 (by decide)).1, B97]; exact h44
      have r125 : ∀ k, 98 ≤ k → k ≤ 133 → wr.1 k = (puI w0m 127 m (nI S)).1 k ∧ wr.2 k = (puI w0m 127 m (nI S)).2 k := fun k k1 k2 => (hKM1.kv (O := O)).row k1 k2
      have kC : KU t m O S w0m (puI (puI wr 128 m (nI (S + (C1 ++ V1.map opc).length))) 129 m (nI O)) := (kB.rI (by omega) (by omega) (Nat.le_refl _)).rI (by omega) (by omega) (Nat.le_refl _)
      have C97 : ∀ j, (puI (puI wr 128 m (nI (S + (C1 ++ V1.map opc).length))) 129 m (nI O)).1 97 j = wr.1 97 j := fun j => by rw [I_oth (by decide), I_oth (by decide)]
      have hj2 : X12_says_j29 (nI m) wr = X12_says_j68 (nI m) (puI (puI wr 128 m (nI (S + (C1 ++ V1.map opc).length))) 129 m (nI O)) := by
        have z1 : ∀ v, (puI wr 128 m v).1 97 44 = nI O := fun v => by rw [I_oth (by decide)]; exact q44
        have z2 : ∀ v u, (puI (puI wr 128 m v) 129 m u).1 125 m = nI 2 := fun v u => by rw [I_oth (by decide), I_oth (by decide), (r125 125 (by omega) (by omega)).1]; exact g125
        unfold X12_says_j29
        simp (disch := omega) only [gdn, gb0, gb1, ixn, nm1, nI_add, nI_mul, nsub, nI_ltI, nI_leI, nI_eq, eqNO, eqNO2, ltNO, NOlt, leNO, NOle, if_pos, if_neg, Option.bind_some, if_true, if_false, and_self, eq_self, l0, l1, l2, l3, l4, l5, l6, l7, l8, l9, l10, l11, l12, l13, l14, l15, l16, l17, l18, l19, l20, l24, l26, l30, l31, l32, l40, l41, l42, l43, l45, l47, l48, l57, l58, l59, l60, l61, l62, l63, l64, l97, l99, l100, l101, l102, l103, l104, l105, l106, l107, l108, l109, l110, l122, l160, l240, l255, l600, l1000, l3000, l10000, l10007, l10116, l67108863, l67108864, q43, z1, z2]
      rw [hj2]
      refine ok_mono (unl_e (t := t) (F := F) (D := D) (a := a) (S := S + (C1 ++ V1.map opc).length) (O := O) (KA := KA) (KB := KB) (KO := KO) hn (hKS1.iw hW) (hKS1.by hB) (kC.mb hMB) hKA hKB hKO hm g1 g2 g3 hCX1 (hKS1.drf hD) (Or.inl (by rw [k12]; exact h12)) ⟨fun x hx => by have := (bnd_ge (mV1 x hx)).1; omega, by omega⟩ (by rw [(hKS1.r7 (k := 40) (by omega) (by omega)).1]; exact h40) (hMT3.c (fun j _ _ => C97 j)) (by rw [C97]; exact m41) (by rw [C97]; exact q43) (by rw [C97]; exact q44) nr1 ⟨by omega, by rw [hlen]; omega, by omega⟩) (fun q hq => ?_)
      rcases hq with ⟨x1, st3, p3, wc3, U3, Y3, Cu, Tu, S3, O3, y1, y2, y3, y4, y5, y6, y7, y8, y9, y10, y11, y12, y13, y14, y15, y16, y17, y18, y19⟩ | ⟨e1, k, pl, e, f1, f2, f3, f4, f5, f6, f7, f8, f9, f10⟩
      · refine Or.inl ⟨x1, st3, p3, wc3, U3, Y3, C1 ++ V1.map opc, Cu, O, Tu, S3, O3, by rw [hP1, y1], ⟨y2.1, y2.2.1, y2.2.2.1, by omega⟩, y3, y4, hKS1.kg.tr y5, ⟨by rw [y6.1]; exact k4, by rw [y6.2]; exact k5⟩, y7, y8, y9, fun k k1 k2 k3 => ?_, y11, kC.tr (y12.mono (Nat.le_refl _) (by omega) (by omega)), y13, ⟨y14.1, ?_⟩, ⟨y15.1, y15.2.1, by omega, by omega⟩, y16, fun k hk => ?_, y18, y19, fun z => by omega, fun _ => ⟨S, ?_, ?_, y15.2.2.1, ?_, hg1, sm1⟩⟩
        · rw [(y10 k k1 k2 k3).1, (y10 k k1 k2 k3).2]; exact hKS1.r7 k1 k2
        · rw [y14.2, C97, m40, B97]
        · have z1 := y17 k (by omega) (by omega) (by omega) (by omega)
          have z2 := r125 k (by omega) (by omega)
          rw [z1.1, z1.2, I_oth (by omega), I_oth (by omega), I_J, I_J, z2.1, z2.2, I_oth (by omega), I_J]
          exact ⟨rfl, rfl⟩
        · rw [(y17 127 (by omega) (by omega) (by omega) (by omega)).1, I_oth (by decide), I_oth (by decide), (r125 127 (by omega) (by omega)).1, I_self]
        · rw [(y17 128 (by omega) (by omega) (by omega) (by omega)).1, I_oth (by decide), I_self]
        · refine hQ1.sgn.cg (fun i hi => ?_)
          rw [(y12.2.2.1 i hi).1, (y12.2.2.1 i hi).2, I_oth (by decide), I_oth (by decide), I_oth (by decide), I_oth (by decide)]
          exact ⟨rfl, rfl⟩
      · exact Or.inr ⟨e1, k, pl, e, f1, f2, f3, f4, f5, kC.tr (f6.mono (Nat.le_refl _) (by omega) (by omega)), by rw [hP1]; exact f7, f8, f9, hKS1.kg.tr f10⟩
    · simp only at e1 f4 f5 f6
      subst e1
      rw [if_pos (by decide)]
      exact ok_i (Or.inr ⟨rfl, k, pl, e, f1, f2, f3, f4, f5, kA.tr (KM.kv (O := O) f6).ku, f7, f8, f9, f10.kg⟩)
end
