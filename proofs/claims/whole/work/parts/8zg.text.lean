/-! a TEXT -/
def RLS (u v : Wd) (t F D A S O : Nat) : Prop := ∀ k, k < D → RuleOK2 u v (F + k) (20 * t + k) ∧ (nn u 37 (F + k) = 101 ∨ nn u 37 (F + k) = 103 → RCx u v (F + k) (20 * t + k) A S O)
def TXG (w0c w0m : Wd) (t F A0 S0 O0 KA KB KO : Nat) (P : Option Wd) (e : Wd) : Prop := ∃ ec D A S O, P = some ec ∧ (ec.1 65 4 = nI 0 ∧ ec.1 65 5 = NO) ∧ ec.1 30 14 = nI D ∧ ec.1 30 15 = nI A ∧ Kg fR F A0 w0c ec ∧ KU t (20 * t) O0 S0 w0m e ∧ (e.1 97 41 = nI 0 ∧ e.1 97 40 = NO) ∧ (e.1 97 43 = nI S ∧ e.1 97 44 = nI O ∧ e.1 124 t = nI D) ∧ D ≤ 20 ∧ RLS ec e t F D A S O ∧ (A0 ≤ A ∧ S0 ≤ S ∧ O0 ≤ O) ∧ (A ≤ KA + 600 ∧ S ≤ KB + 600 ∧ 3 * O ≤ 3 * KO + 600)
section
variable {c : Nat → Nat} {n : Nat}
theorem t_rend {w : Wd} (h11 : w.1 65 11 = nI 0) (h7 : w.1 65 7 = nI 1) : X6_take w = some (nI 0, w) := by
  unfold X6_take X6_takeRule
  simp (disch := omega) only [gdn, gb0, gb1, ixn, nm1, nI_add, nI_mul, nsub, nI_ltI, nI_leI, nI_eq, eqNO, eqNO2, ltNO, NOlt, leNO, NOle, if_pos, if_neg, Option.bind_some, if_true, if_false, and_self, eq_self, l0, l1, l2, l3, l4, l5, l6, l7, l8, l9, l10, l11, l12, l13, l14, l15, l16, l17, l18, l19, l20, l24, l26, l30, l31, l32, l40, l41, l42, l43, l45, l47, l48, l57, l58, l59, l60, l61, l62, l63, l64, l97, l99, l100, l101, l102, l103, l104, l105, l106, l107, l108, l109, l110, l122, l160, l240, l255, l600, l1000, l3000, l10000, l10007, l10116, l67108863, l67108864, h11, h7]
theorem RLS.keep {u v u' v' : Wd} {t F D A S O A' S' O' : Nat} (h : RLS u v t F D A S O) {f a g o s : Nat} {t' : Nat} (e1 : Kg fR f a u u') (e2 : KU t' g o s v v') (hf : F + D ≤ f) (ha : A ≤ a) (hg : 20 * t + D ≤ g) (hs : S ≤ s) (ho : O ≤ o) (hA : A ≤ A') (hS : S ≤ S') (hO : O ≤ O') : RLS u' v' t F D A' S' O' := by
  intro k hk
  obtain ⟨h1, h2⟩ := h k hk
  have n37 : nn u' 37 (F + k) = nn u 37 (F + k) := nn_eq (e1.2.1 _ (by omega) 37 (by omega) (by omega)).1
  refine ⟨h1.c (fun q q1 q2 => e1.2.1 _ (by omega) q (by omega) (by omega)) (fun q q1 q2 => e2.2.1 _ (by omega) q (by omega) (by omega)), fun z => ?_⟩
  rw [n37] at z
  exact (h2 z).c (fun q q1 q2 => (e1.2.1 _ (by omega) q (by omega) (by omega)).1) (fun i hi => e1.2.2 i (by omega)) (fun q q1 q2 => (e2.2.1 _ (by omega) q (by omega) (by omega)).1) (fun i hi => e2.2.2.1 i (by omega)) (fun i hi q q1 q2 => e2.2.2.2.1 i (by omega) q q1 q2) hA hS hO
theorem text_lp (hn : n ≤ 600) {w0c w0m : Wd} (hW : IW w0c) (hB : ∀ i, i < n → BY (w0c.1 66 i) (c i)) (hMB : MB c n w0m) {t F A0 S0 O0 KA KB KO : Nat} (hKA : KA ≤ 2400) (hKB : KB ≤ 2400) (hKO : KO ≤ 800) (h30 : w0c.1 30 0 = nI t) (ht : t < 5) (h33 : w0c.1 33 t = nI F) (hF : F ≤ 20 * t) (h42 : w0m.1 97 42 = nI t) {a2 a3 a4 a5 : Int32} {P : Option Wd} (st p : Nat) (wc wm : Wd) (D A S O : Nat) (hst : st ≤ p) (hp : p ≤ n) (h6 : wc.1 65 6 = nI p) (h11 : wc.1 65 11 = nI 0) (h14 : wc.1 30 14 = nI D) (h15 : wc.1 30 15 = nI A) (hKg : Kg fR F A0 w0c wc) (h45 : wc.1 65 4 = nI 0 ∧ wc.1 65 5 = NO) (hKU : KU t (20 * t) O0 S0 w0m wm) (hMT : MT c n p wm) (h41 : wm.1 97 41 = nI 0 ∧ wm.1 97 40 = NO) (h43 : wm.1 97 43 = nI S) (h44 : wm.1 97 44 = nI O) (h124 : wm.1 124 t = nI D) (hD : D ≤ 20) (hR : RLS wc wm t F D A S O) (h0 : A0 ≤ A ∧ S0 ≤ S ∧ O0 ≤ O) (bd : A ≤ KA + p ∧ S ≤ KB + p ∧ 3 * O ≤ 3 * KO + p) (hP : P = PS n st wc) :
    ok (lp (X12_orders_b144 a2 a3 a4 a5) (nI (if tk c n p = 1 then 0 else 1), wm)) (fun e => TXG w0c w0m t F A0 S0 O0 KA KB KO P e ∨ FP (Kg fR F A0 w0c) (KU t (20 * t) O0 S0 w0m) P (nI 0, e)) := by
  induction hμ : n - p using Nat.strongRecOn generalizing st p wc wm D A S O with
  | _ μ ih =>
  by_cases q1 : tk c n p = 1
  · rw [if_pos q1]
    have hex : lp (X12_orders_b144 a2 a3 a4 a5) (nI 0, wm) = some wm := by
      refine lp_exit ?_
      unfold X12_orders_b144
      simp (disch := omega) only [gdn, gb0, gb1, ixn, nm1, nI_add, nI_mul, nsub, nI_ltI, nI_leI, nI_eq, eqNO, eqNO2, ltNO, NOlt, leNO, NOle, if_pos, if_neg, Option.bind_some, if_true, if_false, and_self, eq_self, l0, l1, l2, l3, l4, l5, l6, l7, l8, l9, l10, l11, l12, l13, l14, l15, l16, l17, l18, l19, l20, l24, l26, l30, l31, l32, l40, l41, l42, l43, l45, l47, l48, l57, l58, l59, l60, l61, l62, l63, l64, l97, l99, l100, l101, l102, l103, l104, l105, l106, l107, l108, l109, l110, l122, l160, l240, l255, l600, l1000, l3000, l10000, l10007, l10116, l67108863, l67108864]
    rw [hex]
    obtain ⟨e, he, hFe, hT⟩ := scan_e hn (hKg.iw hW) (hKg.by hB) hp h6
    have hk := t_rend (w := e) (by rw [(hFe 65 (by decide) 11 (by decide)).1]; exact h11) (by rw [hT.1, q1])
    have hend := ps_done (st := st) hn (by omega) he (by rw [hT.1, q1]) hk rfl
    refine ok_i (Or.inl ⟨e, D, A, S, O, by rw [hP]; exact hend, ⟨by rw [(hFe 65 (by decide) 4 (by decide)).1]; exact h45.1, by rw [(hFe 65 (by decide) 5 (by decide)).1]; exact h45.2⟩, by rw [(hFe 30 (by decide) 14 (by decide)).1]; exact h14, by rw [(hFe 30 (by decide) 15 (by decide)).1]; exact h15, hKg.scan hFe, hKU, h41, ⟨h43, h44, h124⟩, hD, ?_, h0, by omega, by omega, by omega⟩)
    exact hR.keep (Kg.rf.scan hFe : Kg fR (F + D) A wc e) (KU.rf : KU t (20 * t + D) O S wm wm) (Nat.le_refl _) (Nat.le_refl _) (Nat.le_refl _) (Nat.le_refl _) (Nat.le_refl _) (Nat.le_refl _) (Nat.le_refl _) (Nat.le_refl _)
  · rw [if_neg q1]
    have hDS : DRS wc wm t F D := ⟨by rw [hKg.f6.1]; exact h30, ht, by rw [hKg.f6.2]; exact h33, h14, hF, by rw [hKU.f42]; exact h42, h124, hD, fun k hk => (hR k hk).1.1⟩
    obtain ⟨⟨r, wr⟩, hr, hout⟩ := rule_e (t := t) (F := F) (D := D) (a := A) (S := S) (O := O) (KA := KA) (KB := KB) (KO := KO) (st := st) (p := p) hn (hKg.iw hW) (hKg.by hB) (hKU.mb hMB) hKA hKB hKO hst hp h6 h11 hDS h15 hMT h41.1 h43 h44 bd q1
    rcases hout with ⟨x1, st3, p3, wc3, A', S', O', y1, y2, y3, y4, y5, y6, y7, y8, y9, y10, y11, y12, y13, y14, y15, y16, y17⟩ | ⟨e1', k, pl, e, f1, f2, f3, f4, f5', f6, f7, f8, f9, f10⟩
    · simp only at x1 y9 y10 y11 y12 y16 y17
      subst x1
      have hml := mkd_lt (t := tk c n p3)
      have hm0 : mkd (tk c n p3) = 0 ↔ tk c n p3 = 1 := by
        unfold mkd
        (repeat' split) <;> omega
      have hstep : X12_orders_b144 a2 a3 a4 a5 (nI 1, wm) = some (.inl (nI (if tk c n p3 = 1 then 0 else 1), wr)) := by
        unfold X12_orders_b144 X12_orders_j167 X12_orders_j168
        by_cases z : tk c n p3 = 1
        · have := hm0.mpr z
          rw [if_pos z]
          simp (disch := omega) only [gdn, gb0, gb1, ixn, nm1, nI_add, nI_mul, nsub, nI_ltI, nI_leI, nI_eq, eqNO, eqNO2, ltNO, NOlt, leNO, NOle, if_pos, if_neg, Option.bind_some, if_true, if_false, and_self, eq_self, l0, l1, l2, l3, l4, l5, l6, l7, l8, l9, l10, l11, l12, l13, l14, l15, l16, l17, l18, l19, l20, l24, l26, l30, l31, l32, l40, l41, l42, l43, l45, l47, l48, l57, l58, l59, l60, l61, l62, l63, l64, l97, l99, l100, l101, l102, l103, l104, l105, l106, l107, l108, l109, l110, l122, l160, l240, l255, l600, l1000, l3000, l10000, l10007, l10116, l67108863, l67108864, hr, y10.1]
        · have : ¬ mkd (tk c n p3) = 0 := fun y => z (hm0.mp y)
          rw [if_neg z]
          simp (disch := omega) only [gdn, gb0, gb1, ixn, nm1, nI_add, nI_mul, nsub, nI_ltI, nI_leI, nI_eq, eqNO, eqNO2, ltNO, NOlt, leNO, NOle, if_pos, if_neg, Option.bind_some, if_true, if_false, and_self, eq_self, l0, l1, l2, l3, l4, l5, l6, l7, l8, l9, l10, l11, l12, l13, l14, l15, l16, l17, l18, l19, l20, l24, l26, l30, l31, l32, l40, l41, l42, l43, l45, l47, l48, l57, l58, l59, l60, l61, l62, l63, l64, l97, l99, l100, l101, l102, l103, l104, l105, l106, l107, l108, l109, l110, l122, l160, l240, l255, l600, l1000, l3000, l10000, l10007, l10116, l67108863, l67108864, hr, y10.1]
      rw [lp_step hstep]
      refine ih (n - p3) (by omega) st3 p3 wc3 wr (D + 1) A' S' O' y2.1 y2.2.1 y2.2.2 y4 y5 y6 (hKg.tr (y7.mono (by omega) (by omega))) ⟨by rw [y8.1]; exact h45.1, by rw [y8.2]; exact h45.2⟩ (hKU.tr (y9.mono (by omega) (by omega) (by omega))) y10 ⟨y11.1, by rw [y11.2]; exact h41.2⟩ y12.1 y12.2.1 y12.2.2 (by omega) ?_ ⟨by omega, by omega, by omega⟩ y14 (by rw [hP, y1]) rfl
      intro k hk
      by_cases z : k = D
      · subst z; exact ⟨y16, y17⟩
      · exact (hR.keep y7 y9 (Nat.le_refl _) (Nat.le_refl _) (Nat.le_refl _) (Nat.le_refl _) (Nat.le_refl _) y13.1 y13.2.1 y13.2.2) k (by omega)
    · simp only at e1' f4 f5' f6
      subst e1'
      have hstep : X12_orders_b144 a2 a3 a4 a5 (nI 1, wm) = some (.inl (nI 0, wr)) := by
        unfold X12_orders_b144 X12_orders_j167 X12_orders_j168
        simp (disch := omega) only [gdn, gb0, gb1, ixn, nm1, nI_add, nI_mul, nsub, nI_ltI, nI_leI, nI_eq, eqNO, eqNO2, ltNO, NOlt, leNO, NOle, if_pos, if_neg, Option.bind_some, if_true, if_false, and_self, eq_self, l0, l1, l2, l3, l4, l5, l6, l7, l8, l9, l10, l11, l12, l13, l14, l15, l16, l17, l18, l19, l20, l24, l26, l30, l31, l32, l40, l41, l42, l43, l45, l47, l48, l57, l58, l59, l60, l61, l62, l63, l64, l97, l99, l100, l101, l102, l103, l104, l105, l106, l107, l108, l109, l110, l122, l160, l240, l255, l600, l1000, l3000, l10000, l10007, l10116, l67108863, l67108864, hr]
      have hex : lp (X12_orders_b144 a2 a3 a4 a5) (nI 0, wr) = some wr := by
        refine lp_exit ?_
        unfold X12_orders_b144
        simp (disch := omega) only [gdn, gb0, gb1, ixn, nm1, nI_add, nI_mul, nsub, nI_ltI, nI_leI, nI_eq, eqNO, eqNO2, ltNO, NOlt, leNO, NOle, if_pos, if_neg, Option.bind_some, if_true, if_false, and_self, eq_self, l0, l1, l2, l3, l4, l5, l6, l7, l8, l9, l10, l11, l12, l13, l14, l15, l16, l17, l18, l19, l20, l24, l26, l30, l31, l32, l40, l41, l42, l43, l45, l47, l48, l57, l58, l59, l60, l61, l62, l63, l64, l97, l99, l100, l101, l102, l103, l104, l105, l106, l107, l108, l109, l110, l122, l160, l240, l255, l600, l1000, l3000, l10000, l10007, l10116, l67108863, l67108864]
      rw [lp_step hstep, hex]
      exact ok_i (Or.inr ⟨rfl, k, pl, e, f1, f2, f3, f4, f5', hKU.tr (f6.mono (by omega) (by omega) (by omega)), by rw [hP]; exact f7, f8, f9, hKg.tr (f10.mono (by omega) (by omega))⟩)
end
/-! a TEXT is kept -/
theorem keepL_e {w : Wd} {T : Nat} {f : Nat → Nat} {wk : Nat → Nat} {week : Nat} {a2 : Int32} (hT : T < 5) (h34 : ∀ i, i < T → w.1 34 i = nI (f i)) (hf : ∀ i, i < T → f i < T) (h31 : ∀ i, i < T → w.1 31 i = nI (wk i)) (hwk : ∀ i, i < T → wk i < 60) (hw : week < 60) (hs : ∀ i j, i < j → j < T → lt2 wk (f i) (f j)) : ok (lp (X0_keepText_b5 (nI week) a2) (nI T, w)) (fun e => ∃ k, k ≤ T ∧ e.1 = nI k ∧ Fr [34] [] w e.2 ∧ (∀ i, i < k → e.2.1 34 i = nI (f i)) ∧ (∀ i, k < i → i ≤ T → e.2.1 34 i = nI (f (i - 1))) ∧ (∀ i, k ≤ i → i < T → week < wk (f i)) ∧ (∀ i, i < k → wk (f i) ≤ week)) := by
  have key : ∀ (k : Nat) (v : Wd), k ≤ T → Fr [34] [] w v → (∀ i, i < k → v.1 34 i = nI (f i)) → (∀ i, k < i → i ≤ T → v.1 34 i = nI (f (i - 1))) → (∀ i, k ≤ i → i < T → week < wk (f i)) → ok (lp (X0_keepText_b5 (nI week) a2) (nI k, v)) (fun e => ∃ k, k ≤ T ∧ e.1 = nI k ∧ Fr [34] [] w e.2 ∧ (∀ i, i < k → e.2.1 34 i = nI (f i)) ∧ (∀ i, k < i → i ≤ T → e.2.1 34 i = nI (f (i - 1))) ∧ (∀ i, k ≤ i → i < T → week < wk (f i)) ∧ (∀ i, i < k → wk (f i) ≤ week)) := by
    intro k
    induction k with
    | zero =>
      intro v hk hF h1 h2 h3
      rw [lp_exit (e := (nI 0, v)) (by unfold X0_keepText_b5; simp (disch := omega) only [gdn, gb0, gb1, ixn, nm1, nI_add, nI_mul, nsub, nI_ltI, nI_leI, nI_eq, eqNO, eqNO2, ltNO, NOlt, leNO, NOle, if_pos, if_neg, Option.bind_some, if_true, if_false, and_self, eq_self, l0, l1, l2, l3, l4, l5, l6, l7, l8, l9, l10, l11, l12, l13, l14, l15, l16, l17, l18, l19, l20, l24, l26, l30, l31, l32, l40, l41, l42, l43, l45, l47, l48, l57, l58, l59, l60, l61, l62, l63, l64, l97, l99, l100, l101, l102, l103, l104, l105, l106, l107, l108, l109, l110, l122, l160, l240, l255, l600, l1000, l3000, l10000, l10007, l10116, l67108863, l67108864])]
      exact ok_i ⟨0, hk, rfl, hF, h1, h2, h3, fun i hi => by omega⟩
    | succ k ih =>
      intro v hk hF h1 h2 h3
      have hfk := hf k (by omega)
      have e34 : v.1 34 k = nI (f k) := h1 k (by omega)
      have e31 : v.1 31 (f k) = nI (wk (f k)) := by rw [(hF.row 31 (by decide) (by decide)).1]; exact h31 _ hfk
      have hb := hwk _ hfk
      by_cases q : wk (f k) ≤ week
      · rw [lp_exit (e := (nI (k + 1), v)) (by unfold X0_keepText_b5; simp (disch := omega) only [gdn, gb0, gb1, ixn, nm1, nI_add, nI_mul, nsub, nI_ltI, nI_leI, nI_eq, eqNO, eqNO2, ltNO, NOlt, leNO, NOle, if_pos, if_neg, Option.bind_some, if_true, if_false, and_self, eq_self, l0, l1, l2, l3, l4, l5, l6, l7, l8, l9, l10, l11, l12, l13, l14, l15, l16, l17, l18, l19, l20, l24, l26, l30, l31, l32, l40, l41, l42, l43, l45, l47, l48, l57, l58, l59, l60, l61, l62, l63, l64, l97, l99, l100, l101, l102, l103, l104, l105, l106, l107, l108, l109, l110, l122, l160, l240, l255, l600, l1000, l3000, l10000, l10007, l10116, l67108863, l67108864, show k + 1 - 1 = k by omega, e34, e31])]
        refine ok_i ⟨k + 1, hk, rfl, hF, h1, h2, h3, fun i hi => ?_⟩
        by_cases z : i = k
        · rw [z]; exact q
        · have := hs i k (by omega) (by omega)
          unfold lt2 at this
          omega
      · have hm : nI (k + 1) + -nI 1 = nI k := by rw [← Int32.sub_eq_add_neg, nsub (by omega)]; rfl
        have hst : X0_keepText_b5 (nI week) a2 (nI (k + 1), v) = some (.inl (nI k, puI v 34 (k + 1) (nI (f k)))) := by
          unfold X0_keepText_b5
          simp (disch := omega) only [gdn, gb0, gb1, ixn, nm1, nI_add, nI_mul, nsub, nI_ltI, nI_leI, nI_eq, eqNO, eqNO2, ltNO, NOlt, leNO, NOle, if_pos, if_neg, Option.bind_some, if_true, if_false, and_self, eq_self, l0, l1, l2, l3, l4, l5, l6, l7, l8, l9, l10, l11, l12, l13, l14, l15, l16, l17, l18, l19, l20, l24, l26, l30, l31, l32, l40, l41, l42, l43, l45, l47, l48, l57, l58, l59, l60, l61, l62, l63, l64, l97, l99, l100, l101, l102, l103, l104, l105, l106, l107, l108, l109, l110, l122, l160, l240, l255, l600, l1000, l3000, l10000, l10007, l10116, l67108863, l67108864, show k + 1 - 1 = k by omega, e34, e31]
          rw [← hm]; rfl
        rw [lp_step hst]
        refine ih _ (by omega) (Fr.puI hF (by decide)) (fun i hi => ?_) (fun i h4 h5 => ?_) (fun i h4 h5 => ?_)
        · rw [I_row, upd_n (by omega)]; exact h1 i (by omega)
        · rw [I_row]
          by_cases z : i = k + 1
          · subst z; rw [upd_s]; rfl
          · rw [upd_n z]; exact h2 i (by omega) h5
        · by_cases z : i = k
          · rw [z]; omega
          · exact h3 i (by omega) h5
  exact key T w (Nat.le_refl _) Fr.rf h34 (fun i h1 h2 => by omega) (fun i h1 h2 => by omega)
