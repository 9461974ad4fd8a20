theorem se3 {w : Wd} {a b : Nat} {f g h : Nat → Int32} (hab : a ≠ b) : seI (seI (seI w a f) b g) a h = seI (seI w a h) b g := by
  unfold seI
  simp only [Prod.mk.injEq, and_true]
  funext k
  simp only [va_up]
  by_cases h1 : k = b
  · have h2 : ¬ k = a := fun z => hab (z.symm.trans h1)
    rw [if_neg h2, if_pos h1, if_pos h1]
  · by_cases h2 : k = a
    · rw [if_pos h2, if_neg h1, if_pos h2]
    · rw [if_neg h2, if_neg h1, if_neg h2, if_neg h1, if_neg h2]
section
variable {A : Nat → Nat → Nat} {M : Nat} {tn : Nat → Nat}
theorem dgt_lt (hM1 : 1 ≤ M) (r k : Nat) : dgt M r k < M := Nat.mod_lt _ (by omega)
def kyR (A : Nat → Nat → Nat) (M r : Nat) : Nat := 1000 * Lp A (dgt M r) M + Sp A (dgt M r) M
theorem mloop_e {w : Wd} (hM : M ≤ 7) (hM1 : 1 ≤ M) (h6 : ∀ k t, A k t < 60 ∨ A k t = 1000) (htn : ∀ t, tn t < 20) (h173 : ∀ k t, k < M → t < M → w.1 173 (7 * k + t) = nI (A k t)) (h171 : ∀ t, t < M → w.1 171 t = nI (tn t)) : ∃ (best : Int32) (y g : Nat → Int32), lp (X12_send_b314 (nI M) (nI (M ^ M))) (NO, nI 0, w) = some (best, seI (seI w 176 g) 174 y) ∧ ((best = NO ∧ ∀ r, r < M ^ M → ¬ okR A M (dgt M r)) ∨ ∃ r0, r0 < M ^ M ∧ okR A M (dgt M r0) ∧ best = nI (kyR A M r0) ∧ (∀ k, k < M → g k = nI (tn (dgt M r0 k))) ∧ ∀ r, r < M ^ M → okR A M (dgt M r) → kyR A M r0 < kyR A M r ∨ (kyR A M r0 = kyR A M r ∧ enc tn (dgt M r0) M ≤ enc tn (dgt M r) M)) := by
  have hMM := pow77 hM M hM
  have key := lp_up (b := X12_send_b314 (nI M) (nI (M ^ M))) (Q := fun e => ∃ (best : Int32) (y g : Nat → Int32), e = (best, seI (seI w 176 g) 174 y) ∧ ((best = NO ∧ ∀ r, r < M ^ M → ¬ okR A M (dgt M r)) ∨ ∃ r0, r0 < M ^ M ∧ okR A M (dgt M r0) ∧ best = nI (kyR A M r0) ∧ (∀ k, k < M → g k = nI (tn (dgt M r0 k))) ∧ ∀ r, r < M ^ M → okR A M (dgt M r) → kyR A M r0 < kyR A M r ∨ (kyR A M r0 = kyR A M r ∧ enc tn (dgt M r0) M ≤ enc tn (dgt M r) M))) (fun n st => ∃ (best : Int32) (y g : Nat → Int32), st = (best, nI n, seI (seI w 176 g) 174 y) ∧ ((best = NO ∧ ∀ r, r < n → ¬ okR A M (dgt M r)) ∨ ∃ r0, r0 < n ∧ okR A M (dgt M r0) ∧ best = nI (kyR A M r0) ∧ (∀ k, k < M → g k = nI (tn (dgt M r0 k))) ∧ ∀ r, r < n → okR A M (dgt M r) → kyR A M r0 < kyR A M r ∨ (kyR A M r0 = kyR A M r ∧ enc tn (dgt M r0) M ≤ enc tn (dgt M r) M))) (M ^ M) ?_ ?_ 0 (NO, nI 0, w) (Nat.zero_le _) ⟨NO, w.1 174, w.1 176, by rw [seI_same (k := 176) rfl, seI_same rfl], Or.inl ⟨rfl, fun r hr => by omega⟩⟩
  · obtain ⟨e, he, best, y, g, rfl, hq⟩ := key
    exact ⟨best, y, g, he, hq⟩
  · rintro n st hn ⟨best, y, g, rfl, hI⟩
    have hfill := fillrow_e (w := seI w 176 g) (M := M) hM hM1 (r := n) (by omega) (a5 := nI (M ^ M)) (a6 := best) (a7 := nI n) (z := y)
    generalize hW : seI (seI w 176 g) 174 (rwN M (dgt M n) y) = W at hfill
    have w173 : ∀ k t, k < M → t < M → W.1 173 (7 * k + t) = nI (A k t) := by rw [← hW]; exact h173
    have w171 : ∀ t, t < M → W.1 171 t = nI (tn t) := by rw [← hW]; exact h171
    have w174 : ∀ k, k < M → W.1 174 k = nI (dgt M n k) := by rw [← hW]; exact fun k hk => rwN_lt hk
    have hky := keyOf_e (w := W) hM h6 w173 (f := dgt M n) (fun j _ => dgt_lt hM1 n j) w174
    have hcp := fun a6 => copyrow_e (w := W) (M := M) (tn := tn) hM w171 (f := dgt M n) (fun j _ => dgt_lt hM1 n j) w174 (a5 := nI (M ^ M)) (a6 := a6) (a7 := nI n)
    have hcw : seI W 176 (rwN M (fun k => tn (dgt M n k)) (W.1 176)) = seI (seI w 176 (rwN M (fun k => tn (dgt M n k)) (W.1 176))) 174 (rwN M (dgt M n) y) := by
      rw [← hW, se3 (by decide)]
    have kb : ∀ r, okR A M (dgt M r) → kyR A M r < 60000 := by
      intro r hr
      have := Sp_le (A := A) (M := M) (f := dgt M r) (fun k hk => by have := h6 k (dgt M r k); have := hr.2 k hk; omega) M (Nat.le_refl _)
      unfold kyR
      omega
    -- what is taken
    have take : okR A M (dgt M n) → ∀ (Rb : Prop), (∀ r, r < n → okR A M (dgt M r) → kyR A M n < kyR A M r ∨ (kyR A M n = kyR A M r ∧ enc tn (dgt M n) M ≤ enc tn (dgt M r) M)) → ok (X12_send_j402 (nI M) (nI (M ^ M)) (nI n) (nI (kyR A M n)) W) (sel (fun st => ∃ (best : Int32) (y g : Nat → Int32), st = (best, nI (n + 1), seI (seI w 176 g) 174 y) ∧ ((best = NO ∧ ∀ r, r < n + 1 → ¬ okR A M (dgt M r)) ∨ ∃ r0, r0 < n + 1 ∧ okR A M (dgt M r0) ∧ best = nI (kyR A M r0) ∧ (∀ k, k < M → g k = nI (tn (dgt M r0 k))) ∧ ∀ r, r < n + 1 → okR A M (dgt M r) → kyR A M r0 < kyR A M r ∨ (kyR A M r0 = kyR A M r ∧ enc tn (dgt M r0) M ≤ enc tn (dgt M r) M))) (fun e => ∃ (best : Int32) (y g : Nat → Int32), e = (best, seI (seI w 176 g) 174 y) ∧ ((best = NO ∧ ∀ r, r < M ^ M → ¬ okR A M (dgt M r)) ∨ ∃ r0, r0 < M ^ M ∧ okR A M (dgt M r0) ∧ best = nI (kyR A M r0) ∧ (∀ k, k < M → g k = nI (tn (dgt M r0 k))) ∧ ∀ r, r < M ^ M → okR A M (dgt M r) → kyR A M r0 < kyR A M r ∨ (kyR A M r0 = kyR A M r ∧ enc tn (dgt M r0) M ≤ enc tn (dgt M r) M)))) := by
      intro hok _ hbest
      refine ⟨.inl (nI (kyR A M n), nI (n + 1), seI (seI w 176 (rwN M (fun k => tn (dgt M n k)) (W.1 176))) 174 (rwN M (dgt M n) y)), ?_, _, _, _, rfl, Or.inr ⟨n, by omega, hok, rfl, fun k hk => rwN_lt hk, fun r hr hr2 => ?_⟩⟩
      · unfold X12_send_j402 X12_send_j440
        rw [show (0 : Int32) = nI 0 from rfl, hcp]
        simp only [Option.bind_some]
        rw [hcw, show (1 : Int32) = nI 1 from rfl, nI_add]
      · by_cases z : r = n
        · rw [z]; exact Or.inr ⟨rfl, Nat.le_refl _⟩
        · exact hbest r (by omega) hr2
    have hcond : ¬ nI (M ^ M) ≤ nI n := by rw [nI_leI (by omega) (by omega)]; omega
    have hm1 : nI M - 1 = nI (M - 1) := nsub (by omega)
    unfold X12_send_b314
    dsimp only
    rw [if_neg hcond, hm1, hfill]
    simp only [Option.bind_some]
    by_cases hok : okR A M (dgt M n)
    · have hkb := kb n hok
      rw [hky.1 hok]
      simp only [Option.bind_some]
      rw [show nI (1000 * Lp A (dgt M n) M + Sp A (dgt M n) M) = nI (kyR A M n) from rfl]
      rw [if_neg (show ¬ nI (kyR A M n) = -1 from by show ¬ nI (kyR A M n) = NO; rw [eqNO (by omega)]; exact id)]
      rcases hI with ⟨rfl, hno⟩ | ⟨r0, hr0, ho0, rfl, hg, hmin⟩
      · rw [if_pos (show NO = -1 from rfl)]
        exact take hok True (fun r hr hr2 => (hno r hr hr2).elim)
      · have hkb0 := kb r0 ho0
        have w176 : ∀ k, k < M → W.1 176 k = nI (tn (dgt M r0 k)) := by rw [← hW]; exact hg
        rw [if_neg (show ¬ nI (kyR A M r0) = -1 from by show ¬ nI (kyR A M r0) = NO; rw [eqNO (by omega)]; exact id)]
        have hskip : (kyR A M r0 < kyR A M n ∨ (kyR A M r0 = kyR A M n ∧ enc tn (dgt M r0) M ≤ enc tn (dgt M n) M)) → ∀ {Q : _ → Prop}, ok (X12_send_j440 (nI M) (nI (M ^ M)) (nI (kyR A M r0)) (nI n) W) (sel (fun st => ∃ (best : Int32) (y g : Nat → Int32), st = (best, nI (n + 1), seI (seI w 176 g) 174 y) ∧ ((best = NO ∧ ∀ r, r < n + 1 → ¬ okR A M (dgt M r)) ∨ ∃ r0, r0 < n + 1 ∧ okR A M (dgt M r0) ∧ best = nI (kyR A M r0) ∧ (∀ k, k < M → g k = nI (tn (dgt M r0 k))) ∧ ∀ r, r < n + 1 → okR A M (dgt M r) → kyR A M r0 < kyR A M r ∨ (kyR A M r0 = kyR A M r ∧ enc tn (dgt M r0) M ≤ enc tn (dgt M r) M))) Q) := by
          intro hle Q
          refine ⟨.inl (nI (kyR A M r0), nI (n + 1), W), ?_, nI (kyR A M r0), rwN M (dgt M n) y, g, by rw [← hW], Or.inr ⟨r0, by omega, ho0, rfl, hg, fun r hr hr2 => ?_⟩⟩
          · unfold X12_send_j440
            rw [show (1 : Int32) = nI 1 from rfl, nI_add]
          · by_cases z : r = n
            · rw [z]; exact hle
            · exact hmin r (by omega) hr2
        by_cases q1 : kyR A M r0 < kyR A M n
        · rw [if_pos (by rw [nI_ltI (by omega) (by omega)]; exact q1)]
          exact hskip (Or.inl q1)
        · rw [if_neg (by rw [nI_ltI (by omega) (by omega)]; exact q1)]
          by_cases q2 : kyR A M n = kyR A M r0
          · rw [if_pos (by rw [q2])]
            rw [lesser_e (w := W) (tn := tn) hM htn w171 (f := dgt M n) (g := dgt M r0) (fun j _ => dgt_lt hM1 n j) w174 w176]
            simp only [Option.bind_some]
            by_cases q3 : enc tn (dgt M n) M < enc tn (dgt M r0) M
            · rw [fg_t q3, if_neg (by decide)]
              exact take hok True (fun r hr hr2 => by have := hmin r hr hr2; omega)
            · rw [fg_f q3, if_pos (by decide)]
              exact hskip (Or.inr ⟨q2.symm, by omega⟩)
          · rw [if_neg (by rw [nI_eq (by omega) (by omega)]; exact q2)]
            exact take hok True (fun r hr hr2 => by have := hmin r hr hr2; omega)
    · rw [hky.2 hok]
      simp only [Option.bind_some]
      rw [if_pos (show NO = -1 from rfl)]
      refine ⟨.inl (best, nI (n + 1), W), ?_, best, rwN M (dgt M n) y, g, by rw [← hW], ?_⟩
      · unfold X12_send_j440
        rw [show (1 : Int32) = nI 1 from rfl, nI_add]
      · rcases hI with ⟨rfl, hno⟩ | ⟨r0, hr0, ho0, rfl, hg, hmin⟩
        · refine Or.inl ⟨rfl, fun r hr => ?_⟩
          by_cases z : r = n
          · rw [z]; exact hok
          · exact hno r (by omega)
        · refine Or.inr ⟨r0, by omega, ho0, rfl, hg, fun r hr hr2 => ?_⟩
          by_cases z : r = n
          · rw [z] at hr2; exact (hok hr2).elim
          · exact hmin r (by omega) hr2
  · rintro st ⟨best, y, g, rfl, hI⟩
    refine ⟨.inr (best, seI (seI w 176 g) 174 y), ?_, best, y, g, rfl, hI⟩
    unfold X12_send_b314
    simp (disch := omega) only [gdn, gb0, gb1, ixn, nm1, nI_add, nI_mul, nsub, nI_ltI, nI_leI, nI_eq, eqNO, eqNO2, ltNO, NOlt, leNO, NOle, if_pos, if_neg, Option.bind_some, if_true, if_false, and_self, eq_self, l0, l1, l2, l3, l4, l5, l6, l7, l8, l9, l10, l11, l12, l13, l14, l15, l16, l17, l18, l19, l20, l24, l26, l30, l31, l32, l40, l41, l42, l43, l45, l47, l48, l57, l58, l59, l60, l61, l62, l63, l64, l97, l99, l100, l101, l102, l103, l104, l105, l106, l107, l108, l109, l110, l122, l160, l240, l255, l600, l1000, l3000, l10000, l10007, l10116, l67108863, l67108864]
theorem rowsN_e {w : Wd} (hM : M ≤ 7) : lp (X12_send_b290 (nI M) w) (nI 1, nI 0) = some (nI (M ^ M)) := by
  refine lp_for (b := X12_send_b290 (nI M) w) (fun k => (nI (M ^ k), nI k)) M (fun k hk => ?_) ?_ 0 (Nat.zero_le _)
  · unfold X12_send_b290
    rw [Nat.pow_succ]
    simp (disch := omega) only [gdn, gb0, gb1, ixn, nm1, nI_add, nI_mul, nsub, nI_ltI, nI_leI, nI_eq, eqNO, eqNO2, ltNO, NOlt, leNO, NOle, if_pos, if_neg, Option.bind_some, if_true, if_false, and_self, eq_self, l0, l1, l2, l3, l4, l5, l6, l7, l8, l9, l10, l11, l12, l13, l14, l15, l16, l17, l18, l19, l20, l24, l26, l30, l31, l32, l40, l41, l42, l43, l45, l47, l48, l57, l58, l59, l60, l61, l62, l63, l64, l97, l99, l100, l101, l102, l103, l104, l105, l106, l107, l108, l109, l110, l122, l160, l240, l255, l600, l1000, l3000, l10000, l10007, l10116, l67108863, l67108864]
  · unfold X12_send_b290
    simp (disch := omega) only [gdn, gb0, gb1, ixn, nm1, nI_add, nI_mul, nsub, nI_ltI, nI_leI, nI_eq, eqNO, eqNO2, ltNO, NOlt, leNO, NOle, if_pos, if_neg, Option.bind_some, if_true, if_false, and_self, eq_self, l0, l1, l2, l3, l4, l5, l6, l7, l8, l9, l10, l11, l12, l13, l14, l15, l16, l17, l18, l19, l20, l24, l26, l30, l31, l32, l40, l41, l42, l43, l45, l47, l48, l57, l58, l59, l60, l61, l62, l63, l64, l97, l99, l100, l101, l102, l103, l104, l105, l106, l107, l108, l109, l110, l122, l160, l240, l255, l600, l1000, l3000, l10000, l10007, l10116, l67108863, l67108864]
end
