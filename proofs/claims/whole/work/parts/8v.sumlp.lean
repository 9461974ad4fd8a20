section
variable {c : Nat → Nat} {n : Nat}
theorem setF_lt {g : Nat → Nat} {D v : Nat} : ∀ i, i < D → setF g D v i = g i := fun i hi => setF_n (by omega)
theorem sum_lp (hn : n ≤ 600) {w0c w0m : Wd} (hW : IW w0c) (hB : ∀ i, i < n → BY (w0c.1 66 i) (c i)) (hMB : MB c n w0m) {W0 : List Nat} (hW0 : ∀ x, W0.head? = some x → bnd x < 5) (hWl : W0.length ≤ 8) {A0 S0 KA KB p0 sm : Nat} (hKA : KA ≤ 2400) (hKB : KB ≤ 2400) (h12 : w0c.1 65 12 = nI sm) {P : Option Wd} (st p : Nat) (wc wm : Wd) (D a s : Nat) (it si : Nat → Nat) (C : List Nat) (h : SJ c n w0c w0m W0 A0 S0 KA KB p0 st p wc wm D a s it si C) (hP : P = PS n st wc) : ok ((lp X12_sum_b18 (nI D, nI a, wm)).bind smK) (fun r => SP c n w0c w0m W0 A0 S0 KA KB p0 P r ∨ FP (KS A0 w0c) (KM S0 w0m) P r) := by
  induction hμ : n - p using Nat.strongRecOn generalizing st p wc wm D a s it si C with
  | _ μ ih =>
  obtain ⟨⟨g1, g2, g3⟩, ⟨g4, g5, g6⟩, hCX, ⟨hs0, hs1⟩, hKS, ⟨k4, k5, k12⟩, hKM, hMT, ⟨m41, m40⟩, hQ, hlev, hD, ⟨bA, bS⟩, hhg, hsm⟩ := h
  have hWc : IW wc := fun i hi => by rw [hKS.rows.2]; exact hW i hi
  have hBc : ∀ i, i < n → BY (wc.1 66 i) (c i) := by rw [hKS.rows.1]; exact hB
  have hMBm : MB c n wm := hKM.mb hMB
  have hr := tk_rng (c := c) (n := n) p
  obtain ⟨te1, te2, te3, te4⟩ := te_s (c := c) g2
  have hll := lv_len (it D) (si D)
  have hpl := pnd_le (it := it) (si := si) D
  have hwl := wlb_len (it := it) (si := si) (W := W0) D
  -- a fault on both sides
  have fault : ∀ (k : Nat) (wm' : Wd), 1 ≤ k → k ≤ 6 → KM S0 w0m wm' → MT c n p wm' → wm'.1 97 41 = nI 0 → (∀ e, Fr [] f5 wc e → TC c n p e → ¬ tk c n p = 0 → X6_take e = some (nI k, e)) → ∃ w2, X12_fails (nI k) wm' = some (nI 0, w2) ∧ FP (KS A0 w0c) (KM S0 w0m) P (nI 0, w2) := by
    intro k wm' hk1 hk6 hKM' hMT' h41 ht
    obtain ⟨w2, f1, f2, f3, f4⟩ := fails_e hMT' h41 (k := k)
    obtain ⟨e, e1, e2, e3, e4⟩ := cfault hn hWc hBc g1 g2 g3 hk1 hk6 ht
    refine ⟨w2, f1, rfl, _, _, e, ?_, ?_, ?_, f2, f3, hKM'.fails f4, by rw [hP]; exact e1, e2, e3, hKS.fr7 e4⟩
    · split <;> omega
    · split <;> omega
    · omega
  -- the model's next TOKEN behind a change
  have nx : ∀ wm' : Wd, KM S0 w0m wm' → MT c n p wm' → ¬ tk c n p = 1 → ∃ w', X12_next wm' = some w' ∧ Fr [] [(97, 35), (97, 36), (97, 37), (97, 38)] wm' w' ∧ MT c n (te c n p) w' ∧ KM S0 w0m w' := by
    intro wm' a1 a2 _
    obtain ⟨w', b1, b2, b3⟩ := nxt hn (a1.mb hMB) g2 a2.2.2.1
    exact ⟨w', b1, b2, b3, a1.nx b2⟩
  have lev0 := hlev D (Nat.le_refl _)
  by_cases ha : a = 1
  · subst ha
    obtain ⟨hs, hs109⟩ := hs1 rfl
    have hCXe : ∀ e, Fr [] f5 wc e → CX e s D (lv (it D) (si D) ++ wlb it si W0 D) A0 C := fun e he => hCX.scan he
    have hv := vars_e hn hMBm g2 hMT
    -- an atom
    have atom : ∀ x : Nat, x < 10007 → X12_sum_b18 (nI D, nI 1, wm) = X12_sum_j74 (nI D) (dec2 x) (dec1 x) wm → ¬ tk c n p = 0 → ¬ tk c n p = 1 → (∀ e, Fr [] f5 wc e → TC c n p e → ∃ e2, X6_take e = some (nI 0, e2) ∧ CX e2 9 D (lv (it D) (si D) ++ wlb it si W0 D) A0 (C ++ [x]) ∧ KT A0 e e2 ∧ e2.1 65 12 = e.1 65 12) → ok ((lp X12_sum_b18 (nI D, nI 1, wm)).bind smK) (fun r => SP c n w0c w0m W0 A0 S0 KA KB p0 P r ∨ FP (KS A0 w0c) (KM S0 w0m) P r) := by
      intro x hx hmod h0 h1 hcl
      obtain ⟨e, e2, q1, q2, q3, q4, q5, q6, q7⟩ := cstep (st := st) hn hWc hBc g1 g2 g3 h0 h1 (Q := fun e e2 => CX e2 9 D (lv (it D) (si D) ++ wlb it si W0 D) A0 (C ++ [x]) ∧ KT A0 e e2 ∧ e2.1 65 12 = e.1 65 12) (fun e he hT => by
        obtain ⟨e2, z1, z2, z3, z4⟩ := hcl e he hT
        exact ⟨e2, z1, z3.f76.1, z3.f76.2, z2, z3, z4⟩)
      obtain ⟨w1, p1, p2, p3, p4⟩ := puts_e hQ x (by omega)
      have hMT1 : MT c n p w1 := hMT.c (fun j h1 h2 => (p3 97 (by decide) j (by simp only [List.mem_cons, List.not_mem_nil, or_false, Prod.mk.injEq]; omega)).1)
      obtain ⟨w2, n1, n2, n3, n4⟩ := nx w1 (hKM.tr p4) hMT1 h1
      have hstep : X12_sum_b18 (nI D, nI 1, wm) = some (.inl (nI D, nI 0, w2)) := by
        rw [hmod]
        unfold X12_sum_j74
        rw [p1]
        simp only [Option.bind_some]
        rw [n1]
        rfl
      rw [lp_step hstep]
      have hKSe2 : KS A0 w0c e2 := KT.ks (hKS.scan q2) q6
      have f2 : ∀ k, k = 4 ∨ k = 5 → e2.1 65 k = wc.1 65 k := fun k hk => by
        rw [(q6.1 65 (by decide) k (by rcases hk with e | e <;> subst e <;> decide)).1, (q2 65 (by decide) k (by rcases hk with e | e <;> subst e <;> decide)).1]
      refine ih (n - te c n p) (by have := te4 h1; omega) (st + 1) (te c n p) e2 w2 D 0 9 it si (C ++ [x]) ⟨⟨by have := te4 h1; omega, te3, q4⟩, ⟨by omega, fun _ => by have := te4 h1; omega, Or.inl rfl⟩, q5, ⟨fun _ => rfl, fun z => by omega⟩, hKSe2, ⟨by rw [f2 4 (Or.inl rfl)]; exact k4, by rw [f2 5 (Or.inr rfl)]; exact k5, by rw [q7, (q2 65 (by decide) 12 (by decide)).1]; exact k12⟩, n4, n3, ⟨?_, ?_⟩, ?_, fun i hi => ?_, hD, ⟨?_, ?_⟩, ?_, ?_⟩ (by rw [hP, q1]) rfl
      · rw [(n2 97 (by decide) 41 (by decide)).1, (p3 97 (by decide) 41 (by decide)).1]; exact m41
      · rw [(n2 97 (by decide) 40 (by decide)).1, (p3 97 (by decide) 40 (by decide)).1]; exact m40
      · exact p2.cg (n2 97 (by decide) 43 (by decide)).1 (n2.row 140 (by decide) (by decide)).1 (n2.row 141 (by decide) (by decide)).1
      · rw [(n2.row 142 (by decide) (by decide)).1, (n2.row 143 (by decide) (by decide)).1, (p3.row 142 (by decide) (by decide)).1, (p3.row 143 (by decide) (by decide)).1]; exact hlev i hi
      · rw [List.length_append, List.length_singleton]; have := te4 h1; omega
      · rw [List.length_append, List.length_singleton]; have := te4 h1; omega
      · exact hg_push hhg hx (by omega)
      · intro y hy
        rcases List.mem_append.mp hy with z | z
        · exact hsm y z
        · rw [List.mem_singleton.mp z]; exact Or.inl hx
    by_cases t2 : tk c n p = 2
    · have hval := hMT.2.2.2.1 t2
      have hdig : tv c n p < 10000 := by
        have hne : ¬ n ≤ tf c n p := fun z => by have : tk c n p = 1 := by (unfold tk; rw [if_pos z]); omega
        have hnl : ¬ isLet (c (tf c n p)) = true := fun z => by
          have : tk c n p = 4 ∨ tk c n p = 3 ∨ 100 ≤ tk c n p := by
            unfold tk
            rw [if_neg hne, if_pos z]
            split
            · omega
            · split <;> omega
          omega
        have hdg : isDig (c (tf c n p)) = true := by
          by_cases z : isDig (c (tf c n p)) = true
          · exact z
          · exfalso
            have : tk c n p = 0 ∨ (40 ≤ tk c n p) := by
              unfold tk
              rw [if_neg hne, if_neg hnl, if_neg z]
              split
              · next h => have := sgn_iff.mp h; omega
              · omega
            omega
        have h4 : de c n p - tf c n p ≤ 4 := by
          by_cases z : de c n p - tf c n p > 4
          · exfalso
            have : tk c n p = 0 := by unfold tk; rw [if_neg hne, if_neg hnl, if_pos hdg, if_pos z]
            omega
          · omega
        obtain ⟨y1, y2, y3, -⟩ := ext_s (P := fun i => isDig (c i)) (n := n) (p := tf c n p) (by omega)
        have hde : de c n p = ext (fun i => isDig (c i)) n (tf c n p) := rfl
        rw [← hde] at y1 y2 y3
        have b1 := nvl_lt (c := c) (q := tf c n p) (de c n p - tf c n p) (fun i hi => y3 _ (by omega) (by omega))
        have b2 : 10 ^ (de c n p - tf c n p) ≤ 10 ^ 4 := Nat.pow_le_pow_right (by omega) h4
        unfold tv
        omega
      refine atom (tv c n p) (by omega) ?_ (by omega) (by omega) (fun e he hT => ?_)
      · have d1 : dec1 (tv c n p) = nI 0 := by unfold dec1; rw [if_pos hdig]
        have d2 : dec2 (tv c n p) = nI (tv c n p) := by unfold dec2; rw [if_pos hdig]
        have hm3 : wm.1 97 35 = nI 3 := by rw [hMT.1, t2]; rfl
        have hvx : vxI (tk c n p) = NO := by unfold vxI; rw [if_neg (by omega)]
        rw [hvx] at hv
        rw [d1, d2]
        unfold X12_sum_b18 X12_sum_j50 X12_sum_j61
        simp (disch := omega) only [gdn, gb0, gb1, ixn, nm1, nI_add, nI_mul, nsub, nI_ltI, nI_leI, nI_eq, eqNO, eqNO2, ltNO, NOlt, leNO, NOle, if_pos, if_neg, Option.bind_some, if_true, if_false, and_self, eq_self, l0, l1, l2, l3, l4, l5, l6, l7, l8, l9, l10, l11, l12, l13, l14, l15, l16, l17, l18, l19, l20, l24, l26, l30, l31, l32, l40, l41, l42, l43, l45, l47, l48, l57, l58, l59, l60, l61, l62, l63, l64, l97, l99, l100, l101, l102, l103, l104, l105, l106, l107, l108, l109, l110, l122, l160, l240, l255, l600, l1000, l3000, l10000, l10007, l10116, l67108863, l67108864, m41, hv, hm3, hval]
      · exact t_num (hCXe e he) hs (by rw [hT.1, t2]) (hT.2.2.2.1 t2) (by omega)
    · by_cases t110 : 110 ≤ tk c n p
      · refine atom (10000 + (tk c n p - 110)) (by omega) ?_ (by omega) (by omega) (fun e he hT => ?_)
        · have d1 : dec1 (10000 + (tk c n p - 110)) = nI 1 := by unfold dec1; rw [if_neg (by omega), if_pos (by omega)]
          have d2 : dec2 (10000 + (tk c n p - 110)) = nI (tk c n p - 110) := by unfold dec2; rw [if_neg (by omega), if_pos (by omega), show 10000 + (tk c n p - 110) - 10000 = tk c n p - 110 by omega]
          have hm3 : wm.1 97 35 = nI 2 := by rw [hMT.1, (mkd2 hr).mpr (by omega)]
          have hvx : vxI (tk c n p) = nI (tk c n p - 110) := by unfold vxI; rw [if_pos t110]
          rw [hvx] at hv
          rw [d1, d2]
          unfold X12_sum_b18 X12_sum_j50 X12_sum_j61
          simp (disch := omega) only [gdn, gb0, gb1, ixn, nm1, nI_add, nI_mul, nsub, nI_ltI, nI_leI, nI_eq, eqNO, eqNO2, ltNO, NOlt, leNO, NOle, if_pos, if_neg, Option.bind_some, if_true, if_false, and_self, eq_self, l0, l1, l2, l3, l4, l5, l6, l7, l8, l9, l10, l11, l12, l13, l14, l15, l16, l17, l18, l19, l20, l24, l26, l30, l31, l32, l40, l41, l42, l43, l45, l47, l48, l57, l58, l59, l60, l61, l62, l63, l64, l97, l99, l100, l101, l102, l103, l104, l105, l106, l107, l108, l109, l110, l122, l160, l240, l255, l600, l1000, l3000, l10000, l10007, l10116, l67108863, l67108864, m41, hv, hm3]
        · exact t_var (hCXe e he) hs hT.1 t110 (by omega) (by omega)
      · have hvx : vxI (tk c n p) = NO := by unfold vxI; rw [if_neg t110]
        rw [hvx] at hv
        have hml := mkd_lt (t := tk c n p)
        have hm3 : ¬ mkd (tk c n p) = 3 := by
          unfold mkd
          split
          · omega
          · split
            · omega
            · split
              · omega
              · split <;> omega
        by_cases t40 : tk c n p = 40
        · have hs40 : X12_isSign (nI 40) wm = nI 1 := by rw [sgnm_e hMT (by omega) (by omega), if_pos t40]
          by_cases hD6 : D = 6
          · have hex : lp X12_sum_b18 (nI D, nI 1, wm) = some (.inr (.inl wm)) := by
              refine lp_exit ?_
              unfold X12_sum_b18
              simp (disch := omega) only [gdn, gb0, gb1, ixn, nm1, nI_add, nI_mul, nsub, nI_ltI, nI_leI, nI_eq, eqNO, eqNO2, ltNO, NOlt, leNO, NOle, if_pos, if_neg, Option.bind_some, if_true, if_false, and_self, eq_self, l0, l1, l2, l3, l4, l5, l6, l7, l8, l9, l10, l11, l12, l13, l14, l15, l16, l17, l18, l19, l20, l24, l26, l30, l31, l32, l40, l41, l42, l43, l45, l47, l48, l57, l58, l59, l60, l61, l62, l63, l64, l97, l99, l100, l101, l102, l103, l104, l105, l106, l107, l108, l109, l110, l122, l160, l240, l255, l600, l1000, l3000, l10000, l10007, l10116, l67108863, l67108864, m41, hv, hMT.1, hs40]
            obtain ⟨w2, f1, f2⟩ := fault 5 wm (by omega) (by omega) hKM hMT m41 (fun e he hT _ => t_deep (hCXe e he) hs (by rw [hT.1, t40]) (by omega) (by omega))
            rw [hex]
            show ok ((X12_fails (5 : Int32) wm).bind _) _
            rw [show (5 : Int32) = nI 5 from rfl, f1]
            simp only [Option.bind_some]
            rw [gb0]
            exact ok_i (Or.inr f2)
          · obtain ⟨e, e2, q1, q2, q3, q4, q5, q6, q7⟩ := cstep (st := st) hn hWc hBc g1 g2 g3 (by omega) (by omega) (Q := fun e e2 => CX e2 8 (D + 1) (40 :: (lv (it D) (si D) ++ wlb it si W0 D)) A0 C ∧ KT A0 e e2 ∧ e2.1 65 12 = e.1 65 12) (fun e he hT => by
              obtain ⟨e2, z1, z2, z3, z4⟩ := t_open (hCXe e he) hs (by rw [hT.1, t40]) (by omega) (by rw [List.length_append]; omega)
              exact ⟨e2, z1, z3.f76.1, z3.f76.2, z2, z3, z4⟩)
            obtain ⟨w2, n1, n2, n3, n4⟩ := nx wm hKM hMT (by omega)
            have hstep : X12_sum_b18 (nI D, nI 1, wm) = some (.inl (nI (D + 1), nI 1, puI (puI w2 142 (D + 1) (nI 0)) 143 (D + 1) (nI 0))) := by
              unfold X12_sum_b18
              simp (disch := omega) only [gdn, gb0, gb1, ixn, nm1, nI_add, nI_mul, nsub, nI_ltI, nI_leI, nI_eq, eqNO, eqNO2, ltNO, NOlt, leNO, NOle, if_pos, if_neg, Option.bind_some, if_true, if_false, and_self, eq_self, l0, l1, l2, l3, l4, l5, l6, l7, l8, l9, l10, l11, l12, l13, l14, l15, l16, l17, l18, l19, l20, l24, l26, l30, l31, l32, l40, l41, l42, l43, l45, l47, l48, l57, l58, l59, l60, l61, l62, l63, l64, l97, l99, l100, l101, l102, l103, l104, l105, l106, l107, l108, l109, l110, l122, l160, l240, l255, l600, l1000, l3000, l10000, l10007, l10116, l67108863, l67108864, m41, hv, hMT.1, hs40, n1]
            rw [lp_step hstep]
            have hKSe2 : KS A0 w0c e2 := KT.ks (hKS.scan q2) q6
            have f2 : ∀ k, k = 4 ∨ k = 5 → e2.1 65 k = wc.1 65 k := fun k hk => by
              rw [(q6.1 65 (by decide) k (by rcases hk with e | e <;> subst e <;> decide)).1, (q2 65 (by decide) k (by rcases hk with e | e <;> subst e <;> decide)).1]
            have hwl1 : wlb (setF it (D + 1) 0) (setF si (D + 1) 0) W0 (D + 1) = 40 :: (lv (it D) (si D) ++ wlb it si W0 D) := by
              rw [wlb_c (it := it) (si := si) (D + 1) (fun i hi => ⟨setF_n (by omega), setF_n (by omega)⟩)]; rfl
            have hpn1 : pnd (setF it (D + 1) 0) (setF si (D + 1) 0) (D + 1) = (lv (it D) (si D)).length + pnd it si D := by
              rw [pnd_c (it := it) (si := si) (D + 1) (fun i hi => ⟨setF_n (by omega), setF_n (by omega)⟩)]; rfl
            have hlv1 : lv (setF it (D + 1) 0 (D + 1)) (setF si (D + 1) 0 (D + 1)) = [] := by rw [setF_s, setF_s]; rfl
            refine ih (n - te c n p) (by have := te4 (by omega); omega) (st + 1) (te c n p) e2 _ (D + 1) 1 8 (setF it (D + 1) 0) (setF si (D + 1) 0) C ⟨⟨by have := te4 (by omega); omega, te3, q4⟩, ⟨by omega, fun z => by omega, Or.inr rfl⟩, by rw [hlv1, hwl1, List.nil_append]; exact q5, ⟨fun z => by omega, fun _ => ⟨Or.inr rfl, fun z => by omega⟩⟩, hKSe2, ⟨by rw [f2 4 (Or.inl rfl)]; exact k4, by rw [f2 5 (Or.inr rfl)]; exact k5, by rw [q7, (q2 65 (by decide) 12 (by decide)).1]; exact k12⟩, (n4.lv (Or.inl rfl)).lv (Or.inr rfl), ?_, ⟨?_, ?_⟩, ?_, fun i hi => ?_, by omega, ⟨?_, ?_⟩, ?_, hsm⟩ (by rw [hP, q1]) rfl
            · exact n3.c (fun j _ _ => by rw [I_oth (by decide), I_oth (by decide)])
            · rw [I_oth (by decide), I_oth (by decide), (n2 97 (by decide) 41 (by decide)).1]; exact m41
            · rw [I_oth (by decide), I_oth (by decide), (n2 97 (by decide) 40 (by decide)).1]; exact m40
            · exact hQ.cg (by rw [I_oth (by decide), I_oth (by decide), (n2 97 (by decide) 43 (by decide)).1]) (by rw [I_oth (by decide), I_oth (by decide), (n2.row 140 (by decide) (by decide)).1]) (by rw [I_oth (by decide), I_oth (by decide), (n2.row 141 (by decide) (by decide)).1])
            · by_cases z : i = D + 1
              · subst z
                rw [setF_s, setF_s]
                refine ⟨by simp (disch := omega) only [gdn, gb0, gb1, ixn, nm1, nI_add, nI_mul, nsub, nI_ltI, nI_leI, nI_eq, eqNO, eqNO2, ltNO, NOlt, leNO, NOle, if_pos, if_neg, Option.bind_some, if_true, if_false, and_self, eq_self, l0, l1, l2, l3, l4, l5, l6, l7, l8, l9, l10, l11, l12, l13, l14, l15, l16, l17, l18, l19, l20, l24, l26, l30, l31, l32, l40, l41, l42, l43, l45, l47, l48, l57, l58, l59, l60, l61, l62, l63, l64, l97, l99, l100, l101, l102, l103, l104, l105, l106, l107, l108, l109, l110, l122, l160, l240, l255, l600, l1000, l3000, l10000, l10007, l10116, l67108863, l67108864, I_oth, I_J, J_oth, J_I, I_row, J_row, SI_row, SI_oth, SI_J, SJ_row, SJ_oth, SJ_I, upd_s, upd_n, updL_s, updL_n, ne_eq, not_false_eq_true], by simp (disch := omega) only [gdn, gb0, gb1, ixn, nm1, nI_add, nI_mul, nsub, nI_ltI, nI_leI, nI_eq, eqNO, eqNO2, ltNO, NOlt, leNO, NOle, if_pos, if_neg, Option.bind_some, if_true, if_false, and_self, eq_self, l0, l1, l2, l3, l4, l5, l6, l7, l8, l9, l10, l11, l12, l13, l14, l15, l16, l17, l18, l19, l20, l24, l26, l30, l31, l32, l40, l41, l42, l43, l45, l47, l48, l57, l58, l59, l60, l61, l62, l63, l64, l97, l99, l100, l101, l102, l103, l104, l105, l106, l107, l108, l109, l110, l122, l160, l240, l255, l600, l1000, l3000, l10000, l10007, l10116, l67108863, l67108864, I_oth, I_J, J_oth, J_I, I_row, J_row, SI_row, SI_oth, SI_J, SJ_row, SJ_oth, SJ_I, upd_s, upd_n, updL_s, updL_n, ne_eq, not_false_eq_true], Or.inl rfl, Or.inl rfl⟩
              · obtain ⟨y1, y2, y3, y4⟩ := hlev i (by omega)
                rw [setF_n z, setF_n z]
                refine ⟨?_, ?_, y3, y4⟩
                · rw [I_oth (by decide), I_row, upd_n z, (n2.row 142 (by decide) (by decide)).1]; exact y1
                · rw [I_row, upd_n z, I_oth (by decide), (n2.row 143 (by decide) (by decide)).1]; exact y2
            · rw [hlv1, hwl1, List.length_nil, List.length_cons, List.length_append]; have := te4 (by omega); omega
            · rw [hlv1, hwl1, List.length_nil, List.length_cons, List.length_append]; have := te4 (by omega); omega
            · rw [hlv1, hpn1, List.length_nil, Nat.zero_add]; exact hhg
        · have hs40 : X12_isSign (nI 40) wm = nI 0 := by rw [sgnm_e hMT (by omega) (by omega), if_neg t40]
          have hex : lp X12_sum_b18 (nI D, nI 1, wm) = some (.inr (.inr (.inl wm))) ∨ lp X12_sum_b18 (nI D, nI 1, wm) = some (.inl wm) := by
            refine Or.inr (lp_exit ?_)
            unfold X12_sum_b18
            simp (disch := omega) only [gdn, gb0, gb1, ixn, nm1, nI_add, nI_mul, nsub, nI_ltI, nI_leI, nI_eq, eqNO, eqNO2, ltNO, NOlt, leNO, NOle, if_pos, if_neg, Option.bind_some, if_true, if_false, and_self, eq_self, l0, l1, l2, l3, l4, l5, l6, l7, l8, l9, l10, l11, l12, l13, l14, l15, l16, l17, l18, l19, l20, l24, l26, l30, l31, l32, l40, l41, l42, l43, l45, l47, l48, l57, l58, l59, l60, l61, l62, l63, l64, l97, l99, l100, l101, l102, l103, l104, l105, l106, l107, l108, l109, l110, l122, l160, l240, l255, l600, l1000, l3000, l10000, l10007, l10116, l67108863, l67108864, m41, hv, hMT.1, hs40]
          obtain ⟨w2, f1, f2⟩ := fault 2 wm (by omega) (by omega) hKM hMT m41 (fun e he hT h0 => t_noatom (hCXe e he) hs hs109 hT.1 t40 t2 (by omega))
          rcases hex with hex | hex
          · exfalso
            have h2 : lp X12_sum_b18 (nI D, nI 1, wm) = some (.inl wm) := by
              refine lp_exit ?_
              unfold X12_sum_b18
              simp (disch := omega) only [gdn, gb0, gb1, ixn, nm1, nI_add, nI_mul, nsub, nI_ltI, nI_leI, nI_eq, eqNO, eqNO2, ltNO, NOlt, leNO, NOle, if_pos, if_neg, Option.bind_some, if_true, if_false, and_self, eq_self, l0, l1, l2, l3, l4, l5, l6, l7, l8, l9, l10, l11, l12, l13, l14, l15, l16, l17, l18, l19, l20, l24, l26, l30, l31, l32, l40, l41, l42, l43, l45, l47, l48, l57, l58, l59, l60, l61, l62, l63, l64, l97, l99, l100, l101, l102, l103, l104, l105, l106, l107, l108, l109, l110, l122, l160, l240, l255, l600, l1000, l3000, l10000, l10007, l10116, l67108863, l67108864, m41, hv, hMT.1, hs40]
            rw [h2] at hex
            injection hex with hex
            injection hex
          · rw [hex]
            show ok ((X12_fails (2 : Int32) wm).bind _) _
            rw [show (2 : Int32) = nI 2 from rfl, f1]
            simp only [Option.bind_some]
            rw [gb0]
            exact ok_i (Or.inr f2)
  · sorry
end
