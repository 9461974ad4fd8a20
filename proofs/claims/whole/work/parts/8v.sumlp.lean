section
variable {c : Nat → Nat} {n : Nat}
def v1 (x : Nat) : List Nat := if x = 0 then [] else [x]
theorem lv_v (x y : Nat) : lv x y = v1 x ++ v1 y := rfl
theorem v1_mem {x y : Nat} (h : y ∈ v1 x) : y = x ∧ ¬ x = 0 := by
  unfold v1 at h
  by_cases q : x = 0
  · rw [if_pos q] at h; cases h
  · rw [if_neg q] at h; exact ⟨List.mem_singleton.mp h, q⟩
theorem v1_opc {z : Nat} : (v1 z).map opc = if z = 0 then [] else [opc z] := by
  unfold v1
  by_cases q : z = 0
  · rw [if_pos q, if_pos q]; rfl
  · rw [if_neg q, if_neg q]; rfl
theorem setF_lt {g : Nat → Nat} {D v : Nat} : ∀ i, i < D → setF g D v i = g i := fun i hi => setF_n (by omega)
theorem sum_lp (hn : n ≤ 600) {w0c w0m : Wd} (hW : IW w0c) (hB : ∀ i, i < n → BY (w0c.1 66 i) (c i)) (hMB : MB c n w0m) {W0 : List Nat} (hW0 : ∀ x, W0.head? = some x → bnd x < 5) (hWl : W0.length ≤ 8) {A0 S0 KA KB p0 sm : Nat} (hKA : KA ≤ 2400) (hKB : KB ≤ 2400) (h12 : w0c.1 65 12 = nI sm) {P : Option Wd} (st p : Nat) (wc wm : Wd) (D a s : Nat) (it si : Nat → Nat) (C : List Nat) (h : SJ c n w0c w0m W0 A0 S0 KA KB p0 st p wc wm D a s it si C) (hP : P = PS n st wc) : ok ((lp X12_sum_b18 (nI D, nI a, wm)).bind smK) (fun r => SP c n w0c w0m W0 A0 S0 KA KB p0 P r ∨ FP (KS A0 w0c) (KM S0 w0m) P r) := by
  induction hμ : n - p using Nat.strongRecOn generalizing st p wc wm D a s it si C with
  | _ μ ih =>
  obtain ⟨⟨g1, g2, g3⟩, ⟨g4, g5, g6⟩, hCX, ⟨hs0, hs1⟩, hKS, ⟨k4, k5, k12⟩, hKM, hMT, ⟨m41, m40⟩, hQ, hlev, hD, ⟨bA, bS⟩, hhg, hsm⟩ := h
  have hWc : IW wc := fun i hi => by rw [hKS.rows.2]; exact hW i hi
  have hBc : ∀ i, i < n → BY (wc.1 66 i) (c i) := by rw [hKS.rows.1]; exact hB
  have hMBm : MB c n wm := hKM.mb hMB
  have hr := tk_rng (c := c) (n := n) p
  obtain ⟨te1, te2, te3, te4⟩ := te_s (c := c) g2
  have hll := lv_len (it D) (si D)
  have hpl := pnd_le (it := it) (si := si) D
  have hwl := wlb_len (it := it) (si := si) (W := W0) D
  -- a fault on both sides
  have fault : ∀ (k : Nat) (wm' : Wd), 1 ≤ k → k ≤ 6 → KM S0 w0m wm' → MT c n p wm' → wm'.1 97 41 = nI 0 → (∀ e, Fr [] f5 wc e → TC c n p e → ¬ tk c n p = 0 → X6_take e = some (nI k, e)) → ∃ w2, X12_fails (nI k) wm' = some (nI 0, w2) ∧ FP (KS A0 w0c) (KM S0 w0m) P (nI 0, w2) := by
    intro k wm' hk1 hk6 hKM' hMT' h41 ht
    obtain ⟨w2, f1, f2, f3, f4⟩ := fails_e hMT' h41 (k := k)
    obtain ⟨e, e1, e2, e3, e4⟩ := cfault hn hWc hBc g1 g2 g3 hk1 hk6 ht
    refine ⟨w2, f1, rfl, _, _, e, ?_, ?_, ?_, f2, f3, hKM'.fails f4, by rw [hP]; exact e1, e2, e3, hKS.fr7 e4⟩
    · split <;> omega
    · split <;> omega
    · omega
  -- the model's next TOKEN behind a change
  have nx : ∀ wm' : Wd, KM S0 w0m wm' → MT c n p wm' → ¬ tk c n p = 1 → ∃ w', X12_next wm' = some w' ∧ Fr [] [(97, 35), (97, 36), (97, 37), (97, 38)] wm' w' ∧ MT c n (te c n p) w' ∧ KM S0 w0m w' := by
    intro wm' a1 a2 _
    obtain ⟨w', b1, b2, b3⟩ := nxt hn (a1.mb hMB) g2 a2.2.2.1
    exact ⟨w', b1, b2, b3, a1.nx b2⟩
  have lev0 := hlev D (Nat.le_refl _)
  by_cases ha : a = 1
  · subst ha
    obtain ⟨hs, hs109⟩ := hs1 rfl
    have hCXe : ∀ e, Fr [] f5 wc e → CX e s D (lv (it D) (si D) ++ wlb it si W0 D) A0 C := fun e he => hCX.scan he
    have hv := vars_e hn hMBm g2 hMT
    -- an atom
    have atom : ∀ x : Nat, x < 10007 → X12_sum_b18 (nI D, nI 1, wm) = X12_sum_j74 (nI D) (dec2 x) (dec1 x) wm → ¬ tk c n p = 0 → ¬ tk c n p = 1 → (∀ e, Fr [] f5 wc e → TC c n p e → ∃ e2, X6_take e = some (nI 0, e2) ∧ CX e2 9 D (lv (it D) (si D) ++ wlb it si W0 D) A0 (C ++ [x]) ∧ KT A0 e e2 ∧ e2.1 65 12 = e.1 65 12) → ok ((lp X12_sum_b18 (nI D, nI 1, wm)).bind smK) (fun r => SP c n w0c w0m W0 A0 S0 KA KB p0 P r ∨ FP (KS A0 w0c) (KM S0 w0m) P r) := by
      intro x hx hmod h0 h1 hcl
      obtain ⟨e, e2, q1, q2, q3, q4, q5, q6, q7⟩ := cstep (st := st) hn hWc hBc g1 g2 g3 h0 h1 (Q := fun e e2 => CX e2 9 D (lv (it D) (si D) ++ wlb it si W0 D) A0 (C ++ [x]) ∧ KT A0 e e2 ∧ e2.1 65 12 = e.1 65 12) (fun e he hT => by
        obtain ⟨e2, z1, z2, z3, z4⟩ := hcl e he hT
        exact ⟨e2, z1, z3.f76.1, z3.f76.2, z2, z3, z4⟩)
      obtain ⟨w1, p1, p2, p3, p4⟩ := puts_e hQ x (by omega)
      have hMT1 : MT c n p w1 := hMT.c (fun j h1 h2 => (p3 97 (by decide) j (by simp only [List.mem_cons, List.not_mem_nil, or_false, Prod.mk.injEq]; omega)).1)
      obtain ⟨w2, n1, n2, n3, n4⟩ := nx w1 (hKM.tr p4) hMT1 h1
      have hstep : X12_sum_b18 (nI D, nI 1, wm) = some (.inl (nI D, nI 0, w2)) := by
        rw [hmod]
        unfold X12_sum_j74
        rw [p1]
        simp only [Option.bind_some]
        rw [n1]
        rfl
      rw [lp_step hstep]
      have hKSe2 : KS A0 w0c e2 := KT.ks (hKS.scan q2) q6
      have f2 : ∀ k, k = 4 ∨ k = 5 → e2.1 65 k = wc.1 65 k := fun k hk => by
        rw [(q6.1 65 (by decide) k (by rcases hk with e | e <;> subst e <;> decide)).1, (q2 65 (by decide) k (by rcases hk with e | e <;> subst e <;> decide)).1]
      refine ih (n - te c n p) (by have := te4 h1; omega) (st + 1) (te c n p) e2 w2 D 0 9 it si (C ++ [x]) ⟨⟨by have := te4 h1; omega, te3, q4⟩, ⟨by omega, fun _ => by have := te4 h1; omega, Or.inl rfl⟩, q5, ⟨fun _ => rfl, fun z => by omega⟩, hKSe2, ⟨by rw [f2 4 (Or.inl rfl)]; exact k4, by rw [f2 5 (Or.inr rfl)]; exact k5, by rw [q7, (q2 65 (by decide) 12 (by decide)).1]; exact k12⟩, n4, n3, ⟨?_, ?_⟩, ?_, fun i hi => ?_, hD, ⟨?_, ?_⟩, ?_, ?_⟩ (by rw [hP, q1]) rfl
      · rw [(n2 97 (by decide) 41 (by decide)).1, (p3 97 (by decide) 41 (by decide)).1]; exact m41
      · rw [(n2 97 (by decide) 40 (by decide)).1, (p3 97 (by decide) 40 (by decide)).1]; exact m40
      · exact p2.cg (n2 97 (by decide) 43 (by decide)).1 (n2.row 140 (by decide) (by decide)).1 (n2.row 141 (by decide) (by decide)).1
      · rw [(n2.row 142 (by decide) (by decide)).1, (n2.row 143 (by decide) (by decide)).1, (p3.row 142 (by decide) (by decide)).1, (p3.row 143 (by decide) (by decide)).1]; exact hlev i hi
      · rw [List.length_append, List.length_singleton]; have := te4 h1; omega
      · rw [List.length_append, List.length_singleton]; have := te4 h1; omega
      · exact hg_push hhg hx (by omega)
      · intro y hy
        rcases List.mem_append.mp hy with z | z
        · exact hsm y z
        · rw [List.mem_singleton.mp z]; exact Or.inl hx
    by_cases t2 : tk c n p = 2
    · have hval := hMT.2.2.2.1 t2
      have hdig : tv c n p < 10000 := by
        have hne : ¬ n ≤ tf c n p := fun z => by
          have : tk c n p = 1 := by unfold tk; rw [if_pos z]
          omega
        have hnl : ¬ isLet (c (tf c n p)) = true := fun z => by
          have : tk c n p = 4 ∨ tk c n p = 3 ∨ 100 ≤ tk c n p := by
            unfold tk
            rw [if_neg hne, if_pos z]
            split
            · omega
            · split <;> omega
          omega
        have hdg : isDig (c (tf c n p)) = true := by
          by_cases z : isDig (c (tf c n p)) = true
          · exact z
          · exfalso
            have : tk c n p = 0 ∨ (40 ≤ tk c n p) := by
              unfold tk
              rw [if_neg hne, if_neg hnl, if_neg z]
              split
              · next h => have := sgn_iff.mp h; omega
              · omega
            omega
        have h4 : de c n p - tf c n p ≤ 4 := by
          by_cases z : de c n p - tf c n p > 4
          · exfalso
            have : tk c n p = 0 := by unfold tk; rw [if_neg hne, if_neg hnl, if_pos hdg, if_pos z]
            omega
          · omega
        obtain ⟨y1, y2, y3, -⟩ := ext_s (P := fun i => isDig (c i)) (n := n) (p := tf c n p) (by omega)
        have hde : de c n p = ext (fun i => isDig (c i)) n (tf c n p) := rfl
        rw [← hde] at y1 y2 y3
        have b1 := nvl_lt (c := c) (q := tf c n p) (de c n p - tf c n p) (fun i hi => y3 _ (by omega) (by omega))
        have b2 : 10 ^ (de c n p - tf c n p) ≤ 10 ^ 4 := Nat.pow_le_pow_right (by omega) h4
        unfold tv
        omega
      refine atom (tv c n p) (by omega) ?_ (by omega) (by omega) (fun e he hT => ?_)
      · have d1 : dec1 (tv c n p) = nI 0 := by unfold dec1; rw [if_pos hdig]
        have d2 : dec2 (tv c n p) = nI (tv c n p) := by unfold dec2; rw [if_pos hdig]
        have hm3 : wm.1 97 35 = nI 3 := by rw [hMT.1, t2]; rfl
        have hvx : vxI (tk c n p) = NO := by unfold vxI; rw [if_neg (by omega)]
        rw [hvx] at hv
        rw [d1, d2]
        unfold X12_sum_b18 X12_sum_j50 X12_sum_j61
        simp (disch := omega) only [gdn, gb0, gb1, ixn, nm1, nI_add, nI_mul, nsub, nI_ltI, nI_leI, nI_eq, eqNO, eqNO2, ltNO, NOlt, leNO, NOle, if_pos, if_neg, Option.bind_some, if_true, if_false, and_self, eq_self, l0, l1, l2, l3, l4, l5, l6, l7, l8, l9, l10, l11, l12, l13, l14, l15, l16, l17, l18, l19, l20, l24, l26, l30, l31, l32, l40, l41, l42, l43, l45, l47, l48, l57, l58, l59, l60, l61, l62, l63, l64, l97, l99, l100, l101, l102, l103, l104, l105, l106, l107, l108, l109, l110, l122, l160, l240, l255, l600, l1000, l3000, l10000, l10007, l10116, l67108863, l67108864, m41, hv, hm3, hval]
      · exact t_num (hCXe e he) hs (by rw [hT.1, t2]) (hT.2.2.2.1 t2) (by omega)
    · by_cases t110 : 110 ≤ tk c n p
      · refine atom (10000 + (tk c n p - 110)) (by omega) ?_ (by omega) (by omega) (fun e he hT => ?_)
        · have d1 : dec1 (10000 + (tk c n p - 110)) = nI 1 := by unfold dec1; rw [if_neg (by omega), if_pos (by omega)]
          have d2 : dec2 (10000 + (tk c n p - 110)) = nI (tk c n p - 110) := by unfold dec2; rw [if_neg (by omega), if_pos (by omega), show 10000 + (tk c n p - 110) - 10000 = tk c n p - 110 by omega]
          have hm3 : wm.1 97 35 = nI 2 := by rw [hMT.1, (mkd2 hr).mpr (by omega)]
          have hvx : vxI (tk c n p) = nI (tk c n p - 110) := by unfold vxI; rw [if_pos t110]
          rw [hvx] at hv
          rw [d1, d2]
          unfold X12_sum_b18 X12_sum_j50 X12_sum_j61
          simp (disch := omega) only [gdn, gb0, gb1, ixn, nm1, nI_add, nI_mul, nsub, nI_ltI, nI_leI, nI_eq, eqNO, eqNO2, ltNO, NOlt, leNO, NOle, if_pos, if_neg, Option.bind_some, if_true, if_false, and_self, eq_self, l0, l1, l2, l3, l4, l5, l6, l7, l8, l9, l10, l11, l12, l13, l14, l15, l16, l17, l18, l19, l20, l24, l26, l30, l31, l32, l40, l41, l42, l43, l45, l47, l48, l57, l58, l59, l60, l61, l62, l63, l64, l97, l99, l100, l101, l102, l103, l104, l105, l106, l107, l108, l109, l110, l122, l160, l240, l255, l600, l1000, l3000, l10000, l10007, l10116, l67108863, l67108864, m41, hv, hm3]
        · exact t_var (hCXe e he) hs hT.1 t110 (by omega) (by omega)
      · have hvx : vxI (tk c n p) = NO := by unfold vxI; rw [if_neg t110]
        rw [hvx] at hv
        have hml := mkd_lt (t := tk c n p)
        have hm3 : ¬ mkd (tk c n p) = 3 := by
          unfold mkd
          (repeat' split) <;> omega
        by_cases t40 : tk c n p = 40
        · have hs40 : X12_isSign (nI 40) wm = nI 1 := by rw [sgnm_e hMT (by omega) (by omega), if_pos t40]
          by_cases hD6 : D = 6
          · have hex : lp X12_sum_b18 (nI D, nI 1, wm) = some (.inr (.inl wm)) := by
              refine lp_exit ?_
              unfold X12_sum_b18
              simp (disch := omega) only [gdn, gb0, gb1, ixn, nm1, nI_add, nI_mul, nsub, nI_ltI, nI_leI, nI_eq, eqNO, eqNO2, ltNO, NOlt, leNO, NOle, if_pos, if_neg, Option.bind_some, if_true, if_false, and_self, eq_self, l0, l1, l2, l3, l4, l5, l6, l7, l8, l9, l10, l11, l12, l13, l14, l15, l16, l17, l18, l19, l20, l24, l26, l30, l31, l32, l40, l41, l42, l43, l45, l47, l48, l57, l58, l59, l60, l61, l62, l63, l64, l97, l99, l100, l101, l102, l103, l104, l105, l106, l107, l108, l109, l110, l122, l160, l240, l255, l600, l1000, l3000, l10000, l10007, l10116, l67108863, l67108864, m41, hv, hMT.1, hs40]
            obtain ⟨w2, f1, f2⟩ := fault 5 wm (by omega) (by omega) hKM hMT m41 (fun e he hT _ => t_deep (hCXe e he) hs (by rw [hT.1, t40]) (by omega) (by omega))
            rw [hex]
            show ok ((X12_fails (5 : Int32) wm).bind _) _
            rw [show (5 : Int32) = nI 5 from rfl, f1]
            simp only [Option.bind_some]
            rw [gb0]
            exact ok_i (Or.inr f2)
          · obtain ⟨e, e2, q1, q2, q3, q4, q5, q6, q7⟩ := cstep (st := st) hn hWc hBc g1 g2 g3 (by omega) (by omega) (Q := fun e e2 => CX e2 8 (D + 1) (40 :: (lv (it D) (si D) ++ wlb it si W0 D)) A0 C ∧ KT A0 e e2 ∧ e2.1 65 12 = e.1 65 12) (fun e he hT => by
              obtain ⟨e2, z1, z2, z3, z4⟩ := t_open (hCXe e he) hs (by rw [hT.1, t40]) (by omega) (by rw [List.length_append]; omega)
              exact ⟨e2, z1, z3.f76.1, z3.f76.2, z2, z3, z4⟩)
            obtain ⟨w2, n1, n2, n3, n4⟩ := nx wm hKM hMT (by omega)
            have hstep : X12_sum_b18 (nI D, nI 1, wm) = some (.inl (nI (D + 1), nI 1, puI (puI w2 142 (D + 1) (nI 0)) 143 (D + 1) (nI 0))) := by
              unfold X12_sum_b18
              simp (disch := omega) only [gdn, gb0, gb1, ixn, nm1, nI_add, nI_mul, nsub, nI_ltI, nI_leI, nI_eq, eqNO, eqNO2, ltNO, NOlt, leNO, NOle, if_pos, if_neg, Option.bind_some, if_true, if_false, and_self, eq_self, l0, l1, l2, l3, l4, l5, l6, l7, l8, l9, l10, l11, l12, l13, l14, l15, l16, l17, l18, l19, l20, l24, l26, l30, l31, l32, l40, l41, l42, l43, l45, l47, l48, l57, l58, l59, l60, l61, l62, l63, l64, l97, l99, l100, l101, l102, l103, l104, l105, l106, l107, l108, l109, l110, l122, l160, l240, l255, l600, l1000, l3000, l10000, l10007, l10116, l67108863, l67108864, m41, hv, hMT.1, hs40, n1]
            rw [lp_step hstep]
            have hKSe2 : KS A0 w0c e2 := KT.ks (hKS.scan q2) q6
            have f2 : ∀ k, k = 4 ∨ k = 5 → e2.1 65 k = wc.1 65 k := fun k hk => by
              rw [(q6.1 65 (by decide) k (by rcases hk with e | e <;> subst e <;> decide)).1, (q2 65 (by decide) k (by rcases hk with e | e <;> subst e <;> decide)).1]
            have hwl1 : wlb (setF it (D + 1) 0) (setF si (D + 1) 0) W0 (D + 1) = 40 :: (lv (it D) (si D) ++ wlb it si W0 D) := by
              rw [wlb_c (it := it) (si := si) (D + 1) (fun i hi => ⟨setF_n (by omega), setF_n (by omega)⟩)]; rfl
            have hpn1 : pnd (setF it (D + 1) 0) (setF si (D + 1) 0) (D + 1) = (lv (it D) (si D)).length + pnd it si D := by
              rw [pnd_c (it := it) (si := si) (D + 1) (fun i hi => ⟨setF_n (by omega), setF_n (by omega)⟩)]; rfl
            have hlv1 : lv (setF it (D + 1) 0 (D + 1)) (setF si (D + 1) 0 (D + 1)) = [] := by rw [setF_s, setF_s]; rfl
            refine ih (n - te c n p) (by have := te4 (by omega); omega) (st + 1) (te c n p) e2 _ (D + 1) 1 8 (setF it (D + 1) 0) (setF si (D + 1) 0) C ⟨⟨by have := te4 (by omega); omega, te3, q4⟩, ⟨by omega, fun z => by omega, Or.inr rfl⟩, by rw [hlv1, hwl1, List.nil_append]; exact q5, ⟨fun z => by omega, fun _ => ⟨Or.inr rfl, fun z => by omega⟩⟩, hKSe2, ⟨by rw [f2 4 (Or.inl rfl)]; exact k4, by rw [f2 5 (Or.inr rfl)]; exact k5, by rw [q7, (q2 65 (by decide) 12 (by decide)).1]; exact k12⟩, (n4.lv (Or.inl rfl)).lv (Or.inr rfl), ?_, ⟨?_, ?_⟩, ?_, fun i hi => ?_, by omega, ⟨?_, ?_⟩, ?_, hsm⟩ (by rw [hP, q1]) rfl
            · exact n3.c (fun j _ _ => by rw [I_oth (by decide), I_oth (by decide)])
            · rw [I_oth (by decide), I_oth (by decide), (n2 97 (by decide) 41 (by decide)).1]; exact m41
            · rw [I_oth (by decide), I_oth (by decide), (n2 97 (by decide) 40 (by decide)).1]; exact m40
            · exact hQ.cg (by rw [I_oth (by decide), I_oth (by decide), (n2 97 (by decide) 43 (by decide)).1]) (by rw [I_oth (by decide), I_oth (by decide), (n2.row 140 (by decide) (by decide)).1]) (by rw [I_oth (by decide), I_oth (by decide), (n2.row 141 (by decide) (by decide)).1])
            · by_cases z : i = D + 1
              · subst z
                rw [setF_s, setF_s]
                refine ⟨by simp (disch := omega) only [gdn, gb0, gb1, ixn, nm1, nI_add, nI_mul, nsub, nI_ltI, nI_leI, nI_eq, eqNO, eqNO2, ltNO, NOlt, leNO, NOle, if_pos, if_neg, Option.bind_some, if_true, if_false, and_self, eq_self, l0, l1, l2, l3, l4, l5, l6, l7, l8, l9, l10, l11, l12, l13, l14, l15, l16, l17, l18, l19, l20, l24, l26, l30, l31, l32, l40, l41, l42, l43, l45, l47, l48, l57, l58, l59, l60, l61, l62, l63, l64, l97, l99, l100, l101, l102, l103, l104, l105, l106, l107, l108, l109, l110, l122, l160, l240, l255, l600, l1000, l3000, l10000, l10007, l10116, l67108863, l67108864, I_oth, I_J, J_oth, J_I, I_row, J_row, SI_row, SI_oth, SI_J, SJ_row, SJ_oth, SJ_I, upd_s, upd_n, updL_s, updL_n, ne_eq, not_false_eq_true], by simp (disch := omega) only [gdn, gb0, gb1, ixn, nm1, nI_add, nI_mul, nsub, nI_ltI, nI_leI, nI_eq, eqNO, eqNO2, ltNO, NOlt, leNO, NOle, if_pos, if_neg, Option.bind_some, if_true, if_false, and_self, eq_self, l0, l1, l2, l3, l4, l5, l6, l7, l8, l9, l10, l11, l12, l13, l14, l15, l16, l17, l18, l19, l20, l24, l26, l30, l31, l32, l40, l41, l42, l43, l45, l47, l48, l57, l58, l59, l60, l61, l62, l63, l64, l97, l99, l100, l101, l102, l103, l104, l105, l106, l107, l108, l109, l110, l122, l160, l240, l255, l600, l1000, l3000, l10000, l10007, l10116, l67108863, l67108864, I_oth, I_J, J_oth, J_I, I_row, J_row, SI_row, SI_oth, SI_J, SJ_row, SJ_oth, SJ_I, upd_s, upd_n, updL_s, updL_n, ne_eq, not_false_eq_true], Or.inl rfl, Or.inl rfl⟩
              · obtain ⟨y1, y2, y3, y4⟩ := hlev i (by omega)
                rw [setF_n z, setF_n z]
                refine ⟨?_, ?_, y3, y4⟩
                · rw [I_oth (by decide), I_row, upd_n z, (n2.row 142 (by decide) (by decide)).1]; exact y1
                · rw [I_row, upd_n z, I_oth (by decide), (n2.row 143 (by decide) (by decide)).1]; exact y2
            · rw [hlv1, hwl1, List.length_nil, List.length_cons, List.length_append]; have := te4 (by omega); omega
            · rw [hlv1, hwl1, List.length_nil, List.length_cons, List.length_append]; have := te4 (by omega); omega
            · rw [hlv1, hpn1, List.length_nil, Nat.zero_add]; exact hhg
        · have hs40 : X12_isSign (nI 40) wm = nI 0 := by rw [sgnm_e hMT (by omega) (by omega), if_neg t40]
          have hex : lp X12_sum_b18 (nI D, nI 1, wm) = some (.inr (.inr (.inl wm))) ∨ lp X12_sum_b18 (nI D, nI 1, wm) = some (.inl wm) := by
            refine Or.inr (lp_exit ?_)
            unfold X12_sum_b18
            simp (disch := omega) only [gdn, gb0, gb1, ixn, nm1, nI_add, nI_mul, nsub, nI_ltI, nI_leI, nI_eq, eqNO, eqNO2, ltNO, NOlt, leNO, NOle, if_pos, if_neg, Option.bind_some, if_true, if_false, and_self, eq_self, l0, l1, l2, l3, l4, l5, l6, l7, l8, l9, l10, l11, l12, l13, l14, l15, l16, l17, l18, l19, l20, l24, l26, l30, l31, l32, l40, l41, l42, l43, l45, l47, l48, l57, l58, l59, l60, l61, l62, l63, l64, l97, l99, l100, l101, l102, l103, l104, l105, l106, l107, l108, l109, l110, l122, l160, l240, l255, l600, l1000, l3000, l10000, l10007, l10116, l67108863, l67108864, m41, hv, hMT.1, hs40]
          obtain ⟨w2, f1, f2⟩ := fault 2 wm (by omega) (by omega) hKM hMT m41 (fun e he hT h0 => t_noatom (hCXe e he) hs hs109 hT.1 t40 t2 (by omega))
          rcases hex with hex | hex
          · exfalso
            have h2 : lp X12_sum_b18 (nI D, nI 1, wm) = some (.inl wm) := by
              refine lp_exit ?_
              unfold X12_sum_b18
              simp (disch := omega) only [gdn, gb0, gb1, ixn, nm1, nI_add, nI_mul, nsub, nI_ltI, nI_leI, nI_eq, eqNO, eqNO2, ltNO, NOlt, leNO, NOle, if_pos, if_neg, Option.bind_some, if_true, if_false, and_self, eq_self, l0, l1, l2, l3, l4, l5, l6, l7, l8, l9, l10, l11, l12, l13, l14, l15, l16, l17, l18, l19, l20, l24, l26, l30, l31, l32, l40, l41, l42, l43, l45, l47, l48, l57, l58, l59, l60, l61, l62, l63, l64, l97, l99, l100, l101, l102, l103, l104, l105, l106, l107, l108, l109, l110, l122, l160, l240, l255, l600, l1000, l3000, l10000, l10007, l10116, l67108863, l67108864, m41, hv, hMT.1, hs40]
            rw [h2] at hex
            injection hex with hex
            injection hex
          · rw [hex]
            show ok ((X12_fails (2 : Int32) wm).bind _) _
            rw [show (2 : Int32) = nI 2 from rfl, f1]
            simp only [Option.bind_some]
            rw [gb0]
            exact ok_i (Or.inr f2)
  · have ha0 : a = 0 := by omega
    subst ha0
    have hs9 : s = 9 := hs0 rfl
    subst hs9
    obtain ⟨lv1, lv2, lvI, lvS⟩ := lev0
    have hit : it D < 100 := by unfold isIt at lvI; omega
    have hsi : si D < 100 := by unfold isSi at lvS; omega
    have hlen : (lv (it D) (si D)).length = (v1 (it D)).length + (v1 (si D)).length := by rw [lv_v, List.length_append]
    rw [lv_v] at hCX
    have m1 : ∀ x ∈ v1 (it D), x = 42 ∨ x = 47 := fun x hx => by
      have := v1_mem hx; unfold isIt at lvI; omega
    have m2 : ∀ x ∈ v1 (si D), x = 43 ∨ x = 45 := fun x hx => by
      have := v1_mem hx; unfold isSi at lvS; omega
    have cls : ∀ (s' D' : Nat) (L' C' : List Nat), ¬ tk c n p = 0 → ¬ tk c n p = 1 → (∀ e, Fr [] f5 wc e → TC c n p e → ∃ e2, X6_take e = some (nI 0, e2) ∧ CX e2 s' D' L' A0 C' ∧ KT A0 e e2 ∧ e2.1 65 12 = e.1 65 12) → ∃ e2, PS n st wc = PS n (st + 1) e2 ∧ e2.1 65 6 = nI (te c n p) ∧ CX e2 s' D' L' A0 C' ∧ KS A0 w0c e2 ∧ (e2.1 65 4 = w0c.1 65 4 ∧ e2.1 65 5 = w0c.1 65 5 ∧ e2.1 65 12 = w0c.1 65 12) := by
      intro s' D' L' C' h0 h1 hcl
      obtain ⟨e, e2, q1, q2, q3, q4, q5, q6, q7⟩ := cstep (st := st) hn hWc hBc g1 g2 g3 h0 h1 (Q := fun e e2 => CX e2 s' D' L' A0 C' ∧ KT A0 e e2 ∧ e2.1 65 12 = e.1 65 12) (fun e he hT => by
        obtain ⟨e2, z1, z2, z3, z4⟩ := hcl e he hT
        exact ⟨e2, z1, z3.f76.1, z3.f76.2, z2, z3, z4⟩)
      have f2 : ∀ k, k = 4 ∨ k = 5 → e2.1 65 k = wc.1 65 k := fun k hk => by
        rw [(q6.1 65 (by decide) k (by rcases hk with e | e <;> subst e <;> decide)).1, (q2 65 (by decide) k (by rcases hk with e | e <;> subst e <;> decide)).1]
      exact ⟨e2, q1, q4, q5, KT.ks (hKS.scan q2) q6, by rw [f2 4 (Or.inl rfl)]; exact k4, by rw [f2 5 (Or.inr rfl)]; exact k5, by rw [q7, (q2 65 (by decide) 12 (by decide)).1]; exact k12⟩
    have hCXe : ∀ e, Fr [] f5 wc e → CX e 9 D ((v1 (it D) ++ v1 (si D)) ++ wlb it si W0 D) A0 C := fun e he => hCX.scan he
    have h12e : ∀ e, Fr [] f5 wc e → e.1 65 12 = nI sm := fun e he => by rw [(he 65 (by decide) 12 (by decide)).1, k12]; exact h12
    -- the model writes what waits of the ITEM
    obtain ⟨w1, p1, p2, p3, p4⟩ := putl hQ hit (by omega)
    rw [← v1_opc] at p2
    have hb1 : X12_sum_b18 (nI D, nI 0, wm) = X12_sum_j157 (nI D) (nI 0) w1 := by
      have p1' := p1
      unfold X12_sum_b18
      by_cases q : it D = 0
      · rw [q] at p1' lv2
        rw [if_pos (show nI 0 = (0 : Int32) from rfl)] at p1'
        injection p1' with p1'
        subst p1'
        simp (disch := omega) only [gdn, gb0, gb1, ixn, nm1, nI_add, nI_mul, nsub, nI_ltI, nI_leI, nI_eq, eqNO, eqNO2, ltNO, NOlt, leNO, NOle, if_pos, if_neg, Option.bind_some, if_true, if_false, and_self, eq_self, l0, l1, l2, l3, l4, l5, l6, l7, l8, l9, l10, l11, l12, l13, l14, l15, l16, l17, l18, l19, l20, l24, l26, l30, l31, l32, l40, l41, l42, l43, l45, l47, l48, l57, l58, l59, l60, l61, l62, l63, l64, l97, l99, l100, l101, l102, l103, l104, l105, l106, l107, l108, l109, l110, l122, l160, l240, l255, l600, l1000, l3000, l10000, l10007, l10116, l67108863, l67108864, m41, lv2]
      · rw [if_neg (show ¬ nI (it D) = (0 : Int32) from by rw [show (0 : Int32) = nI 0 from rfl, nI_eq (by omega) (by omega)]; exact q)] at p1'
        rw [show (0 : Int32) = nI 0 from rfl] at p1'
        simp (disch := omega) only [gdn, gb0, gb1, ixn, nm1, nI_add, nI_mul, nsub, nI_ltI, nI_leI, nI_eq, eqNO, eqNO2, ltNO, NOlt, leNO, NOle, if_pos, if_neg, Option.bind_some, if_true, if_false, and_self, eq_self, l0, l1, l2, l3, l4, l5, l6, l7, l8, l9, l10, l11, l12, l13, l14, l15, l16, l17, l18, l19, l20, l24, l26, l30, l31, l32, l40, l41, l42, l43, l45, l47, l48, l57, l58, l59, l60, l61, l62, l63, l64, l97, l99, l100, l101, l102, l103, l104, l105, l106, l107, l108, l109, l110, l122, l160, l240, l255, l600, l1000, l3000, l10000, l10007, l10116, l67108863, l67108864, m41, lv2, q, p1']
    have hMT1 : MT c n p (puI w1 143 D (nI 0)) := hMT.c (fun j h1 h2 => by rw [I_oth (by decide)]; exact (p3 97 (by decide) j (by simp only [List.mem_cons, List.not_mem_nil, or_false, Prod.mk.injEq]; omega)).1)
    have hKM1 : KM S0 w0m (puI w1 143 D (nI 0)) := (hKM.tr p4).lv (Or.inr rfl)
    have hQ1 : QM (puI w1 143 D (nI 0)) S0 (C ++ (v1 (it D)).map opc) := p2.cg (by rw [I_oth (by decide)]) (by rw [I_oth (by decide)]) (by rw [I_oth (by decide)])
    have h41a : (puI w1 143 D (nI 0)).1 97 41 = nI 0 := by rw [I_oth (by decide), (p3 97 (by decide) 41 (by decide)).1]; exact m41
    have h40a : (puI w1 143 D (nI 0)).1 97 40 = w0m.1 97 40 := by rw [I_oth (by decide), (p3 97 (by decide) 40 (by decide)).1]; exact m40
    have lev1 : ∀ i, i ≤ D → (puI w1 143 D (nI 0)).1 142 i = nI (si i) ∧ (puI w1 143 D (nI 0)).1 143 i = nI (setF it D 0 i) := by
      intro i hi
      obtain ⟨y1, y2, -, -⟩ := hlev i hi
      refine ⟨?_, ?_⟩
      · rw [I_oth (by decide), (p3.row 142 (by decide) (by decide)).1]; exact y1
      · rw [I_row]
        by_cases z : i = D
        · subst z; rw [upd_s, setF_s]
        · rw [upd_n z, setF_n z, (p3.row 143 (by decide) (by decide)).1]; exact y2
    have hC1 : (C ++ (v1 (it D)).map opc).length = C.length + (v1 (it D)).length := by rw [List.length_append, List.length_map]
    have s42 := sgnm_e hMT1 (t := 42) (by omega) (by omega)
    have s47 := sgnm_e hMT1 (t := 47) (by omega) (by omega)
    by_cases tI : tk c n p = 42 ∨ tk c n p = 47
    · -- * or /
      have hval : (puI w1 143 D (nI 0)).1 97 38 = nI (tk c n p) := hMT1.2.2.2.2 (by omega) (by omega)
      obtain ⟨w2, n1, n2, n3, n4⟩ := nx (puI (puI w1 143 D (nI 0)) 143 D (nI (tk c n p))) (hKM1.lv (Or.inr rfl)) (hMT1.c (fun j _ _ => by rw [I_oth (by decide)])) (by omega)
      have hstep : X12_sum_b18 (nI D, nI 0, wm) = some (.inl (nI D, nI 1, w2)) := by
        rw [hb1]
        unfold X12_sum_j157 X12_sum_j182
        rcases tI with e | e
        · rw [if_pos e] at s42
          simp (disch := omega) only [gdn, gb0, gb1, ixn, nm1, nI_add, nI_mul, nsub, nI_ltI, nI_leI, nI_eq, eqNO, eqNO2, ltNO, NOlt, leNO, NOle, if_pos, if_neg, Option.bind_some, if_true, if_false, and_self, eq_self, l0, l1, l2, l3, l4, l5, l6, l7, l8, l9, l10, l11, l12, l13, l14, l15, l16, l17, l18, l19, l20, l24, l26, l30, l31, l32, l40, l41, l42, l43, l45, l47, l48, l57, l58, l59, l60, l61, l62, l63, l64, l97, l99, l100, l101, l102, l103, l104, l105, l106, l107, l108, l109, l110, l122, l160, l240, l255, l600, l1000, l3000, l10000, l10007, l10116, l67108863, l67108864, s42, hval, n1]
        · rw [if_neg (by omega)] at s42
          rw [if_pos e] at s47
          simp (disch := omega) only [gdn, gb0, gb1, ixn, nm1, nI_add, nI_mul, nsub, nI_ltI, nI_leI, nI_eq, eqNO, eqNO2, ltNO, NOlt, leNO, NOle, if_pos, if_neg, Option.bind_some, if_true, if_false, and_self, eq_self, l0, l1, l2, l3, l4, l5, l6, l7, l8, l9, l10, l11, l12, l13, l14, l15, l16, l17, l18, l19, l20, l24, l26, l30, l31, l32, l40, l41, l42, l43, l45, l47, l48, l57, l58, l59, l60, l61, l62, l63, l64, l97, l99, l100, l101, l102, l103, l104, l105, l106, l107, l108, l109, l110, l122, l160, l240, l255, l600, l1000, l3000, l10000, l10007, l10116, l67108863, l67108864, s42, s47, hval, n1]
      rw [lp_step hstep]
      obtain ⟨e2, q1, q4, q5, q6, q7⟩ := cls 8 D (tk c n p :: (v1 (si D) ++ wlb it si W0 D)) (C ++ (v1 (it D)).map opc) (by omega) (by omega) (fun e he hT => by
        have hx := hCXe e he
        rw [List.append_assoc] at hx
        refine t_reck hx hT.1 (by omega) (fun x hx => ?_) (fun x hx => ?_) ?_ (by omega) (by omega) (h12e e he)
        · rw [bnd_42 (m1 x hx), bnd_42 tI]; exact Nat.le_refl _
        · rw [bnd_42 tI]
          by_cases z : si D = 0
          · rw [z] at hx
            have := wlb_head hW0 D x hx
            omega
          · rw [show v1 (si D) = [si D] from if_neg z] at hx
            cases hx
            rw [bnd_43 (m2 _ (by rw [show v1 (si D) = [si D] from if_neg z]; exact List.mem_singleton.mpr rfl))]; omega
        · rw [List.length_append, List.length_append]; omega)
      have hwl1 : wlb (setF it D (tk c n p)) si W0 D = wlb it si W0 D := wlb_c D (fun i hi => ⟨setF_n (by omega), rfl⟩)
      have hpn1 : pnd (setF it D (tk c n p)) si D = pnd it si D := pnd_c D (fun i hi => ⟨setF_n (by omega), rfl⟩)
      have hlv1 : lv (setF it D (tk c n p) D) (si D) = tk c n p :: v1 (si D) := by
        rw [setF_s, lv_v, show v1 (tk c n p) = [tk c n p] from if_neg (by omega)]; rfl
      refine ih (n - te c n p) (by have := te4 (by omega); omega) (st + 1) (te c n p) e2 w2 D 1 8 (setF it D (tk c n p)) si (C ++ (v1 (it D)).map opc) ⟨⟨by have := te4 (by omega); omega, te3, q4⟩, ⟨by omega, fun z => by omega, Or.inr rfl⟩, by rw [hlv1, hwl1]; exact q5, ⟨fun z => by omega, fun _ => ⟨Or.inr rfl, fun z => by omega⟩⟩, q6, q7, n4, n3, ⟨?_, ?_⟩, ?_, fun i hi => ?_, hD, ⟨?_, ?_⟩, ?_, ?_⟩ (by rw [hP, q1]) rfl
      · rw [(n2 97 (by decide) 41 (by decide)).1, I_oth (by decide)]; exact h41a
      · rw [(n2 97 (by decide) 40 (by decide)).1, I_oth (by decide)]; exact h40a
      · exact hQ1.cg (by rw [(n2 97 (by decide) 43 (by decide)).1, I_oth (by decide)]) (by rw [(n2.row 140 (by decide) (by decide)).1, I_oth (by decide)]) (by rw [(n2.row 141 (by decide) (by decide)).1, I_oth (by decide)])
      · obtain ⟨y1, y2⟩ := lev1 i hi
        obtain ⟨-, -, y3, y4⟩ := hlev i hi
        rw [(n2.row 142 (by decide) (by decide)).1, (n2.row 143 (by decide) (by decide)).1]
        refine ⟨by rw [I_oth (by decide)]; exact y1, ?_, ?_, y4⟩
        · rw [I_row]
          by_cases z : i = D
          · subst z; rw [upd_s, setF_s]
          · rw [upd_n z, y2, setF_n z, setF_n z]
        · by_cases z : i = D
          · subst z; rw [setF_s]; exact Or.inr tI
          · rw [setF_n z]; exact y3
      · rw [hlv1, hwl1, hC1, List.length_cons]; have := te4 (by omega); omega
      · rw [hlv1, hwl1, hC1, List.length_cons]; have := te4 (by omega); omega
      · rw [hlv1, hpn1, List.length_cons]
        refine hg_ops (h := (v1 (si D)).length + 1 + pnd it si D + (1 - 1)) ?_ (fun x hx => by have := m1 x hx; omega) (by omega)
        rw [hhg]; congr 1; omega
      · intro y hy
        rcases List.mem_append.mp hy with z | z
        · exact hsm y z
        · obtain ⟨x, hx, rfl⟩ := List.mem_map.mp z
          have := m1 x hx
          exact opc_sm (by omega)
    · -- the model writes what waits of the SUM
      rw [if_neg (by omega)] at s42 s47
      obtain ⟨w4, r1, r2, r3, r4⟩ := putl hQ1 hsi (by rw [hC1]; omega)
      rw [← v1_opc, List.append_assoc, ← List.map_append, ← lv_v] at r2
      have hb2 : X12_sum_b18 (nI D, nI 0, wm) = X12_sum_j221 (nI D) (nI 0) w4 := by
        rw [hb1]
        have r1' := r1
        have l142 := (lev1 D (Nat.le_refl _)).1
        unfold X12_sum_j157
        by_cases q : si D = 0
        · rw [q] at r1' l142
          rw [if_pos (show nI 0 = (0 : Int32) from rfl)] at r1'
          injection r1' with r1'
          subst r1'
          simp (disch := omega) only [gdn, gb0, gb1, ixn, nm1, nI_add, nI_mul, nsub, nI_ltI, nI_leI, nI_eq, eqNO, eqNO2, ltNO, NOlt, leNO, NOle, if_pos, if_neg, Option.bind_some, if_true, if_false, and_self, eq_self, l0, l1, l2, l3, l4, l5, l6, l7, l8, l9, l10, l11, l12, l13, l14, l15, l16, l17, l18, l19, l20, l24, l26, l30, l31, l32, l40, l41, l42, l43, l45, l47, l48, l57, l58, l59, l60, l61, l62, l63, l64, l97, l99, l100, l101, l102, l103, l104, l105, l106, l107, l108, l109, l110, l122, l160, l240, l255, l600, l1000, l3000, l10000, l10007, l10116, l67108863, l67108864, s42, s47, l142]
        · rw [if_neg (show ¬ nI (si D) = (0 : Int32) from by rw [show (0 : Int32) = nI 0 from rfl, nI_eq (by omega) (by omega)]; exact q)] at r1'
          rw [show (0 : Int32) = nI 0 from rfl] at r1'
          simp (disch := omega) only [gdn, gb0, gb1, ixn, nm1, nI_add, nI_mul, nsub, nI_ltI, nI_leI, nI_eq, eqNO, eqNO2, ltNO, NOlt, leNO, NOle, if_pos, if_neg, Option.bind_some, if_true, if_false, and_self, eq_self, l0, l1, l2, l3, l4, l5, l6, l7, l8, l9, l10, l11, l12, l13, l14, l15, l16, l17, l18, l19, l20, l24, l26, l30, l31, l32, l40, l41, l42, l43, l45, l47, l48, l57, l58, l59, l60, l61, l62, l63, l64, l97, l99, l100, l101, l102, l103, l104, l105, l106, l107, l108, l109, l110, l122, l160, l240, l255, l600, l1000, l3000, l10000, l10007, l10116, l67108863, l67108864, s42, s47, l142, q, r1']
      have hMT2 : MT c n p (puI w4 142 D (nI 0)) := hMT1.c (fun j h1 h2 => by rw [I_oth (by decide)]; exact (r3 97 (by decide) j (by simp only [List.mem_cons, List.not_mem_nil, or_false, Prod.mk.injEq]; omega)).1)
      have hKM2 : KM S0 w0m (puI w4 142 D (nI 0)) := (hKM1.tr r4).lv (Or.inl rfl)
      have hQ2 : QM (puI w4 142 D (nI 0)) S0 (C ++ (lv (it D) (si D)).map opc) := r2.cg (by rw [I_oth (by decide)]) (by rw [I_oth (by decide)]) (by rw [I_oth (by decide)])
      have h41b : (puI w4 142 D (nI 0)).1 97 41 = nI 0 := by rw [I_oth (by decide), (r3 97 (by decide) 41 (by decide)).1]; exact h41a
      have h40b : (puI w4 142 D (nI 0)).1 97 40 = w0m.1 97 40 := by rw [I_oth (by decide), (r3 97 (by decide) 40 (by decide)).1]; exact h40a
      have lev2 : ∀ i, i ≤ D → (puI w4 142 D (nI 0)).1 142 i = nI (setF si D 0 i) ∧ (puI w4 142 D (nI 0)).1 143 i = nI (setF it D 0 i) := by
        intro i hi
        obtain ⟨y1, y2⟩ := lev1 i hi
        refine ⟨?_, ?_⟩
        · rw [I_row]
          by_cases z : i = D
          · subst z; rw [upd_s, setF_s]
          · rw [upd_n z, setF_n z, (r3.row 142 (by decide) (by decide)).1]; exact y1
        · rw [I_oth (by decide), (r3.row 143 (by decide) (by decide)).1]; exact y2
      have hC2 : (C ++ (lv (it D) (si D)).map opc).length = C.length + (lv (it D) (si D)).length := by rw [List.length_append, List.length_map]
      have mV : ∀ x ∈ lv (it D) (si D), x = 42 ∨ x = 47 ∨ x = 43 ∨ x = 45 := lv_mem lvI lvS
      rw [← lv_v] at hCXe
      have hg2 : hg 20 (C ++ (lv (it D) (si D)).map opc) 0 = some (pnd it si D + 1) := by
        refine hg_ops ?_ (fun x hx => by have := mV x hx; omega) (by omega)
        rw [hhg]; congr 1; omega
      have sm2 : ∀ x ∈ C ++ (lv (it D) (si D)).map opc, smC x := by
        intro y hy
        rcases List.mem_append.mp hy with z | z
        · exact hsm y z
        · obtain ⟨x, hx, rfl⟩ := List.mem_map.mp z
          exact opc_sm (mV x hx)
      have s43 := sgnm_e hMT2 (t := 43) (by omega) (by omega)
      have s45 := sgnm_e hMT2 (t := 45) (by omega) (by omega)
      by_cases tS : tk c n p = 43 ∨ tk c n p = 45
      · -- + or -
        have hval : (puI w4 142 D (nI 0)).1 97 38 = nI (tk c n p) := hMT2.2.2.2.2 (by omega) (by omega)
        obtain ⟨w2, n1, n2, n3, n4⟩ := nx (puI (puI w4 142 D (nI 0)) 142 D (nI (tk c n p))) (hKM2.lv (Or.inl rfl)) (hMT2.c (fun j _ _ => by rw [I_oth (by decide)])) (by omega)
        have hstep : X12_sum_b18 (nI D, nI 0, wm) = some (.inl (nI D, nI 1, w2)) := by
          rw [hb2]
          unfold X12_sum_j221 X12_sum_j246
          rcases tS with e | e
          · rw [if_pos e] at s43
            simp (disch := omega) only [gdn, gb0, gb1, ixn, nm1, nI_add, nI_mul, nsub, nI_ltI, nI_leI, nI_eq, eqNO, eqNO2, ltNO, NOlt, leNO, NOle, if_pos, if_neg, Option.bind_some, if_true, if_false, and_self, eq_self, l0, l1, l2, l3, l4, l5, l6, l7, l8, l9, l10, l11, l12, l13, l14, l15, l16, l17, l18, l19, l20, l24, l26, l30, l31, l32, l40, l41, l42, l43, l45, l47, l48, l57, l58, l59, l60, l61, l62, l63, l64, l97, l99, l100, l101, l102, l103, l104, l105, l106, l107, l108, l109, l110, l122, l160, l240, l255, l600, l1000, l3000, l10000, l10007, l10116, l67108863, l67108864, s43, hval, n1]
          · rw [if_neg (by omega)] at s43
            rw [if_pos e] at s45
            simp (disch := omega) only [gdn, gb0, gb1, ixn, nm1, nI_add, nI_mul, nsub, nI_ltI, nI_leI, nI_eq, eqNO, eqNO2, ltNO, NOlt, leNO, NOle, if_pos, if_neg, Option.bind_some, if_true, if_false, and_self, eq_self, l0, l1, l2, l3, l4, l5, l6, l7, l8, l9, l10, l11, l12, l13, l14, l15, l16, l17, l18, l19, l20, l24, l26, l30, l31, l32, l40, l41, l42, l43, l45, l47, l48, l57, l58, l59, l60, l61, l62, l63, l64, l97, l99, l100, l101, l102, l103, l104, l105, l106, l107, l108, l109, l110, l122, l160, l240, l255, l600, l1000, l3000, l10000, l10007, l10116, l67108863, l67108864, s43, s45, hval, n1]
        rw [lp_step hstep]
        obtain ⟨e2, q1, q4, q5, q6, q7⟩ := cls 8 D (tk c n p :: wlb it si W0 D) (C ++ (lv (it D) (si D)).map opc) (by omega) (by omega) (fun e he hT => by
          refine t_reck (hCXe e he) hT.1 (by omega) (fun x hx => ?_) (fun x hx => ?_) ?_ (by omega) (by omega) (h12e e he)
          · rw [bnd_43 tS]; exact (bnd_ge (mV x hx)).1
          · rw [bnd_43 tS]; exact wlb_head hW0 D x hx
          · rw [List.length_append]; omega)
        have hwl1 : wlb (setF it D 0) (setF si D (tk c n p)) W0 D = wlb it si W0 D := wlb_c D (fun i hi => ⟨setF_n (by omega), setF_n (by omega)⟩)
        have hpn1 : pnd (setF it D 0) (setF si D (tk c n p)) D = pnd it si D := pnd_c D (fun i hi => ⟨setF_n (by omega), setF_n (by omega)⟩)
        have hlv1 : lv (setF it D 0 D) (setF si D (tk c n p) D) = [tk c n p] := by
          rw [setF_s, setF_s, lv_v, show v1 (tk c n p) = [tk c n p] from if_neg (by omega)]; rfl
        refine ih (n - te c n p) (by have := te4 (by omega); omega) (st + 1) (te c n p) e2 w2 D 1 8 (setF it D 0) (setF si D (tk c n p)) (C ++ (lv (it D) (si D)).map opc) ⟨⟨by have := te4 (by omega); omega, te3, q4⟩, ⟨by omega, fun z => by omega, Or.inr rfl⟩, by rw [hlv1, hwl1]; exact q5, ⟨fun z => by omega, fun _ => ⟨Or.inr rfl, fun z => by omega⟩⟩, q6, q7, n4, n3, ⟨?_, ?_⟩, ?_, fun i hi => ?_, hD, ⟨?_, ?_⟩, ?_, sm2⟩ (by rw [hP, q1]) rfl
        · rw [(n2 97 (by decide) 41 (by decide)).1, I_oth (by decide)]; exact h41b
        · rw [(n2 97 (by decide) 40 (by decide)).1, I_oth (by decide)]; exact h40b
        · exact hQ2.cg (by rw [(n2 97 (by decide) 43 (by decide)).1, I_oth (by decide)]) (by rw [(n2.row 140 (by decide) (by decide)).1, I_oth (by decide)]) (by rw [(n2.row 141 (by decide) (by decide)).1, I_oth (by decide)])
        · obtain ⟨y1, y2⟩ := lev2 i hi
          obtain ⟨-, -, y3, y4⟩ := hlev i hi
          rw [(n2.row 142 (by decide) (by decide)).1, (n2.row 143 (by decide) (by decide)).1]
          refine ⟨?_, by rw [I_oth (by decide)]; exact y2, ?_, ?_⟩
          · rw [I_row]
            by_cases z : i = D
            · subst z; rw [upd_s, setF_s]
            · rw [upd_n z, y1, setF_n z, setF_n z]
          · by_cases z : i = D
            · subst z; rw [setF_s]; exact Or.inl rfl
            · rw [setF_n z]; exact y3
          · by_cases z : i = D
            · subst z; rw [setF_s]; exact Or.inr tS
            · rw [setF_n z]; exact y4
        · rw [hlv1, hwl1, hC2, List.length_singleton]; have := te4 (by omega); omega
        · rw [hlv1, hwl1, hC2, List.length_singleton]; have := te4 (by omega); omega
        · rw [hlv1, hpn1, List.length_singleton, hg2]; congr 1; omega
      · rw [if_neg (by omega)] at s43 s45
        by_cases hD0 : D = 0
        · -- the SUM ends
          subst hD0
          have hex : lp X12_sum_b18 (nI 0, nI 0, wm) = some (.inr (.inr (.inl (puI w4 142 0 (nI 0))))) := by
            refine lp_exit ?_
            rw [hb2]
            unfold X12_sum_j221
            simp (disch := omega) only [gdn, gb0, gb1, ixn, nm1, nI_add, nI_mul, nsub, nI_ltI, nI_leI, nI_eq, eqNO, eqNO2, ltNO, NOlt, leNO, NOle, if_pos, if_neg, Option.bind_some, if_true, if_false, and_self, eq_self, l0, l1, l2, l3, l4, l5, l6, l7, l8, l9, l10, l11, l12, l13, l14, l15, l16, l17, l18, l19, l20, l24, l26, l30, l31, l32, l40, l41, l42, l43, l45, l47, l48, l57, l58, l59, l60, l61, l62, l63, l64, l97, l99, l100, l101, l102, l103, l104, l105, l106, l107, l108, l109, l110, l122, l160, l240, l255, l600, l1000, l3000, l10000, l10007, l10116, l67108863, l67108864, s43, s45]
          rw [hex]
          refine ok_i (Or.inl ⟨rfl, st, p, wc, C, lv (it 0) (si 0), hP, ⟨g1, g2, g3⟩, g5 rfl, ?_, hKS, ⟨k4, k5, k12⟩, ⟨mV, hll⟩, hKM2, hMT2, ⟨h41b, h40b⟩, hQ2, hg2, sm2, by omega, ?_, ?_⟩)
          · rw [lv_v]; exact hCX
          · have : (wlb it si W0 0).length = W0.length := rfl
            omega
          · have : (wlb it si W0 0).length = W0.length := rfl
            omega
        · by_cases t41 : tk c n p = 41
          · -- a bracket ends
            have hs41 : X12_isSign (nI 41) (puI w4 142 D (nI 0)) = nI 1 := by rw [sgnm_e hMT2 (by omega) (by omega), if_pos t41]
            obtain ⟨w2, n1, n2, n3, n4⟩ := nx (puI w4 142 D (nI 0)) hKM2 hMT2 (by omega)
            have hw : X12_want (nI 41) (puI w4 142 D (nI 0)) = some (nI 1, w2) := by
              unfold X12_want
              simp (disch := omega) only [gdn, gb0, gb1, ixn, nm1, nI_add, nI_mul, nsub, nI_ltI, nI_leI, nI_eq, eqNO, eqNO2, ltNO, NOlt, leNO, NOle, if_pos, if_neg, Option.bind_some, if_true, if_false, and_self, eq_self, l0, l1, l2, l3, l4, l5, l6, l7, l8, l9, l10, l11, l12, l13, l14, l15, l16, l17, l18, l19, l20, l24, l26, l30, l31, l32, l40, l41, l42, l43, l45, l47, l48, l57, l58, l59, l60, l61, l62, l63, l64, l97, l99, l100, l101, l102, l103, l104, l105, l106, l107, l108, l109, l110, l122, l160, l240, l255, l600, l1000, l3000, l10000, l10007, l10116, l67108863, l67108864, hs41, n1]
            have hstep : X12_sum_b18 (nI D, nI 0, wm) = some (.inl (nI (D - 1), nI 0, w2)) := by
              rw [hb2]
              unfold X12_sum_j221
              have hdm : nI D + -nI 1 = nI (D - 1) := by rw [← nsub (by omega), Int32.sub_eq_add_neg]
              simp (disch := omega) only [gdn, gb0, gb1, ixn, nm1, nI_add, nI_mul, nsub, nI_ltI, nI_leI, nI_eq, eqNO, eqNO2, ltNO, NOlt, leNO, NOle, if_pos, if_neg, Option.bind_some, if_true, if_false, and_self, eq_self, l0, l1, l2, l3, l4, l5, l6, l7, l8, l9, l10, l11, l12, l13, l14, l15, l16, l17, l18, l19, l20, l24, l26, l30, l31, l32, l40, l41, l42, l43, l45, l47, l48, l57, l58, l59, l60, l61, l62, l63, l64, l97, l99, l100, l101, l102, l103, l104, l105, l106, l107, l108, l109, l110, l122, l160, l240, l255, l600, l1000, l3000, l10000, l10007, l10116, l67108863, l67108864, s43, s45, hw]
              rw [← hdm]; rfl
            rw [lp_step hstep]
            obtain ⟨E, rfl⟩ : ∃ E, D = E + 1 := ⟨D - 1, by omega⟩
            have hwE : wlb it si W0 (E + 1) = 40 :: (lv (it E) (si E) ++ wlb it si W0 E) := rfl
            have hpE : pnd it si (E + 1) = (lv (it E) (si E)).length + pnd it si E := rfl
            rw [hwE, List.length_cons, List.length_append] at hwl bA bS
            obtain ⟨e2, q1, q4, q5, q6, q7⟩ := cls 9 E (lv (it E) (si E) ++ wlb it si W0 E) (C ++ (lv (it (E + 1)) (si (E + 1))).map opc) (by omega) (by omega) (fun e he hT => by
              have hx := hCXe e he
              rw [hwE] at hx
              refine t_close hx (by rw [hT.1, t41]) (fun x hx => ?_) ?_ (by omega) (by omega) (by omega)
              · have := (bnd_ge (mV x hx)).1; omega
              · rw [List.length_append, List.length_cons, List.length_append]; omega)
            rw [show E + 1 - 1 = E from rfl]
            refine ih (n - te c n p) (by have := te4 (by omega); omega) (st + 1) (te c n p) e2 w2 E 0 9 it si (C ++ (lv (it (E + 1)) (si (E + 1))).map opc) ⟨⟨by have := te4 (by omega); omega, te3, q4⟩, ⟨by omega, fun z => by have := te4 (by omega); omega, Or.inl rfl⟩, q5, ⟨fun z => rfl, fun z => by omega⟩, q6, q7, n4, n3, ⟨?_, ?_⟩, ?_, fun i hi => ?_, by omega, ⟨?_, ?_⟩, ?_, sm2⟩ (by rw [hP, q1]) rfl
            · rw [(n2 97 (by decide) 41 (by decide)).1]; exact h41b
            · rw [(n2 97 (by decide) 40 (by decide)).1]; exact h40b
            · exact hQ2.cg (by rw [(n2 97 (by decide) 43 (by decide)).1]) (by rw [(n2.row 140 (by decide) (by decide)).1]) (by rw [(n2.row 141 (by decide) (by decide)).1])
            · obtain ⟨y1, y2⟩ := lev2 i (by omega)
              obtain ⟨-, -, y3, y4⟩ := hlev i (by omega)
              rw [setF_n (by omega)] at y1 y2
              rw [(n2.row 142 (by decide) (by decide)).1, (n2.row 143 (by decide) (by decide)).1]
              exact ⟨y1, y2, y3, y4⟩
            · rw [hC2]; have := te4 (by omega); omega
            · rw [hC2]; have := te4 (by omega); omega
            · rw [hg2, hpE]
          · -- no bracket ends
            have hs41 : X12_isSign (nI 41) (puI w4 142 D (nI 0)) = nI 0 := by rw [sgnm_e hMT2 (by omega) (by omega), if_neg t41]
            obtain ⟨w2, f1, f2⟩ := fault 2 _ (by omega) (by omega) hKM2 hMT2 h41b (fun e he hT h0 => t_badin (hCXe e he) hT.1 (by omega) (by omega) t41 (by omega) (by omega))
            have hw : X12_want (nI 41) (puI w4 142 D (nI 0)) = some (nI 0, w2) := by
              unfold X12_want
              simp (disch := omega) only [gdn, gb0, gb1, ixn, nm1, nI_add, nI_mul, nsub, nI_ltI, nI_leI, nI_eq, eqNO, eqNO2, ltNO, NOlt, leNO, NOle, if_pos, if_neg, Option.bind_some, if_true, if_false, and_self, eq_self, l0, l1, l2, l3, l4, l5, l6, l7, l8, l9, l10, l11, l12, l13, l14, l15, l16, l17, l18, l19, l20, l24, l26, l30, l31, l32, l40, l41, l42, l43, l45, l47, l48, l57, l58, l59, l60, l61, l62, l63, l64, l97, l99, l100, l101, l102, l103, l104, l105, l106, l107, l108, l109, l110, l122, l160, l240, l255, l600, l1000, l3000, l10000, l10007, l10116, l67108863, l67108864, hs41, f1]
            have hex : lp X12_sum_b18 (nI D, nI 0, wm) = some (.inr (.inr (.inr (.inl w2)))) := by
              refine lp_exit ?_
              rw [hb2]
              unfold X12_sum_j221
              simp (disch := omega) only [gdn, gb0, gb1, ixn, nm1, nI_add, nI_mul, nsub, nI_ltI, nI_leI, nI_eq, eqNO, eqNO2, ltNO, NOlt, leNO, NOle, if_pos, if_neg, Option.bind_some, if_true, if_false, and_self, eq_self, l0, l1, l2, l3, l4, l5, l6, l7, l8, l9, l10, l11, l12, l13, l14, l15, l16, l17, l18, l19, l20, l24, l26, l30, l31, l32, l40, l41, l42, l43, l45, l47, l48, l57, l58, l59, l60, l61, l62, l63, l64, l97, l99, l100, l101, l102, l103, l104, l105, l106, l107, l108, l109, l110, l122, l160, l240, l255, l600, l1000, l3000, l10000, l10007, l10116, l67108863, l67108864, s43, s45, hw]
            rw [hex]
            exact ok_i (Or.inr f2)
end
