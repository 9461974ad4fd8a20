def pre (F : Nat → Nat) : Nat → List Nat → List Nat
  | 0, l => l
  | k + 1, l => pre F k (F k :: l)
theorem pre_congr {F G : Nat → Nat} : ∀ (k : Nat) (l : List Nat), (∀ j, j < k → F j = G j) → pre F k l = pre G k l
  | 0, _, _ => rfl
  | k + 1, l, h => by unfold pre; rw [h k (by omega)]; exact pre_congr k _ (fun j hj => h j (by omega))
theorem pre_hi {F : Nat → Nat} : ∀ (k : Nat) (l : List Nat) (i : Nat), (pre F k l).getD (k + i) 0 = l.getD i 0
  | 0, l, i => by rw [Nat.zero_add]; rfl
  | k + 1, l, i => by
    unfold pre
    rw [show k + 1 + i = k + (i + 1) by omega, pre_hi k (F k :: l) (i + 1)]
    rfl
theorem pre_lo {F : Nat → Nat} : ∀ (k : Nat) (l : List Nat) (j : Nat), j < k → (pre F k l).getD j 0 = F j
  | 0, _, _, h => by omega
  | k + 1, l, j, h => by
    unfold pre
    by_cases q : j = k
    · subst q
      have := pre_hi (F := F) j (F j :: l) 0
      rw [Nat.add_zero] at this
      rw [this]; rfl
    · exact pre_lo k _ j (by omega)
theorem Sc_le {A : Nat → Nat → Nat} {B : Nat} : ∀ (k : Nat) (l : List Nat), Lc A k l ≤ B → Sc A k l ≤ B * l.length
  | _, [], _ => Nat.zero_le _
  | k, t :: l, h => by
    have h' : max (A k t) (Lc A (k + 1) l) ≤ B := h
    have ih := Sc_le (A := A) (B := B) (k + 1) l (by omega)
    show A k t + Sc A (k + 1) l ≤ B * (l.length + 1)
    rw [Nat.mul_succ]
    omega
theorem Lc_60 {A : Nat → Nat → Nat} (h6 : ∀ k t, A k t < 60 ∨ A k t = 1000) : ∀ (k : Nat) (l : List Nat), Lc A k l < 60 ∨ Lc A k l = 1000
  | _, [] => Or.inl (by show 0 < 60; omega)
  | k, t :: l => by
    have h1 := h6 k t
    have h2 := Lc_60 h6 (k + 1) l
    show max (A k t) (Lc A (k + 1) l) < 60 ∨ max (A k t) (Lc A (k + 1) l) = 1000
    omega
section
variable {A : Nat → Nat → Nat} {M : Nat} {w : Wd}
theorem keep_e {B : Nat} {tn : Nat → Nat} (h6 : ∀ k t, A k t < 60 ∨ A k t = 1000) (hM : M ≤ 7) (hM1 : 1 ≤ M) (hB : B < 60) (h88 : w.1 88 0 = nI M) (h91 : ∀ k t, k < M → t < M → w.1 91 (7 * k + t) = nI (A k t)) (h90 : ∀ t, t < M → w.1 90 t = nI (tn t) ∧ tn t < 20) (h92 : w.1 92 (2 ^ M - 1) = nI B) (h93 : ∀ j, j < 2 ^ M → w.1 93 j = nI (sumF A M B j)) (hlt : sumF A M B (2 ^ M - 1) < 1000) : ∃ f l, X7_keep (nI (2 ^ M - 1)) w = some (puI (seI w 94 f) 88 6 (nI M)) ∧ Gr A M B (sumF A M B) tn (2 ^ M - 1) l ∧ ∀ k, k < M → f k = nI (tn (l.getD k 0)) := by
  have hA : ∀ k t, A k t ≤ 1000 := fun k t => by have := h6 k t; omega
  have hp := pow7 hM
  have hp1 := Nat.two_pow_pos M
  have hP := sumF_s (A := A) (B := B) hM
  have key := lp_up (b := X7_keep_b4 (nI (2 ^ M - 1))) (Q := fun e => ∃ f l, e = seI w 94 f ∧ Gr A M B (sumF A M B) tn (2 ^ M - 1) l ∧ ∀ k, k < M → f k = nI (tn (l.getD k 0))) (fun k st => ∃ (s : Nat) (F : Nat → Nat) (f : Nat → Int32), st = (nI s, nI k, seI w 94 f) ∧ s < 2 ^ M ∧ pcN 15 s = M - k ∧ sumF A M B s < 1000 ∧ (∀ j, j < k → f j = nI (tn (F j))) ∧ ∀ l2, Gr A M B (sumF A M B) tn s l2 → Gr A M B (sumF A M B) tn (2 ^ M - 1) (pre F k l2)) M ?_ ?_ 0 (nI (2 ^ M - 1), nI 0, w) (Nat.zero_le _) ⟨2 ^ M - 1, fun _ => 0, w.1 94, by rw [seI_same rfl], by omega, pc_all M (by omega), hlt, fun j hj => by omega, fun l2 h => h⟩
  · obtain ⟨e, he, f, l, rfl, hg, hf⟩ := key
    refine ⟨f, l, ?_, hg, hf⟩
    have r88 : (seI w 94 f).1 88 0 = nI M := h88
    unfold X7_keep
    rw [show (0 : Int32) = nI 0 from rfl, he]
    simp only [Option.bind_some]
    rw [r88]
  · rintro k st hk ⟨s, F, f, rfl, hs, hpc, hsl, hf, hg⟩
    have r88 : (seI w 94 f).1 88 0 = nI M := h88
    have hs0 : s ≠ 0 := by
      intro z
      rw [z, pc_0] at hpc
      omega
    obtain ⟨ll, x1, x2, x3⟩ := (hP s hs).2.2 hsl
    have hex : ∃ t, t < M ∧ cand A M B (sumF A M B) s t := by
      cases ll with
      | nil => exact (hs0 x1).elim
      | cons t ll => exact ⟨t, x1.1, (cand_of hM hP hs hsl x1 x2 x3).1⟩
    obtain ⟨b, hb, hlp, hcb, hmb⟩ := keepI_e (w := seI w 94 f) (tn := tn) (a3 := nI k) hA hM (by omega) h88 h91 h90 h92 h93 hs hex
    obtain ⟨e90, b90⟩ := h90 b hb
    have r90 : (seI w 94 f).1 90 b = nI (tn b) := e90
    have hc := clr_e (s := s) (t := b) (by omega) (by omega) hcb.1
    have hsh := shl1 (k := b) (by omega)
    have hpc2 := pc_sub 15 s b (by omega) hcb.1
    have hs2 : s - 2 ^ b < 2 ^ M := Nat.lt_of_le_of_lt (Nat.sub_le _ _) hs
    refine ⟨.inl (nI (s - 2 ^ b), nI (k + 1), seI w 94 (upd f k (nI (tn b)))), ?_, s - 2 ^ b, (fun j => if j = k then b else F j), upd f k (nI (tn b)), rfl, hs2, by omega, by have := hcb.2.2; omega, fun j hj => ?_, fun l2 h2 => ?_⟩
    · unfold X7_keep_b4 X7_keep_j155
      simp (disch := omega) only [gdn, gb0, gb1, ixn, nm1, nI_add, nI_mul, nsub, nI_ltI, nI_leI, nI_eq, eqNO, eqNO2, ltNO, NOlt, leNO, NOle, if_pos, if_neg, Option.bind_some, if_true, if_false, and_self, eq_self, l0, l1, l2, l3, l4, l5, l6, l7, l8, l9, l10, l11, l12, l13, l14, l15, l16, l17, l18, l19, l20, l24, l26, l30, l31, l32, l40, l41, l42, l43, l45, l47, l48, l57, l58, l59, l60, l61, l62, l63, l64, l97, l99, l100, l101, l102, l103, l104, l105, l106, l107, l108, l109, l110, l122, l160, l240, l255, l600, l1000, l3000, l10000, l10007, l10116, l67108863, l67108864, r88, hlp, r90, pu_seI, hsh, hc]
    · by_cases q : j = k
      · rw [q, upd_s]
        show _ = nI (tn (if k = k then b else F k))
        rw [if_pos rfl]
      · rw [upd_n q]
        show _ = nI (tn (if j = k then b else F j))
        rw [if_neg q]; exact hf j (by omega)
    · have h3 := hg (b :: l2) ⟨hb, hcb, hmb, h2⟩
      show Gr A M B (sumF A M B) tn (2 ^ M - 1) (pre (fun j => if j = k then b else F j) k ((if k = k then b else F k) :: l2))
      rw [if_pos rfl, pre_congr (G := F) k _ (fun j hj => if_neg (by omega))]
      exact h3
  · rintro st ⟨s, F, f, rfl, hs, hpc, hsl, hf, hg⟩
    have r88 : (seI w 94 f).1 88 0 = nI M := h88
    have hs0 : s = 0 := pc_pos 15 s (by have : (2 : Nat) ^ 15 = 32768 := by decide
                                        omega) (by omega)
    refine ⟨.inr (seI w 94 f), ?_, f, pre F M [], rfl, hg [] hs0, fun k hk => ?_⟩
    · unfold X7_keep_b4
      simp (disch := omega) only [gdn, gb0, gb1, ixn, nm1, nI_add, nI_mul, nsub, nI_ltI, nI_leI, nI_eq, eqNO, eqNO2, ltNO, NOlt, leNO, NOle, if_pos, if_neg, Option.bind_some, if_true, if_false, and_self, eq_self, l0, l1, l2, l3, l4, l5, l6, l7, l8, l9, l10, l11, l12, l13, l14, l15, l16, l17, l18, l19, l20, l24, l26, l30, l31, l32, l40, l41, l42, l43, l45, l47, l48, l57, l58, l59, l60, l61, l62, l63, l64, l97, l99, l100, l101, l102, l103, l104, l105, l106, l107, l108, l109, l110, l122, l160, l240, l255, l600, l1000, l3000, l10000, l10007, l10116, l67108863, l67108864, r88]
    · rw [pre_lo M [] k hk]; exact hf k hk
theorem choose_c {tn : Nat → Nat} (h6 : ∀ k t, A k t < 60 ∨ A k t = 1000) (hM : M ≤ 7) (hM1 : 1 ≤ M) (h88 : w.1 88 0 = nI M) (h91 : ∀ k t, k < M → t < M → w.1 91 (7 * k + t) = nI (A k t)) (h90 : ∀ t, t < M → w.1 90 t = nI (tn t) ∧ tn t < 20) (hinj : ∀ a b, a < M → b < M → tn a = tn b → a = b) : ((∀ l, En M (2 ^ M - 1) l → Lc A 0 l = 1000) ∧ ∃ w', X7_choose w = some (NO, w') ∧ w'.1 94 = w.1 94 ∧ w'.1 88 6 = w.1 88 6) ∨ ∃ l w', Opt A M tn l ∧ Lc A 0 l < 60 ∧ X7_choose w = some (nI (Lc A 0 l), w') ∧ w'.1 88 6 = nI M ∧ ∀ k, k < M → w'.1 94 k = nI (tn (l.getD k 0)) := by
  have hA : ∀ k t, A k t ≤ 1000 := fun k t => by have := h6 k t; omega
  have hp := pow7 hM
  have hp1 := Nat.two_pow_pos M
  have h2M : 2 ≤ 2 ^ M := Nat.le_trans (by decide : 2 ≤ 2 ^ 1) (Nat.pow_le_pow_right (by omega) hM1)
  have hall := latF_s (A := A) hA hM (2 ^ M - 1) (by omega)
  have hz : ((nI 1) <<< (nI M &&& nI 31)) - nI 1 = nI (2 ^ M - 1) := by rw [shl1 (by omega), nsub (by omega)]
  generalize hw3 : puI (puI w 92 0 (nI 0)) 93 0 (nI 0) = w3
  have t88 : w3.1 88 0 = nI M := by rw [← hw3]; exact h88
  have t91 : ∀ k t, k < M → t < M → w3.1 91 (7 * k + t) = nI (A k t) := by rw [← hw3]; exact h91
  have t90 : ∀ t, t < M → w3.1 90 t = nI (tn t) ∧ tn t < 20 := by rw [← hw3]; exact h90
  have t92 : w3.1 92 0 = nI (latF A M 0) := by rw [← hw3, latF_e pLat_0]; rfl
  have t93 : ∀ B, w3.1 93 0 = nI (sumF A M B 0) := fun B => by rw [← hw3, sumF_e pSum_0]; rfl
  -- the least latest ones
  have hlp1 := lp_for (b := X7_choose_b25 (nI (2 ^ M - 1))) (fun i => (nI (i + 1), seI w3 92 (rwN (i + 1) (latF A M) (w3.1 92)))) (2 ^ M - 1) (e := seI w3 92 (rwN (2 ^ M) (latF A M) (w3.1 92))) (fun i hi => by
    have hl := leastL_e (w := seI w3 92 (rwN (i + 1) (latF A M) (w3.1 92))) hA hM t88 t91 (s := i + 1) (by omega) (by omega) (fun j hj => by rw [SI_row]; exact rwN_lt hj)
    have hup : upd (rwN (i + 1) (latF A M) (w3.1 92)) (i + 1) (nI (latF A M (i + 1))) = rwN (i + 1 + 1) (latF A M) (w3.1 92) := by
      funext j
      unfold upd rwN
      by_cases q : j = i + 1
      · rw [if_pos q, if_pos (by omega), q]
      · rw [if_neg q]
        by_cases z : j < i + 1
        · rw [if_pos z, if_pos (by omega)]
        · rw [if_neg z, if_neg (by omega)]
    generalize hall : 2 ^ M - 1 = al at hi
    unfold X7_choose_b25
    simp (disch := omega) only [gdn, gb0, gb1, ixn, nm1, nI_add, nI_mul, nsub, nI_ltI, nI_leI, nI_eq, eqNO, eqNO2, ltNO, NOlt, leNO, NOle, if_pos, if_neg, Option.bind_some, if_true, if_false, and_self, eq_self, l0, l1, l2, l3, l4, l5, l6, l7, l8, l9, l10, l11, l12, l13, l14, l15, l16, l17, l18, l19, l20, l24, l26, l30, l31, l32, l40, l41, l42, l43, l45, l47, l48, l57, l58, l59, l60, l61, l62, l63, l64, l97, l99, l100, l101, l102, l103, l104, l105, l106, l107, l108, l109, l110, l122, l160, l240, l255, l600, l1000, l3000, l10000, l10007, l10116, l67108863, l67108864, hl, pu_seI, hup]) (by
    rw [show 2 ^ M - 1 + 1 = 2 ^ M by omega]
    unfold X7_choose_b25
    rw [if_pos (by rw [nI_ltI (by omega) (by omega)]; omega)]) 0 (Nat.zero_le _)
  rw [show rwN (0 + 1) (latF A M) (w3.1 92) = w3.1 92 from rwN_id (fun j hj => by rw [show j = 0 by omega]; exact t92), seI_same rfl] at hlp1
  have r92 : ∀ j, j < 2 ^ M → rwN (2 ^ M) (latF A M) (w3.1 92) j = nI (latF A M j) := fun j hj => rwN_lt hj
  have hr := r92 (2 ^ M - 1) (by omega)
  by_cases hB : latF A M (2 ^ M - 1) < 1000
  · right
    obtain ⟨ll, x1, x2⟩ := hall.2.2
    have hpM := pc_all M (by omega)
    have hB60 : latF A M (2 ^ M - 1) < 60 := by
      have := Lc_60 h6 (M - pcN 15 (2 ^ M - 1)) ll
      omega
    generalize hBB : latF A M (2 ^ M - 1) = B at *
    generalize hw4 : seI w3 92 (rwN (2 ^ M) (latF A M) (w3.1 92)) = w4 at *
    have f88 : w4.1 88 0 = nI M := by rw [← hw4]; exact t88
    have f91 : ∀ k t, k < M → t < M → w4.1 91 (7 * k + t) = nI (A k t) := by rw [← hw4]; exact t91
    have f90 : ∀ t, t < M → w4.1 90 t = nI (tn t) ∧ tn t < 20 := by rw [← hw4]; exact t90
    have f92 : w4.1 92 (2 ^ M - 1) = nI B := by rw [← hw4, SI_row]; exact hr
    have f93 : w4.1 93 0 = nI (sumF A M B 0) := by rw [← hw4]; exact t93 B
    have hlp2 := lp_for (b := X7_choose_b63 (nI (2 ^ M - 1))) (fun i => (nI (i + 1), seI w4 93 (rwN (i + 1) (sumF A M B) (w4.1 93)))) (2 ^ M - 1) (e := seI w4 93 (rwN (2 ^ M) (sumF A M B) (w4.1 93))) (fun i hi => by
      have hl := leastS_e (w := seI w4 93 (rwN (i + 1) (sumF A M B) (w4.1 93))) (B := B) hA hM (by omega) f88 f91 (s := i + 1) (by omega) (by omega) (fun j hj => by rw [SI_row]; exact rwN_lt hj)
      have hup : upd (rwN (i + 1) (sumF A M B) (w4.1 93)) (i + 1) (nI (sumF A M B (i + 1))) = rwN (i + 1 + 1) (sumF A M B) (w4.1 93) := by
        funext j
        unfold upd rwN
        by_cases q : j = i + 1
        · rw [if_pos q, if_pos (by omega), q]
        · rw [if_neg q]
          by_cases z : j < i + 1
          · rw [if_pos z, if_pos (by omega)]
          · rw [if_neg z, if_neg (by omega)]
      have r : (seI w4 93 (rwN (i + 1) (sumF A M B) (w4.1 93))).1 92 (2 ^ M - 1) = nI B := f92
      have hal : 2 ^ M - 1 < 128 := by omega
      generalize hall2 : 2 ^ M - 1 = al at hi r hal
      unfold X7_choose_b63
      simp (disch := omega) only [gdn, gb0, gb1, ixn, nm1, nI_add, nI_mul, nsub, nI_ltI, nI_leI, nI_eq, eqNO, eqNO2, ltNO, NOlt, leNO, NOle, if_pos, if_neg, Option.bind_some, if_true, if_false, and_self, eq_self, l0, l1, l2, l3, l4, l5, l6, l7, l8, l9, l10, l11, l12, l13, l14, l15, l16, l17, l18, l19, l20, l24, l26, l30, l31, l32, l40, l41, l42, l43, l45, l47, l48, l57, l58, l59, l60, l61, l62, l63, l64, l97, l99, l100, l101, l102, l103, l104, l105, l106, l107, l108, l109, l110, l122, l160, l240, l255, l600, l1000, l3000, l10000, l10007, l10116, l67108863, l67108864, r, hl, pu_seI, hup]) (by
      rw [show 2 ^ M - 1 + 1 = 2 ^ M by omega]
      unfold X7_choose_b63
      rw [if_pos (by rw [nI_ltI (by omega) (by omega)]; omega)]) 0 (Nat.zero_le _)
    rw [show rwN (0 + 1) (sumF A M B) (w4.1 93) = w4.1 93 from rwN_id (fun j hj => by rw [show j = 0 by omega]; exact f93), seI_same rfl] at hlp2
    have hP := sumF_s (A := A) (B := B) hM
    have hlt : sumF A M B (2 ^ M - 1) < 1000 := by
      have h1 := (hP (2 ^ M - 1) (by omega)).2.1 ll x1 (by omega)
      have h2 := Sc_le (A := A) (B := 59) (M - pcN 15 (2 ^ M - 1)) ll (by omega)
      have h3 := En_len (by omega) ll _ x1
      rw [hpM] at h3
      rw [h3] at h2
      omega
    obtain ⟨f, l, hk, hg, hf⟩ := keep_e (w := seI w4 93 (rwN (2 ^ M) (sumF A M B) (w4.1 93))) (tn := tn) h6 hM hM1 hB60 f88 f91 f90 f92 (fun j hj => by rw [SI_row]; exact rwN_lt hj) hlt
    obtain ⟨ho, hL⟩ := Gr_opt (A := A) (tn := tn) hM hall hB60 hP hinj hlt hg
    refine ⟨l, puI (seI (seI w4 93 (rwN (2 ^ M) (sumF A M B) (w4.1 93))) 94 f) 88 6 (nI M), ho, by omega, ?_, rfl, fun k hk2 => hf k hk2⟩
    have q92 : (puI (seI (seI w4 93 (rwN (2 ^ M) (sumF A M B) (w4.1 93))) 94 f) 88 6 (nI M)).1 92 (2 ^ M - 1) = nI B := f92
    have hal : 2 ^ M - 1 < 128 := by omega
    rw [hL]
    unfold X7_choose
    generalize hall2 : 2 ^ M - 1 = al at *
    simp (disch := omega) only [gdn, gb0, gb1, ixn, nm1, nI_add, nI_mul, nsub, nI_ltI, nI_leI, nI_eq, eqNO, eqNO2, ltNO, NOlt, leNO, NOle, if_pos, if_neg, Option.bind_some, if_true, if_false, and_self, eq_self, l0, l1, l2, l3, l4, l5, l6, l7, l8, l9, l10, l11, l12, l13, l14, l15, l16, l17, l18, l19, l20, l24, l26, l30, l31, l32, l40, l41, l42, l43, l45, l47, l48, l57, l58, l59, l60, l61, l62, l63, l64, l97, l99, l100, l101, l102, l103, l104, l105, l106, l107, l108, l109, l110, l122, l160, l240, l255, l600, l1000, l3000, l10000, l10007, l10116, l67108863, l67108864, h88, hz, hw3, hlp1, f92, hlp2, hk, q92]
  · left
    have hBe : latF A M (2 ^ M - 1) = 1000 := by have := hall.1; omega
    refine ⟨fun l hl => ?_, seI w3 92 (rwN (2 ^ M) (latF A M) (w3.1 92)), ?_, by rw [← hw3]; rfl, by rw [← hw3]; rfl⟩
    · have h1 := hall.2.1 l hl
      rw [pc_all M (by omega), Nat.sub_self] at h1
      have h2 := Lc_le hA 0 l
      omega
    · have q92 : (seI w3 92 (rwN (2 ^ M) (latF A M) (w3.1 92))).1 92 (2 ^ M - 1) = nI 1000 := by rw [SI_row, hr, hBe]
      have hal : 2 ^ M - 1 < 128 := by omega
      unfold X7_choose
      generalize hall2 : 2 ^ M - 1 = al at *
      simp (disch := omega) only [gdn, gb0, gb1, ixn, nm1, nI_add, nI_mul, nsub, nI_ltI, nI_leI, nI_eq, eqNO, eqNO2, ltNO, NOlt, leNO, NOle, if_pos, if_neg, Option.bind_some, if_true, if_false, and_self, eq_self, l0, l1, l2, l3, l4, l5, l6, l7, l8, l9, l10, l11, l12, l13, l14, l15, l16, l17, l18, l19, l20, l24, l26, l30, l31, l32, l40, l41, l42, l43, l45, l47, l48, l57, l58, l59, l60, l61, l62, l63, l64, l97, l99, l100, l101, l102, l103, l104, l105, l106, l107, l108, l109, l110, l122, l160, l240, l255, l600, l1000, l3000, l10000, l10007, l10116, l67108863, l67108864, h88, hz, hw3, hlp1, q92]
end
