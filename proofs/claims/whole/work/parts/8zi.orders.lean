theorem IBo.old {w : Wd} (h : IBo w) {t k : Nat} (ht : t < nn w 30 0) (hk : k < nn w 124 t) : nn w 33 t + k < nn w 33 (nn w 30 0) ∧ 20 * t + k < 20 * nn w 30 0 := by
  obtain ⟨a1, a2, a3, a4⟩ := cI_lt h (q := (t, k)) ht hk
  exact ⟨a1, a3⟩
theorem tl_keep {w w' : Wd} (h : IBo w) (h' : IBo w') (hT : nn w 30 0 ≤ nn w' 30 0) (h31 : ∀ t, t < nn w 30 0 → w'.1 31 t = w.1 31 t) {p : Nat → Bool} (hp : ∀ x, nn w 30 0 ≤ x → x < nn w' 30 0 → p x = false) : tl w' p = tl w p := by
  refine sorted_eq (lt := lt2 (wkF w)) lt2_irr lt2_tr _ _ ?_ (tl_sorted h) (fun x => ?_)
  · refine (tl_sorted h').imp_of_mem (fun {a b} ha hb hab => ?_)
    rw [tl_mem h'] at ha hb
    have ka : a < nn w 30 0 := by
      by_cases z : a < nn w 30 0
      · exact z
      · rw [hp a (by omega) ha.1] at ha; cases ha.2
    have kb : b < nn w 30 0 := by
      by_cases z : b < nn w 30 0
      · exact z
      · rw [hp b (by omega) hb.1] at hb; cases hb.2
    have ea : wkF w' a = wkF w a := nn_eq (h31 a ka)
    have eb : wkF w' b = wkF w b := nn_eq (h31 b kb)
    unfold lt2 at hab ⊢
    rw [ea, eb] at hab
    exact hab
  · rw [tl_mem h', tl_mem h]
    constructor
    · rintro ⟨h1, h2⟩
      refine ⟨?_, h2⟩
      by_cases z : x < nn w 30 0
      · exact z
      · rw [hp x (by omega) h1] at h2; cases h2
    · rintro ⟨h1, h2⟩
      exact ⟨by omega, h2⟩
/-- what orders() leaves of the RULES that stood -/
def BKK (w w' : Wd) : Prop := (∀ t, t < nn w 30 0 → w'.1 31 t = w.1 31 t ∧ w'.1 32 t = w.1 32 t ∧ w'.1 33 t = w.1 33 t ∧ w'.1 124 t = w.1 124 t ∧ w'.1 122 t = w.1 122 t ∧ w'.1 123 t = w.1 123 t) ∧ w'.1 33 (nn w 30 0) = w.1 33 (nn w 30 0) ∧ (∀ r, r < nn w 33 (nn w 30 0) → ∀ k, 35 ≤ k → k ≤ 41 → w'.1 k r = w.1 k r ∧ w'.2 k r = w.2 k r) ∧ (∀ g, g < 20 * nn w 30 0 → ∀ k, 125 ≤ k → k ≤ 133 → w'.1 k g = w.1 k g ∧ w'.2 k g = w.2 k g) ∧ (∀ i, i < nn w 30 13 → w'.1 42 i = w.1 42 i) ∧ (∀ i, i < nn w 97 43 → w'.1 140 i = w.1 140 i ∧ w'.1 141 i = w.1 141 i) ∧ (∀ i, i < nn w 97 44 → ∀ k, 134 ≤ k → k ≤ 139 → w'.1 k i = w.1 k i)
theorem BKK.sb {w w' : Wd} (h : BKK w w') : SB w w' := ⟨fun t ht => (h.1 t ht).2.2.1, fun t ht => (h.1 t ht).2.2.2.1, fun r hr => (h.2.2.1 r hr 35 (by omega) (by omega)).2, fun r hr => (h.2.2.1 r hr 36 (by omega) (by omega)).2, fun r hr => (h.2.2.1 r hr 37 (by omega) (by omega)).1, fun r hr => (h.2.2.1 r hr 38 (by omega) (by omega)).1⟩
theorem BKK.rule {w w' : Wd} (hB : IBo w) (h : BKK w w') {t k : Nat} (ht : t < nn w 30 0) (hk : k < nn w 124 t) : RuleOK w' (nn w 33 t + k) (20 * t + k) := by
  obtain ⟨a1, a2⟩ := hB.old ht hk
  exact RuleOK2.c (u := w) (v := w) (hB.2.2.2.2.2.2.2 t ht k hk) (fun q q1 q2 => h.2.2.1 _ a1 q q1 (by omega)) (fun q q1 q2 => h.2.2.2.1 _ a2 q q1 q2)
theorem BKK.rcx {w w' : Wd} (hB : IBo w) (h : BKK w w') {A S O A' S' O' : Nat} (hA : nn w 30 13 = A) (hS : nn w 97 43 = S) (hO : nn w 97 44 = O) {t k : Nat} (ht : t < nn w 30 0) (hk : k < nn w 124 t) (hx : RCx w w (nn w 33 t + k) (20 * t + k) A S O) (h1 : A ≤ A') (h2 : S ≤ S') (h3 : O ≤ O') : RCx w' w' (nn w 33 t + k) (20 * t + k) A' S' O' := by
  subst hA hS hO
  obtain ⟨a1, a2⟩ := hB.old ht hk
  exact hx.c (fun q q1 q2 => (h.2.2.1 _ a1 q (by omega) q2).1) h.2.2.2.2.1 (fun q q1 q2 => (h.2.2.2.1 _ a2 q (by omega) (by omega)).1) h.2.2.2.2.2.1 h.2.2.2.2.2.2 h1 h2 h3
/-- no TEXT more -/
theorem IBo.same {w w' : Wd} (hB : IBo w) (h : BKK w w') (e0 : w'.1 30 0 = w.1 30 0) (e42 : w'.1 97 42 = w.1 97 42) (e34 : w'.1 34 = w.1 34) : IBo w' := by
  have n0 : nn w' 30 0 = nn w 30 0 := nn_eq e0
  obtain ⟨⟨b1, b2⟩, b3, b4, b5, b6, b7, b8, b9⟩ := hB
  have n33 : ∀ t, t ≤ nn w 30 0 → w'.1 33 t = w.1 33 t := fun t ht => by
    by_cases z : t = nn w 30 0
    · rw [z]; exact h.2.1
    · exact (h.1 t (by omega)).2.2.1
  have n34 : ∀ i, nn w' 34 i = nn w 34 i := fun i => nn_eq (by rw [e34])
  have hB' : IBo w := ⟨⟨b1, b2⟩, b3, b4, b5, b6, b7, b8, b9⟩
  refine ⟨⟨b1.eq e0, by rw [e42, e0]; exact b2⟩, fun t ht => ?_, fun t ht => ?_, ?_, fun i hi => ?_, fun i j hi hj => ?_, fun t ht => ?_, fun t ht k hk => ?_⟩
  · rw [n0] at ht
    obtain ⟨c1, c2, c3, c4, c5, c6⟩ := b3 t ht
    obtain ⟨d1, d2, d3, d4, d5, d6⟩ := h.1 t ht
    exact ⟨c1.eq d1, by rw [d5, d1]; exact c2, c3.eq d2, by rw [d6, d2]; exact c4, c5.eq d4, by rw [nn_eq (n33 (t + 1) (by omega)), nn_eq d3, nn_eq d4]; exact c6⟩
  · rw [n0] at ht; exact (b4 t ht).eq (n33 t ht)
  · rw [nn_eq (n33 0 (by omega))]; exact b5
  · rw [n0] at hi ⊢; exact (b6 i hi).eq (by rw [e34])
  · rw [n0] at hj
    have := b7 i j hi hj
    have hi2 := (b6 i (by omega)).2
    have hj2 := (b6 j hj).2
    rw [n34, n34]
    unfold lt2 wkF at this ⊢
    rw [nn_eq (h.1 _ hi2).1, nn_eq (h.1 _ hj2).1]; exact this
  · rw [n0] at ht ⊢
    obtain ⟨i, hi, e⟩ := b8 t ht
    exact ⟨i, hi, by rw [n34]; exact e⟩
  · rw [n0] at ht
    rw [nn_eq (h.1 t ht).2.2.2.1] at hk
    rw [nn_eq (h.1 t ht).2.2.1]
    exact BKK.rule hB' h ht hk
theorem IG.keep {w w' : Wd} (hB : IBo w) (hB' : IBo w') (hG : IG w) (h : BKK w w') (hT : nn w 30 0 ≤ nn w' 30 0) (hc : ∀ k, 45 ≤ k → k ≤ 64 → w'.1 k = w.1 k) : IG w' := by
  intro s hs
  have hst : stc s = 45 + 5 * s := rfl
  rcases hG s hs with z | ⟨m, h1, h2, h3⟩
  · left; rw [hc (stc s) (by omega) (by omega)]; exact z
  · right
    refine ⟨m, Nat.lt_of_lt_of_le h1 (Nat.pow_le_pow_right (by omega) hT), by rw [hc (stc s) (by omega) (by omega)]; exact h2, ?_⟩
    refine GA_c hB h3 h.sb (tl_keep hB hB' hT (fun t ht => (h.1 t ht).1) (fun x hx _ => ?_)) (fun j hj => hc _ (by omega) (by omega))
    exact Nat.testBit_lt_two_pow (Nat.lt_of_lt_of_le h1 (Nat.pow_le_pow_right (by omega) hx))
theorem RS_keep {w w' : Wd} (hB : IBo w) (hB' : IBo w') (h : BKK w w') (hT : nn w 30 0 ≤ nn w' 30 0) {s wk : Nat} (hwk : ∀ t, nn w 30 0 ≤ t → t < nn w' 30 0 → wk < nn w' 31 t) : RS w' s wk = RS w s wk := by
  have e : tl w' (inF w' s wk) = tl w (inF w s wk) := by
    rw [tl_keep hB hB' hT (fun t ht => (h.1 t ht).1) (fun x h1 h2 => ?_)]
    · unfold tl
      refine List.filter_congr (fun x hx => ?_)
      obtain ⟨i, hi, rfl⟩ := List.mem_map.mp hx
      have := (hB.2.2.2.2.1 i (List.mem_range.mp hi)).2
      unfold inF
      rw [nn_eq (h.1 _ this).1, nn_eq (h.1 _ this).2.1]
    · unfold inF
      have := hwk x h1 h2
      rw [decide_eq_false (by omega), Bool.false_and]
  unfold RS
  rw [e]
  refine rl_c (fun t ht => nn_eq (h.1 t ?_).2.2.2.1)
  rw [tl_mem hB] at ht
  exact ht.1
/-- orders(): what is new -/
def ORD (w w' : Wd) : Prop := BKK w w' ∧ ((w'.1 73 4 = w.1 73 4 ∧ ∀ s wk, RS w' s wk = RS w s wk) ∨ ∃ b, b < 60 ∧ w'.1 73 4 = mnI (w.1 73 4) (nI b) ∧ ∀ s wk, wk < b → RS w' s wk = RS w s wk)
