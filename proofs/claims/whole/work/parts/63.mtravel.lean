/-! travel as numbers: edges e < E from sr e to ds e, g e x the week of its end for one who is there in week x -/
section
variable (g : Nat → Nat → Nat) (sr ds : Nat → Nat)
def tch (e : Nat) (A : Nat → Nat) : Prop := g e (A (sr e)) < 60 ∧ g e (A (sr e)) < A (ds e)
noncomputable def trl (e : Nat) (A : Nat → Nat) : Nat → Nat := @ite _ (tch g sr ds e A) (Classical.propDecidable _) (fun j => if j = ds e then g e (A (sr e)) else A j) A
noncomputable def trn (n : Nat) (A : Nat → Nat) : Nat → Nat := fo (trl g sr ds) n A
def tfl (n : Nat) (A : Nat → Nat) : Prop := ∃ e, e < n ∧ tch g sr ds e (trn g sr ds e A)
noncomputable def tit (E : Nat) : Nat → (Nat → Nat) → (Nat → Nat)
  | 0, A => A
  | k + 1, A => trn g sr ds E (tit E k A)
end
section
variable {g : Nat → Nat → Nat} {sr ds : Nat → Nat}
theorem trl_t {e : Nat} {A : Nat → Nat} (h : tch g sr ds e A) : trl g sr ds e A = fun j => if j = ds e then g e (A (sr e)) else A j := if_pos h
theorem trl_f {e : Nat} {A : Nat → Nat} (h : ¬ tch g sr ds e A) : trl g sr ds e A = A := if_neg h
theorem trl_le (e : Nat) (A : Nat → Nat) (j : Nat) : trl g sr ds e A j ≤ A j := by
  by_cases h : tch g sr ds e A
  · rw [trl_t h]
    by_cases q : j = ds e
    · simp only [if_pos q]; rw [q]; exact Nat.le_of_lt h.2
    · simp only [if_neg q]; exact Nat.le_refl _
  · rw [trl_f h]; exact Nat.le_refl _
theorem trn_s (n : Nat) (A : Nat → Nat) : trn g sr ds (n + 1) A = trl g sr ds n (trn g sr ds n A) := rfl
theorem trn_le (n : Nat) (A : Nat → Nat) (j : Nat) : trn g sr ds n A j ≤ A j := by
  induction n with
  | zero => exact Nat.le_refl _
  | succ n ih => rw [trn_s]; exact Nat.le_trans (trl_le _ _ _) ih
theorem trn_mono {n m : Nat} (h : n ≤ m) (A : Nat → Nat) (j : Nat) : trn g sr ds m A j ≤ trn g sr ds n A j := by
  induction m with
  | zero => have : n = 0 := by omega
            subst this; exact Nat.le_refl _
  | succ m ih =>
    by_cases q : n = m + 1
    · subst q; exact Nat.le_refl _
    · rw [trn_s]; exact Nat.le_trans (trl_le _ _ _) (ih (by omega))
theorem tfl_s (n : Nat) (A : Nat → Nat) : tfl g sr ds (n + 1) A ↔ tfl g sr ds n A ∨ tch g sr ds n (trn g sr ds n A) := by
  constructor
  · rintro ⟨e, he, h⟩
    by_cases q : e = n
    · subst q; exact Or.inr h
    · exact Or.inl ⟨e, by omega, h⟩
  · rintro (⟨e, he, h⟩ | h)
    · exact ⟨e, by omega, h⟩
    · exact ⟨n, by omega, h⟩
theorem trn_same {n : Nat} {A : Nat → Nat} (h : ¬ tfl g sr ds n A) : trn g sr ds n A = A := by
  induction n with
  | zero => rfl
  | succ n ih =>
    rw [tfl_s] at h
    have h1 := ih (fun q => h (Or.inl q))
    rw [trn_s, trl_f (fun q => h (Or.inr q)), h1]
theorem tfix {n : Nat} {A : Nat → Nat} (h : ¬ tfl g sr ds n A) {e : Nat} (he : e < n) : ¬ tch g sr ds e A := by
  intro q
  apply h
  have : ¬ tfl g sr ds e A := fun ⟨i, hi, z⟩ => h ⟨i, by omega, z⟩
  exact ⟨e, he, by rw [trn_same this]; exact q⟩
theorem trn_sum {n : Nat} {A : Nat → Nat} (hd : ∀ e, e < n → ds e < 16) (h : tfl g sr ds n A) : sm (trn g sr ds n A) 16 < sm A 16 := by
  obtain ⟨e, he, q⟩ := h
  refine sm_lt (k := ds e) (fun i _ => trn_le n A i) (hd e he) ?_
  have h1 := trn_mono (g := g) (sr := sr) (ds := ds) (show e + 1 ≤ n by omega) A (ds e)
  rw [trn_s, trl_t q] at h1
  simp only [if_true] at h1
  have h2 := trn_le (g := g) (sr := sr) (ds := ds) e A (ds e)
  have h3 := q.2
  omega
/-- what a fixed point is below stays above it -/
theorem trn_low {E : Nat} {F A : Nat → Nat} (hg : ∀ e x y, x ≤ y → g e x ≤ g e y) (hF : ∀ e, e < E → ¬ tch g sr ds e F) (hA : ∀ j, F j ≤ A j) {n : Nat} (hn : n ≤ E) (j : Nat) : F j ≤ trn g sr ds n A j := by
  induction n generalizing j with
  | zero => exact hA j
  | succ n ih =>
    rw [trn_s]
    have ih := fun j => ih (by omega) j
    by_cases h : tch g sr ds n (trn g sr ds n A)
    · rw [trl_t h]
      by_cases q : j = ds n
      · simp only [if_pos q]
        have h1 := hg n _ _ (ih (sr n))
        have h2 := hF n (by omega)
        have h3 := h.1
        unfold tch at h2
        rw [q]
        by_cases z : g n (F (sr n)) < F (ds n)
        · exact (h2 ⟨by omega, z⟩).elim
        · omega
      · simp only [if_neg q]; exact ih j
    · rw [trl_f h]; exact ih j
/-- each week but the first's is some edge's end -/
def tsup (E s : Nat) (A : Nat → Nat) : Prop := ∀ v, v ≠ s → A v < 60 → ∃ e, e < E ∧ ds e = v ∧ g e (A (sr e)) ≤ A v
theorem trl_sup {E s : Nat} {A : Nat → Nat} (hg : ∀ e x y, x ≤ y → g e x ≤ g e y) (h : tsup (g := g) (sr := sr) (ds := ds) E s A) {e : Nat} (he : e < E) : tsup (g := g) (sr := sr) (ds := ds) E s (trl g sr ds e A) := by
  intro v hv h6
  by_cases c : tch g sr ds e A
  · by_cases q : v = ds e
    · refine ⟨e, he, q.symm, ?_⟩
      have h1 := hg e _ _ (trl_le (g := g) (sr := sr) (ds := ds) e A (sr e))
      have h2 : trl g sr ds e A v = g e (A (sr e)) := by rw [trl_t c]; simp only [if_pos q]
      rw [h2]; exact h1
    · have h2 : trl g sr ds e A v = A v := by rw [trl_t c]; simp only [if_neg q]
      rw [h2] at h6
      obtain ⟨i, hi, h3, h4⟩ := h v hv h6
      refine ⟨i, hi, h3, ?_⟩
      rw [h2]
      exact Nat.le_trans (hg i _ _ (trl_le _ _ _)) h4
  · rw [trl_f c] at h6 ⊢
    exact h v hv h6
theorem trn_sup {E s : Nat} {A : Nat → Nat} (hg : ∀ e x y, x ≤ y → g e x ≤ g e y) (h : tsup (g := g) (sr := sr) (ds := ds) E s A) {n : Nat} (hn : n ≤ E) : tsup (g := g) (sr := sr) (ds := ds) E s (trn g sr ds n A) := by
  induction n with
  | zero => exact h
  | succ n ih => rw [trn_s]; exact trl_sup hg (ih (by omega)) (by omega)
theorem tit_sup {E s : Nat} {A : Nat → Nat} (hg : ∀ e x y, x ≤ y → g e x ≤ g e y) (h : tsup (g := g) (sr := sr) (ds := ds) E s A) (k : Nat) : tsup (g := g) (sr := sr) (ds := ds) E s (tit g sr ds E k A) := by
  induction k with
  | zero => exact h
  | succ k ih => exact trn_sup hg ih (Nat.le_refl _)
theorem tit_low {E : Nat} {F A : Nat → Nat} (hg : ∀ e x y, x ≤ y → g e x ≤ g e y) (hF : ∀ e, e < E → ¬ tch g sr ds e F) (hA : ∀ j, F j ≤ A j) (k : Nat) : ∀ j, F j ≤ tit g sr ds E k A j := by
  induction k with
  | zero => exact hA
  | succ k ih => exact trn_low hg hF ih (Nat.le_refl _)
theorem tit_le {E : Nat} {A : Nat → Nat} (k : Nat) (j : Nat) : tit g sr ds E k A j ≤ A j := by
  induction k with
  | zero => exact Nat.le_refl _
  | succ k ih => exact Nat.le_trans (trn_le _ _ _) ih
theorem tit_add {E : Nat} {A : Nat → Nat} (k m : Nat) : tit g sr ds E (m + k) A = tit g sr ds E m (tit g sr ds E k A) := by
  induction m with
  | zero => rw [Nat.zero_add]; rfl
  | succ m ih => rw [Nat.succ_add]; show trn g sr ds E _ = trn g sr ds E _; rw [ih]
/-- there is a fixed point below -/
theorem tit_fix {E : Nat} (hd : ∀ e, e < E → ds e < 16) (A : Nat → Nat) : ∃ k, ¬ tfl g sr ds E (tit g sr ds E k A) := by
  induction hs : sm A 16 using Nat.strongRecOn generalizing A with
  | _ m ih =>
    by_cases h : tfl g sr ds E A
    · obtain ⟨k, hk⟩ := ih _ (by rw [← hs]; exact trn_sum hd h) (trn g sr ds E A) rfl
      refine ⟨k + 1, ?_⟩
      rw [tit_add 1 k]
      exact hk
    · exact ⟨0, h⟩
theorem tset {E s : Nat} {F A : Nat → Nat} (hg : ∀ e x y, x ≤ y → g e x ≤ g e y) (hp : ∀ e x, x < g e x) (hF : ∀ e, e < E → ¬ tch g sr ds e F) (hS : tsup (g := g) (sr := sr) (ds := ds) E s F) (hA : ∀ j, F j ≤ A j) (h6 : ∀ j, A j ≤ 60) (hs : A s = F s) (hsr : ∀ e, e < E → sr e < 16) (hu : ∃ v, v < 16 ∧ A v ≠ F v) : ∃ v, v < 16 ∧ A v ≠ F v ∧ trn g sr ds E A v = F v := by
  obtain ⟨v, hv, hne, hmin⟩ := min_of F hu
  refine ⟨v, hv, hne, ?_⟩
  have hvs : v ≠ s := fun q => hne (by rw [q]; exact hs)
  have hlt : F v < A v := by have := hA v; omega
  obtain ⟨e, he, hde, hge⟩ := hS v hvs (by have := h6 v; omega)
  have hFu : F (sr e) < F v := Nat.lt_of_lt_of_le (hp e _) hge
  have hu2 : A (sr e) = F (sr e) := by
    by_cases q : A (sr e) = F (sr e)
    · exact q
    · have := hmin (sr e) (hsr e he) q; omega
  have hlow := fun n (hn : n ≤ E) j => trn_low hg hF hA hn j
  have hcur : trn g sr ds e A (sr e) = F (sr e) := by
    have h1 := hlow e (by omega) (sr e)
    have h2 := trn_le (g := g) (sr := sr) (ds := ds) e A (sr e)
    omega
  have hnext : trn g sr ds (e + 1) A v ≤ F v := by
    rw [trn_s]
    by_cases c : tch g sr ds e (trn g sr ds e A)
    · rw [trl_t c]
      simp only [if_pos hde.symm]
      rw [hcur]; exact hge
    · rw [trl_f c]
      unfold tch at c
      rw [hcur, hde] at c
      have h3 : g e (F (sr e)) < 60 := by have := h6 v; omega
      have : ¬ g e (F (sr e)) < trn g sr ds e A v := fun q => c ⟨h3, q⟩
      omega
  have h1 := hlow E (Nat.le_refl _) v
  have h2 := trn_mono (g := g) (sr := sr) (ds := ds) (show e + 1 ≤ E by omega) A v
  omega
/-- sixteen rounds are enough -/
theorem travel16 {E s week : Nat} (hg : ∀ e x y, x ≤ y → g e x ≤ g e y) (hp : ∀ e x, x < g e x) (hsr : ∀ e, e < E → sr e < 16) (hds : ∀ e, e < E → ds e < 16) (hs : s < 16) (hw : week < 60) : ∃ K, K < 16 ∧ ¬ tfl g sr ds E (tit g sr ds E K (fun j => if j = s then week else 60)) ∧ ∀ k, k < K → tfl g sr ds E (tit g sr ds E k (fun j => if j = s then week else 60)) := by
  have hA0 : ∀ A0, A0 = (fun j => if j = s then week else 60) → ∃ k, k < 16 ∧ ¬ tfl g sr ds E (tit g sr ds E k A0) := by
    intro A0 hA0
    obtain ⟨k, hk⟩ := tit_fix hds A0
    generalize hF : tit g sr ds E k A0 = F at hk
    have hfix : ∀ e, e < E → ¬ tch g sr ds e F := fun e he => tfix hk he
    have hlow0 : ∀ j, F j ≤ A0 j := fun j => by rw [← hF]; exact tit_le k j
    have hsup : tsup (g := g) (sr := sr) (ds := ds) E s F := by
      rw [← hF]
      refine tit_sup hg ?_ k
      intro v hv h6
      rw [hA0] at h6
      simp only [if_neg hv] at h6
      omega
    have h60 : ∀ j, A0 j ≤ 60 := fun j => by rw [hA0]; dsimp only; split <;> omega
    have hwk : ∀ n j, week ≤ tit g sr ds E n A0 j := by
      have hz : ∀ (B : Nat → Nat), (∀ j, week ≤ B j) → ∀ n j, week ≤ trn g sr ds n B j := by
        intro B hB n
        induction n with
        | zero => exact hB
        | succ n ih =>
          intro j
          rw [trn_s]
          by_cases c : tch g sr ds n (trn g sr ds n B)
          · rw [trl_t c]
            by_cases q : j = ds n
            · simp only [if_pos q]
              have := hp n (trn g sr ds n B (sr n))
              have := ih (sr n)
              omega
            · simp only [if_neg q]; exact ih j
          · rw [trl_f c]; exact ih j
      intro n
      induction n with
      | zero => intro j; show week ≤ A0 j; rw [hA0]; dsimp only; split <;> omega
      | succ n ih => exact hz _ ih E
    have hss : ∀ n, tit g sr ds E n A0 s = week := by
      intro n
      have h1 := hwk n s
      have h2 := tit_le (g := g) (sr := sr) (ds := ds) (E := E) (A := A0) n s
      rw [hA0] at h2
      simp only [if_true] at h2
      rw [← hA0] at h2
      omega
    have hFs : F s = week := by rw [← hF]; exact hss k
    have hcnt : ∀ n, n ≤ 15 → cnt (fun v => decide (tit g sr ds E n A0 v ≠ F v)) 16 ≤ 15 - n := by
      intro n
      induction n with
      | zero =>
        intro _
        have h1 : cnt (fun v => decide (tit g sr ds E 0 A0 v ≠ F v)) 16 < cnt (fun _ => true) 16 := by
          refine cnt_lt (k := s) (fun _ _ _ => rfl) hs ?_ rfl
          rw [hss 0, hFs]; simp
        have h2 : cnt (fun _ => true) 16 = 16 := by decide
        omega
      | succ n ih =>
        intro hn
        have ih := ih (by omega)
        by_cases hu : ∃ v, v < 16 ∧ tit g sr ds E n A0 v ≠ F v
        · obtain ⟨v, hv, h1, h2⟩ := tset hg hp hfix hsup (tit_low hg hfix hlow0 n) (fun j => Nat.le_trans (tit_le n j) (h60 j)) (by rw [hss n, hFs]) hsr hu
          have h3 : cnt (fun v => decide (tit g sr ds E (n + 1) A0 v ≠ F v)) 16 < cnt (fun v => decide (tit g sr ds E n A0 v ≠ F v)) 16 := by
            refine cnt_lt (k := v) (fun i hi hq => ?_) hv ?_ ?_
            · simp only [decide_eq_true_eq] at hq ⊢
              intro z
              apply hq
              have h4 := tit_low hg hfix hlow0 (n + 1) i
              have h5 : tit g sr ds E (n + 1) A0 i ≤ tit g sr ds E n A0 i := trn_le _ _ _
              omega
            · show decide (trn g sr ds E (tit g sr ds E n A0) v ≠ F v) = false
              rw [h2]; simp
            · simp only [decide_eq_true_eq]; exact h1
          omega
        · have h3 : cnt (fun v => decide (tit g sr ds E (n + 1) A0 v ≠ F v)) 16 ≤ cnt (fun _ => false) 16 := by
            refine cnt_mono (fun i hi hq => ?_)
            simp only [decide_eq_true_eq] at hq
            apply (hu ⟨i, hi, ?_⟩).elim
            intro z
            apply hq
            have h4 := tit_low hg hfix hlow0 (n + 1) i
            have h5 : tit g sr ds E (n + 1) A0 i ≤ tit g sr ds E n A0 i := trn_le _ _ _
            omega
          have h2 : cnt (fun _ => false) 16 = 0 := by decide
          omega
    have h15 := cnt_0 (by have := hcnt 15 (Nat.le_refl _); omega : cnt (fun v => decide (tit g sr ds E 15 A0 v ≠ F v)) 16 = 0)
    refine ⟨15, by omega, ?_⟩
    have heq : ∀ v, v < 16 → tit g sr ds E 15 A0 v = F v := fun v hv => by
      have := h15 v hv
      simpa using this
    rintro ⟨e, he, hc⟩
    have hlow := tit_low hg hfix hlow0 15
    have hn := fun j => trn_low hg hfix hlow (Nat.le_of_lt he) j
    have hl := fun j => trn_le (g := g) (sr := sr) (ds := ds) e (tit g sr ds E 15 A0) j
    have e1 : trn g sr ds e (tit g sr ds E 15 A0) (sr e) = F (sr e) := by
      have := hn (sr e); have := hl (sr e); have := heq (sr e) (hsr e he); omega
    have e2 : trn g sr ds e (tit g sr ds E 15 A0) (ds e) = F (ds e) := by
      have := hn (ds e); have := hl (ds e); have := heq (ds e) (hds e he); omega
    unfold tch at hc
    rw [e1, e2] at hc
    exact hfix e he hc
  obtain ⟨K, h1, h2, h3⟩ := least_of (hA0 _ rfl)
  exact ⟨K, h1, h2, fun k hk => Classical.byContradiction (h3 k hk)⟩
end
