/-! numbers in one form: nI n, and NO for -1 -/
def NO : Int32 := -1
theorem gdn {α : Type} {j N : Nat} {k : Option α} (h : j < N) (hN : N < 2 ^ 31) : gd (vp_in (nI j) N) k = k := gd_t (in_nI h hN)
theorem ixn {n : Nat} (h : n < 2 ^ 31) : ix (nI n) = n := ix_nI h
theorem nm1 : -nI 1 = NO := rfl
theorem nsub {a b : Nat} (h : b ≤ a) : nI a - nI b = nI (a - b) := nI_sub h
theorem gb0 {α : Type} {k : Option α} : gd (narrow .boolean (.int (nI 0)) = .int (nI 0)) k = k := gd_t (by decide)
theorem gb1 {α : Type} {k : Option α} : gd (narrow .boolean (.int (nI 1)) = .int (nI 1)) k = k := gd_t (by decide)
theorem NO_t : NO.toInt = -1 := by decide
theorem eqNO {n : Nat} (h : n < 2 ^ 31) : (nI n = NO) = False := by
  rw [eq_iff_iff, iff_false, eq_t, tI h, NO_t]; omega
theorem eqNO2 {n : Nat} (h : n < 2 ^ 31) : (NO = nI n) = False := by
  rw [eq_iff_iff, iff_false, eq_t, tI h, NO_t]; omega
theorem ltNO {n : Nat} (h : n < 2 ^ 31) : (nI n < NO) = False := by
  rw [eq_iff_iff, iff_false, lt_t, tI h, NO_t]; omega
theorem NOlt {n : Nat} (h : n < 2 ^ 31) : (NO < nI n) = True := by
  rw [eq_iff_iff, iff_true, lt_t, tI h, NO_t]; omega
theorem leNO {n : Nat} (h : n < 2 ^ 31) : (nI n ≤ NO) = False := by
  rw [eq_iff_iff, iff_false, le_t, tI h, NO_t]; omega
theorem NOle {n : Nat} (h : n < 2 ^ 31) : (NO ≤ nI n) = True := by
  rw [eq_iff_iff, iff_true, le_t, tI h, NO_t]; omega
theorem SI_row {w : Wd} {k : Nat} {f : Nat → Int32} : (seI w k f).1 k = f := up_eq
theorem SI_oth {w : Wd} {k a : Nat} {f : Nat → Int32} (h : a ≠ k) : (seI w k f).1 a = w.1 a := up_ne h
theorem SI_J {w : Wd} {k : Nat} {f : Nat → Int32} : (seI w k f).2 = w.2 := rfl
theorem SJ_row {w : Wd} {k : Nat} {f : Nat → Int64} : (seJ w k f).2 k = f := up_eq
theorem SJ_oth {w : Wd} {k a : Nat} {f : Nat → Int64} (h : a ≠ k) : (seJ w k f).2 a = w.2 a := up_ne h
theorem SJ_I {w : Wd} {k : Nat} {f : Nat → Int64} : (seJ w k f).1 = w.1 := rfl
theorem l0 : (0 : Int32) = nI 0 := rfl
theorem l1 : (1 : Int32) = nI 1 := rfl
theorem l2 : (2 : Int32) = nI 2 := rfl
theorem l3 : (3 : Int32) = nI 3 := rfl
theorem l4 : (4 : Int32) = nI 4 := rfl
theorem l5 : (5 : Int32) = nI 5 := rfl
theorem l6 : (6 : Int32) = nI 6 := rfl
theorem l7 : (7 : Int32) = nI 7 := rfl
theorem l8 : (8 : Int32) = nI 8 := rfl
theorem l9 : (9 : Int32) = nI 9 := rfl
theorem l10 : (10 : Int32) = nI 10 := rfl
theorem l11 : (11 : Int32) = nI 11 := rfl
theorem l12 : (12 : Int32) = nI 12 := rfl
theorem l13 : (13 : Int32) = nI 13 := rfl
theorem l14 : (14 : Int32) = nI 14 := rfl
theorem l15 : (15 : Int32) = nI 15 := rfl
theorem l16 : (16 : Int32) = nI 16 := rfl
theorem l17 : (17 : Int32) = nI 17 := rfl
theorem l18 : (18 : Int32) = nI 18 := rfl
theorem l19 : (19 : Int32) = nI 19 := rfl
theorem l20 : (20 : Int32) = nI 20 := rfl
theorem l24 : (24 : Int32) = nI 24 := rfl
theorem l26 : (26 : Int32) = nI 26 := rfl
theorem l30 : (30 : Int32) = nI 30 := rfl
theorem l31 : (31 : Int32) = nI 31 := rfl
theorem l32 : (32 : Int32) = nI 32 := rfl
theorem l40 : (40 : Int32) = nI 40 := rfl
theorem l41 : (41 : Int32) = nI 41 := rfl
theorem l42 : (42 : Int32) = nI 42 := rfl
theorem l43 : (43 : Int32) = nI 43 := rfl
theorem l45 : (45 : Int32) = nI 45 := rfl
theorem l47 : (47 : Int32) = nI 47 := rfl
theorem l48 : (48 : Int32) = nI 48 := rfl
theorem l57 : (57 : Int32) = nI 57 := rfl
theorem l58 : (58 : Int32) = nI 58 := rfl
theorem l59 : (59 : Int32) = nI 59 := rfl
theorem l60 : (60 : Int32) = nI 60 := rfl
theorem l61 : (61 : Int32) = nI 61 := rfl
theorem l62 : (62 : Int32) = nI 62 := rfl
theorem l63 : (63 : Int32) = nI 63 := rfl
theorem l64 : (64 : Int32) = nI 64 := rfl
theorem l97 : (97 : Int32) = nI 97 := rfl
theorem l99 : (99 : Int32) = nI 99 := rfl
theorem l100 : (100 : Int32) = nI 100 := rfl
theorem l101 : (101 : Int32) = nI 101 := rfl
theorem l102 : (102 : Int32) = nI 102 := rfl
theorem l103 : (103 : Int32) = nI 103 := rfl
theorem l104 : (104 : Int32) = nI 104 := rfl
theorem l105 : (105 : Int32) = nI 105 := rfl
theorem l106 : (106 : Int32) = nI 106 := rfl
theorem l107 : (107 : Int32) = nI 107 := rfl
theorem l108 : (108 : Int32) = nI 108 := rfl
theorem l109 : (109 : Int32) = nI 109 := rfl
theorem l110 : (110 : Int32) = nI 110 := rfl
theorem l122 : (122 : Int32) = nI 122 := rfl
theorem l160 : (160 : Int32) = nI 160 := rfl
theorem l240 : (240 : Int32) = nI 240 := rfl
theorem l255 : (255 : Int32) = nI 255 := rfl
theorem l600 : (600 : Int32) = nI 600 := rfl
theorem l1000 : (1000 : Int32) = nI 1000 := rfl
theorem l3000 : (3000 : Int32) = nI 3000 := rfl
theorem l10000 : (10000 : Int32) = nI 10000 := rfl
theorem l10007 : (10007 : Int32) = nI 10007 := rfl
theorem l10116 : (10116 : Int32) = nI 10116 := rfl
theorem l67108863 : (67108863 : Int32) = nI 67108863 := rfl
theorem l67108864 : (67108864 : Int32) = nI 67108864 := rfl
/-- any int is below 0 or such a number -/
theorem nIc (x : Int32) : x.toInt < 0 ∨ ∃ j : Nat, j < 2 ^ 31 ∧ x = nI j := by
  by_cases h : x.toInt < 0
  · exact Or.inl h
  · exact Or.inr (nI_of (by rw [lt_t, tl_0]; omega))
theorem not_nI {x : Int32} {n : Nat} (h : x.toInt < 0) (hn : n < 2 ^ 31) : x ≠ nI n := by
  intro e; rw [e, tI hn] at h; omega
/-! folds -/
def fo {S : Type} (f : Nat → S → S) : Nat → S → S
  | 0, s => s
  | n + 1, s => f n (fo f n s)
theorem fo_0 {S : Type} {f : Nat → S → S} {s : S} : fo f 0 s = s := rfl
theorem fo_s {S : Type} {f : Nat → S → S} {n : Nat} {s : S} : fo f (n + 1) s = f n (fo f n s) := rfl
theorem fo_congr {S : Type} {f g : Nat → S → S} {s : S} : ∀ {n : Nat}, (∀ i, i < n → ∀ t, f i t = g i t) → fo f n s = fo g n s
  | 0, _ => rfl
  | n + 1, h => by rw [fo_s, fo_s, fo_congr (fun i hi t => h i (by omega) t), h n (by omega)]
theorem fo_inv {S : Type} {f : Nat → S → S} (I : Nat → S → Prop) {s : S} (h0 : I 0 s) {n : Nat} (h : ∀ i, i < n → ∀ t, I i t → I (i + 1) (f i t)) : I n (fo f n s) := by
  induction n with
  | zero => exact h0
  | succ n ih => exact h n (by omega) _ (ih (fun i hi => h i (by omega)))
/-- how many below n -/
def cnt (p : Nat → Bool) : Nat → Nat
  | 0 => 0
  | n + 1 => cnt p n + if p n then 1 else 0
theorem cnt_le {p : Nat → Bool} : ∀ {n : Nat}, cnt p n ≤ n
  | 0 => Nat.le_refl _
  | n + 1 => by have := cnt_le (p := p) (n := n); unfold cnt; split <;> omega
theorem cnt_congr {p q : Nat → Bool} : ∀ {n : Nat}, (∀ i, i < n → p i = q i) → cnt p n = cnt q n
  | 0, _ => rfl
  | n + 1, h => by unfold cnt; rw [cnt_congr (fun i hi => h i (by omega)), h n (by omega)]
theorem cnt_mono {p q : Nat → Bool} : ∀ {n : Nat}, (∀ i, i < n → p i = true → q i = true) → cnt p n ≤ cnt q n
  | 0, _ => Nat.le_refl _
  | n + 1, h => by
    unfold cnt
    have h1 := cnt_mono (p := p) (q := q) (n := n) (fun i hi => h i (by omega))
    have h2 := h n (by omega)
    by_cases hp : p n = true
    · rw [if_pos hp, if_pos (h2 hp)]; omega
    · rw [if_neg hp]; split <;> omega
theorem cnt_lt {p q : Nat → Bool} {k : Nat} : ∀ {n : Nat}, (∀ i, i < n → p i = true → q i = true) → k < n → p k = false → q k = true → cnt p n < cnt q n
  | 0, _, hk, _, _ => by omega
  | n + 1, h, hk, h1, h2 => by
    unfold cnt
    by_cases e : k = n
    · subst e
      have := cnt_mono (p := p) (q := q) (n := k) (fun i hi => h i (by omega))
      rw [if_neg (by rw [h1]; decide), if_pos h2]; omega
    · have := cnt_lt (p := p) (q := q) (n := n) (fun i hi => h i (by omega)) (by omega) h1 h2
      have h3 := h n (by omega)
      by_cases hp : p n = true
      · rw [if_pos hp, if_pos (h3 hp)]; omega
      · rw [if_neg hp]; split <;> omega
theorem cnt_0 {p : Nat → Bool} : ∀ {n : Nat}, cnt p n = 0 → ∀ i, i < n → p i = false
  | 0, _, i, hi => by omega
  | n + 1, h, i, hi => by
    unfold cnt at h
    by_cases hp : p n = true
    · rw [if_pos hp] at h; omega
    · by_cases e : i = n
      · subst e; simpa using hp
      · exact cnt_0 (n := n) (by omega) i (by omega)
def sm (A : Nat → Nat) : Nat → Nat
  | 0 => 0
  | n + 1 => sm A n + A n
theorem sm_le {A B : Nat → Nat} : ∀ {n : Nat}, (∀ i, i < n → A i ≤ B i) → sm A n ≤ sm B n
  | 0, _ => Nat.le_refl _
  | n + 1, h => by
    unfold sm
    have := sm_le (A := A) (B := B) (n := n) (fun i hi => h i (by omega))
    have := h n (by omega)
    omega
theorem sm_lt {A B : Nat → Nat} {k : Nat} : ∀ {n : Nat}, (∀ i, i < n → A i ≤ B i) → k < n → A k < B k → sm A n < sm B n
  | 0, _, hk, _ => by omega
  | n + 1, h, hk, h1 => by
    unfold sm
    by_cases e : k = n
    · subst e
      have := sm_le (A := A) (B := B) (n := k) (fun i hi => h i (by omega))
      omega
    · have := sm_lt (A := A) (B := B) (n := n) (fun i hi => h i (by omega)) (by omega) h1
      have := h n (by omega)
      omega
/-- a least one -/
theorem least_of {p : Nat → Prop} {n : Nat} (h : ∃ k, k < n ∧ p k) : ∃ k, k < n ∧ p k ∧ ∀ j, j < k → ¬ p j := by
  obtain ⟨k, hk, hp⟩ := h
  induction k using Nat.strongRecOn with
  | _ k ih =>
    by_cases q : ∃ j, j < k ∧ p j
    · obtain ⟨j, hj, hpj⟩ := q
      exact ih j hj (by omega) hpj
    · exact ⟨k, hk, hp, fun j hj hpj => q ⟨j, hj, hpj⟩⟩
/-- one with the least value -/
theorem min_of {p : Nat → Prop} {n : Nat} (F : Nat → Nat) (h : ∃ k, k < n ∧ p k) : ∃ k, k < n ∧ p k ∧ ∀ j, j < n → p j → F k ≤ F j := by
  obtain ⟨k, hk, hp⟩ := h
  induction hF : F k using Nat.strongRecOn generalizing k with
  | _ m ih =>
    by_cases q : ∃ j, j < n ∧ p j ∧ F j < F k
    · obtain ⟨j, hj, hpj, hl⟩ := q
      exact ih (F j) (by omega) j hj hpj rfl
    · exact ⟨k, hk, hp, fun j hj hpj => by
        by_cases z : F k ≤ F j
        · exact z
        · exact (q ⟨j, hj, hpj, by omega⟩).elim⟩
/-! flags -/
theorem flag0 {c : Prop} [Decidable c] : ((if c then nI 1 else nI 0) = nI 0) = ¬ c := by
  by_cases h : c
  · rw [if_pos h]; simp only [h, not_true_eq_false]; rw [nI_eq (by omega) (by omega)]; simp
  · rw [if_neg h]; simp only [h, not_false_eq_true]
theorem flag1 {c : Prop} [Decidable c] : ((if c then nI 1 else nI 0) = nI 1) = c := by
  by_cases h : c
  · rw [if_pos h]; simp only [h]
  · rw [if_neg h]; simp only [h]; rw [nI_eq (by omega) (by omega)]; simp
theorem ite_or2 {α : Type} {a b : Prop} [Decidable a] [Decidable b] {R M : α} : (if a then R else if b then R else M) = if a ∨ b then R else M := by
  by_cases h : a
  · rw [if_pos h, if_pos (Or.inl h)]
  · by_cases q : b
    · rw [if_neg h, if_pos q, if_pos (Or.inr q)]
    · rw [if_neg h, if_neg q, if_neg (fun z => z.elim h q)]
theorem gbf {α : Type} {c : Prop} [Decidable c] {k : Option α} : gd (narrow .boolean (.int (if c then nI 1 else nI 0)) = .int (if c then nI 1 else nI 0)) k = k := by
  by_cases h : c
  · rw [if_pos h]; exact gb1
  · rw [if_neg h]; exact gb0
/-! the small functions -/
theorem wi (a lo hi : Int32) (w : Wd) : X11_within a lo hi w = if lo.toInt ≤ a.toInt ∧ a.toInt ≤ hi.toInt then nI 1 else nI 0 := by
  unfold X11_within X11_withinO
  by_cases h1 : a < lo
  · rw [if_pos h1]
    rw [lt_t] at h1
    rw [if_neg (by omega)]
    rfl
  · rw [if_neg h1]
    by_cases h2 : hi < a
    · rw [if_pos h2]
      rw [lt_t] at h2
      rw [if_neg (by omega)]
      rfl
    · rw [if_neg h2]
      rw [lt_t] at h1 h2
      rw [if_pos (by omega)]
      rfl
theorem win (a : Int32) {lo hi : Nat} (w : Wd) (h1 : lo < 2 ^ 31) (h2 : hi < 2 ^ 31) : X11_within a (nI lo) (nI hi) w = if (lo : Int) ≤ a.toInt ∧ a.toInt ≤ (hi : Int) then nI 1 else nI 0 := by
  rw [wi, tI h1, tI h2]
theorem wic (a : Int32) {x : Int32} {n : Nat} (w : Wd) (hx : x = nI n) (hn : n < 2 ^ 31) : X11_within a 0 (x - 1) w = if 0 ≤ a.toInt ∧ a.toInt < (n : Int) then nI 1 else nI 0 := by
  have e : (x - 1).toInt = (n : Int) - 1 := by
    rw [hx, toInt_sub (by rw [tI hn, tl_1]; omega) (by rw [tI hn, tl_1]; omega), tI hn, tl_1]
  rw [wi, e, tl_0]
  by_cases h : 0 ≤ a.toInt ∧ a.toInt < (n : Int)
  · rw [if_pos h, if_pos (by omega)]
  · rw [if_neg h, if_neg (by omega)]
theorem mcnt (a x : Int32) {n : Nat} (hx : x = nI n) (hn : n < 2 ^ 31) : (if a < 0 then some (0 : Int32) else (if x ≤ a then some (0 : Int32) else some (1 : Int32))).getD 0 = if 0 ≤ a.toInt ∧ a.toInt < (n : Int) then nI 1 else nI 0 := by
  by_cases h1 : a < 0
  · rw [if_pos h1]; rw [lt_t, tl_0] at h1; rw [if_neg (by omega)]; rfl
  · rw [if_neg h1]; rw [lt_t, tl_0] at h1
    by_cases h2 : x ≤ a
    · rw [if_pos h2]; rw [le_t, hx, tI hn] at h2; rw [if_neg (by omega)]; rfl
    · rw [if_neg h2]; rw [le_t, hx, tI hn] at h2; rw [if_pos (by omega)]; rfl
theorem deny_e (v : Int32) (w : Wd) : X11_deny v w = some (NO, puI w 0 10 v) := rfl
theorem refuse_e (v : Int32) (w : Wd) : X11_refuse v w = some (nI 0, puI w 0 10 v) := rfl
theorem agree_e (w : Wd) : X11_agree w = some (nI 1, puI w 0 10 (nI 0)) := rfl
theorem answer_e (v : Int32) (w : Wd) : X11_answer v w = some (v, puI w 0 10 (nI 0)) := rfl
theorem mref_e (v : Int32) (w : Wd) : X12_refuse v w = some (NO, puI w 97 0 v) := rfl
theorem mgiv_e (v : Int32) (w : Wd) : X12_gives v w = some (v, puI w 97 0 (nI 0)) := rfl
theorem mis_e (v : Int32) (w : Wd) : X12_is v w = some (if v = nI 0 then nI 1 else nI 0, puI w 97 0 v) := by
  unfold X12_is
  by_cases h : v = 0
  · simp [h]; rfl
  · rw [if_neg (show ¬ v = nI 0 from h)]; simp [h]; rfl
theorem ansOr_e (y v : Int32) (w : Wd) : X11_answerOr y v w = if v = NO then some (NO, puI w 0 10 y) else some (v, puI w 0 10 (nI 0)) := by
  unfold X11_answerOr
  by_cases h : v = NO
  · rw [if_pos h, if_pos (show v = -1 from h)]; rfl
  · rw [if_neg h, if_neg (show ¬ v = -1 from h)]; rfl
theorem ansW_e (v : Int32) (w : Wd) : X11_answerWhether v w = some (if v = nI 0 then nI 0 else nI 1, puI w 0 10 (nI 0)) := by
  unfold X11_answerWhether
  by_cases h : v = nI 0
  · rw [if_pos h, if_pos (show v = 0 from h)]; rfl
  · rw [if_neg h, if_neg (show ¬ v = 0 from h)]; rfl
theorem wil (a : Int32) {x : Int32} (m : Nat) (w : Wd) (hx : x = nI m) (hm : m + 1 < 2 ^ 31) : X11_within a 0 x w = if 0 ≤ a.toInt ∧ a.toInt < ((m + 1 : Nat) : Int) then nI 1 else nI 0 := by
  rw [wi, hx, tI (by omega), tl_0]
  by_cases h : 0 ≤ a.toInt ∧ a.toInt < ((m + 1 : Nat) : Int)
  · rw [if_pos h, if_pos (by omega)]
  · rw [if_neg h, if_neg (by omega)]
theorem week_e (a : Int32) (w : Wd) : X11_isWeek a w = if 0 ≤ a.toInt ∧ a.toInt < ((60 : Nat) : Int) then nI 1 else nI 0 := wil (x := 59) a 59 w rfl (by omega)
theorem mweek_e (a : Int32) (w : Wd) : X12_isWeek a w = if 0 ≤ a.toInt ∧ a.toInt < ((60 : Nat) : Int) then nI 1 else nI 0 := mcnt a 60 (n := 60) rfl (by omega)
theorem shire_e (a : Int32) (w : Wd) : X11_isShire a w = if 0 ≤ a.toInt ∧ a.toInt < ((4 : Nat) : Int) then nI 1 else nI 0 := wil (x := 3) a 3 w rfl (by omega)
theorem mshire_e (a : Int32) (w : Wd) : X12_isShire a w = if 0 ≤ a.toInt ∧ a.toInt < ((4 : Nat) : Int) then nI 1 else nI 0 := mcnt a 4 (n := 4) rfl (by omega)
theorem tray_e (a : Int32) (w : Wd) : X9_isTray a w = if 0 ≤ a.toInt ∧ a.toInt < ((4 : Nat) : Int) then nI 1 else nI 0 := wil (x := 3) a 3 w rfl (by omega)
theorem mtray_e (a : Int32) (w : Wd) : X12_isTray a w = if 0 ≤ a.toInt ∧ a.toInt < ((4 : Nat) : Int) then nI 1 else nI 0 := mcnt a 4 (n := 4) rfl (by omega)
theorem lesson_e (a : Int32) (w : Wd) : X11_isLesson a w = if 0 ≤ a.toInt ∧ a.toInt < ((15 : Nat) : Int) then nI 1 else nI 0 := wil (x := 14) a 14 w rfl (by omega)
theorem span_e (a b : Int32) (w : Wd) : X11_isSpan a b w = if (0 ≤ a.toInt ∧ a.toInt < ((60 : Nat) : Int)) ∧ (0 ≤ b.toInt ∧ b.toInt < ((60 : Nat) : Int)) ∧ a.toInt ≤ b.toInt then nI 1 else nI 0 := by
  unfold X11_isSpan X11_isSpanO
  rw [week_e, week_e]
  simp only [l0, flag0, lt_t]
  by_cases h1 : (0 ≤ a.toInt ∧ a.toInt < ((60 : Nat) : Int))
  · by_cases h2 : (0 ≤ b.toInt ∧ b.toInt < ((60 : Nat) : Int))
    · by_cases h3 : b.toInt < a.toInt
      · rw [if_neg (by omega), if_neg (by omega), if_pos h3, if_neg (by omega)]; rfl
      · rw [if_neg (by omega), if_neg (by omega), if_neg h3, if_pos (by omega)]; rfl
    · rw [if_neg (by omega), if_pos (by omega), if_neg (by omega)]; rfl
  · rw [if_pos (by omega), if_neg (by omega)]; rfl
theorem relive_e (a : Int32) (w : Wd) : X10_relive a w = some (puI w 73 4 (mnI (w.1 73 4) a)) := rfl
theorem mn_nI {a b : Nat} (ha : a < 2 ^ 31) (hb : b < 2 ^ 31) : mnI (nI a) (nI b) = nI (min a b) := by
  unfold mnI
  simp only [nI_ltI hb ha]
  by_cases h : b < a
  · rw [if_pos h, Nat.min_eq_right (by omega)]
  · rw [if_neg h, Nat.min_eq_left (by omega)]
theorem mx_nI {a b : Nat} (ha : a < 2 ^ 31) (hb : b < 2 ^ 31) : mxI (nI a) (nI b) = nI (max a b) := by
  unfold mxI
  simp only [nI_ltI ha hb]
  by_cases h : a < b
  · rw [if_pos h, Nat.max_eq_right (by omega)]
  · rw [if_neg h, Nat.max_eq_left (by omega)]
/-! rows of numbers -/
def rwN (n : Nat) (A : Nat → Nat) (z : Nat → Int32) : Nat → Int32 := fun j => if j < n then nI (A j) else z j
theorem rwN_lt {n : Nat} {A : Nat → Nat} {z : Nat → Int32} {j : Nat} (h : j < n) : rwN n A z j = nI (A j) := if_pos h
theorem rwN_ge {n : Nat} {A : Nat → Nat} {z : Nat → Int32} {j : Nat} (h : n ≤ j) : rwN n A z j = z j := if_neg (by omega)
theorem upd_rwN {n b v : Nat} {A : Nat → Nat} {z : Nat → Int32} (h : b < n) : upd (rwN n A z) b (nI v) = rwN n (fun j => if j = b then v else A j) z := by
  funext j
  unfold upd rwN
  by_cases q : j = b
  · subst q; simp only [if_true, if_pos h]
  · simp only [if_neg q]
theorem rwN_congr {n : Nat} {A B : Nat → Nat} {z : Nat → Int32} (h : ∀ j, j < n → A j = B j) : rwN n A z = rwN n B z := by
  funext j
  unfold rwN
  by_cases q : j < n
  · rw [if_pos q, if_pos q, h j q]
  · rw [if_neg q, if_neg q]
theorem rwN_id {n : Nat} {A : Nat → Nat} {z : Nat → Int32} (h : ∀ j, j < n → z j = nI (A j)) : rwN n A z = z := by
  funext j
  unfold rwN
  by_cases q : j < n
  · rw [if_pos q, h j q]
  · rw [if_neg q]
theorem seI_seI {w : Wd} {k : Nat} {f g : Nat → Int32} : seI (seI w k f) k g = seI w k g := by
  unfold seI
  rw [Prod.mk.injEq]
  refine ⟨?_, rfl⟩
  funext a
  by_cases h : a = k
  · subst h; rw [up_eq, up_eq]
  · rw [up_ne h, up_ne h]; exact up_ne h
theorem seJ_seJ {w : Wd} {k : Nat} {f g : Nat → Int64} : seJ (seJ w k f) k g = seJ w k g := by
  unfold seJ
  rw [Prod.mk.injEq]
  refine ⟨rfl, ?_⟩
  funext a
  by_cases h : a = k
  · subst h; rw [up_eq, up_eq]
  · rw [up_ne h, up_ne h]; exact up_ne h
theorem IS_set {w : Wd} {v : Int32} : IS (puI (puI w 0 10 v) 97 0 v) := by
  unfold IS
  rw [I_self, I_oth (by decide), I_self]
