/-! what becomes of a LEARNER in a WEEK -/
def shutP (w : Wd) (i week : Nat) : Prop := w.1 10 i ≠ NO ∧ nn w 10 i ≤ week ∧ week ≤ nn w 11 i
def atP (w : Wd) (p i : Nat) : Prop := nn w 7 i = p ∨ nn w 8 i = p
def rainP (w : Wd) (p week : Nat) : Prop := (∃ i, i < nn w 5 2 ∧ atP w p i) ∧ ∀ i, i < nn w 5 2 → atP w p i → shutP w i week
def shY (w : Wd) (m : Nat) : Nat := nn w 6 (nn w 17 m)
noncomputable def pL (p : Prop) : Int64 := @ite _ p (Classical.propDecidable p) (lN 1) (lN 0)
noncomputable def fct (w : Wd) (week l m : Nat) (g : Nat → Nat) : Nat → Int64 := fun i => if i = 0 then lN (nn w 13 l) else if i = 1 then pL ((nn w 15 (ix (tchS w m week))).testBit (nn w 14 l) = true) else if i = 2 then lN (crwS w m week) else if i = 3 then lN week else if i = 4 then lN (pcN 15 (dnS (ndF w) g)) else if i = 5 then pL (rainP w (nn w 17 m) week) else lN (shY w m)
noncomputable def lmY (w : Wd) (week l : Nat) : Nat := ix (lampS w 1 l week)
def litY (w : Wd) (week l : Nat) : Prop := lampS w 1 l week ≠ NO ∧ tchS w (lmY w week l) week ≠ NO
noncomputable def rsY (w : Wd) (week l : Nat) : List (Nat × Nat) := RS w (shY w (lmY w week l)) week
noncomputable def rmY (w : Wd) (week m : Nat) : Nat := lst w (RS w (shY w m) week) 104 40 (RS w (shY w m) week).length
noncomputable def myY (w : Wd) (week l : Nat) (g : Nat → Nat) : Bool := mayS w (rsY w week l) (fct w week l (lmY w week l) g)
noncomputable def hrY (w : Wd) (week l : Nat) (g : Nat → Nat) : Nat := hrsS w (rsY w week l) (fct w week l (lmY w week l) g)
noncomputable def jd (w : Wd) (week l : Nat) (g : Nat → Nat) (t : Nat) : Nat := @ite _ (litY w week l) (Classical.propDecidable _) (if myY w week l g = false then 1 else if rmY w week (lmY w week l) ≤ t then 2 else 3 + hrY w week l g) 0
theorem jd_n {w : Wd} {week l : Nat} {g : Nat → Nat} {t : Nat} (h : ¬ litY w week l) : jd w week l g t = 0 := if_neg h
theorem jd_t {w : Wd} {week l : Nat} {g : Nat → Nat} {t : Nat} (h : litY w week l) : jd w week l g t = if myY w week l g = false then 1 else if rmY w week (lmY w week l) ≤ t then 2 else 3 + hrY w week l g := if_pos h
theorem hrY_le {w : Wd} {week l : Nat} {g : Nat → Nat} : hrY w week l g ≤ 60 := hrV_le
theorem jd_le {w : Wd} {week l : Nat} {g : Nat → Nat} {t : Nat} : jd w week l g t ≤ 63 := by
  have := hrY_le (w := w) (week := week) (l := l) (g := g)
  by_cases h : litY w week l
  · rw [jd_t h]; (repeat' split) <;> omega
  · rw [jd_n h]; omega
/-! the whole year -/
section
variable (J : Nat → Nat → (Nat → Nat) → Nat → Nat) (M : Nat → Nat → Nat) (X : Nat → (Nat → Nat) → Nat → Nat → (Nat → Nat) × Nat)
/-- seats taken by those ahead of l -/
noncomputable def tkn (week : Nat) (G : Nat → Nat → Nat) : Nat → Nat → Nat
  | 0 => fun _ => 0
  | l + 1 => fun m => tkn week G l m + if 3 ≤ J week l (G l) (tkn week G l (M week l)) ∧ m = M week l then 1 else 0
noncomputable def ocm (week : Nat) (G : Nat → Nat → Nat) (l : Nat) : Nat := J week l (G l) (tkn J M week G l (M week l))
noncomputable def yG : Nat → Nat → (Nat → Nat) × Nat
  | 0 => fun _ => (fun _ => 0, 0)
  | k + 1 => fun l => X l (yG k l).1 (yG k l).2 (ocm J M k (fun l => (yG k l).1) l)
end
theorem tkn_c {J J' : Nat → Nat → (Nat → Nat) → Nat → Nat} {M M' : Nat → Nat → Nat} {week N : Nat} {G G' : Nat → Nat → Nat} (hJ : ∀ l, l < N → ∀ g t, J' week l g t = J week l g t) (hM : ∀ l, l < N → M' week l = M week l) (hG : ∀ l, l < N → G' l = G l) : ∀ l, l ≤ N → tkn J' M' week G' l = tkn J M week G l
  | 0, _ => rfl
  | l + 1, h => by
    funext m
    unfold tkn
    rw [tkn_c hJ hM hG l (by omega), hM l (by omega), hG l (by omega), hJ l (by omega)]
theorem yG_c {J J' : Nat → Nat → (Nat → Nat) → Nat → Nat} {M M' : Nat → Nat → Nat} {X X' : Nat → (Nat → Nat) → Nat → Nat → (Nat → Nat) × Nat} {B N : Nat} (hJ : ∀ week, week < B → ∀ l, l < N → ∀ g t, J' week l g t = J week l g t) (hM : ∀ week, week < B → ∀ l, l < N → M' week l = M week l) (hX : ∀ l, l < N → X' l = X l) : ∀ k, k ≤ B → ∀ l, l < N → yG J' M' X' k l = yG J M X k l
  | 0, _, _, _ => rfl
  | k + 1, h, l, hl => by
    have ih := yG_c hJ hM hX k (by omega)
    unfold yG ocm
    simp only []
    rw [ih l hl, hM k (by omega) l hl, hJ k (by omega) l hl, hX l hl, tkn_c (hJ k (by omega)) (hM k (by omega)) (fun l hl => by rw [ih l hl]) l (by omega)]
theorem ocm_c {J J' : Nat → Nat → (Nat → Nat) → Nat → Nat} {M M' : Nat → Nat → Nat} {X X' : Nat → (Nat → Nat) → Nat → Nat → (Nat → Nat) × Nat} {B N : Nat} (hJ : ∀ week, week < B → ∀ l, l < N → ∀ g t, J' week l g t = J week l g t) (hM : ∀ week, week < B → ∀ l, l < N → M' week l = M week l) (hX : ∀ l, l < N → X' l = X l) {k : Nat} (hk : k < B) {l : Nat} (hl : l < N) : ocm J' M' k (fun l => (yG J' M' X' k l).1) l = ocm J M k (fun l => (yG J M X k l).1) l := by
  have ih := yG_c hJ hM hX k (by omega)
  unfold ocm
  simp only []
  rw [ih l hl, hM k hk l hl, hJ k hk l hl, tkn_c (hJ k hk) (hM k hk) (fun l hl => by rw [ih l hl]) l (by omega)]
noncomputable def nxY (w : Wd) (l : Nat) (g : Nat → Nat) (p o : Nat) : (Nat → Nat) × Nat := if 3 ≤ o then (mlr_ (ndF w) (lnF w) (wrt (nn w 13 l) (o - 3)) g, 0) else (if nn w 69 3 ≤ p then mfg (ndF w) g else g, p + 1)
noncomputable def YG (w : Wd) : Nat → Nat → (Nat → Nat) × Nat := yG (jd w) (lmY w) (nxY w)
noncomputable def YH (w : Wd) (k l : Nat) : Nat → Nat := (YG w k l).1
noncomputable def YT (w : Wd) (week l m : Nat) : Nat := tkn (jd w) (lmY w) week (YH w week) l m
noncomputable def YO (w : Wd) (week l : Nat) : Nat := ocm (jd w) (lmY w) week (YH w week) l
theorem YO_e {w : Wd} {week l : Nat} : YO w week l = jd w week l (YH w week l) (YT w week l (lmY w week l)) := rfl
theorem YT_s {w : Wd} {week l m : Nat} : YT w week (l + 1) m = YT w week l m + if 3 ≤ YO w week l ∧ m = lmY w week l then 1 else 0 := rfl
theorem YG_s {w : Wd} {week l : Nat} : YG w (week + 1) l = nxY w l (YH w week l) (YG w week l).2 (YO w week l) := rfl
theorem YG_p {w : Wd} : ∀ {k l : Nat}, (YG w k l).2 ≤ k
  | 0, _ => Nat.le_refl _
  | k + 1, l => by
    have := YG_p (w := w) (k := k) (l := l)
    rw [YG_s]
    unfold nxY
    split
    · exact Nat.zero_le _
    · show (YG w k l).2 + 1 ≤ _
      omega
theorem YH_le {w : Wd} (h : ILs w) : ∀ {k l : Nat} (j : Nat), j < 15 → YH w k l j ≤ 60
  | 0, _, _, _ => Nat.zero_le _
  | k + 1, l, j, hj => by
    have ih := fun j hj => YH_le h (k := k) (l := l) j hj
    unfold YH
    rw [YG_s]
    unfold nxY
    split
    · exact mlr_le (fun j hj => by have := (h.1 j hj).1.2; show nn w 70 j ≤ 60; omega) _ _ ih j hj
    · show (if nn w 69 3 ≤ (YG w k l).2 then mfg (ndF w) (YH w k l) else YH w k l) j ≤ 60
      split
      · exact mfg_le ih j hj
      · exact ih j hj
theorem YT_le {w : Wd} {week : Nat} : ∀ {l : Nat} (m : Nat), YT w week l m ≤ rmY w week m ∧ YT w week l m ≤ l
  | 0, _ => ⟨Nat.zero_le _, Nat.le_refl _⟩
  | l + 1, m => by
    have ih := YT_le (w := w) (week := week) (l := l) m
    rw [YT_s]
    by_cases h : 3 ≤ YO w week l ∧ m = lmY w week l
    · rw [if_pos h]
      refine ⟨?_, by omega⟩
      obtain ⟨h1, rfl⟩ := h
      rw [YO_e] at h1
      by_cases q : litY w week l
      · rw [jd_t q] at h1
        by_cases q2 : myY w week l (YH w week l) = false
        · rw [if_pos q2] at h1; omega
        · rw [if_neg q2] at h1
          by_cases q3 : rmY w week (lmY w week l) ≤ YT w week l (lmY w week l)
          · rw [if_pos q3] at h1; omega
          · omega
      · rw [jd_n q] at h1; omega
    · rw [if_neg h]; omega
