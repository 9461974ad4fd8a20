/-! the book: what both keep of TEXTS and RULES -/
def wkF (w : Wd) : Nat → Nat := fun t => nn w 31 t
def tl (w : Wd) (p : Nat → Bool) : List Nat := ((List.range (nn w 30 0)).map (nn w 34)).filter p
def rl (w : Wd) (L : List Nat) : List (Nat × Nat) := L.flatMap (fun t => (List.range (nn w 124 t)).map (fun k => (t, k)))
def cI (w : Wd) (q : Nat × Nat) : Nat := nn w 33 q.1 + q.2
def mI (q : Nat × Nat) : Nat := 20 * q.1 + q.2
def dm (d : Nat) : Nat := if d = 101 then 1 else d - 101
def isDoes (d : Nat) : Prop := d = 101 ∨ (103 ≤ d ∧ d ≤ 106)
def RuleOK (w : Wd) (c m : Nat) : Prop := LQ (w.2 35 c) (w.2 132 m) ∧ (LQ (w.2 36 c) (w.2 133 m) ∨ (w.2 36 c = -1 ∧ w.2 133 m = -1)) ∧ (isN w 37 c 107 ∧ isDoes (nn w 37 c) ∧ w.1 125 m = nI (dm (nn w 37 c))) ∧ (isN w 38 c 101 ∧ (104 ≤ nn w 37 c → w.1 126 m = w.1 38 c))
def IBo (w : Wd) : Prop :=
  (isN w 30 0 6 ∧ w.1 97 42 = w.1 30 0) ∧
  (∀ t, t < nn w 30 0 → isN w 31 t 60 ∧ w.1 122 t = w.1 31 t ∧ isN w 32 t 16 ∧ w.1 123 t = w.1 32 t ∧ isN w 124 t 21 ∧ nn w 33 (t + 1) = nn w 33 t + nn w 124 t) ∧
  (∀ t, t ≤ nn w 30 0 → isN w 33 t 101) ∧ nn w 33 0 = 0 ∧
  (∀ i, i < nn w 30 0 → isN w 34 i (nn w 30 0)) ∧ (∀ i j, i < j → j < nn w 30 0 → lt2 (wkF w) (nn w 34 i) (nn w 34 j)) ∧ (∀ t, t < nn w 30 0 → ∃ i, i < nn w 30 0 ∧ nn w 34 i = t) ∧
  (∀ t, t < nn w 30 0 → ∀ k, k < nn w 124 t → RuleOK w (nn w 33 t + k) (20 * t + k))
theorem IBo.fr20 {w : Wd} (h : IBo w) : ∀ t, t ≤ nn w 30 0 → nn w 33 t ≤ 20 * t
  | 0, _ => by rw [h.2.2.2.1]; omega
  | t + 1, ht => by
    have h1 := IBo.fr20 h t (by omega)
    obtain ⟨-, -, -, -, h2, h3⟩ := h.2.1 t (by omega)
    have := h2.2
    omega
theorem IBo.frm {w : Wd} (h : IBo w) {t : Nat} : ∀ n, t + n ≤ nn w 30 0 → nn w 33 t ≤ nn w 33 (t + n)
  | 0, _ => Nat.le_refl _
  | n + 1, hn => by
    have h1 := IBo.frm h (t := t) n (by omega)
    obtain ⟨-, -, -, -, h2, h3⟩ := h.2.1 (t + n) (by omega)
    rw [show t + (n + 1) = t + n + 1 by omega]
    omega
theorem tl_mem {w : Wd} (h : IBo w) {p : Nat → Bool} {x : Nat} : x ∈ tl w p ↔ x < nn w 30 0 ∧ p x = true := by
  unfold tl
  rw [List.mem_filter, List.mem_map]
  constructor
  · rintro ⟨⟨i, hi, e⟩, hp⟩
    rw [List.mem_range] at hi
    have := (h.2.2.2.2.1 i hi).2
    exact ⟨by omega, hp⟩
  · rintro ⟨hx, hp⟩
    obtain ⟨i, hi, e⟩ := h.2.2.2.2.2.2.1 x hx
    exact ⟨⟨i, List.mem_range.mpr hi, e⟩, hp⟩
theorem tl_sorted {w : Wd} (h : IBo w) {p : Nat → Bool} : (tl w p).Pairwise (lt2 (wkF w)) := (pairwise_range (f := nn w 34) h.2.2.2.2.2.1).filter p
theorem tl_len {w : Wd} (h : IBo w) {p : Nat → Bool} : (tl w p).length ≤ 5 := by
  have h1 : (tl w p).length ≤ ((List.range (nn w 30 0)).map (nn w 34)).length := List.length_filter_le _ _
  rw [List.length_map, List.length_range] at h1
  have := h.1.1.2
  omega
theorem rl_app {w : Wd} {L : List Nat} {t : Nat} : rl w (L ++ [t]) = rl w L ++ (List.range (nn w 124 t)).map (fun k => (t, k)) := by
  unfold rl; rw [List.flatMap_append]; simp
theorem rl_mem {w : Wd} {L : List Nat} {q : Nat × Nat} : q ∈ rl w L ↔ q.1 ∈ L ∧ q.2 < nn w 124 q.1 := by
  unfold rl
  rw [List.mem_flatMap]
  constructor
  · rintro ⟨t, ht, hq⟩
    obtain ⟨k, hk, rfl⟩ := List.mem_map.mp hq
    exact ⟨ht, List.mem_range.mp hk⟩
  · rintro ⟨h1, h2⟩
    exact ⟨q.1, h1, List.mem_map.mpr ⟨q.2, List.mem_range.mpr h2, rfl⟩⟩
theorem rl_len {w : Wd} : ∀ {L : List Nat}, (∀ t ∈ L, nn w 124 t ≤ 20) → (rl w L).length ≤ 20 * L.length
  | [], _ => by simp [rl]
  | t :: L, h => by
    have h1 := rl_len (w := w) (L := L) (fun x hx => h x (List.mem_cons_of_mem _ hx))
    have h2 := h t List.mem_cons_self
    have e : rl w (t :: L) = (List.range (nn w 124 t)).map (fun k => (t, k)) ++ rl w L := by unfold rl; rw [List.flatMap_cons]
    rw [e, List.length_append, List.length_map, List.length_range, List.length_cons]
    omega
/-- outside of a standing's five cells nothing changes -/
def FG (c : Nat) (w w' : Wd) : Prop := ∀ k, (k < c ∨ c + 5 ≤ k) → w'.1 k = w.1 k ∧ w'.2 k = w.2 k
theorem FG.rf {c : Nat} {w : Wd} : FG c w w := fun _ _ => ⟨rfl, rfl⟩
theorem FG.tr {c : Nat} {w w1 w2 : Wd} (h : FG c w w1) (h2 : FG c w1 w2) : FG c w w2 := fun k hk => ⟨(h2 k hk).1.trans (h k hk).1, (h2 k hk).2.trans (h k hk).2⟩
theorem FG.pu {c a i : Nat} {v : Int32} {w w1 : Wd} (h : FG c w w1) (h1 : c ≤ a) (h2 : a < c + 5) : FG c w (puI w1 a i v) := fun k hk => ⟨(I_oth (by omega)).trans (h k hk).1, (h k hk).2⟩
def rr (R : List (Nat × Nat)) (i : Nat) : Nat × Nat := R.getD i (0, 0)
def stk (w : Wd) (R : List (Nat × Nat)) (i : Nat) : Prop := ∃ j, i < j ∧ j < R.length ∧ w.2 36 (cI w (rr R j)) = w.2 35 (cI w (rr R i))
noncomputable def hit (w : Wd) (R : List (Nat × Nat)) (d j : Nat) : Bool := @decide (¬ stk w R j ∧ nn w 37 (cI w (rr R j)) = d) (Classical.propDecidable _)
theorem hit_iff {w : Wd} {R : List (Nat × Nat)} {d j : Nat} : hit w R d j = true ↔ (¬ stk w R j ∧ nn w 37 (cI w (rr R j)) = d) := by unfold hit; simp
noncomputable def slc (w : Wd) (R : List (Nat × Nat)) (d i : Nat) : List Nat := ((List.range i).filter (hit w R d)).map (fun j => cI w (rr R j))
noncomputable def lst (w : Wd) (R : List (Nat × Nat)) (d z : Nat) : Nat → Nat
  | 0 => z
  | i + 1 => if hit w R d i = true then nn w 38 (cI w (rr R i)) else lst w R d z i
theorem slc_t {w : Wd} {R : List (Nat × Nat)} {d i : Nat} (h : hit w R d i = true) : slc w R d (i + 1) = slc w R d i ++ [cI w (rr R i)] := by
  unfold slc; rw [List.range_succ, List.filter_append, List.map_append]; simp [h]
theorem slc_f {w : Wd} {R : List (Nat × Nat)} {d i : Nat} (h : ¬ hit w R d i = true) : slc w R d (i + 1) = slc w R d i := by
  unfold slc; rw [List.range_succ, List.filter_append, List.map_append]; simp [h]
theorem slc_len {w : Wd} {R : List (Nat × Nat)} {d i : Nat} : (slc w R d i).length ≤ i := by
  unfold slc
  rw [List.length_map]
  have h1 : ((List.range i).filter (hit w R d)).length ≤ (List.range i).length := List.length_filter_le _ _
  rw [List.length_range] at h1
  exact h1
def GAr (w : Wd) (c : Nat) (R : List (Nat × Nat)) : Prop := w.1 c 1 = nI R.length ∧ RowL (w.1 (c + 1)) (R.map (cI w))
def GAs (w : Wd) (c : Nat) (R : List (Nat × Nat)) : Prop := ∀ i, i < R.length → w.1 (c + 2) i = fg (stk w R i)
def GAl (v w : Wd) (c : Nat) (R : List (Nat × Nat)) (n : Nat) : Prop := (w.1 c 4 = nI (slc v R 101 n).length ∧ RowL (w.1 (c + 3)) (slc v R 101 n)) ∧ (w.1 c 6 = nI (slc v R 103 n).length ∧ RowL (w.1 (c + 4)) (slc v R 103 n)) ∧ w.1 c 8 = nI (lst v R 104 40 n) ∧ w.1 c 9 = nI (lst v R 105 0 n) ∧ w.1 c 10 = nI (lst v R 106 100 n)
def GA (w : Wd) (c m : Nat) : Prop := GAr w c (rl w (tl w m.testBit)) ∧ GAs w c (rl w (tl w m.testBit)) ∧ GAl w w c (rl w (tl w m.testBit)) (rl w (tl w m.testBit)).length
/-- a LIST of RULES that are kept -/
def okRl (w : Wd) (R : List (Nat × Nat)) : Prop := (∀ q ∈ R, q.1 < nn w 30 0 ∧ q.2 < nn w 124 q.1) ∧ R.length ≤ 100
theorem okRl_tl {w : Wd} (h : IBo w) {p : Nat → Bool} : okRl w (rl w (tl w p)) := by
  refine ⟨fun q hq => ?_, ?_⟩
  · obtain ⟨h1, h2⟩ := rl_mem.mp hq
    exact ⟨((tl_mem h).mp h1).1, h2⟩
  · have h1 := rl_len (w := w) (L := tl w p) (fun t ht => by have := (h.2.1 t ((tl_mem h).mp ht).1).2.2.2.2.1.2; omega)
    have h2 := tl_len h (p := p)
    omega
theorem cI_lt {w : Wd} (h : IBo w) {q : Nat × Nat} (h1 : q.1 < nn w 30 0) (h2 : q.2 < nn w 124 q.1) : cI w q < nn w 33 (nn w 30 0) ∧ cI w q < 100 ∧ mI q < 20 * nn w 30 0 ∧ RuleOK w (cI w q) (mI q) := by
  obtain ⟨-, -, -, -, b1, b2⟩ := h.2.1 q.1 h1
  have b3 := h.frm (t := q.1 + 1) (nn w 30 0 - (q.1 + 1)) (by omega)
  rw [show q.1 + 1 + (nn w 30 0 - (q.1 + 1)) = nn w 30 0 by omega] at b3
  have b4 := h.fr20 (nn w 30 0) (Nat.le_refl _)
  have b5 := h.1.1.2
  have b6 := b1.2
  refine ⟨?_, ?_, ?_, h.2.2.2.2.2.2.2 q.1 h1 q.2 h2⟩
  · unfold cI; omega
  · unfold cI; omega
  · unfold mI; omega
theorem okRl.at {w : Wd} (h : IBo w) {R : List (Nat × Nat)} (hR : okRl w R) {i : Nat} (hi : i < R.length) : cI w (rr R i) < nn w 33 (nn w 30 0) ∧ cI w (rr R i) < 100 ∧ mI (rr R i) < 20 * nn w 30 0 ∧ RuleOK w (cI w (rr R i)) (mI (rr R i)) := by
  obtain ⟨h1, h2⟩ := hR.1 (rr R i) (getD_mem hi)
  exact cI_lt h h1 h2
/-! the class gathers -/
theorem gin_e {w : Wd} (h : IBo w) {si : Nat} (hsi : si < 4) {a2 i : Int32} {t : Nat} (ht : t < nn w 30 0) {u : Wd} (hu : FG (stc si) w u) {R : List (Nat × Nat)} (hR : R.length + nn w 124 t ≤ 100) (hg : u.1 (stc si) 1 = nI R.length) (hr : RowL (u.1 (stc si + 1)) (R.map (cI w))) : ok (lp (X8_gather_b55 si a2 i (nI t)) (nI (nn w 33 t), u)) (fun e => FG (stc si) w e ∧ e.1 (stc si) 0 = u.1 (stc si) 0 ∧ e.1 (stc si) 1 = nI (R.length + nn w 124 t) ∧ RowL (e.1 (stc si + 1)) ((R ++ (List.range (nn w 124 t)).map (fun k => (t, k))).map (cI w))) := by
  have hc : stc si = 45 + 5 * si := rfl
  have hT := h.1.1.2
  obtain ⟨e33, b33⟩ := h.2.2.1 t (by omega)
  obtain ⟨e33', b33'⟩ := h.2.2.1 (t + 1) (by omega)
  obtain ⟨-, -, -, -, b124, e3⟩ := h.2.1 t ht
  have b124 := b124.2
  refine lp_up (fun k s => s.1 = nI (nn w 33 t + k) ∧ FG (stc si) w s.2 ∧ s.2.1 (stc si) 0 = u.1 (stc si) 0 ∧ s.2.1 (stc si) 1 = nI (R.length + k) ∧ RowL (s.2.1 (stc si + 1)) ((R ++ (List.range k).map (fun k => (t, k))).map (cI w))) (nn w 124 t) ?_ ?_ 0 _ (Nat.zero_le _) ⟨rfl, hu, rfl, hg, by simpa using hr⟩
  · rintro k ⟨s1, v⟩ hk ⟨h1, h2, h3, h4, h5⟩
    simp only at h1 h2 h3 h4 h5
    subst h1
    have r33 := congrFun (h2 33 (by omega)).1 (t + 1)
    rw [e33', e3] at r33
    unfold X8_gather_b55
    simp (disch := omega) only [gdn, gb0, gb1, ixn, nm1, nI_add, nI_mul, nsub, nI_ltI, nI_leI, nI_eq, eqNO, eqNO2, ltNO, NOlt, leNO, NOle, if_pos, if_neg, Option.bind_some, if_true, if_false, and_self, eq_self, l0, l1, l2, l3, l4, l5, l6, l7, l8, l9, l10, l11, l12, l13, l14, l15, l16, l17, l18, l19, l20, l24, l26, l30, l31, l32, l40, l41, l42, l43, l45, l47, l48, l57, l58, l59, l60, l61, l62, l63, l64, l97, l99, l100, l101, l102, l103, l104, l105, l106, l107, l108, l109, l110, l122, l160, l240, l255, l600, l1000, l3000, l10000, l10007, l10116, l67108863, l67108864, I_oth, I_J, J_oth, J_I, I_row, J_row, SI_row, SI_oth, SI_J, SJ_row, SJ_oth, SJ_I, upd_s, upd_n, updL_s, updL_n, ne_eq, not_false_eq_true, r33, h4]
    refine ok_i ⟨by rw [Nat.add_assoc], (h2.pu (by omega) (by omega)).pu (by omega) (by omega), ?_, ?_, ?_⟩
    · rw [I_row, upd_n (by omega), I_oth (by omega)]; exact h3
    · rw [I_self]; rfl
    · rw [I_oth (by omega), I_row, show R ++ (List.range (k + 1)).map (fun k => (t, k)) = (R ++ (List.range k).map (fun k => (t, k))) ++ [(t, k)] from by rw [List.range_succ]; simp, List.map_append]
      have hl : ((R ++ (List.range k).map (fun k => (t, k))).map (cI w)).length = R.length + k := by simp
      have := h5.app (v := nn w 33 t + k)
      rw [hl] at this
      exact this
  · rintro ⟨s1, v⟩ ⟨h1, h2, h3, h4, h5⟩
    simp only at h1 h2 h3 h4 h5
    subst h1
    have r33 := congrFun (h2 33 (by omega)).1 (t + 1)
    rw [e33', e3] at r33
    unfold X8_gather_b55
    simp (disch := omega) only [gdn, gb0, gb1, ixn, nm1, nI_add, nI_mul, nsub, nI_ltI, nI_leI, nI_eq, eqNO, eqNO2, ltNO, NOlt, leNO, NOle, if_pos, if_neg, Option.bind_some, if_true, if_false, and_self, eq_self, l0, l1, l2, l3, l4, l5, l6, l7, l8, l9, l10, l11, l12, l13, l14, l15, l16, l17, l18, l19, l20, l24, l26, l30, l31, l32, l40, l41, l42, l43, l45, l47, l48, l57, l58, l59, l60, l61, l62, l63, l64, l97, l99, l100, l101, l102, l103, l104, l105, l106, l107, l108, l109, l110, l122, l160, l240, l255, l600, l1000, l3000, l10000, l10007, l10116, l67108863, l67108864, I_oth, I_J, J_oth, J_I, I_row, J_row, SI_row, SI_oth, SI_J, SJ_row, SJ_oth, SJ_I, upd_s, upd_n, updL_s, updL_n, ne_eq, not_false_eq_true, r33, h4]
    exact ok_i ⟨h2, h3, h4, h5⟩
theorem gout_e {w : Wd} (h : IBo w) {si : Nat} (hsi : si < 4) {m : Nat} (hm : m < 2 ^ 31) {u : Wd} (hu : FG (stc si) w u) (hg : u.1 (stc si) 1 = nI 0) : ok (lp (X8_gather_b21 si (nI m)) (nI 0, u)) (fun e => FG (stc si) w e ∧ e.1 (stc si) 0 = u.1 (stc si) 0 ∧ e.1 (stc si) 1 = nI (rl w (tl w m.testBit)).length ∧ RowL (e.1 (stc si + 1)) ((rl w (tl w m.testBit)).map (cI w))) := by
  have hc : stc si = 45 + 5 * si := rfl
  have hT := h.1.1.2
  have eT := h.1.1.1
  refine lp_up (fun i s => s.1 = nI i ∧ FG (stc si) w s.2 ∧ s.2.1 (stc si) 0 = u.1 (stc si) 0 ∧ s.2.1 (stc si) 1 = nI (rl w (((List.range i).map (nn w 34)).filter m.testBit)).length ∧ RowL (s.2.1 (stc si + 1)) ((rl w (((List.range i).map (nn w 34)).filter m.testBit)).map (cI w)) ∧ (rl w (((List.range i).map (nn w 34)).filter m.testBit)).length ≤ 20 * i) (nn w 30 0) ?_ ?_ 0 _ (Nat.zero_le _) ⟨rfl, hu, rfl, hg, RowL.nil, Nat.zero_le _⟩
  · rintro i ⟨s1, v⟩ hi ⟨h1, h2, h3, h4, h5, h6⟩
    simp only at h1 h2 h3 h4 h5 h6
    subst h1
    obtain ⟨e34, b34⟩ := h.2.2.2.2.1 i hi
    have r30 := congrFun (h2 30 (by omega)).1 0
    have r34 := congrFun (h2 34 (by omega)).1 i
    rw [eT] at r30
    rw [e34] at r34
    have b124 := (h.2.1 _ b34).2.2.2.2.1.2
    obtain ⟨e33, b33⟩ := h.2.2.1 (nn w 34 i) (by omega)
    have r33 := congrFun (h2 33 (by omega)).1 (nn w 34 i)
    rw [e33] at r33
    rw [List.range_succ, List.map_append, List.filter_append]
    unfold X8_gather_b21 X8_gather_j96
    by_cases q : m.testBit (nn w 34 i) = true
    · have hq : (nI m >>> (nI (nn w 34 i) &&& nI 31)) &&& nI 1 = nI 1 := by rw [bit_e hm (by omega), if_pos q]
      obtain ⟨e, he, g1, g2, g3, g4⟩ := gin_e h hsi (a2 := nI m) (i := nI i) b34 h2 (R := rl w (((List.range i).map (nn w 34)).filter m.testBit)) (by omega) h4 h5
      have hf : List.filter m.testBit (List.map (nn w 34) [i]) = [nn w 34 i] := by simp [q]
      rw [hf, rl_app]
      simp (disch := omega) only [gdn, gb0, gb1, ixn, nm1, nI_add, nI_mul, nsub, nI_ltI, nI_leI, nI_eq, eqNO, eqNO2, ltNO, NOlt, leNO, NOle, if_pos, if_neg, Option.bind_some, if_true, if_false, and_self, eq_self, l0, l1, l2, l3, l4, l5, l6, l7, l8, l9, l10, l11, l12, l13, l14, l15, l16, l17, l18, l19, l20, l24, l26, l30, l31, l32, l40, l41, l42, l43, l45, l47, l48, l57, l58, l59, l60, l61, l62, l63, l64, l97, l99, l100, l101, l102, l103, l104, l105, l106, l107, l108, l109, l110, l122, l160, l240, l255, l600, l1000, l3000, l10000, l10007, l10116, l67108863, l67108864, I_oth, I_J, J_oth, J_I, I_row, J_row, SI_row, SI_oth, SI_J, SJ_row, SJ_oth, SJ_I, upd_s, upd_n, updL_s, updL_n, ne_eq, not_false_eq_true, r30, r34, r33, show (31 : Int32) = nI 31 from rfl, hq, he]
      refine ok_i ⟨rfl, g1, g2.trans h3, ?_, g4, ?_⟩
      · rw [g3, List.length_append, List.length_map, List.length_range]
      · rw [List.length_append, List.length_map, List.length_range]; omega
    · have hq : (nI m >>> (nI (nn w 34 i) &&& nI 31)) &&& nI 1 = nI 0 := by rw [bit_e hm (by omega), if_neg q]
      have hf : List.filter m.testBit (List.map (nn w 34) [i]) = [] := by simp [q]
      rw [hf, List.append_nil]
      simp (disch := omega) only [gdn, gb0, gb1, ixn, nm1, nI_add, nI_mul, nsub, nI_ltI, nI_leI, nI_eq, eqNO, eqNO2, ltNO, NOlt, leNO, NOle, if_pos, if_neg, Option.bind_some, if_true, if_false, and_self, eq_self, l0, l1, l2, l3, l4, l5, l6, l7, l8, l9, l10, l11, l12, l13, l14, l15, l16, l17, l18, l19, l20, l24, l26, l30, l31, l32, l40, l41, l42, l43, l45, l47, l48, l57, l58, l59, l60, l61, l62, l63, l64, l97, l99, l100, l101, l102, l103, l104, l105, l106, l107, l108, l109, l110, l122, l160, l240, l255, l600, l1000, l3000, l10000, l10007, l10116, l67108863, l67108864, I_oth, I_J, J_oth, J_I, I_row, J_row, SI_row, SI_oth, SI_J, SJ_row, SJ_oth, SJ_I, upd_s, upd_n, updL_s, updL_n, ne_eq, not_false_eq_true, r30, r34, r33, show (31 : Int32) = nI 31 from rfl, hq]
      exact ok_i ⟨rfl, h2, h3, h4, h5, by omega⟩
  · rintro ⟨s1, v⟩ ⟨h1, h2, h3, h4, h5, h6⟩
    simp only at h1 h2 h3 h4 h5 h6
    subst h1
    have r30 := congrFun (h2 30 (by omega)).1 0
    rw [eT] at r30
    unfold X8_gather_b21
    simp (disch := omega) only [gdn, gb0, gb1, ixn, nm1, nI_add, nI_mul, nsub, nI_ltI, nI_leI, nI_eq, eqNO, eqNO2, ltNO, NOlt, leNO, NOle, if_pos, if_neg, Option.bind_some, if_true, if_false, and_self, eq_self, l0, l1, l2, l3, l4, l5, l6, l7, l8, l9, l10, l11, l12, l13, l14, l15, l16, l17, l18, l19, l20, l24, l26, l30, l31, l32, l40, l41, l42, l43, l45, l47, l48, l57, l58, l59, l60, l61, l62, l63, l64, l97, l99, l100, l101, l102, l103, l104, l105, l106, l107, l108, l109, l110, l122, l160, l240, l255, l600, l1000, l3000, l10000, l10007, l10116, l67108863, l67108864, I_oth, I_J, J_oth, J_I, I_row, J_row, SI_row, SI_oth, SI_J, SJ_row, SJ_oth, SJ_I, upd_s, upd_n, updL_s, updL_n, ne_eq, not_false_eq_true, r30]
    exact ok_i ⟨h2, h3, h4, h5⟩

theorem cmpz {a b : Int64} : (lg_cmp a b = nI 0) = (a = b) := by rw [show nI 0 = (0 : Int32) from rfl, eq_iff_iff]; exact lg_cmp_eq _ _
theorem strin_e {w : Wd} (h : IBo w) {si : Nat} (hsi : si < 4) {u : Wd} (hu : FG (stc si) w u) {R : List (Nat × Nat)} (hR : okRl w R) (hg : u.1 (stc si) 1 = nI R.length) (hr : RowL (u.1 (stc si + 1)) (R.map (cI w))) {i : Nat} (hi : i < R.length) {x : Int32} : lp (X8_strike_b30 si x (w.2 35 (cI w (rr R i))) u) (nI 0, nI (i + 1)) = some (fg (stk w R i)) := by
  have hc : stc si = 45 + 5 * si := rfl
  have hl := hR.2
  refine eq_ok (lp_up (fun j s => ∃ p : Prop, s = (fg p, nI (i + 1 + j)) ∧ (p → stk w R i) ∧ (¬ p → ∀ k, i < k → k < i + 1 + j → ¬ w.2 36 (cI w (rr R k)) = w.2 35 (cI w (rr R i)))) (R.length - (i + 1)) ?_ ?_ 0 _ (Nat.zero_le _) ⟨False, by rw [fg_f id], False.elim, fun _ k h1 h2 => by omega⟩)
  · rintro j s hj ⟨p, rfl, h1, h2⟩
    obtain ⟨-, b2, -, -⟩ := hR.at h (i := i + 1 + j) (by omega)
    have rj := hr (i + 1 + j) (by rw [List.length_map]; omega)
    rw [getD_map (d := (0, 0)) (by omega)] at rj
    rw [show R.getD (i + 1 + j) (0, 0) = rr R (i + 1 + j) from rfl] at rj
    have r36 := congrFun (hu 36 (by omega)).2 (cI w (rr R (i + 1 + j)))
    unfold X8_strike_b30 X8_strike_j66
    by_cases hp : p
    · rw [fg_t hp]
      simp (disch := omega) only [gdn, gb0, gb1, ixn, nm1, nI_add, nI_mul, nsub, nI_ltI, nI_leI, nI_eq, eqNO, eqNO2, ltNO, NOlt, leNO, NOle, if_pos, if_neg, Option.bind_some, if_true, if_false, and_self, eq_self, l0, l1, l2, l3, l4, l5, l6, l7, l8, l9, l10, l11, l12, l13, l14, l15, l16, l17, l18, l19, l20, l24, l26, l30, l31, l32, l40, l41, l42, l43, l45, l47, l48, l57, l58, l59, l60, l61, l62, l63, l64, l97, l99, l100, l101, l102, l103, l104, l105, l106, l107, l108, l109, l110, l122, l160, l240, l255, l600, l1000, l3000, l10000, l10007, l10116, l67108863, l67108864, I_oth, I_J, J_oth, J_I, I_row, J_row, SI_row, SI_oth, SI_J, SJ_row, SJ_oth, SJ_I, upd_s, upd_n, updL_s, updL_n, ne_eq, not_false_eq_true, hg]
      exact ok_i (by show nI 1 = fg (stk w R i); rw [fg_t (h1 hp)])
    · rw [fg_f hp]
      by_cases q : w.2 36 (cI w (rr R (i + 1 + j))) = w.2 35 (cI w (rr R i))
      · simp (disch := omega) only [gdn, gb0, gb1, ixn, nm1, nI_add, nI_mul, nsub, nI_ltI, nI_leI, nI_eq, eqNO, eqNO2, ltNO, NOlt, leNO, NOle, if_pos, if_neg, Option.bind_some, if_true, if_false, and_self, eq_self, l0, l1, l2, l3, l4, l5, l6, l7, l8, l9, l10, l11, l12, l13, l14, l15, l16, l17, l18, l19, l20, l24, l26, l30, l31, l32, l40, l41, l42, l43, l45, l47, l48, l57, l58, l59, l60, l61, l62, l63, l64, l97, l99, l100, l101, l102, l103, l104, l105, l106, l107, l108, l109, l110, l122, l160, l240, l255, l600, l1000, l3000, l10000, l10007, l10116, l67108863, l67108864, I_oth, I_J, J_oth, J_I, I_row, J_row, SI_row, SI_oth, SI_J, SJ_row, SJ_oth, SJ_I, upd_s, upd_n, updL_s, updL_n, ne_eq, not_false_eq_true, hg, rj, r36, cmpz, q]
        exact ok_i ⟨True, by rw [fg_t trivial]; rfl, fun _ => ⟨i + 1 + j, by omega, by omega, q⟩, fun z => (z trivial).elim⟩
      · simp (disch := omega) only [gdn, gb0, gb1, ixn, nm1, nI_add, nI_mul, nsub, nI_ltI, nI_leI, nI_eq, eqNO, eqNO2, ltNO, NOlt, leNO, NOle, if_pos, if_neg, Option.bind_some, if_true, if_false, and_self, eq_self, l0, l1, l2, l3, l4, l5, l6, l7, l8, l9, l10, l11, l12, l13, l14, l15, l16, l17, l18, l19, l20, l24, l26, l30, l31, l32, l40, l41, l42, l43, l45, l47, l48, l57, l58, l59, l60, l61, l62, l63, l64, l97, l99, l100, l101, l102, l103, l104, l105, l106, l107, l108, l109, l110, l122, l160, l240, l255, l600, l1000, l3000, l10000, l10007, l10116, l67108863, l67108864, I_oth, I_J, J_oth, J_I, I_row, J_row, SI_row, SI_oth, SI_J, SJ_row, SJ_oth, SJ_I, upd_s, upd_n, updL_s, updL_n, ne_eq, not_false_eq_true, hg, rj, r36, cmpz, q]
        refine ok_i ⟨False, by rw [fg_f id]; rfl, False.elim, fun _ k k1 k2 => ?_⟩
        by_cases z : k = i + 1 + j
        · rw [z]; exact q
        · exact h2 hp k k1 (by omega)
  · rintro s ⟨p, rfl, h1, h2⟩
    unfold X8_strike_b30
    simp (disch := omega) only [gdn, gb0, gb1, ixn, nm1, nI_add, nI_mul, nsub, nI_ltI, nI_leI, nI_eq, eqNO, eqNO2, ltNO, NOlt, leNO, NOle, if_pos, if_neg, Option.bind_some, if_true, if_false, and_self, eq_self, l0, l1, l2, l3, l4, l5, l6, l7, l8, l9, l10, l11, l12, l13, l14, l15, l16, l17, l18, l19, l20, l24, l26, l30, l31, l32, l40, l41, l42, l43, l45, l47, l48, l57, l58, l59, l60, l61, l62, l63, l64, l97, l99, l100, l101, l102, l103, l104, l105, l106, l107, l108, l109, l110, l122, l160, l240, l255, l600, l1000, l3000, l10000, l10007, l10116, l67108863, l67108864, I_oth, I_J, J_oth, J_I, I_row, J_row, SI_row, SI_oth, SI_J, SJ_row, SJ_oth, SJ_I, upd_s, upd_n, updL_s, updL_n, ne_eq, not_false_eq_true, hg]
    refine ok_i (show fg p = fg (stk w R i) from fg_c ⟨h1, fun ⟨k, k1, k2, k3⟩ => ?_⟩)
    by_cases hp : p
    · exact hp
    · exact (h2 hp k k1 (by omega) k3).elim
theorem nar_fg (p : Prop) : vp_nar .boolean (fg p) = fg p := by
  by_cases h : p
  · rw [fg_t h]; decide
  · rw [fg_f h]; decide
theorem strike_e {w : Wd} (h : IBo w) {si : Nat} (hsi : si < 4) {u : Wd} (hu : FG (stc si) w u) {R : List (Nat × Nat)} (hR : okRl w R) (hg : u.1 (stc si) 1 = nI R.length) (hr : RowL (u.1 (stc si + 1)) (R.map (cI w))) : ok (X8_strike si u) (fun e => FG (stc si) w e ∧ e.1 (stc si) = u.1 (stc si) ∧ e.1 (stc si + 1) = u.1 (stc si + 1) ∧ ∀ j, j < R.length → e.1 (stc si + 2) j = fg (stk w R j)) := by
  have hc : stc si = 45 + 5 * si := rfl
  have hl := hR.2
  unfold X8_strike
  refine ok_bi (R := fun e => FG (stc si) w e ∧ e.1 (stc si) = u.1 (stc si) ∧ e.1 (stc si + 1) = u.1 (stc si + 1) ∧ ∀ j, j < R.length → e.1 (stc si + 2) j = fg (stk w R j)) ?_ (fun e he => ok_i he)
  refine lp_up (fun i s => s.1 = nI i ∧ FG (stc si) w s.2 ∧ s.2.1 (stc si) = u.1 (stc si) ∧ s.2.1 (stc si + 1) = u.1 (stc si + 1) ∧ ∀ j, j < i → s.2.1 (stc si + 2) j = fg (stk w R j)) R.length ?_ ?_ 0 _ (Nat.zero_le _) ⟨rfl, hu, rfl, rfl, fun j hj => by omega⟩
  · rintro i ⟨s1, v⟩ hi ⟨h1, h2, h3, h4, h5⟩
    simp only at h1 h2 h3 h4 h5
    subst h1
    obtain ⟨-, b2, -, -⟩ := hR.at h hi
    have g3 : v.1 (stc si) 1 = nI R.length := by rw [h3]; exact hg
    have g4 : RowL (v.1 (stc si + 1)) (R.map (cI w)) := by rw [h4]; exact hr
    have rj := g4 i (by rw [List.length_map]; omega)
    rw [getD_map (d := (0, 0)) (by omega)] at rj
    rw [show R.getD i (0, 0) = rr R i from rfl] at rj
    have r35 := congrFun (h2 35 (by omega)).2 (cI w (rr R i))
    unfold X8_strike_b2
    simp (disch := omega) only [gdn, gb0, gb1, ixn, nm1, nI_add, nI_mul, nsub, nI_ltI, nI_leI, nI_eq, eqNO, eqNO2, ltNO, NOlt, leNO, NOle, if_pos, if_neg, Option.bind_some, if_true, if_false, and_self, eq_self, l0, l1, l2, l3, l4, l5, l6, l7, l8, l9, l10, l11, l12, l13, l14, l15, l16, l17, l18, l19, l20, l24, l26, l30, l31, l32, l40, l41, l42, l43, l45, l47, l48, l57, l58, l59, l60, l61, l62, l63, l64, l97, l99, l100, l101, l102, l103, l104, l105, l106, l107, l108, l109, l110, l122, l160, l240, l255, l600, l1000, l3000, l10000, l10007, l10116, l67108863, l67108864, I_oth, I_J, J_oth, J_I, I_row, J_row, SI_row, SI_oth, SI_J, SJ_row, SJ_oth, SJ_I, upd_s, upd_n, updL_s, updL_n, ne_eq, not_false_eq_true, g3, rj, r35, strin_e h hsi h2 hR g3 g4 hi, nar_fg]
    refine ok_i ⟨rfl, h2.pu (by omega) (by omega), ?_, ?_, fun j hj => ?_⟩
    · rw [I_oth (by omega)]; exact h3
    · rw [I_oth (by omega)]; exact h4
    · rw [I_row]
      by_cases z : j = i
      · subst z; exact upd_s
      · rw [upd_n z]; exact h5 j (by omega)
  · rintro ⟨s1, v⟩ ⟨h1, h2, h3, h4, h5⟩
    simp only at h1 h2 h3 h4 h5
    subst h1
    have g3 : v.1 (stc si) 1 = nI R.length := by rw [h3]; exact hg
    unfold X8_strike_b2
    simp (disch := omega) only [gdn, gb0, gb1, ixn, nm1, nI_add, nI_mul, nsub, nI_ltI, nI_leI, nI_eq, eqNO, eqNO2, ltNO, NOlt, leNO, NOle, if_pos, if_neg, Option.bind_some, if_true, if_false, and_self, eq_self, l0, l1, l2, l3, l4, l5, l6, l7, l8, l9, l10, l11, l12, l13, l14, l15, l16, l17, l18, l19, l20, l24, l26, l30, l31, l32, l40, l41, l42, l43, l45, l47, l48, l57, l58, l59, l60, l61, l62, l63, l64, l97, l99, l100, l101, l102, l103, l104, l105, l106, l107, l108, l109, l110, l122, l160, l240, l255, l600, l1000, l3000, l10000, l10007, l10116, l67108863, l67108864, I_oth, I_J, J_oth, J_I, I_row, J_row, SI_row, SI_oth, SI_J, SJ_row, SJ_oth, SJ_I, upd_s, upd_n, updL_s, updL_n, ne_eq, not_false_eq_true, g3]
    exact ok_i ⟨h2, h3, h4, h5⟩
