/-! total correctness: how 'ok' is shown -/
theorem ok_i {α : Type} {a : α} {P : α → Prop} (h : P a) : ok (some a) P := ⟨a, rfl, h⟩
theorem ok_gi {α : Type} {c : Prop} {k : Option α} {P : α → Prop} (hc : c) (h : ok k P) : ok (gd c k) P := by rw [gd_t hc]; exact h
theorem ok_bi {α β : Type} {o : Option α} {f : α → Option β} {R : α → Prop} {P : β → Prop} (h : ok o R) (k : ∀ a, R a → ok (f a) P) : ok (o.bind f) P := by
  obtain ⟨a, e, ha⟩ := h
  rw [e]
  exact k a ha
theorem ok_be {α β : Type} {o : Option α} {a : α} {f : α → Option β} {P : β → Prop} (e : o = some a) (k : ok (f a) P) : ok (o.bind f) P := by
  rw [e]; exact k
theorem ok_ii {α : Type} {c : Prop} {dc : Decidable c} {a b : Option α} {P : α → Prop} (h1 : c → ok a P) (h2 : ¬ c → ok b P) : ok (@ite _ c dc a b) P := by
  by_cases h : c
  · rw [if_pos h]; exact h1 h
  · rw [if_neg h]; exact h2 h
theorem ok_mono {α : Type} {o : Option α} {P Q : α → Prop} (h : ok o P) (k : ∀ a, P a → Q a) : ok o Q := by
  obtain ⟨a, e, ha⟩ := h
  exact ⟨a, e, k a ha⟩
theorem ok_and {α : Type} {o : Option α} {P Q : α → Prop} (h : ok o P) (hF : okF o Q) : ok o (fun a => P a ∧ Q a) := by
  obtain ⟨a, e, ha⟩ := h
  exact ⟨a, e, ha, hF a e⟩
theorem ok_eq {α : Type} {o : Option α} {a : α} (e : o = some a) : ok o (fun b => b = a) := ⟨a, e, rfl⟩
theorem eq_ok {α : Type} {o : Option α} {a : α} (h : ok o (fun b => b = a)) : o = some a := by
  obtain ⟨b, e, hb⟩ := h
  rw [e, hb]
/-! loops -/
theorem lp_step {S E : Type} {b : S → Option (S ⊕ E)} {s s' : S} (h : b s = some (.inl s')) : lp b s = lp b s' := by
  rw [lp_eq, h]; rfl
theorem lp_exit {S E : Type} {b : S → Option (S ⊕ E)} {s : S} {e : E} (h : b s = some (.inr e)) : lp b s = some e := by
  rw [lp_eq, h]; rfl
/-- an invariant by a counter from i up to n -/
theorem lp_up {S E : Type} {b : S → Option (S ⊕ E)} {Q : E → Prop} (I : Nat → S → Prop) (n : Nat) (step : ∀ i s, i < n → I i s → ok (b s) (sel (I (i + 1)) Q)) (last : ∀ s, I n s → ok (b s) (sel (fun _ => False) Q)) : ∀ i s, i ≤ n → I i s → ok (lp b s) Q := by
  intro i s hi h
  induction hk : n - i generalizing i s with
  | zero =>
    have : i = n := by omega
    subst this
    obtain ⟨x, e, hx⟩ := last s h
    cases x with
    | inl s' => exact hx.elim
    | inr e' => rw [lp_exit e]; exact ok_i hx
  | succ k ih =>
    obtain ⟨x, e, hx⟩ := step i s (by omega) h
    cases x with
    | inl s' => rw [lp_step e]; exact ih (i + 1) s' (by omega) hx (by omega)
    | inr e' => rw [lp_exit e]; exact ok_i hx
/-- by a measure -/
theorem lp_dn {S E : Type} {b : S → Option (S ⊕ E)} {Q : E → Prop} (I : S → Prop) (μ : S → Nat) (step : ∀ s, I s → ok (b s) (sel (fun s' => I s' ∧ μ s' < μ s) Q)) : ∀ s, I s → ok (lp b s) Q := by
  intro s h
  induction hk : μ s using Nat.strongRecOn generalizing s with
  | _ k ih =>
    obtain ⟨x, e, hx⟩ := step s h
    cases x with
    | inl s' => rw [lp_step e]; exact ih (μ s') (by rw [← hk]; exact hx.2) s' hx.1 rfl
    | inr e' => rw [lp_exit e]; exact ok_i hx
/-- explicit states -/
theorem lp_for {S E : Type} {b : S → Option (S ⊕ E)} {e : E} (f : Nat → S) (n : Nat) (step : ∀ i, i < n → b (f i) = some (.inl (f (i + 1)))) (last : b (f n) = some (.inr e)) : ∀ i, i ≤ n → lp b (f i) = some e := by
  intro i hi
  induction hk : n - i generalizing i with
  | zero =>
    have : i = n := by omega
    subst this
    exact lp_exit last
  | succ k ih => rw [lp_step (step i (by omega))]; exact ih (i + 1) (by omega) (by omega)
/-! numbers -/
theorem ix_nI {n : Nat} (h : n < 2 ^ 31) : ix (nI n) = n := nI_clamp h
theorem in_nI {n N : Nat} (h : n < N) (hN : N < 2 ^ 31) : vp_in (nI n) N := vp_in_nI h hN
theorem nI_mul (a b : Nat) : nI a * nI b = nI (a * b) := pk_mul a b
theorem nI_sub {a b : Nat} (h : b ≤ a) : nI a - nI b = nI (a - b) := pk_sub h
theorem tI {n : Nat} (h : n < 2 ^ 31) : (nI n).toInt = (n : Int) := nI_toInt h
theorem lt_t {x y : Int32} : x < y ↔ x.toInt < y.toInt := Int32.lt_iff_toInt_lt
theorem le_t {x y : Int32} : x ≤ y ↔ x.toInt ≤ y.toInt := Int32.le_iff_toInt_le
theorem eq_t {x y : Int32} : x = y ↔ x.toInt = y.toInt := Int32.toInt_inj.symm
/-- an int within 0 .. n-1 is such a number -/
theorem of_rng {x : Int32} {n : Nat} (h0 : ¬ x < 0) (h1 : x.toInt < n) : ∃ j : Nat, j < n ∧ x = nI j := by
  have h2 : 0 ≤ x.toInt := by
    rw [lt_t, show (0 : Int32).toInt = 0 by decide] at h0
    omega
  have h3 : x.toInt < 2 ^ 31 := by
    have := x.toInt_lt
    omega
  refine ⟨x.toInt.toNat, by omega, ?_⟩
  rw [eq_t, tI (by omega)]
  omega
/-! worlds -/
theorem I_self {w : Wd} {k i : Nat} {v : Int32} : (puI w k i v).1 k i = v := by simp [puI, seI, up_eq, upd]
theorem I_row {w : Wd} {k i : Nat} {v : Int32} : (puI w k i v).1 k = upd (w.1 k) i v := up_eq
theorem I_oth {w : Wd} {k i a : Nat} {v : Int32} (h : a ≠ k) : (puI w k i v).1 a = w.1 a := up_ne h
theorem I_J {w : Wd} {k i : Nat} {v : Int32} : (puI w k i v).2 = w.2 := rfl
theorem J_row {w : Wd} {k i : Nat} {v : Int64} : (puJ w k i v).2 k = vp_updL (w.2 k) i v := up_eq
theorem J_oth {w : Wd} {k i a : Nat} {v : Int64} (h : a ≠ k) : (puJ w k i v).2 a = w.2 a := up_ne h
theorem J_I {w : Wd} {k i : Nat} {v : Int64} : (puJ w k i v).1 = w.1 := rfl
theorem upd_s {f : Nat → Int32} {k : Nat} {x : Int32} : upd f k x k = x := by simp [upd]
theorem upd_n {f : Nat → Int32} {k j : Nat} {x : Int32} (h : j ≠ k) : upd f k x j = f j := by simp [upd, h]
theorem updL_s {f : Nat → Int64} {k : Nat} {x : Int64} : vp_updL f k x k = x := by simp [vp_updL]
theorem updL_n {f : Nat → Int64} {k j : Nat} {x : Int64} (h : j ≠ k) : vp_updL f k x j = f j := by simp [vp_updL, h]
/-- some rows, some fields are the same -/
def Sm (S : List Nat) (T : List (Nat × Nat)) (w w' : Wd) : Prop := (∀ k ∈ S, w'.1 k = w.1 k ∧ w'.2 k = w.2 k) ∧ ∀ q ∈ T, w'.1 q.1 q.2 = w.1 q.1 q.2 ∧ w'.2 q.1 q.2 = w.2 q.1 q.2
def smc (S : List Nat) (T : List (Nat × Nat)) (S2 : List Nat) (T2 : List (Nat × Nat)) : Bool := S2.all (fun k => !S.contains k && !(T.map Prod.fst).contains k) && T2.all (fun q => !S.contains q.1 && !T.contains q)
theorem Fr.sm {S : List Nat} {T : List (Nat × Nat)} {w w' : Wd} (h : Fr S T w w') {S2 : List Nat} {T2 : List (Nat × Nat)} (hc : smc S T S2 T2 = true) : Sm S2 T2 w w' := by
  unfold smc at hc
  simp only [Bool.and_eq_true, List.all_eq_true, Bool.not_eq_true'] at hc
  refine ⟨fun k hk => ?_, fun q hq => ?_⟩
  · obtain ⟨h1, h2⟩ := hc.1 k hk
    exact h.row k (fun z => by rw [List.contains_iff_mem.mpr z] at h1; cases h1) (fun z => by rw [List.contains_iff_mem.mpr z] at h2; cases h2)
  · obtain ⟨h1, h2⟩ := hc.2 q hq
    exact h q.1 (fun z => by rw [List.contains_iff_mem.mpr z] at h1; cases h1) q.2 (fun z => by rw [List.contains_iff_mem.mpr z] at h2; cases h2)
theorem pu_seI {w : Wd} {k i : Nat} {f : Nat → Int32} {v : Int32} : puI (seI w k f) k i v = seI w k (upd f i v) := by
  unfold puI seI
  rw [Prod.mk.injEq]
  refine ⟨?_, rfl⟩
  funext a
  by_cases h : a = k
  · subst h; rw [up_eq, up_eq]; simp [up_eq]
  · rw [up_ne h, up_ne h]; simp [up_ne h]
theorem pu_seJ {w : Wd} {k i : Nat} {f : Nat → Int64} {v : Int64} : puJ (seJ w k f) k i v = seJ w k (vp_updL f i v) := by
  unfold puJ seJ
  rw [Prod.mk.injEq]
  refine ⟨rfl, ?_⟩
  funext a
  by_cases h : a = k
  · subst h; rw [up_eq, up_eq]; simp [up_eq]
  · rw [up_ne h, up_ne h]; simp [up_ne h]
/-! fills -/
theorem fillI_lp {kv nv : Nat} {v : Int32} {w : Wd} (hn : nv < 2 ^ 31) : ∀ i, i ≤ nv → lp (J7_fill_53178_b5 kv nv v (Int32.ofNat nv)) (nI i, seI w kv (fun j => if j < i then v else w.1 kv j)) = some (seI w kv (fun j => if j < nv then v else w.1 kv j)) := by
  refine lp_for (fun i => (nI i, seI w kv (fun j => if j < i then v else w.1 kv j))) nv (fun i hi => ?_) ?_
  · unfold J7_fill_53178_b5
    have h1 : ¬ (Int32.ofNat nv ≤ nI i) := nI_ge hi hn
    simp only [if_neg h1, Option.bind_some]
    rw [gd_t (in_nI hi hn), ix_nI (by omega), nI_1]
    rw [pu_seI]
    congr 4
    funext j
    unfold upd
    by_cases hj : j = i
    · subst hj; simp
    · rw [if_neg hj]
      dsimp only
      by_cases h2 : j < i
      · rw [if_pos h2, if_pos (by omega)]
      · rw [if_neg h2, if_neg (by omega)]
  · unfold J7_fill_53178_b5
    rw [if_pos (show Int32.ofNat nv ≤ nI nv from nI_le (Nat.le_refl _) hn)]
theorem seI_same {w : Wd} {k : Nat} {f : Nat → Int32} (h : f = w.1 k) : seI w k f = w := by
  unfold seI
  rw [h]
  have : va_up w.1 k (w.1 k) = w.1 := by
    funext j
    by_cases hj : j = k
    · subst hj; rw [up_eq]
    · rw [up_ne hj]
  rw [this]
theorem seJ_same {w : Wd} {k : Nat} {f : Nat → Int64} (h : f = w.2 k) : seJ w k f = w := by
  unfold seJ
  rw [h]
  have : va_up w.2 k (w.2 k) = w.2 := by
    funext j
    by_cases hj : j = k
    · subst hj; rw [up_eq]
    · rw [up_ne hj]
  rw [this]
/-- Arrays.fill of a whole row -/
theorem fillI {kv nv : Nat} {v : Int32} {w : Wd} (hn : nv < 2 ^ 31) : J7_fill_53178 kv nv v w = some (seI w kv (fun j => if j < nv then v else w.1 kv j)) := by
  unfold J7_fill_53178
  have h := fillI_lp (kv := kv) (v := v) (w := w) hn 0 (Nat.zero_le _)
  rw [seI_same (by simp)] at h
  rw [show ((0 : Int32), w) = (nI 0, w) from rfl, h]
  rfl
theorem range_ok {a b c : Int32} {w : Wd} (h1 : b ≤ c) (h2 : 0 ≤ b) (h3 : c ≤ a) : J7_rangeCheck_23922 a b c w = some () := by
  unfold J7_rangeCheck_23922
  rw [if_pos h1, if_pos h2, if_pos h3]
theorem fillJ {kv nv a n : Nat} {v : Int64} {w : Wd} (hn : nv < 2 ^ 31) (ha : a + n ≤ nv) : J7_fill_bad5a kv nv (nI a) (nI (a + n)) v w = some (seJ w kv (fun j => if a ≤ j ∧ j < a + n then v else w.2 kv j)) := by
  unfold J7_fill_bad5a
  rw [range_ok (a := Int32.ofNat nv) (nI_le (by omega) (by omega)) (nI_pos' (by omega)) (nI_le ha hn)]
  have h : ∀ i, i ≤ n → lp (J7_fill_bad5a_b10 kv nv (nI (a + n)) v) (nI (a + i), seJ w kv (fun j => if a ≤ j ∧ j < a + i then v else w.2 kv j)) = some (seJ w kv (fun j => if a ≤ j ∧ j < a + n then v else w.2 kv j)) := by
    refine lp_for (fun i => (nI (a + i), seJ w kv (fun j => if a ≤ j ∧ j < a + i then v else w.2 kv j))) n (fun i hi => ?_) ?_
    · unfold J7_fill_bad5a_b10
      have h1 : ¬ (nI (a + n) ≤ nI (a + i)) := nI_ge (by omega) (by omega)
      simp only [if_neg h1, Option.bind_some]
      rw [gd_t (in_nI (by omega) hn), ix_nI (by omega), nI_1]
      rw [pu_seJ]
      congr 4
      funext j
      unfold vp_updL
      by_cases hj : j = a + i
      · subst hj; simp
      · rw [if_neg hj]
        dsimp only
        by_cases h2 : a ≤ j ∧ j < a + i
        · rw [if_pos h2, if_pos (by omega)]
        · rw [if_neg h2, if_neg (by omega)]
    · unfold J7_fill_bad5a_b10
      rw [if_pos (show nI (a + n) ≤ nI (a + n) from nI_le (Nat.le_refl _) (by omega))]
  have h0 := h 0 (Nat.zero_le _)
  rw [seJ_same (by funext j; rw [if_neg (by omega)])] at h0
  simp only [Option.bind_some]
  rw [show nI a = nI (a + 0) from rfl, h0]
  rfl
