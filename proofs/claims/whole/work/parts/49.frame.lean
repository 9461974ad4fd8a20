/-! what a function leaves alone; partial correctness -/
def Fr (S : List Nat) (T : List (Nat × Nat)) (w w' : Wd) : Prop := ∀ k, k ∉ S → ∀ j, (k, j) ∉ T → w'.1 k j = w.1 k j ∧ w'.2 k j = w.2 k j
theorem Fr.rf {S : List Nat} {T : List (Nat × Nat)} {w : Wd} : Fr S T w w := fun _ _ _ _ => ⟨rfl, rfl⟩
theorem Fr.next {S S' : List Nat} {T T' : List (Nat × Nat)} {w w1 w2 : Wd} (h : Fr S T w w1) (h2 : Fr S' T' w1 w2) (hs : ∀ k ∈ S', k ∈ S) (ht : ∀ k ∈ T', k ∈ T) : Fr S T w w2 := fun k hk j hj =>
  ⟨((h2 k (fun z => hk (hs k z)) j (fun z => hj (ht _ z))).1).trans (h k hk j hj).1, ((h2 k (fun z => hk (hs k z)) j (fun z => hj (ht _ z))).2).trans (h k hk j hj).2⟩
theorem Fr.seI {S : List Nat} {T : List (Nat × Nat)} {w w1 : Wd} {a : Nat} {f : Nat → Int32} (h : Fr S T w w1) (ha : a ∈ S) : Fr S T w (seI w1 a f) := fun k hk j hj => ⟨by
  have hne : k ≠ a := fun z => hk (z ▸ ha)
  exact (congrFun (up_ne hne) j).trans (h k hk j hj).1, (h k hk j hj).2⟩
theorem Fr.seJ {S : List Nat} {T : List (Nat × Nat)} {w w1 : Wd} {a : Nat} {f : Nat → Int64} (h : Fr S T w w1) (ha : a ∈ S) : Fr S T w (seJ w1 a f) := fun k hk j hj => ⟨(h k hk j hj).1, by
  have hne : k ≠ a := fun z => hk (z ▸ ha)
  exact (congrFun (up_ne hne) j).trans (h k hk j hj).2⟩
theorem puI_ne {w : Wd} {a i k j : Nat} {v : Int32} (h : (k, j) ≠ (a, i)) : (puI w a i v).1 k j = w.1 k j := by
  by_cases hk : k = a
  · subst hk
    have hj : j ≠ i := fun z => h (by rw [z])
    show va_up w.1 k (upd (w.1 k) i v) k j = w.1 k j
    rw [up_eq]
    simp [upd, hj]
  · exact congrFun (up_ne hk) j
theorem puJ_ne {w : Wd} {a i k j : Nat} {v : Int64} (h : (k, j) ≠ (a, i)) : (puJ w a i v).2 k j = w.2 k j := by
  by_cases hk : k = a
  · subst hk
    have hj : j ≠ i := fun z => h (by rw [z])
    show va_up w.2 k (vp_updL (w.2 k) i v) k j = w.2 k j
    rw [up_eq]
    simp [vp_updL, hj]
  · exact congrFun (up_ne hk) j
theorem Fr.pfI {S : List Nat} {T : List (Nat × Nat)} {w w1 : Wd} {a i : Nat} {v : Int32} (h : Fr S T w w1) (ha : (a, i) ∈ T) : Fr S T w (puI w1 a i v) := fun k hk j hj =>
  ⟨(puI_ne (a := a) (i := i) (k := k) (j := j) (fun z => hj (by rw [z]; exact ha))).trans (h k hk j hj).1, (h k hk j hj).2⟩
theorem Fr.pfJ {S : List Nat} {T : List (Nat × Nat)} {w w1 : Wd} {a i : Nat} {v : Int64} (h : Fr S T w w1) (ha : (a, i) ∈ T) : Fr S T w (puJ w1 a i v) := fun k hk j hj =>
  ⟨(h k hk j hj).1, (puJ_ne (a := a) (i := i) (k := k) (j := j) (fun z => hj (by rw [z]; exact ha))).trans (h k hk j hj).2⟩
theorem Fr.puI {S : List Nat} {T : List (Nat × Nat)} {w w1 : Wd} {a i : Nat} {v : Int32} (h : Fr S T w w1) (ha : a ∈ S) : Fr S T w (puI w1 a i v) := h.seI ha
theorem Fr.puJ {S : List Nat} {T : List (Nat × Nat)} {w w1 : Wd} {a i : Nat} {v : Int64} (h : Fr S T w w1) (ha : a ∈ S) : Fr S T w (puJ w1 a i v) := h.seJ ha
theorem Fr.row {S : List Nat} {T : List (Nat × Nat)} {w w' : Wd} (h : Fr S T w w') (k : Nat) (hk : k ∉ S) (ht : k ∉ T.map Prod.fst) : w'.1 k = w.1 k ∧ w'.2 k = w.2 k :=
  have hj : ∀ j, (k, j) ∉ T := fun j z => ht (List.mem_map.mpr ⟨(k, j), z, rfl⟩)
  ⟨funext fun j => (h k hk j (hj j)).1, funext fun j => (h k hk j (hj j)).2⟩
theorem st_mem {i : Nat} (h : i < 4) (j : Nat) (hj : j ≤ 4) {S : List Nat} (hS : (List.range 20).all (fun q => S.contains (45 + q)) = true := by decide) : stc i + j ∈ S := by
  have h1 := List.all_eq_true.mp hS (5 * i + j) (List.mem_range.mpr (by omega))
  have h2 : 45 + (5 * i + j) = stc i + j := by unfold stc; omega
  rw [h2] at h1
  exact List.contains_iff_mem.mp h1
theorem sub_kv {kv : Nat} {S S' : List Nat} (h : ∀ k ∈ S', k ∈ S) : ∀ k ∈ kv :: S', k ∈ kv :: S := fun k hk => by
  rcases List.mem_cons.mp hk with e | e
  · rw [e]; exact List.mem_cons_self
  · exact List.mem_cons_of_mem _ (h k e)
theorem sub_cv {kv : Nat} {S S' : List Nat} (h : ∀ k ∈ S', k ∈ S) : ∀ k ∈ S', k ∈ kv :: S := fun k hk => List.mem_cons_of_mem _ (h k hk)
def okF {α : Type} (o : Option α) (P : α → Prop) : Prop := ∀ q, o = some q → P q
theorem pk_n {α : Type} {P : α → Prop} : okF none P := fun _ h => by cases h
theorem pk_s {α : Type} {P : α → Prop} {a : α} (h : P a) : okF (some a) P := fun q e => by cases e; exact h
theorem pk_g {α : Type} {P : α → Prop} {c : Prop} {k : Option α} (h : c → okF k P) : okF (gd c k) P := fun q e => by
  unfold gd at e
  by_cases hc : c
  · rw [if_pos hc] at e; exact h hc q e
  · rw [if_neg hc] at e; cases e
theorem pk_i {α : Type} {P : α → Prop} {c : Prop} {dc : Decidable c} {a b : Option α} (h1 : c → okF a P) (h2 : ¬ c → okF b P) : okF (@ite _ c dc a b) P := fun q e => by
  by_cases hc : c
  · rw [if_pos hc] at e; exact h1 hc q e
  · rw [if_neg hc] at e; exact h2 hc q e
theorem pk_c {α β : Type} {R : α → Prop} {P : β → Prop} {o : Option α} {f : α → Option β} (h1 : okF o R) (h2 : ∀ q, R q → okF (f q) P) : okF (o.bind f) P := fun q e => by
  cases o with
  | none => cases e
  | some a => exact h2 a (h1 a rfl) q e
theorem pk_v {α β : Type} {P : β → Prop} {o : Option α} {f : α → Option β} (h2 : ∀ q, okF (f q) P) : okF (o.bind f) P := fun q e => by
  cases o with
  | none => cases e
  | some a => exact h2 a q e
theorem pk_w {β : Type} {P : β → Prop} {R : Wd → Prop} {a : Wd} {f : Wd → Option β} (h2 : ∀ q, R q → okF (f q) P) (h : R a) : okF ((some a).bind f) P := fun q e => h2 a h q e
theorem pk_lp {S E : Type} {b : S → Option (S ⊕ E)} {I : S → Prop} {Q : E → Prop} (step : ∀ s, I s → okF (b s) (sel I Q)) (s : S) (h : I s) : okF (lp b s) Q := by
  intro e he
  obtain ⟨n, hn⟩ := lp_some.mp he
  clear he
  induction n generalizing s with
  | zero => cases hn
  | succ n ih =>
    unfold lpn at hn
    cases hb : b s with
    | none => rw [hb] at hn; cases hn
    | some x =>
      rw [hb] at hn
      have hx := step s h x hb
      cases x with
      | inl s' => exact ih s' hx hn
      | inr e' =>
        cases (show some e' = some e from hn)
        exact hx
