/-! rows that hold a list -/
def RowL (f : Nat → Int32) (L : List Nat) : Prop := ∀ i, i < L.length → f i = nI (L.getD i 0)
theorem getD_app {α : Type} {L : List α} {v d : α} {i : Nat} (h : i < L.length) : (L ++ [v]).getD i d = L.getD i d := by
  rw [List.getD_eq_getElem?_getD, List.getD_eq_getElem?_getD, List.getElem?_append_left h]
theorem getD_last {α : Type} {L : List α} {v d : α} : (L ++ [v]).getD L.length d = v := by
  rw [List.getD_eq_getElem?_getD, List.getElem?_append_right (Nat.le_refl _)]; simp
theorem getD_map {α β : Type} {L : List α} {f : α → β} {d : α} {e : β} {i : Nat} (h : i < L.length) : (L.map f).getD i e = f (L.getD i d) := by
  rw [List.getD_eq_getElem?_getD, List.getD_eq_getElem?_getD, List.getElem?_map, List.getElem?_eq_getElem h]; rfl
theorem getD_mem {α : Type} {L : List α} {d : α} {i : Nat} (h : i < L.length) : L.getD i d ∈ L := by
  rw [List.getD_eq_getElem?_getD, List.getElem?_eq_getElem h]; exact List.getElem_mem h
theorem getD_range {n i d : Nat} (h : i < n) : (List.range n).getD i d = i := by
  rw [List.getD_eq_getElem?_getD, List.getElem?_range h]; rfl
theorem RowL.nil {f : Nat → Int32} : RowL f [] := fun i hi => by simp at hi
theorem RowL.app {f : Nat → Int32} {L : List Nat} {v : Nat} (h : RowL f L) : RowL (upd f L.length (nI v)) (L ++ [v]) := by
  intro i hi
  rw [List.length_append, List.length_singleton] at hi
  by_cases q : i = L.length
  · subst q; rw [upd_s, getD_last]
  · rw [upd_n q, getD_app (by omega)]; exact h i (by omega)
/-- lists in order with the same members are the same -/
theorem sorted_eq {lt : Nat → Nat → Prop} (hirr : ∀ a, ¬ lt a a) (htr : ∀ a b c, lt a b → lt b c → lt a c) : ∀ (L M : List Nat), L.Pairwise lt → M.Pairwise lt → (∀ x, x ∈ L ↔ x ∈ M) → L = M
  | [], [], _, _, _ => rfl
  | [], b :: M, _, _, h => absurd ((h b).mpr List.mem_cons_self) (by simp)
  | a :: L, [], _, _, h => absurd ((h a).mp List.mem_cons_self) (by simp)
  | a :: L, b :: M, hL, hM, h => by
    rw [List.pairwise_cons] at hL hM
    have hab : a = b := by
      rcases List.mem_cons.mp ((h a).mp List.mem_cons_self) with e | e
      · exact e
      · rcases List.mem_cons.mp ((h b).mpr List.mem_cons_self) with e2 | e2
        · exact e2.symm
        · exact (hirr a (htr _ _ _ (hL.1 b e2) (hM.1 a e))).elim
    subst hab
    rw [sorted_eq hirr htr L M hL.2 hM.2 (fun x => ?_)]
    constructor
    · intro hx
      rcases List.mem_cons.mp ((h x).mp (List.mem_cons_of_mem _ hx)) with e | e
      · subst e; exact (hirr x (hL.1 x hx)).elim
      · exact e
    · intro hx
      rcases List.mem_cons.mp ((h x).mpr (List.mem_cons_of_mem _ hx)) with e | e
      · subst e; exact (hirr x (hM.1 x hx)).elim
      · exact e
/-! an order by insertion -/
def lt2 (wk : Nat → Nat) (a b : Nat) : Prop := wk a < wk b ∨ (wk a = wk b ∧ a < b)
theorem lt2_irr {wk : Nat → Nat} (a : Nat) : ¬ lt2 wk a a := by unfold lt2; omega
theorem lt2_tr {wk : Nat → Nat} (a b c : Nat) (h1 : lt2 wk a b) (h2 : lt2 wk b c) : lt2 wk a c := by unfold lt2 at *; omega
def insF (f : Nat → Nat) (k t : Nat) : Nat → Nat := fun i => if i < k then f i else if i = k then t else f (i - 1)
theorem ins_sorted {f : Nat → Nat} {n k t : Nat} {wk : Nat → Nat} (hs : ∀ i j, i < j → j < n → lt2 wk (f i) (f j)) (hlt : ∀ i, i < n → f i < t) (hk : k ≤ n) (h1 : ∀ i, k ≤ i → i < n → wk t < wk (f i)) (h2 : ∀ i, i < k → wk (f i) ≤ wk t) : ∀ i j, i < j → j < n + 1 → lt2 wk (insF f k t i) (insF f k t j) := by
  intro i j hij hj
  unfold insF
  by_cases a1 : j < k
  · rw [if_pos a1, if_pos (by omega)]; exact hs i j hij (by omega)
  · rw [if_neg a1]
    by_cases a2 : j = k
    · rw [if_pos a2, if_pos (by omega)]
      have := h2 i (by omega)
      have := hlt i (by omega)
      unfold lt2; omega
    · rw [if_neg a2]
      by_cases a3 : i < k
      · rw [if_pos a3]; exact hs i (j - 1) (by omega) (by omega)
      · rw [if_neg a3]
        by_cases a4 : i = k
        · rw [if_pos a4]
          have := h1 (j - 1) (by omega) (by omega)
          unfold lt2; omega
        · rw [if_neg a4]; exact hs (i - 1) (j - 1) (by omega) (by omega)
theorem ins_mem {f : Nat → Nat} {n k t x : Nat} (hk : k ≤ n) : (∃ i, i < n + 1 ∧ insF f k t i = x) ↔ (x = t ∨ ∃ i, i < n ∧ f i = x) := by
  constructor
  · rintro ⟨i, hi, e⟩
    unfold insF at e
    by_cases a1 : i < k
    · rw [if_pos a1] at e; exact Or.inr ⟨i, by omega, e⟩
    · rw [if_neg a1] at e
      by_cases a2 : i = k
      · rw [if_pos a2] at e; exact Or.inl e.symm
      · rw [if_neg a2] at e; exact Or.inr ⟨i - 1, by omega, e⟩
  · rintro (e | ⟨i, hi, e⟩)
    · exact ⟨k, by omega, by unfold insF; rw [if_neg (by omega), if_pos rfl, e]⟩
    · by_cases a1 : i < k
      · exact ⟨i, by omega, by unfold insF; rw [if_pos a1]; exact e⟩
      · exact ⟨i + 1, by omega, by unfold insF; rw [if_neg (by omega), if_neg (by omega)]; exact e⟩
theorem pairwise_range {lt : Nat → Nat → Prop} {f : Nat → Nat} : ∀ {n : Nat}, (∀ i j, i < j → j < n → lt (f i) (f j)) → ((List.range n).map f).Pairwise lt
  | 0, _ => by simp
  | n + 1, h => by
    rw [List.range_succ, List.map_append, List.pairwise_append]
    refine ⟨pairwise_range (fun i j hi hj => h i j hi (by omega)), by simp, ?_⟩
    intro a ha b hb
    simp only [List.mem_map, List.mem_range, List.map_cons, List.map_nil, List.mem_singleton] at ha hb
    obtain ⟨i, hi, rfl⟩ := ha
    subst hb
    exact h i n hi (by omega)
/-! words as numbers -/
def p5 : List Nat → Nat := List.foldl (fun v c => v * 32 + (c - 96)) 0
def p8 : List Nat → Nat := List.foldl (fun v c => v * 256 + c) 0
def isWord (L : List Nat) : Prop := (∀ c ∈ L, 97 ≤ c ∧ c ≤ 122) ∧ 1 ≤ L.length ∧ L.length ≤ 8
theorem snoc (L : List Nat) : L = [] ∨ ∃ M b, L = M ++ [b] := by
  rcases List.eq_nil_or_concat L with e | ⟨M, b, e⟩
  · exact Or.inl e
  · exact Or.inr ⟨M, b, by rw [e, List.concat_eq_append]⟩
theorem fold_inj {g : Nat → Nat → Nat} (hg : ∀ v v' c c', 97 ≤ c → c ≤ 122 → 97 ≤ c' → c' ≤ 122 → g v c = g v' c' → v = v' ∧ c = c') (h0 : ∀ v c, 97 ≤ c → c ≤ 122 → g v c ≠ 0) : ∀ (n : Nat) (L M : List Nat), L.length = n → (∀ c ∈ L, 97 ≤ c ∧ c ≤ 122) → (∀ c ∈ M, 97 ≤ c ∧ c ≤ 122) → L.foldl g 0 = M.foldl g 0 → L = M := by
  intro n
  induction n with
  | zero =>
    intro L M hl hL hM h
    have : L = [] := List.length_eq_zero_iff.mp hl
    subst this
    rcases snoc M with e | ⟨M', b, e⟩
    · rw [e]
    · subst e
      rw [List.foldl_append] at h
      have hb := hM b (by simp)
      exact (h0 _ b hb.1 hb.2 h.symm).elim
  | succ n ih =>
    intro L M hl hL hM h
    rcases snoc L with e | ⟨L', a, e⟩
    · subst e; simp at hl
    · subst e
      rcases snoc M with e | ⟨M', b, e⟩
      · subst e
        rw [List.foldl_append] at h
        have ha := hL a (by simp)
        exact (h0 _ a ha.1 ha.2 h).elim
      · subst e
        rw [List.foldl_append, List.foldl_append] at h
        have ha := hL a (by simp)
        have hb := hM b (by simp)
        obtain ⟨e1, e2⟩ := hg _ _ a b ha.1 ha.2 hb.1 hb.2 h
        rw [e2, ih L' M' (by simp at hl; omega) (fun c hc => hL c (by simp [hc])) (fun c hc => hM c (by simp [hc])) e1]
theorem p5_inj {L M : List Nat} (hL : isWord L) (hM : isWord M) : p5 L = p5 M ↔ L = M := ⟨fun h => fold_inj (g := fun v c => v * 32 + (c - 96)) (fun v v' c c' _ _ _ _ e => by omega) (fun v c _ _ => by omega) L.length L M rfl hL.1 hM.1 h, fun h => by rw [h]⟩
theorem p8_inj {L M : List Nat} (hL : isWord L) (hM : isWord M) : p8 L = p8 M ↔ L = M := ⟨fun h => fold_inj (g := fun v c => v * 256 + c) (fun v v' c c' _ _ _ _ e => by omega) (fun v c _ _ => by omega) L.length L M rfl hL.1 hM.1 h, fun h => by rw [h]⟩
theorem fold_lt {g : Nat → Nat → Nat} {B : Nat} (hg : ∀ v c n, 97 ≤ c → c ≤ 122 → v < B ^ n → g v c < B ^ (n + 1)) (hB : 1 ≤ B) : ∀ (n : Nat) (L : List Nat), L.length = n → (∀ c ∈ L, 97 ≤ c ∧ c ≤ 122) → L.foldl g 0 < B ^ n := by
  intro n
  induction n with
  | zero => intro L hl _; rw [List.length_eq_zero_iff.mp hl]; simp
  | succ n ih =>
    intro L hl hL
    rcases snoc L with e | ⟨L', a, e⟩
    · subst e; simp at hl
    · subst e
      rw [List.foldl_append]
      have ha := hL a (by simp)
      exact hg _ a n ha.1 ha.2 (ih L' (by simp at hl; omega) (fun c hc => hL c (by simp [hc])))
theorem p5_lt {L : List Nat} (hL : isWord L) : p5 L < 2 ^ 40 := by
  have h := fold_lt (g := fun v c => v * 32 + (c - 96)) (B := 32) (fun v c n _ _ hv => by rw [Nat.pow_succ]; omega) (by omega) L.length L rfl hL.1
  have h2 : 32 ^ L.length ≤ 32 ^ 8 := Nat.pow_le_pow_right (by omega) hL.2.2
  unfold p5
  omega
theorem p8_lt {L : List Nat} (hL : isWord L) : p8 L < 2 ^ 63 := by
  rcases hL with ⟨hc, h1, h8⟩
  obtain ⟨a, M, rfl⟩ : ∃ a M, L = a :: M := by
    cases L with
    | nil => simp at h1
    | cons a M => exact ⟨a, M, rfl⟩
  have gen : ∀ (M : List Nat) (v n : Nat), (∀ c ∈ M, 97 ≤ c ∧ c ≤ 122) → v < 128 * 256 ^ n → M.foldl (fun v c => v * 256 + c) v < 128 * 256 ^ (n + M.length) := by
    intro M
    induction M with
    | nil => intro v n _ hv; simpa using hv
    | cons b M ih =>
      intro v n hM hv
      rw [List.foldl_cons, List.length_cons, show n + (M.length + 1) = n + 1 + M.length by omega]
      have hb := hM b List.mem_cons_self
      refine ih _ (n + 1) (fun c hc => hM c (List.mem_cons_of_mem _ hc)) ?_
      rw [Nat.pow_succ]; omega
  have ha := hc a List.mem_cons_self
  have h2 := gen M a 0 (fun c h => hc c (List.mem_cons_of_mem _ h)) (by simp; omega)
  rw [List.length_cons] at h8
  have h3 : 256 ^ (0 + M.length) ≤ 256 ^ 7 := Nat.pow_le_pow_right (by omega) (by omega)
  unfold p8
  rw [List.foldl_cons, show 0 * 256 + a = a by omega]
  omega
def LQ (x y : Int64) : Prop := ∃ L, isWord L ∧ x = lN (p5 L) ∧ y = lN (p8 L)
theorem lN_iff {a b : Nat} (ha : a < 2 ^ 63) (hb : b < 2 ^ 63) : lN a = lN b ↔ a = b := by
  rw [← Int64.toInt_inj, lN_t ha, lN_t hb]; omega
theorem LQ.eq {x y x' y' : Int64} (h : LQ x y) (h' : LQ x' y') : x = x' ↔ y = y' := by
  obtain ⟨L, hL, rfl, rfl⟩ := h
  obtain ⟨M, hM, rfl, rfl⟩ := h'
  have a1 := p5_lt hL
  have a2 := p5_lt hM
  rw [lN_iff (by omega) (by omega), lN_iff (p8_lt hL) (p8_lt hM), p5_inj hL hM, p8_inj hL hM]
theorem lN_m1 {a : Nat} (ha : a < 2 ^ 63) : ¬ lN a = -1 := by
  intro h
  have := congrArg Int64.toInt h
  rw [lN_t ha, show (-1 : Int64).toInt = -1 by decide] at this
  omega
theorem LQ.m1 {x y : Int64} (h : LQ x y) : ¬ x = -1 ∧ ¬ y = -1 := by
  obtain ⟨L, hL, rfl, rfl⟩ := h
  have a1 := p5_lt hL
  exact ⟨lN_m1 (by omega), lN_m1 (p8_lt hL)⟩
