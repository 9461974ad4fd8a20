/-! SENT, as lists: who goes to which LAMP, LAMP by LAMP -/
def En (M : Nat) : Nat → List Nat → Prop
  | s, [] => s = 0
  | s, t :: l => t < M ∧ s.testBit t = true ∧ En M (s - 2 ^ t) l
def Lc (A : Nat → Nat → Nat) : Nat → List Nat → Nat
  | _, [] => 0
  | k, t :: l => max (A k t) (Lc A (k + 1) l)
def Sc (A : Nat → Nat → Nat) : Nat → List Nat → Nat
  | _, [] => 0
  | k, t :: l => A k t + Sc A (k + 1) l
theorem pc_sub : ∀ n s t, t < n → s.testBit t = true → pcN n (s - 2 ^ t) + 1 = pcN n s
  | 0, s, t, h, _ => by omega
  | n + 1, s, t, h, hb => by
    cases t with
    | zero =>
      rw [Nat.testBit_zero, decide_eq_true_eq] at hb
      unfold pcN
      rw [Nat.pow_zero, show (s - 1) % 2 = 0 by omega, show (s - 1) / 2 = s / 2 by omega]
      omega
    | succ t =>
      rw [Nat.testBit_succ] at hb
      have ih := pc_sub n (s / 2) t (by omega) hb
      have hge : 2 ^ t ≤ s / 2 := Nat.ge_two_pow_of_testBit hb
      have e : (2 : Nat) ^ (t + 1) = 2 * 2 ^ t := by rw [Nat.pow_succ]; omega
      unfold pcN
      rw [e, show (s - 2 * 2 ^ t) % 2 = s % 2 by omega, show (s - 2 * 2 ^ t) / 2 = s / 2 - 2 ^ t by omega]
      omega
theorem pc_0 : ∀ n, pcN n 0 = 0
  | 0 => rfl
  | n + 1 => by unfold pcN; rw [Nat.zero_mod, Nat.zero_div, pc_0 n]
theorem pc_pos : ∀ n s, s < 2 ^ n → pcN n s = 0 → s = 0
  | 0, s, h, _ => by have : (2 : Nat) ^ 0 = 1 := rfl; omega
  | n + 1, s, h, h0 => by
    unfold pcN at h0
    rw [Nat.pow_succ] at h
    have := pc_pos n (s / 2) (by omega) (by omega)
    omega
theorem En_len {M : Nat} (hM : M ≤ 15) : ∀ (l : List Nat) (s : Nat), En M s l → l.length = pcN 15 s
  | [], s, h => by rw [show s = 0 from h, pc_0]; rfl
  | t :: l, s, ⟨h1, h2, h3⟩ => by
    have := En_len hM l _ h3
    have := pc_sub 15 s t (by omega) h2
    rw [List.length_cons]
    omega
theorem En_lt {M : Nat} : ∀ (l : List Nat) (s : Nat), s < 2 ^ M → En M s l → ∀ t ∈ l, t < M
  | [], _, _, _, t, ht => by cases ht
  | t :: l, s, hs, ⟨h1, _, h3⟩, x, hx => by
    rcases List.mem_cons.mp hx with e | e
    · rw [e]; exact h1
    · exact En_lt l _ (Nat.lt_of_le_of_lt (Nat.sub_le _ _) hs) h3 x e
theorem Lc_le {A : Nat → Nat → Nat} {B : Nat} (h : ∀ k t, A k t ≤ B) : ∀ k l, Lc A k l ≤ B
  | _, [] => Nat.zero_le _
  | k, t :: l => by unfold Lc; have := Lc_le h (k + 1) l; have := h k t; omega
section
variable {A : Nat → Nat → Nat} {M : Nat}
def pLat (A : Nat → Nat → Nat) (M s v : Nat) : Prop := v ≤ 1000 ∧ (∀ l, En M s l → v ≤ Lc A (M - pcN 15 s) l) ∧ ∃ l, En M s l ∧ Lc A (M - pcN 15 s) l = v
theorem pLat_0 : pLat A M 0 0 := ⟨by omega, fun l _ => Nat.zero_le _, [], rfl, rfl⟩
theorem bit_ex : ∀ n s, s < 2 ^ n → s ≠ 0 → ∃ t, t < n ∧ s.testBit t = true
  | 0, s, h, h0 => by have : (2 : Nat) ^ 0 = 1 := rfl; omega
  | n + 1, s, h, h0 => by
    rw [Nat.pow_succ] at h
    by_cases q : s % 2 = 1
    · exact ⟨0, by omega, by rw [Nat.testBit_zero]; exact decide_eq_true q⟩
    · obtain ⟨t, ht, hb⟩ := bit_ex n (s / 2) (by omega) (by omega)
      exact ⟨t + 1, by omega, by rw [Nat.testBit_succ]; exact hb⟩
/-- the least of the lot -/
def mnF (p : Nat → Bool) (c : Nat → Nat) : Nat → Nat
  | 0 => 1000
  | i + 1 => if p i = true then min (mnF p c i) (c i) else mnF p c i
theorem mnF_le {p : Nat → Bool} {c : Nat → Nat} : ∀ n, mnF p c n ≤ 1000
  | 0 => Nat.le_refl _
  | n + 1 => by unfold mnF; have := mnF_le (p := p) (c := c) n; split <;> omega
theorem mnF_lb {p : Nat → Bool} {c : Nat → Nat} {i : Nat} (hp : p i = true) : ∀ n, i < n → mnF p c n ≤ c i
  | 0, h => by omega
  | n + 1, h => by
    unfold mnF
    by_cases q : i = n
    · subst q; rw [if_pos hp]; omega
    · have := mnF_lb (c := c) hp n (by omega); split <;> omega
theorem mnF_at {p : Nat → Bool} {c : Nat → Nat} : ∀ n, mnF p c n = 1000 ∨ ∃ i, i < n ∧ p i = true ∧ c i = mnF p c n
  | 0 => Or.inl rfl
  | n + 1 => by
    unfold mnF
    rcases mnF_at (p := p) (c := c) n with h | ⟨i, hi, hp, h⟩
    · by_cases q : p n = true
      · rw [if_pos q]
        by_cases z : c n ≤ mnF p c n
        · exact Or.inr ⟨n, by omega, q, by omega⟩
        · exact Or.inl (by omega)
      · rw [if_neg q]; exact Or.inl h
    · by_cases q : p n = true
      · rw [if_pos q]
        by_cases z : c n ≤ mnF p c n
        · exact Or.inr ⟨n, by omega, q, by omega⟩
        · exact Or.inr ⟨i, by omega, hp, by omega⟩
      · rw [if_neg q]; exact Or.inr ⟨i, by omega, hp, h⟩
theorem pLat_s (hA : ∀ k t, A k t ≤ 1000) (hM : M ≤ 7) {s : Nat} (hs : s < 2 ^ M) (h0 : s ≠ 0) {V : Nat → Nat} (hV : ∀ t, t < M → s.testBit t = true → pLat A M (s - 2 ^ t) (V t)) : pLat A M s (mnF (fun t => s.testBit t) (fun t => max (A (M - pcN 15 s) t) (V t)) M) := by
  have hpc : pcN 15 s ≤ M := by
    have : ∀ n m s, s < 2 ^ m → pcN n s ≤ m := by
      intro n
      induction n with
      | zero => intro m s _; exact Nat.zero_le _
      | succ n ih =>
        intro m s hs
        cases m with
        | zero => have : (2 : Nat) ^ 0 = 1 := rfl
                  rw [show s = 0 by omega, pc_0]; omega
        | succ m =>
          rw [Nat.pow_succ] at hs
          unfold pcN
          have := ih m (s / 2) (by omega)
          omega
    exact this 15 M s hs
  have hk : ∀ t, t < M → s.testBit t = true → M - pcN 15 (s - 2 ^ t) = M - pcN 15 s + 1 := by
    intro t ht hb
    have := pc_sub 15 s t (by omega) hb
    omega
  refine ⟨mnF_le _, fun l hl => ?_, ?_⟩
  · cases l with
    | nil => exact (h0 hl).elim
    | cons t l =>
      obtain ⟨h1, h2, h3⟩ := hl
      have h4 := (hV t h1 h2).2.1 l h3
      rw [hk t h1 h2] at h4
      have h5 := mnF_lb (p := fun t => s.testBit t) (c := fun t => max (A (M - pcN 15 s) t) (V t)) (i := t) h2 M h1
      show _ ≤ max (A (M - pcN 15 s) t) (Lc A (M - pcN 15 s + 1) l)
      omega
  · have hex : ∃ i, i < M ∧ s.testBit i = true ∧ max (A (M - pcN 15 s) i) (V i) = mnF (fun t => s.testBit t) (fun t => max (A (M - pcN 15 s) t) (V t)) M := by
      rcases mnF_at (p := fun t => s.testBit t) (c := fun t => max (A (M - pcN 15 s) t) (V t)) M with h | h
      · obtain ⟨t, ht, hb⟩ := bit_ex M s hs h0
        have h5 := mnF_lb (p := fun t => s.testBit t) (c := fun t => max (A (M - pcN 15 s) t) (V t)) (i := t) hb M ht
        have h6 := (hV t ht hb).1
        have h7 := hA (M - pcN 15 s) t
        exact ⟨t, ht, hb, by omega⟩
      · exact h
    obtain ⟨t, ht, hb, hv⟩ := hex
    obtain ⟨l, hl, hlv⟩ := (hV t ht hb).2.2
    rw [hk t ht hb] at hlv
    refine ⟨t :: l, ⟨ht, hb, hl⟩, ?_⟩
    rw [← hv, ← hlv]
    rfl
def pSum (A : Nat → Nat → Nat) (M B s v : Nat) : Prop := v ≤ 1000 ∧ (∀ l, En M s l → Lc A (M - pcN 15 s) l ≤ B → v ≤ Sc A (M - pcN 15 s) l) ∧ (v < 1000 → ∃ l, En M s l ∧ Lc A (M - pcN 15 s) l ≤ B ∧ Sc A (M - pcN 15 s) l = v)
theorem pSum_0 {B : Nat} : pSum A M B 0 0 := ⟨by omega, fun l _ _ => Nat.zero_le _, fun _ => ⟨[], rfl, Nat.zero_le _, rfl⟩⟩
theorem pc_le : ∀ n m s, s < 2 ^ m → pcN n s ≤ m := by
  intro n
  induction n with
  | zero => intro m s _; exact Nat.zero_le _
  | succ n ih =>
    intro m s hs
    cases m with
    | zero => have : (2 : Nat) ^ 0 = 1 := rfl
              rw [show s = 0 by omega, pc_0]; omega
    | succ m =>
      rw [Nat.pow_succ] at hs
      unfold pcN
      have := ih m (s / 2) (by omega)
      omega
theorem pSum_s {B : Nat} (hM : M ≤ 7) {s : Nat} (hs : s < 2 ^ M) (h0 : s ≠ 0) {V : Nat → Nat} (hV : ∀ t, t < M → s.testBit t = true → pSum A M B (s - 2 ^ t) (V t)) : pSum A M B s (mnF (fun t => s.testBit t && decide (A (M - pcN 15 s) t ≤ B)) (fun t => A (M - pcN 15 s) t + V t) M) := by
  have hpc := pc_le 15 M s hs
  have hk : ∀ t, t < M → s.testBit t = true → M - pcN 15 (s - 2 ^ t) = M - pcN 15 s + 1 := by
    intro t ht hb
    have := pc_sub 15 s t (by omega) hb
    omega
  refine ⟨mnF_le _, fun l hl hB => ?_, fun hv => ?_⟩
  · cases l with
    | nil => exact (h0 hl).elim
    | cons t l =>
      obtain ⟨h1, h2, h3⟩ := hl
      have hB' : max (A (M - pcN 15 s) t) (Lc A (M - pcN 15 s + 1) l) ≤ B := hB
      have h4 := (hV t h1 h2).2.1 l h3 (by rw [hk t h1 h2]; omega)
      rw [hk t h1 h2] at h4
      have h5 := mnF_lb (p := fun t => s.testBit t && decide (A (M - pcN 15 s) t ≤ B)) (c := fun t => A (M - pcN 15 s) t + V t) (i := t) (by
        simp only [h2, Bool.true_and, decide_eq_true_eq]; omega) M h1
      show _ ≤ A (M - pcN 15 s) t + Sc A (M - pcN 15 s + 1) l
      omega
  · rcases mnF_at (p := fun t => s.testBit t && decide (A (M - pcN 15 s) t ≤ B)) (c := fun t => A (M - pcN 15 s) t + V t) M with h | ⟨t, ht, hp, h⟩
    · omega
    · simp only [Bool.and_eq_true, decide_eq_true_eq] at hp
      obtain ⟨l, hl, hB, hlv⟩ := (hV t ht hp.1).2.2 (by omega)
      rw [hk t ht hp.1] at hlv hB
      refine ⟨t :: l, ⟨ht, hp.1, hl⟩, ?_, ?_⟩
      · show max (A (M - pcN 15 s) t) (Lc A (M - pcN 15 s + 1) l) ≤ B
        omega
      · rw [← h, ← hlv]
        rfl
/-- whoever may go first -/
def cand (A : Nat → Nat → Nat) (M B : Nat) (sm : Nat → Nat) (s t : Nat) : Prop := s.testBit t = true ∧ A (M - pcN 15 s) t ≤ B ∧ A (M - pcN 15 s) t + sm (s - 2 ^ t) = sm s
theorem cand_of {B : Nat} {sm : Nat → Nat} (hM : M ≤ 7) (hP : ∀ s, s < 2 ^ M → pSum A M B s (sm s)) {s t : Nat} {l : List Nat} (hs : s < 2 ^ M) (hlt : sm s < 1000) (h : En M s (t :: l)) (hB : Lc A (M - pcN 15 s) (t :: l) ≤ B) (hS : Sc A (M - pcN 15 s) (t :: l) = sm s) : cand A M B sm s t ∧ sm (s - 2 ^ t) = Sc A (M - pcN 15 s + 1) l ∧ sm (s - 2 ^ t) < 1000 := by
  obtain ⟨h1, h2, h3⟩ := h
  have hpc := pc_le 15 M s hs
  have hk : M - pcN 15 (s - 2 ^ t) = M - pcN 15 s + 1 := by
    have := pc_sub 15 s t (by omega) h2
    omega
  have hB' : max (A (M - pcN 15 s) t) (Lc A (M - pcN 15 s + 1) l) ≤ B := hB
  have hS' : A (M - pcN 15 s) t + Sc A (M - pcN 15 s + 1) l = sm s := hS
  have h4 := (hP (s - 2 ^ t) (Nat.lt_of_le_of_lt (Nat.sub_le _ _) hs)).2.1 l h3 (by rw [hk]; omega)
  rw [hk] at h4
  obtain ⟨l2, g1, g2, g3⟩ := (hP (s - 2 ^ t) (Nat.lt_of_le_of_lt (Nat.sub_le _ _) hs)).2.2 (by omega)
  rw [hk] at g2 g3
  have h5 := (hP s hs).2.1 (t :: l2) ⟨h1, h2, g1⟩ (by show max _ (Lc A (M - pcN 15 s + 1) l2) ≤ B; omega)
  have h5' : sm s ≤ A (M - pcN 15 s) t + Sc A (M - pcN 15 s + 1) l2 := h5
  exact ⟨⟨h2, by omega, by omega⟩, by omega, by omega⟩
def lexlt (tn : Nat → Nat) : List Nat → List Nat → Prop
  | t :: l, u :: m => tn t < tn u ∨ (t = u ∧ lexlt tn l m)
  | _, _ => False
theorem lex_asym {tn : Nat → Nat} : ∀ l m, lexlt tn l m → lexlt tn m l → False
  | t :: l, u :: m, h1, h2 => by
    rcases h1 with h1 | ⟨e, h1⟩
    · rcases h2 with h2 | ⟨e, h2⟩
      · omega
      · rw [e] at h1; omega
    · rcases h2 with h2 | ⟨_, h2⟩
      · rw [e] at h2; omega
      · exact lex_asym l m h1 h2
  | [], _, h, _ => h
  | _ :: _, [], h, _ => h
/-- the greedy list -/
def Gr (A : Nat → Nat → Nat) (M B : Nat) (sm tn : Nat → Nat) : Nat → List Nat → Prop
  | s, [] => s = 0
  | s, t :: l => t < M ∧ cand A M B sm s t ∧ (∀ u, u < M → cand A M B sm s u → tn t ≤ tn u) ∧ Gr A M B sm tn (s - 2 ^ t) l
theorem Gr_s {B : Nat} {sm tn : Nat → Nat} (hM : M ≤ 7) (hP : ∀ s, s < 2 ^ M → pSum A M B s (sm s)) (hinj : ∀ a b, a < M → b < M → tn a = tn b → a = b) : ∀ (l : List Nat) (s : Nat), s < 2 ^ M → sm s < 1000 → Gr A M B sm tn s l → En M s l ∧ Lc A (M - pcN 15 s) l ≤ B ∧ Sc A (M - pcN 15 s) l = sm s ∧ ∀ l', En M s l' → Lc A (M - pcN 15 s) l' ≤ B → Sc A (M - pcN 15 s) l' = sm s → l = l' ∨ lexlt tn l l'
  | [], s, hs, hlt, h => by
    have h0 : s = 0 := h
    subst h0
    have hs0 := (hP 0 hs).2.1 [] rfl (Nat.zero_le _)
    refine ⟨rfl, Nat.zero_le _, ?_, fun l' hl' _ _ => ?_⟩
    · show 0 = sm 0
      have : sm 0 ≤ 0 := hs0
      omega
    · cases l' with
      | nil => exact Or.inl rfl
      | cons t l => have := hl'.2.1; rw [Nat.zero_testBit] at this; cases this
  | t :: l, s, hs, hlt, ⟨h1, h2, h3, h4⟩ => by
    have hpc := pc_le 15 M s hs
    have hk : M - pcN 15 (s - 2 ^ t) = M - pcN 15 s + 1 := by
      have := pc_sub 15 s t (by omega) h2.1
      omega
    have hc := h2.2.2
    obtain ⟨e1, e2, e3, e4⟩ := Gr_s hM hP hinj l (s - 2 ^ t) (Nat.lt_of_le_of_lt (Nat.sub_le _ _) hs) (by omega) h4
    rw [hk] at e2 e3 e4
    refine ⟨⟨h1, h2.1, e1⟩, ?_, ?_, fun l' hl' hB' hS' => ?_⟩
    · show max _ (Lc A (M - pcN 15 s + 1) l) ≤ B
      have := h2.2.1
      omega
    · show A (M - pcN 15 s) t + Sc A (M - pcN 15 s + 1) l = sm s
      omega
    · cases l' with
      | nil => have h0 : s = 0 := hl'
               have h6 := h2.1
               rw [h0, Nat.zero_testBit] at h6; cases h6
      | cons u m =>
        obtain ⟨c1, c2, c3⟩ := cand_of hM hP hs hlt hl' hB' hS'
        have h5 := h3 u hl'.1 c1
        by_cases q : tn t < tn u
        · exact Or.inr (Or.inl q)
        · have e : t = u := hinj t u h1 hl'.1 (by omega)
          subst e
          have hB2 : max (A (M - pcN 15 s) t) (Lc A (M - pcN 15 s + 1) m) ≤ B := hB'
          rcases e4 m hl'.2.2 (by omega) (by omega) with z | z
          · exact Or.inl (by rw [z])
          · exact Or.inr (Or.inr ⟨rfl, z⟩)
/-- BEST -/
def Opt (A : Nat → Nat → Nat) (M : Nat) (tn : Nat → Nat) (l : List Nat) : Prop := En M (2 ^ M - 1) l ∧ ∀ l', En M (2 ^ M - 1) l' → Lc A 0 l < Lc A 0 l' ∨ (Lc A 0 l = Lc A 0 l' ∧ (Sc A 0 l < Sc A 0 l' ∨ (Sc A 0 l = Sc A 0 l' ∧ (l = l' ∨ lexlt tn l l'))))
theorem Opt_u {tn : Nat → Nat} {l m : List Nat} (h1 : Opt A M tn l) (h2 : Opt A M tn m) : l = m := by
  have a := h1.2 m h2.1
  have b := h2.2 l h1.1
  rcases a with a | ⟨a, a'⟩
  · omega
  · rcases a' with a' | ⟨a', a''⟩
    · omega
    · rcases a'' with e | e
      · exact e
      · rcases b with b | ⟨b, b'⟩
        · omega
        · rcases b' with b' | ⟨b', b''⟩
          · omega
          · rcases b'' with e2 | e2
            · exact e2.symm
            · exact (lex_asym l m e e2).elim
theorem pc_all : ∀ n, n ≤ 15 → pcN 15 (2 ^ n - 1) = n := by
  intro n hn
  have : ∀ n : Fin 16, pcN 15 (2 ^ n.1 - 1) = n.1 := by decide
  exact this ⟨n, by omega⟩
theorem Gr_opt {sm tn : Nat → Nat} (hM : M ≤ 7) {B : Nat} (hL : pLat A M (2 ^ M - 1) B) (hB : B < 60) (hP : ∀ s, s < 2 ^ M → pSum A M B s (sm s)) (hinj : ∀ a b, a < M → b < M → tn a = tn b → a = b) {l : List Nat} (hlt : sm (2 ^ M - 1) < 1000) (h : Gr A M B sm tn (2 ^ M - 1) l) : Opt A M tn l ∧ Lc A 0 l = B := by
  have h2 := Nat.two_pow_pos M
  obtain ⟨e1, e2, e3, e4⟩ := Gr_s hM hP hinj l (2 ^ M - 1) (by omega) hlt h
  have hl := hL.2.1
  have hpM := pc_all M (by omega)
  rw [hpM, Nat.sub_self] at e2 e3 e4 hl
  have hLB : Lc A 0 l = B := by have := hl l e1; omega
  refine ⟨⟨e1, fun l' hl' => ?_⟩, hLB⟩
  have h5 := hl l' hl'
  by_cases q : B < Lc A 0 l'
  · exact Or.inl (by omega)
  · refine Or.inr ⟨by omega, ?_⟩
    have h6 := (hP (2 ^ M - 1) (by omega)).2.1 l' hl' (by rw [hpM, Nat.sub_self]; omega)
    rw [hpM, Nat.sub_self] at h6
    by_cases z : sm (2 ^ M - 1) < Sc A 0 l'
    · exact Or.inl (by omega)
    · exact Or.inr ⟨by omega, e4 l' hl' (by omega) (by omega)⟩
end
