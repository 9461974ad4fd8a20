/-! the model's rows -/
def suf (f : Nat → Nat) : Nat → Nat → List Nat
  | _, 0 => []
  | k, n + 1 => f k :: suf f (k + 1) n
theorem suf_len {f : Nat → Nat} : ∀ n k, (suf f k n).length = n
  | 0, _ => rfl
  | n + 1, k => by unfold suf; rw [List.length_cons, suf_len n]
theorem suf_get {f : Nat → Nat} : ∀ n k j, j < n → (suf f k n).getD j 0 = f (k + j)
  | 0, _, _, h => by omega
  | n + 1, k, j, h => by
    unfold suf
    cases j with
    | zero => rfl
    | succ j =>
      show (suf f (k + 1) n).getD j 0 = _
      rw [suf_get n (k + 1) j (by omega), show k + 1 + j = k + (j + 1) by omega]
theorem suf_list : ∀ (l : List Nat) (k : Nat) (g : Nat → Nat), (∀ j, j < l.length → g (k + j) = l.getD j 0) → suf g k l.length = l
  | [], _, _, _ => rfl
  | t :: l, k, g, h => by
    show g k :: suf g (k + 1) l.length = t :: l
    have h0 := h 0 (by rw [List.length_cons]; omega)
    rw [Nat.add_zero] at h0
    rw [h0, suf_list l (k + 1) g (fun j hj => by
      have := h (j + 1) (by rw [List.length_cons]; omega)
      rw [show k + 1 + j = k + (j + 1) by omega, this]; rfl)]
    rfl
def Lp (A : Nat → Nat → Nat) (f : Nat → Nat) : Nat → Nat
  | 0 => 0
  | k + 1 => max (Lp A f k) (A k (f k))
def Sp (A : Nat → Nat → Nat) (f : Nat → Nat) : Nat → Nat
  | 0 => 0
  | k + 1 => Sp A f k + A k (f k)
theorem Lc_suf {A : Nat → Nat → Nat} {f : Nat → Nat} : ∀ n k, max (Lp A f k) (Lc A k (suf f k n)) = Lp A f (k + n)
  | 0, k => by show max (Lp A f k) 0 = _; rw [Nat.add_zero]; omega
  | n + 1, k => by
    have := Lc_suf (A := A) (f := f) n (k + 1)
    show max (Lp A f k) (max (A k (f k)) (Lc A (k + 1) (suf f (k + 1) n))) = _
    rw [show k + (n + 1) = k + 1 + n by omega, ← this]
    show _ = max (max (Lp A f k) (A k (f k))) _
    omega
theorem Sc_suf {A : Nat → Nat → Nat} {f : Nat → Nat} : ∀ n k, Sp A f k + Sc A k (suf f k n) = Sp A f (k + n)
  | 0, k => rfl
  | n + 1, k => by
    have := Sc_suf (A := A) (f := f) n (k + 1)
    show Sp A f k + (A k (f k) + Sc A (k + 1) (suf f (k + 1) n)) = _
    rw [show k + (n + 1) = k + 1 + n by omega, ← this]
    show _ = (Sp A f k + A k (f k)) + _
    omega
theorem Lc_0 {A : Nat → Nat → Nat} {f : Nat → Nat} (n : Nat) : Lc A 0 (suf f 0 n) = Lp A f n := by
  have := Lc_suf (A := A) (f := f) n 0
  rw [Nat.zero_add] at this
  rw [← this]
  show _ = max 0 _
  omega
theorem Sc_0 {A : Nat → Nat → Nat} {f : Nat → Nat} (n : Nat) : Sc A 0 (suf f 0 n) = Sp A f n := by
  have := Sc_suf (A := A) (f := f) n 0
  rw [Nat.zero_add] at this
  rw [← this]
  show _ = 0 + _
  omega
theorem add_bit {u t i : Nat} (hu : u < 128) (ht : t < 7) (hi : i < 7) (hb : u.testBit t = false) : u + 2 ^ t < 128 ∧ (u + 2 ^ t).testBit i = (u.testBit i || decide (i = t)) := by
  have : ∀ u : Fin 128, ∀ t : Fin 7, ∀ i : Fin 7, u.1.testBit t.1 = false → u.1 + 2 ^ t.1 < 128 ∧ (u.1 + 2 ^ t.1).testBit i.1 = (u.1.testBit i.1 || decide (i.1 = t.1)) := by decide +kernel
  exact this ⟨u, hu⟩ ⟨t, ht⟩ ⟨i, hi⟩ hb
theorem sub_bit {s t i : Nat} (hs : s < 128) (ht : t < 7) (hi : i < 7) (hb : s.testBit t = true) : (s - 2 ^ t).testBit i = (s.testBit i && !decide (i = t)) := by
  have : ∀ s : Fin 128, ∀ t : Fin 7, ∀ i : Fin 7, s.1.testBit t.1 = true → (s.1 - 2 ^ t.1).testBit i.1 = (s.1.testBit i.1 && !decide (i.1 = t.1)) := by decide +kernel
  exact this ⟨s, hs⟩ ⟨t, ht⟩ ⟨i, hi⟩ hb
theorem pc_full {M s : Nat} (hM : M ≤ 7) (hs : s < 2 ^ M) (hp : pcN 15 s = M) : s = 2 ^ M - 1 := by
  have : ∀ M : Fin 8, ∀ s : Fin 128, s.1 < 2 ^ M.1 → pcN 15 s.1 = M.1 → s.1 = 2 ^ M.1 - 1 := by decide +kernel
  exact this ⟨M, by omega⟩ ⟨s, by have := pow7 hM; omega⟩ hs hp
def us (f : Nat → Nat) : Nat → Nat → Nat
  | _, 0 => 0
  | k, n + 1 => us f (k + 1) n + 2 ^ f k
theorem us_s {f : Nat → Nat} {M : Nat} (hM : M ≤ 7) : ∀ n k, (∀ j, k ≤ j → j < k + n → f j < M) → (∀ i j, k ≤ i → i < j → j < k + n → f i ≠ f j) → us f k n < 128 ∧ (∀ x, x < 7 → ((us f k n).testBit x = true ↔ ∃ j, k ≤ j ∧ j < k + n ∧ f j = x)) ∧ En M (us f k n) (suf f k n)
  | 0, k, _, _ => by
    refine ⟨by show 0 < 128; omega, fun x _ => ?_, rfl⟩
    show (Nat.testBit 0 x = true) ↔ _
    rw [Nat.zero_testBit]
    constructor
    · intro h; cases h
    · rintro ⟨j, h1, h2, _⟩; omega
  | n + 1, k, hf, hd => by
    obtain ⟨i1, i2, i3⟩ := us_s hM n (k + 1) (fun j h1 h2 => hf j (by omega) (by omega)) (fun i j h1 h2 h3 => hd i j (by omega) h2 (by omega))
    have hk := hf k (by omega) (by omega)
    have hnb : (us f (k + 1) n).testBit (f k) = false := by
      cases hb : (us f (k + 1) n).testBit (f k) with
      | false => rfl
      | true =>
        obtain ⟨j, h1, h2, h3⟩ := (i2 (f k) (by omega)).mp hb
        exact (hd k j (by omega) (by omega) (by omega) h3.symm).elim
    refine ⟨(add_bit i1 (by omega) (show 0 < 7 by omega) hnb).1, fun x hx => ?_, hk, ?_, ?_⟩
    · show (us f (k + 1) n + 2 ^ f k).testBit x = true ↔ _
      rw [(add_bit i1 (by omega) hx hnb).2, Bool.or_eq_true, decide_eq_true_eq, i2 x hx]
      constructor
      · rintro (⟨j, h1, h2, h3⟩ | h)
        · exact ⟨j, by omega, by omega, h3⟩
        · exact ⟨k, by omega, by omega, h.symm⟩
      · rintro ⟨j, h1, h2, h3⟩
        by_cases q : j = k
        · right; rw [← h3, q]
        · exact Or.inl ⟨j, by omega, by omega, h3⟩
    · show (us f (k + 1) n + 2 ^ f k).testBit (f k) = true
      rw [(add_bit i1 (by omega) (show f k < 7 by omega) hnb).2]
      simp
    · show En M (us f (k + 1) n + 2 ^ f k - 2 ^ f k) _
      rw [Nat.add_sub_cancel]
      exact i3
def dist (M : Nat) (f : Nat → Nat) : Prop := (∀ j, j < M → f j < M) ∧ ∀ i j, i < j → j < M → f i ≠ f j
theorem En_of {M : Nat} (hM : M ≤ 7) {f : Nat → Nat} (h : dist M f) : En M (2 ^ M - 1) (suf f 0 M) := by
  obtain ⟨h1, h2, h3⟩ := us_s hM M 0 (fun j _ hj => h.1 j (by omega)) (fun i j _ hij hj => h.2 i j hij (by omega))
  have hlt : us f 0 M < 2 ^ M := by
    apply Nat.lt_pow_two_of_testBit
    intro i hi
    by_cases q : i < 7
    · cases hb : (us f 0 M).testBit i with
      | false => rfl
      | true =>
        obtain ⟨j, _, g2, g3⟩ := (h2 i q).mp hb
        have := h.1 j (by omega)
        omega
    · exact Nat.testBit_lt_two_pow (Nat.lt_of_lt_of_le h1 (Nat.le_trans (by decide : 128 ≤ 2 ^ 7) (Nat.pow_le_pow_right (by omega) (by omega))))
  have hpc := En_len (by omega) _ _ h3
  rw [suf_len] at hpc
  rw [pc_full hM hlt hpc.symm] at h3
  exact h3
theorem En_bits {M : Nat} (hM : M ≤ 7) : ∀ (l : List Nat) (s : Nat), s < 128 → En M s l → (∀ j, j < l.length → l.getD j 0 < M ∧ s.testBit (l.getD j 0) = true) ∧ ∀ i j, i < j → j < l.length → l.getD i 0 ≠ l.getD j 0
  | [], s, _, _ => ⟨fun j hj => absurd hj (Nat.not_lt_zero _), fun i j _ hj => absurd hj (Nat.not_lt_zero _)⟩
  | t :: l, s, hs, ⟨h1, h2, h3⟩ => by
    obtain ⟨e1, e2⟩ := En_bits hM l _ (Nat.lt_of_le_of_lt (Nat.sub_le _ _) hs) h3
    refine ⟨fun j hj => ?_, fun i j hij hj => ?_⟩
    · cases j with
      | zero => exact ⟨h1, h2⟩
      | succ j =>
        rw [List.length_cons] at hj
        have e := e1 j (by omega)
        have hb := e.2
        rw [sub_bit hs (by omega) (by omega) h2, Bool.and_eq_true] at hb
        exact ⟨e.1, hb.1⟩
    · rw [List.length_cons] at hj
      cases j with
      | zero => omega
      | succ j =>
        cases i with
        | zero =>
          have e := e1 j (by omega)
          have hb := e.2
          rw [sub_bit hs (by omega) (by omega) h2, Bool.and_eq_true] at hb
          intro z
          have h5 : t = l.getD j 0 := z
          have := hb.2
          rw [← h5] at this
          simp at this
        | succ i => exact e2 i j (by omega) (by omega)
theorem En_to {M : Nat} (hM : M ≤ 7) {l : List Nat} (h : En M (2 ^ M - 1) l) : dist M (fun j => l.getD j 0) ∧ suf (fun j => l.getD j 0) 0 M = l := by
  have hp := pow7 hM
  have hp1 := Nat.two_pow_pos M
  have hlen := En_len (by omega) l _ h
  rw [pc_all M (by omega)] at hlen
  obtain ⟨e1, e2⟩ := En_bits hM l _ (by omega) h
  refine ⟨⟨fun j hj => (e1 j (by omega)).1, fun i j hij hj => e2 i j hij (by omega)⟩, ?_⟩
  have := suf_list l 0 (fun j => l.getD j 0) (fun j _ => by rw [Nat.zero_add])
  rw [hlen] at this
  exact this
/-- TEACHERS one behind the other as one number -/
def enc (tn : Nat → Nat) (f : Nat → Nat) : Nat → Nat
  | 0 => 0
  | k + 1 => enc tn f k * 20 + tn (f k)
theorem enc_up {tn f g : Nat → Nat} {k : Nat} (hf : ∀ j, tn (f j) < 20) (h : enc tn f k < enc tn g k) : ∀ n, k ≤ n → enc tn f n < enc tn g n
  | 0, hn => by have : k = 0 := by omega
                subst this; exact h
  | n + 1, hn => by
    by_cases q : k = n + 1
    · subst q; exact h
    · have ih := enc_up hf h n (by omega)
      have := hf n
      show enc tn f n * 20 + tn (f n) < enc tn g n * 20 + tn (g n)
      omega
theorem enc_eq {tn f g : Nat → Nat} : ∀ k, (∀ j, j < k → tn (f j) = tn (g j)) → enc tn f k = enc tn g k
  | 0, _ => rfl
  | k + 1, h => by
    show enc tn f k * 20 + tn (f k) = enc tn g k * 20 + tn (g k)
    rw [enc_eq k (fun j hj => h j (by omega)), h k (by omega)]
theorem lex_enc {tn f g : Nat → Nat} (hf : ∀ j, tn (f j) < 20) : ∀ n k, (∀ j, j < k → tn (f j) = tn (g j)) → lexlt tn (suf f k n) (suf g k n) → enc tn f (k + n) < enc tn g (k + n)
  | 0, k, _, h => h.elim
  | n + 1, k, hp, h => by
    rcases h with h | ⟨e, h⟩
    · have h1 : enc tn f (k + 1) < enc tn g (k + 1) := by
        show enc tn f k * 20 + tn (f k) < enc tn g k * 20 + tn (g k)
        rw [enc_eq k hp]; omega
      exact enc_up hf h1 _ (by omega)
    · rw [show k + (n + 1) = k + 1 + n by omega]
      exact lex_enc hf n (k + 1) (fun j hj => by
        by_cases q : j = k
        · rw [q, e]
        · exact hp j (by omega)) h
/-- a row of which no LAMP is left out -/
def okR (A : Nat → Nat → Nat) (M : Nat) (f : Nat → Nat) : Prop := dist M f ∧ ∀ k, k < M → A k (f k) ≠ 1000
theorem opt_row {A : Nat → Nat → Nat} {M : Nat} {tn : Nat → Nat} (hM : M ≤ 7) (h6 : ∀ k t, A k t < 60 ∨ A k t = 1000) (htn : ∀ t, tn t < 20) {l : List Nat} (ho : Opt A M tn l) (hl : Lc A 0 l < 60) {f : Nat → Nat} (hf : okR A M f) (hmin : ∀ g, okR A M g → (1000 * Lp A f M + Sp A f M < 1000 * Lp A g M + Sp A g M) ∨ (1000 * Lp A f M + Sp A f M = 1000 * Lp A g M + Sp A g M ∧ enc tn f M ≤ enc tn g M)) : l = suf f 0 M := by
  obtain ⟨hd, hsl⟩ := En_to hM ho.1
  have hEf := En_of hM hf.1
  have ok1 : okR A M (fun j => l.getD j 0) := by
    refine ⟨hd, fun k hk z => ?_⟩
    have h1 : Lp A (fun j => l.getD j 0) M = Lc A 0 l := by rw [← Lc_0, hsl]
    have h2 : ∀ n, k < n → A k (l.getD k 0) ≤ Lp A (fun j => l.getD j 0) n := by
      intro n
      induction n with
      | zero => intro h; omega
      | succ n ih =>
        intro h
        show _ ≤ max (Lp A (fun j => l.getD j 0) n) (A n (l.getD n 0))
        by_cases q : k = n
        · rw [q]; omega
        · have := ih (by omega); omega
    have h3 := h2 M hk
    have h4 : A k (l.getD k 0) = 1000 := z
    omega
  have hm := hmin _ ok1
  have ho2 := ho.2 _ hEf
  have eL : Lp A (fun j => l.getD j 0) M = Lc A 0 l := by rw [← Lc_0, hsl]
  have eS : Sp A (fun j => l.getD j 0) M = Sc A 0 l := by rw [← Sc_0, hsl]
  rw [eL, eS] at hm
  rw [Lc_0, Sc_0] at ho2
  have sl : Sc A 0 l < 1000 := by
    have h1 := Sc_le (A := A) (B := 59) 0 l (by omega)
    have h2 := En_len (by omega) l _ ho.1
    rw [pc_all M (by omega)] at h2
    rw [h2] at h1; omega
  have hLf : Lp A f M < 60 := by
    have : ∀ n, n ≤ M → Lp A f n < 60 := by
      intro n
      induction n with
      | zero => intro _; show 0 < 60; omega
      | succ n ih =>
        intro hn
        have h1 := ih (by omega)
        have h2 := hf.2 n (by omega)
        have h3 := h6 n (f n)
        show max (Lp A f n) (A n (f n)) < 60
        omega
    exact this M (Nat.le_refl _)
  have sf : Sp A f M < 1000 := by
    have h1 := Sc_le (A := A) (B := 59) 0 (suf f 0 M) (by rw [Lc_0]; omega)
    rw [Sc_0, suf_len] at h1; omega
  rcases ho2 with a | ⟨a, b⟩
  · omega
  · rcases b with b | ⟨b, c⟩
    · omega
    · rcases c with c | c
      · exact c
      · rw [← hsl] at c
        have := lex_enc (tn := tn) (fun j => htn _) M 0 (fun j hj => by omega) c
        rw [Nat.zero_add] at this
        omega
/-! digits -/
def dgt (M r k : Nat) : Nat := r / M ^ (M - 1 - k) % M
theorem dgt_ex {M : Nat} (hM : 1 ≤ M) : ∀ n (f : Nat → Nat), (∀ j, j < n → f j < M) → ∃ r, r < M ^ n ∧ ∀ k, k < n → r / M ^ (n - 1 - k) % M = f k
  | 0, f, _ => ⟨0, by rw [Nat.pow_zero]; omega, fun k hk => by omega⟩
  | n + 1, f, h => by
    obtain ⟨r, hr, hd⟩ := dgt_ex hM n f (fun j hj => h j (by omega))
    have hn := h n (by omega)
    refine ⟨r * M + f n, ?_, fun k hk => ?_⟩
    · rw [Nat.pow_succ]
      calc r * M + f n < r * M + M := by omega
        _ = (r + 1) * M := by rw [Nat.succ_mul]
        _ ≤ M ^ n * M := Nat.mul_le_mul_right M hr
    · by_cases q : k = n
      · rw [q, show n + 1 - 1 - n = 0 by omega, Nat.pow_zero, Nat.div_one, Nat.mul_comm, Nat.mul_add_mod, Nat.mod_eq_of_lt hn]
      · rw [show n + 1 - 1 - k = (n - 1 - k) + 1 by omega, Nat.pow_succ, Nat.mul_comm (M ^ (n - 1 - k)) M, ← Nat.div_div_eq_div_mul]
        have : (r * M + f n) / M = r := by
          rw [Nat.mul_comm, Nat.mul_add_div (by omega), Nat.div_eq_of_lt hn, Nat.add_zero]
        rw [this]
        exact hd k (by omega)
