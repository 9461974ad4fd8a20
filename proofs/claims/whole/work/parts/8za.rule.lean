/-! a RULE: frames, kept rows -/
section
variable {c : Nat → Nat} {n : Nat}
theorem test_e (hn : n ≤ 600) {w0c w0m : Wd} (hW : IW w0c) (hB : ∀ i, i < n → BY (w0c.1 66 i) (c i)) (hMB : MB c n w0m) {A S O KA KB KO p st : Nat} (hKA : KA ≤ 2400) (hKB : KB ≤ 2400) (hKO : KO ≤ 800) (hO : 3 * O ≤ 3 * KO + p) (hst : st ≤ p) (hp : p ≤ n) (h6 : w0c.1 65 6 = nI p) (hCX : CX w0c 7 0 [] A []) (h12 : w0c.1 65 12 = nI 1) (hMT : MT c n p w0m) (h41 : w0m.1 97 41 = nI 0) (h43 : w0m.1 97 43 = nI S) (h44 : w0m.1 97 44 = nI O) (bA : A ≤ KA + p) (bS : S ≤ KB + p) : ok (X12_test w0m) (fun r => TM c n w0c w0m A S O KA KB p (PS n st w0c) r ∨ FP (KS A w0c) (KV O S w0m) (PS n st w0c) r) := by
  have h := test_lp hn hW hB hMB hKA hKB hKO hO (P := PS n st w0c) st p w0c w0m false false [] [] S ⟨hst, hp, h6⟩ (by rw [List.length_nil]; omega) hCX KS.rf ⟨rfl, rfl, h12⟩ ⟨fun _ => ⟨rfl, rfl⟩, fun _ z => (z rfl).elim, fun _ F => rfl⟩ rfl (fun F => rfl) (fun x hx => by cases hx) (fun x hx => by cases hx) KV.rf hMT ⟨h41, rfl⟩ h44 trivial h43 (Nat.le_refl _) ⟨bA, bS⟩ rfl
  obtain ⟨r, hr, ho⟩ := h
  have e : X12_test w0m = ((X12_one (bI !false) w0m).bind (fun q => lp X12_test_b6 q)).bind (fun e13 => gd (narrow .boolean (.int e13.1) = .int e13.1) <| some (e13.1, e13.2)) := by
    unfold X12_test
    rw [show (1 : Int32) = bI !false from rfl]
    cases X12_one (bI !false) w0m with
    | none => rfl
    | some q => rfl
  rw [e, hr]
  simp only [Option.bind_some]
  rcases ho with z | z
  · have := z.1
    rw [this, gb1, ← this]; exact ok_i (Or.inl z)
  · have := z.1
    rw [this, gb0, ← this]; exact ok_i (Or.inr z)
end
def RQ : List Nat := [35, 36, 37, 38, 39, 40, 41, 42, 68]
def fQ : List (Nat × Nat) := [(30, 14), (30, 15), (65, 11), (65, 12), (65, 13), (65, 14), (65, 16)]
def fR : List (Nat × Nat) := [(30, 14), (30, 15), (65, 4), (65, 5), (65, 6), (65, 7), (65, 8), (65, 9), (65, 10), (65, 11), (65, 12), (65, 13), (65, 14), (65, 16)]
def Kg (fl : List (Nat × Nat)) (f a : Nat) (w w' : Wd) : Prop := Fr RQ fl w w' ∧ (∀ i, i < f → ∀ k, 35 ≤ k → k ≤ 41 → w'.1 k i = w.1 k i ∧ w'.2 k i = w.2 k i) ∧ (∀ i, i < a → w'.1 42 i = w.1 42 i)
theorem Kg.rf {fl : List (Nat × Nat)} {f a : Nat} {w : Wd} : Kg fl f a w w := ⟨Fr.rf, fun _ _ _ _ _ => ⟨rfl, rfl⟩, fun _ _ => rfl⟩
theorem Kg.tr {fl : List (Nat × Nat)} {f a : Nat} {w w1 w2 : Wd} (h : Kg fl f a w w1) (h2 : Kg fl f a w1 w2) : Kg fl f a w w2 := ⟨h.1.next h2.1 (fun _ z => z) (fun _ z => z), fun i hi k k1 k2 => ⟨(h2.2.1 i hi k k1 k2).1.trans (h.2.1 i hi k k1 k2).1, (h2.2.1 i hi k k1 k2).2.trans (h.2.1 i hi k k1 k2).2⟩, fun i hi => (h2.2.2 i hi).trans (h.2.2 i hi)⟩
theorem Kg.mono {fl : List (Nat × Nat)} {f a f' a' : Nat} {w w1 : Wd} (h : Kg fl f a w w1) (hf : f' ≤ f) (ha : a' ≤ a) : Kg fl f' a' w w1 := ⟨h.1, fun i hi => h.2.1 i (by omega), fun i hi => h.2.2 i (by omega)⟩
theorem Kg.up {fl fl' : List (Nat × Nat)} {f a : Nat} {w w1 : Wd} (h : Kg fl f a w w1) (hs : ∀ q ∈ fl, q ∈ fl') : Kg fl' f a w w1 := ⟨fun k hk j hj => h.1 k hk j (fun z => hj (hs _ z)), h.2⟩
theorem Kg.fI {fl : List (Nat × Nat)} {f a k j : Nat} {v : Int32} {w w1 : Wd} (h : Kg fl f a w w1) (hm : (k, j) ∈ fl) (hk : k = 30 ∨ k = 65) : Kg fl f a w (puI w1 k j v) := ⟨Fr.pfI h.1 hm, fun i hi q q1 q2 => ⟨by rw [I_oth (by omega)]; exact (h.2.1 i hi q q1 q2).1, by rw [I_J]; exact (h.2.1 i hi q q1 q2).2⟩, fun i hi => by rw [I_oth (by omega)]; exact h.2.2 i hi⟩
theorem Kg.rI {fl : List (Nat × Nat)} {f a k i : Nat} {v : Int32} {w w1 : Wd} (h : Kg fl f a w w1) (h1 : 35 ≤ k) (h2 : k ≤ 41) (hi : f ≤ i) : Kg fl f a w (puI w1 k i v) := ⟨Fr.puI h.1 (by unfold RQ; simp only [List.mem_cons, List.not_mem_nil, or_false]; omega), fun j hj q q1 q2 => ⟨by
  by_cases z : q = k
  · subst z; rw [I_row, upd_n (by omega)]; exact (h.2.1 j hj q q1 q2).1
  · rw [I_oth z]; exact (h.2.1 j hj q q1 q2).1, by rw [I_J]; exact (h.2.1 j hj q q1 q2).2⟩, fun j hj => by rw [I_oth (by omega)]; exact h.2.2 j hj⟩
theorem Kg.rJ {fl : List (Nat × Nat)} {f a k i : Nat} {v : Int64} {w w1 : Wd} (h : Kg fl f a w w1) (h1 : 35 ≤ k) (h2 : k ≤ 41) (hi : f ≤ i) : Kg fl f a w (puJ w1 k i v) := ⟨Fr.puJ h.1 (by unfold RQ; simp only [List.mem_cons, List.not_mem_nil, or_false]; omega), fun j hj q q1 q2 => ⟨by rw [J_I]; exact (h.2.1 j hj q q1 q2).1, by
  by_cases z : q = k
  · subst z; rw [J_row, updL_n (by omega)]; exact (h.2.1 j hj q q1 q2).2
  · rw [J_oth z]; exact (h.2.1 j hj q q1 q2).2⟩, fun j hj => by rw [J_I]; exact h.2.2 j hj⟩
theorem KS.kg {f A : Nat} {w w1 : Wd} (h : KS A w w1) : Kg fR f A w w1 := ⟨(Fr.rf : Fr RQ fR w w).next h.1 (by decide) (by decide), fun i _ k k1 k2 => by
  have := h.1.row k (by simp only [List.mem_cons, List.not_mem_nil, or_false]; omega) (by simp only [fS, List.map_cons, List.map_nil, List.mem_cons, List.not_mem_nil, or_false]; omega)
  rw [this.1, this.2]; exact ⟨rfl, rfl⟩, h.2⟩
theorem KT.kg {f A : Nat} {w w1 : Wd} (h : KT A w w1) : Kg fQ f A w w1 := ⟨(Fr.rf : Fr RQ fQ w w).next h.1 (by decide) (by decide), fun i _ k k1 k2 => by
  have := h.1.row k (by simp only [List.mem_cons, List.not_mem_nil, or_false]; omega) (by simp only [fT, List.map_cons, List.map_nil, List.mem_cons, List.not_mem_nil, or_false]; omega)
  rw [this.1, this.2]; exact ⟨rfl, rfl⟩, h.2⟩
theorem Kg.scan {f a : Nat} {w w1 w2 : Wd} (h : Kg fR f a w w1) (h2 : Fr [] f5 w1 w2) : Kg fR f a w w2 := h.tr (KS.kg (KS.rf.scan h2))
theorem Kg.rows {f a : Nat} {w w1 : Wd} (h : Kg fR f a w w1) : w1.1 66 = w.1 66 ∧ w1.2 67 = w.2 67 := ⟨(h.1.row 66 (by decide) (by decide)).1, (h.1.row 67 (by decide) (by decide)).2⟩
theorem Kg.iw {f a : Nat} {w w1 : Wd} (h : Kg fR f a w w1) (hW : IW w) : IW w1 := fun i hi => by rw [h.rows.2]; exact hW i hi
theorem Kg.by {c : Nat → Nat} {n f a : Nat} {w w1 : Wd} (h : Kg fR f a w w1) (hB : ∀ i, i < n → BY (w.1 66 i) (c i)) : ∀ i, i < n → BY (w1.1 66 i) (c i) := by rw [h.rows.1]; exact hB
def RU : List Nat := [124, 125, 126, 127, 128, 129, 130, 131, 132, 133, 134, 135, 136, 137, 138, 139, 140, 141, 142, 143]
def KU (t g o s : Nat) (w w' : Wd) : Prop := Fr RU fV w w' ∧ (∀ i, i < g → ∀ k, 125 ≤ k → k ≤ 133 → w'.1 k i = w.1 k i ∧ w'.2 k i = w.2 k i) ∧ (∀ i, i < s → w'.1 140 i = w.1 140 i ∧ w'.1 141 i = w.1 141 i) ∧ (∀ i, i < o → ∀ k, 134 ≤ k → k ≤ 139 → w'.1 k i = w.1 k i) ∧ (∀ j, j ≠ t → w'.1 124 j = w.1 124 j)
theorem KU.rf {t g o s : Nat} {w : Wd} : KU t g o s w w := ⟨Fr.rf, fun _ _ _ _ _ => ⟨rfl, rfl⟩, fun _ _ => ⟨rfl, rfl⟩, fun _ _ _ _ _ => rfl, fun _ _ => rfl⟩
theorem KU.tr {t g o s : Nat} {w w1 w2 : Wd} (h : KU t g o s w w1) (h2 : KU t g o s w1 w2) : KU t g o s w w2 := ⟨h.1.next h2.1 (fun _ z => z) (fun _ z => z), fun i hi k k1 k2 => ⟨(h2.2.1 i hi k k1 k2).1.trans (h.2.1 i hi k k1 k2).1, (h2.2.1 i hi k k1 k2).2.trans (h.2.1 i hi k k1 k2).2⟩, fun i hi => ⟨(h2.2.2.1 i hi).1.trans (h.2.2.1 i hi).1, (h2.2.2.1 i hi).2.trans (h.2.2.1 i hi).2⟩, fun i hi k k1 k2 => (h2.2.2.2.1 i hi k k1 k2).trans (h.2.2.2.1 i hi k k1 k2), fun j hj => (h2.2.2.2.2 j hj).trans (h.2.2.2.2 j hj)⟩
theorem KU.mono {t g o s g' o' s' : Nat} {w w1 : Wd} (h : KU t g o s w w1) (hg : g' ≤ g) (ho : o' ≤ o) (hs : s' ≤ s) : KU t g' o' s' w w1 := ⟨h.1, fun i hi => h.2.1 i (by omega), fun i hi => h.2.2.1 i (by omega), fun i hi => h.2.2.2.1 i (by omega), h.2.2.2.2⟩
theorem KV.row {o s : Nat} {w w1 : Wd} (h : KV o s w w1) {k : Nat} (h1 : 98 ≤ k) (h2 : k ≤ 133) : w1.1 k = w.1 k ∧ w1.2 k = w.2 k := h.1.row k (by unfold RV; simp only [List.mem_cons, List.not_mem_nil, or_false]; omega) (by simp only [fV, List.map_cons, List.map_nil, List.mem_cons, List.not_mem_nil, or_false]; omega)
theorem KV.ku {t g o s : Nat} {w w1 : Wd} (h : KV o s w w1) : KU t g o s w w1 := ⟨(Fr.rf : Fr RU fV w w).next h.1 (by decide) (fun _ z => z), fun i _ k k1 k2 => by rw [(h.row (k := k) (by omega) (by omega)).1, (h.row (k := k) (by omega) (by omega)).2]; exact ⟨rfl, rfl⟩, h.2.1, h.2.2, fun j _ => by rw [(h.row (k := 124) (by omega) (by omega)).1]⟩
theorem KU.nx {t g o s : Nat} {w w1 w2 : Wd} (h : KU t g o s w w1) (h2 : Fr [] [(97, 35), (97, 36), (97, 37), (97, 38)] w1 w2) : KU t g o s w w2 := h.tr (KV.ku ((KV.rf).nx h2))
theorem KU.fails {t g o s : Nat} {w w1 w2 : Wd} (h : KU t g o s w w1) (h2 : Fr [] [(97, 40), (97, 41)] w1 w2) : KU t g o s w w2 := h.tr (KV.ku ((KV.rf).fails h2))
theorem KU.rI {t g o s k i : Nat} {v : Int32} {w w1 : Wd} (h : KU t g o s w w1) (h1 : 125 ≤ k) (h2 : k ≤ 133) (hi : g ≤ i) : KU t g o s w (puI w1 k i v) := ⟨Fr.puI h.1 (by unfold RU; simp only [List.mem_cons, List.not_mem_nil, or_false]; omega), fun j hj q q1 q2 => ⟨by
  by_cases z : q = k
  · subst z; rw [I_row, upd_n (by omega)]; exact (h.2.1 j hj q q1 q2).1
  · rw [I_oth z]; exact (h.2.1 j hj q q1 q2).1, by rw [I_J]; exact (h.2.1 j hj q q1 q2).2⟩, fun j hj => by rw [I_oth (by omega), I_oth (by omega)]; exact h.2.2.1 j hj, fun j hj q q1 q2 => by rw [I_oth (by omega)]; exact h.2.2.2.1 j hj q q1 q2, fun j hj => by rw [I_oth (by omega)]; exact h.2.2.2.2 j hj⟩
theorem KU.rJ {t g o s k i : Nat} {v : Int64} {w w1 : Wd} (h : KU t g o s w w1) (h1 : 125 ≤ k) (h2 : k ≤ 133) (hi : g ≤ i) : KU t g o s w (puJ w1 k i v) := ⟨Fr.puJ h.1 (by unfold RU; simp only [List.mem_cons, List.not_mem_nil, or_false]; omega), fun j hj q q1 q2 => ⟨by rw [J_I]; exact (h.2.1 j hj q q1 q2).1, by
  by_cases z : q = k
  · subst z; rw [J_row, updL_n (by omega)]; exact (h.2.1 j hj q q1 q2).2
  · rw [J_oth z]; exact (h.2.1 j hj q q1 q2).2⟩, fun j hj => by rw [J_I]; exact h.2.2.1 j hj, fun j hj q q1 q2 => by rw [J_I]; exact h.2.2.2.1 j hj q q1 q2, fun j hj => by rw [J_I]; exact h.2.2.2.2 j hj⟩
theorem KU.r124 {t g o s : Nat} {v : Int32} {w w1 : Wd} (h : KU t g o s w w1) : KU t g o s w (puI w1 124 t v) := ⟨Fr.puI h.1 (by decide), fun j hj q q1 q2 => ⟨by rw [I_oth (by omega)]; exact (h.2.1 j hj q q1 q2).1, by rw [I_J]; exact (h.2.1 j hj q q1 q2).2⟩, fun j hj => by rw [I_oth (by omega), I_oth (by omega)]; exact h.2.2.1 j hj, fun j hj q q1 q2 => by rw [I_oth (by omega)]; exact h.2.2.2.1 j hj q q1 q2, fun j hj => by rw [I_row, upd_n hj]; exact h.2.2.2.2 j hj⟩
theorem KU.mb {c : Nat → Nat} {n t g o s : Nat} {w w1 : Wd} (h : KU t g o s w w1) (hb : MB c n w) : MB c n w1 := hb.fr (h.1 97 (by decide) 34 (by decide)).1 (h.1.row 121 (by decide) (by decide)).1
/-! what is kept of a RULE -/
def RuleOK2 (u v : Wd) (c m : Nat) : Prop := LQ (u.2 35 c) (v.2 132 m) ∧ (LQ (u.2 36 c) (v.2 133 m) ∨ (u.2 36 c = -1 ∧ v.2 133 m = -1)) ∧ (isN u 37 c 107 ∧ isDoes (nn u 37 c) ∧ v.1 125 m = nI (dm (nn u 37 c))) ∧ (isN u 38 c 101 ∧ (104 ≤ nn u 37 c → v.1 126 m = u.1 38 c))
def RCx (u v : Wd) (r m A S O : Nat) : Prop := ∃ (b : Nat) (C Cu : List Nat) (tt : Nat) (Tu : List One), u.1 39 r = nI b ∧ u.1 40 r = nI (b + C.length) ∧ u.1 41 r = nI (b + C.length + Cu.length) ∧ b + C.length + Cu.length ≤ A ∧ CB u b (C ++ Cu) ∧ (v.1 130 m = nI tt ∧ v.1 131 m = nI (tt + Tu.length) ∧ tt + Tu.length ≤ O ∧ TA v tt S Tu ∧ ((Tu = [] ∧ Cu = []) ∨ (Tu ≠ [] ∧ tOK Cu Tu))) ∧ (nn u 37 r = 101 → ∃ tf T, v.1 129 m = nI tf ∧ tt = tf + T.length ∧ TA v tf S T ∧ T ≠ [] ∧ tOK C T) ∧ (nn u 37 r = 103 → ∃ sf, v.1 127 m = nI sf ∧ v.1 128 m = nI (sf + C.length) ∧ sf + C.length ≤ S ∧ SGN v sf C ∧ hg 20 C 0 = some 1 ∧ ∀ x ∈ C, smC x)
theorem RuleOK2.c {u v u' v' : Wd} {r m : Nat} (h : RuleOK2 u v r m) (e1 : ∀ k, 35 ≤ k → k ≤ 38 → u'.1 k r = u.1 k r ∧ u'.2 k r = u.2 k r) (e2 : ∀ k, 125 ≤ k → k ≤ 133 → v'.1 k m = v.1 k m ∧ v'.2 k m = v.2 k m) : RuleOK2 u' v' r m := by
  obtain ⟨h1, h2, ⟨h3, h4, h5⟩, h6, h7⟩ := h
  have n37 : nn u' 37 r = nn u 37 r := nn_eq (e1 37 (by omega) (by omega)).1
  refine ⟨by rw [(e1 35 (by omega) (by omega)).2, (e2 132 (by omega) (by omega)).2]; exact h1, by rw [(e1 36 (by omega) (by omega)).2, (e2 133 (by omega) (by omega)).2]; exact h2, ⟨h3.eq (e1 37 (by omega) (by omega)).1, by rw [n37]; exact h4, by rw [n37, (e2 125 (by omega) (by omega)).1]; exact h5⟩, h6.eq (e1 38 (by omega) (by omega)).1, fun z => by rw [(e2 126 (by omega) (by omega)).1, (e1 38 (by omega) (by omega)).1]; exact h7 (by rw [n37] at z; exact z)⟩
theorem TA.c {w w' : Wd} {O S K : Nat} (e1 : ∀ i, i < S → w'.1 140 i = w.1 140 i ∧ w'.1 141 i = w.1 141 i) (e2 : ∀ i, i < K → ∀ k, 134 ≤ k → k ≤ 139 → w'.1 k i = w.1 k i) : ∀ {T : List One}, TA w O S T → O + T.length ≤ K → TA w' O S T
  | [], _, _ => trivial
  | o :: T, h, hK => by
    rw [List.length_cons] at hK
    obtain ⟨⟨h1, h2, h3, s, h4, h5, h6, h7, h8, h9⟩, h10⟩ := h
    have hk : O + T.length < K := by omega
    exact ⟨⟨by rw [e2 _ hk 139 (by omega) (by omega)]; exact h1, by rw [e2 _ hk 138 (by omega) (by omega)]; exact h2, by rw [e2 _ hk 137 (by omega) (by omega)]; exact h3, s, by rw [e2 _ hk 134 (by omega) (by omega)]; exact h4, by rw [e2 _ hk 135 (by omega) (by omega)]; exact h5, by rw [e2 _ hk 136 (by omega) (by omega)]; exact h6, h7, h8.cg (fun i hi => e1 i (by omega)), h9.cg (fun i hi => e1 i (by omega))⟩, TA.c e1 e2 h10 (by omega)⟩
theorem RCx.c {u v u' v' : Wd} {r m A S O A' S' O' : Nat} (h : RCx u v r m A S O) (e1 : ∀ k, 37 ≤ k → k ≤ 41 → u'.1 k r = u.1 k r) (e42 : ∀ i, i < A → u'.1 42 i = u.1 42 i) (e2 : ∀ k, 127 ≤ k → k ≤ 131 → v'.1 k m = v.1 k m) (e3 : ∀ i, i < S → v'.1 140 i = v.1 140 i ∧ v'.1 141 i = v.1 141 i) (e4 : ∀ i, i < O → ∀ k, 134 ≤ k → k ≤ 139 → v'.1 k i = v.1 k i) (hA : A ≤ A') (hS : S ≤ S') (hO : O ≤ O') : RCx u' v' r m A' S' O' := by
  obtain ⟨b, C, Cu, tt, Tu, h1, h2, h3, h4, h5, ⟨h6, h7, h8, h9, h10⟩, h11, h12⟩ := h
  have n37 : nn u' 37 r = nn u 37 r := nn_eq (e1 37 (by omega) (by omega))
  refine ⟨b, C, Cu, tt, Tu, by rw [e1 39 (by omega) (by omega)]; exact h1, by rw [e1 40 (by omega) (by omega)]; exact h2, by rw [e1 41 (by omega) (by omega)]; exact h3, by omega, fun i hi => ?_, ⟨by rw [e2 130 (by omega) (by omega)]; exact h6, by rw [e2 131 (by omega) (by omega)]; exact h7, by omega, (h9.c e3 e4 h8).up hS, h10⟩, fun z => ?_, fun z => ?_⟩
  · have := h5 i hi
    rw [List.length_append] at hi
    rw [e42 _ (by omega)]; exact this
  · obtain ⟨tf, T, k1, k2, k3, k4, k5⟩ := h11 (by rw [← n37]; exact z)
    exact ⟨tf, T, by rw [e2 129 (by omega) (by omega)]; exact k1, k2, (k3.c e3 e4 (by omega)).up hS, k4, k5⟩
  · obtain ⟨sf, k1, k2, k3, k4, k5⟩ := h12 (by rw [← n37]; exact z)
    exact ⟨sf, by rw [e2 127 (by omega) (by omega)]; exact k1, by rw [e2 128 (by omega) (by omega)]; exact k2, by omega, k4.cg (fun i hi => e3 i (by omega)), k5⟩
section
variable {c : Nat → Nat} {n : Nat}
theorem clsR (hn : n ≤ 600) {st p f a : Nat} {wc : Wd} (hW : IW wc) (hB : ∀ i, i < n → BY (wc.1 66 i) (c i)) (hst : st ≤ p) (hp : p ≤ n) (h6 : wc.1 65 6 = nI p) (h0 : ¬ tk c n p = 0) (h1 : ¬ tk c n p = 1) {Q : Wd → Prop} (hcl : ∀ e, Fr [] f5 wc e → TC c n p e → ∃ e2, X6_take e = some (nI 0, e2) ∧ Q e2 ∧ Kg fQ f a e e2) : ∃ e2, PS n st wc = PS n (st + 1) e2 ∧ e2.1 65 6 = nI (te c n p) ∧ Q e2 ∧ Kg fR f a wc e2 ∧ (e2.1 65 4 = wc.1 65 4 ∧ e2.1 65 5 = wc.1 65 5) := by
  obtain ⟨e, e2, q1, q2, q3, q4, q5, q6⟩ := cstep (st := st) hn hW hB hst hp h6 h0 h1 (Q := fun e e2 => Q e2 ∧ Kg fQ f a e e2) (fun e he hT => by
    obtain ⟨e2, z1, z2, z3⟩ := hcl e he hT
    exact ⟨e2, z1, (z3.1 65 (by decide) 7 (by decide)).1, (z3.1 65 (by decide) 6 (by decide)).1, z2, z3⟩)
  have f2 : ∀ k, k = 4 ∨ k = 5 → e2.1 65 k = wc.1 65 k := fun k hk => by
    rw [(q6.1 65 (by decide) k (by rcases hk with e | e <;> subst e <;> decide)).1, (q2 65 (by decide) k (by rcases hk with e | e <;> subst e <;> decide)).1]
  exact ⟨e2, q1, q4, q5, (Kg.rf.scan q2).tr (q6.up (by decide)), f2 4 (Or.inl rfl), f2 5 (Or.inr rfl)⟩
theorem cfaultR (hn : n ≤ 600) {st p f a : Nat} {wc : Wd} (hW : IW wc) (hB : ∀ i, i < n → BY (wc.1 66 i) (c i)) (hst : st ≤ p) (hp : p ≤ n) (h6 : wc.1 65 6 = nI p) {k : Nat} (hk : 1 ≤ k) (hk6 : k ≤ 6) (ht : ∀ e, Fr [] f5 wc e → TC c n p e → ¬ tk c n p = 0 → ∃ e2, X6_take e = some (nI k, e2) ∧ Kg fQ f a e e2) : ∃ e, PS n st wc = some e ∧ e.1 65 4 = nI (if tk c n p = 0 then 1 else k) ∧ e.1 65 5 = nI (tf c n p) ∧ Kg fR f a wc e := by
  obtain ⟨e, he, hF, hT⟩ := scan_e hn hW hB hp h6
  have hF7 : Kg fR f a wc e := Kg.rf.scan hF
  have hr := tk_rng (c := c) (n := n) p
  have hT' := hT
  obtain ⟨t1, t2, -⟩ := hT
  by_cases q : tk c n p = 0
  · rw [if_pos q]
    rw [q] at t1
    refine ⟨_, ps_bad hn (by omega) he t1, ?_, ?_, (hF7.fI (by decide) (Or.inr rfl)).fI (by decide) (Or.inr rfl)⟩
    · rw [puI_ne (by decide), I_self]
    · rw [I_self]; exact t2
  · rw [if_neg q]
    obtain ⟨e2, z1, z2⟩ := ht e hF hT' q
    refine ⟨_, ps_fault hn (by omega) he t1 q (by omega) z1 (by omega) (by omega), ?_, ?_, ((hF7.tr (z2.up (by decide))).fI (by decide) (Or.inr rfl)).fI (by decide) (Or.inr rfl)⟩
    · rw [puI_ne (by decide), I_self]
    · rw [I_self, (z2.1 65 (by decide) 8 (by decide)).1]; exact t2
end
