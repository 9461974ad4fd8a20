/-! TOKENS -/
def extF (P : Nat → Bool) : Nat → Nat → Nat
  | 0, p => p
  | k + 1, p => if P p = true then extF P k (p + 1) else p
def ext (P : Nat → Bool) (n p : Nat) : Nat := extF P (n - p) p
theorem extF_s {P : Nat → Bool} : ∀ (k p : Nat), p ≤ extF P k p ∧ extF P k p ≤ p + k ∧ (∀ i, p ≤ i → i < extF P k p → P i = true) ∧ (extF P k p = p + k ∨ ¬ P (extF P k p) = true)
  | 0, p => ⟨Nat.le_refl _, Nat.le_refl _, fun i h1 h2 => by unfold extF at h2; omega, Or.inl rfl⟩
  | k + 1, p => by
    unfold extF
    by_cases q : P p = true
    · rw [if_pos q]
      obtain ⟨h1, h2, h3, h4⟩ := extF_s (P := P) k (p + 1)
      refine ⟨by omega, by omega, fun i h5 h6 => ?_, ?_⟩
      · by_cases z : i = p
        · rw [z]; exact q
        · exact h3 i (by omega) h6
      · rcases h4 with z | z
        · exact Or.inl (by omega)
        · exact Or.inr z
    · rw [if_neg q]
      exact ⟨Nat.le_refl _, by omega, fun i h1 h2 => by omega, Or.inr q⟩
theorem ext_s {P : Nat → Bool} {n p : Nat} (h : p ≤ n) : p ≤ ext P n p ∧ ext P n p ≤ n ∧ (∀ i, p ≤ i → i < ext P n p → P i = true) ∧ (ext P n p = n ∨ ¬ P (ext P n p) = true) := by
  obtain ⟨h1, h2, h3, h4⟩ := extF_s (P := P) (n - p) p
  unfold ext
  refine ⟨h1, by omega, h3, ?_⟩
  rcases h4 with z | z
  · exact Or.inl (by omega)
  · exact Or.inr z
theorem ext_t {P : Nat → Bool} {n p : Nat} (h : p < n) (hp : P p = true) : ext P n p = ext P n (p + 1) := by
  unfold ext
  rw [show n - p = (n - (p + 1)) + 1 by omega]
  show (if P p = true then extF P (n - (p + 1)) (p + 1) else p) = _
  rw [if_pos hp]
theorem ext_f {P : Nat → Bool} {n p : Nat} (hp : p ≥ n ∨ ¬ P p = true) : ext P n p = p := by
  unfold ext
  by_cases h : n - p = 0
  · rw [h]; rfl
  · rw [show n - p = (n - (p + 1)) + 1 by omega]
    show (if P p = true then extF P (n - (p + 1)) (p + 1) else p) = _
    rw [if_neg (by rcases hp with z | z; · omega
                   · exact z)]
def isLet (c : Nat) : Bool := decide (97 ≤ c) && decide (c ≤ 122)
def isDig (c : Nat) : Bool := decide (48 ≤ c) && decide (c ≤ 57)
def isSpc (c : Nat) : Bool := decide (c = 10) || decide (c = 32)
def isSgn (c : Nat) : Bool := [59, 58, 60, 62, 61, 43, 45, 42, 47, 40, 41].contains c
def wrd (c : Nat → Nat) (q k : Nat) : List Nat := (List.range k).map (fun i => c (q + i))
def nvl (c : Nat → Nat) (q : Nat) : Nat → Nat
  | 0 => 0
  | k + 1 => 10 * nvl c q k + (c (q + k) - 48)
def KW : List (List Nat) := [[115,116,114,105,107,101,115],[109,97,121],[117,110,108,101,115,115],[104,111,117,114,115],[114,111,111,109],[112,97,115,115],[102,108,97,103],[111,114],[97,110,100],[110,111,116],[97,103,101],[116,111,110,103,117,101],[109,97,110,121],[119,101,101,107],[100,111,110,101],[114,97,105,110],[115,104,105,114,101]]
def widx (L : List Nat) : Nat := KW.findIdx (fun x => x == L)
section
variable (c : Nat → Nat) (n : Nat)
def tf (p : Nat) : Nat := ext (fun i => isSpc (c i)) n p
def we (p : Nat) : Nat := ext (fun i => isLet (c i)) n (tf c n p)
def de (p : Nat) : Nat := ext (fun i => isDig (c i)) n (tf c n p)
def te (p : Nat) : Nat := if n ≤ tf c n p then n else if isLet (c (tf c n p)) then we c n p else if isDig (c (tf c n p)) then de c n p else tf c n p + 1
def tw (p : Nat) : List Nat := wrd c (tf c n p) (we c n p - tf c n p)
def tv (p : Nat) : Nat := nvl c (tf c n p) (de c n p - tf c n p)
def tk (p : Nat) : Nat := if n ≤ tf c n p then 1 else if isLet (c (tf c n p)) then (if we c n p - tf c n p > 8 then 4 else if widx (tw c n p) < 17 then 100 + widx (tw c n p) else 3) else if isDig (c (tf c n p)) then (if de c n p - tf c n p > 4 then 0 else 2) else if isSgn (c (tf c n p)) then c (tf c n p) else 0
end
theorem let_iff {c : Nat} : isLet c = true ↔ 97 ≤ c ∧ c ≤ 122 := by unfold isLet; simp
theorem dig_iff {c : Nat} : isDig c = true ↔ 48 ≤ c ∧ c ≤ 57 := by unfold isDig; simp
theorem spc_iff {c : Nat} : isSpc c = true ↔ c = 10 ∨ c = 32 := by unfold isSpc; simp
theorem sgn_iff {c : Nat} : isSgn c = true ↔ (c = 59 ∨ c = 58 ∨ c = 60 ∨ c = 62 ∨ c = 61 ∨ c = 43 ∨ c = 45 ∨ c = 42 ∨ c = 47 ∨ c = 40 ∨ c = 41) := by
  unfold isSgn
  rw [List.contains_iff_mem]
  simp only [List.mem_cons, List.not_mem_nil, or_false]
theorem nvl_lt {c : Nat → Nat} {q : Nat} : ∀ k, (∀ i, i < k → isDig (c (q + i)) = true) → nvl c q k < 10 ^ k
  | 0, _ => by unfold nvl; omega
  | k + 1, h => by
    have h1 := nvl_lt (c := c) (q := q) k (fun i hi => h i (by omega))
    have h2 := dig_iff.mp (h k (by omega))
    unfold nvl
    rw [Nat.pow_succ]
    omega
theorem wrd_s {c : Nat → Nat} {q k : Nat} : wrd c q (k + 1) = wrd c q k ++ [c (q + k)] := by unfold wrd; rw [List.range_succ, List.map_append]; rfl
theorem wrd_l {c : Nat → Nat} {q k : Nat} : (wrd c q k).length = k := by unfold wrd; simp
theorem wrd_w {c : Nat → Nat} {q k : Nat} (h : ∀ i, i < k → isLet (c (q + i)) = true) (h1 : 1 ≤ k) (h8 : k ≤ 8) : isWord (wrd c q k) := by
  refine ⟨fun x hx => ?_, by rw [wrd_l]; exact h1, by rw [wrd_l]; exact h8⟩
  unfold wrd at hx
  obtain ⟨i, hi, rfl⟩ := List.mem_map.mp hx
  exact let_iff.mp (h i (List.mem_range.mp hi))
theorem p5_s {L : List Nat} {c : Nat} : p5 (L ++ [c]) = p5 L * 32 + (c - 96) := by unfold p5; rw [List.foldl_append]; rfl
theorem p8_s {L : List Nat} {c : Nat} : p8 (L ++ [c]) = p8 L * 256 + c := by unfold p8; rw [List.foldl_append]; rfl
theorem KW_len : KW.length = 17 := rfl
theorem KW_w : ∀ L ∈ KW, isWord L := by
  have h : KW.all (fun L => L.all (fun c => decide (97 ≤ c) && decide (c ≤ 122)) && decide (1 ≤ L.length) && decide (L.length ≤ 8)) = true := by decide
  intro L hL
  have h1 := List.all_eq_true.mp h L hL
  simp only [Bool.and_eq_true, decide_eq_true_eq, List.all_eq_true] at h1
  exact ⟨h1.1.1, h1.1.2, h1.2⟩
theorem widx_t {L : List Nat} {i : Nat} (hi : i < 17) (h : KW.getD i [] = L) : widx L = i := by
  subst h
  have h : ∀ i : Fin 17, widx (KW.getD i.1 []) = i.1 := by decide
  exact h ⟨i, hi⟩
theorem widx_i {L : List Nat} {i : Nat} (hi : i < 17) : widx L = i ↔ KW.getD i [] = L := by
  refine ⟨fun h => ?_, widx_t hi⟩
  have h2 : widx L < KW.length := by rw [h, KW_len]; exact hi
  have h3 := List.findIdx_getElem (p := fun x => x == L) (xs := KW) (w := h2)
  have h4 : KW[widx L]'h2 = L := by
    have h5 : (KW[KW.findIdx (fun x => x == L)]'h2 == L) = true := h3
    exact eq_of_beq h5
  rw [← h4, List.getD_eq_getElem?_getD]
  subst h
  rw [List.getElem?_eq_getElem h2]
  rfl
theorem widx_le {L : List Nat} : widx L ≤ 17 := List.findIdx_le_length
/-! bytes -/
def BY (x : Int32) (k : Nat) : Prop := (x = nI k ∧ k < 128) ∨ (x.toInt < 0 ∧ 128 ≤ k ∧ k < 256)
theorem BY_of {x : Int32} (h : -128 ≤ x.toInt ∧ x.toInt ≤ 127) : ∃ k, BY x k ∧ x &&& nI 255 = nI k ∧ k < 256 := by
  by_cases q : x.toInt < 0
  · have key : ∀ i : Fin 128, (Int32.ofInt (-(i.1 + 1 : Nat) : Int)) &&& nI 255 = nI (255 - i.1) := by decide +kernel
    have e : x = Int32.ofInt (-((-x.toInt - 1).toNat + 1 : Nat) : Int) := by
      rw [show (-((-x.toInt - 1).toNat + 1 : Nat) : Int) = x.toInt by omega, Int32.ofInt_toInt]
    refine ⟨255 - (-x.toInt - 1).toNat, Or.inr ⟨q, by omega, by omega⟩, ?_, by omega⟩
    have := key ⟨(-x.toInt - 1).toNat, by omega⟩
    rw [← e] at this
    exact this
  · obtain ⟨k, hk, rfl⟩ := of_t (x := x) (n := 128) ⟨by omega, by omega⟩
    refine ⟨k, Or.inl ⟨rfl, hk⟩, ?_, by omega⟩
    rw [and_e, show (255 : Nat) = 2 ^ 8 - 1 from rfl, Nat.and_two_pow_sub_one_eq_mod, Nat.mod_eq_of_lt (by omega)]
theorem BY.eq {x : Int32} {k m : Nat} (h : BY x k) (hm : m < 128) : (x = nI m) = (k = m) := by
  rw [eq_iff_iff]
  rcases h with ⟨rfl, h⟩ | ⟨h1, h2, h3⟩
  · rw [nI_eq (by omega) (by omega)]
  · exact ⟨fun z => (not_nI h1 (by omega) z).elim, fun z => by omega⟩
theorem BY.lt {x : Int32} {k m : Nat} (h : BY x k) (hm : m < 128) : (x < nI m) = (k < m ∨ 128 ≤ k) := by
  rw [eq_iff_iff]
  rcases h with ⟨rfl, h⟩ | ⟨h1, h2, h3⟩
  · rw [nI_ltI (by omega) (by omega)]; omega
  · rw [lt_t, tI (by omega)]; omega
theorem BY.gt {x : Int32} {k m : Nat} (h : BY x k) (hm : m < 128) : (nI m < x) = (m < k ∧ k < 128) := by
  rw [eq_iff_iff]
  rcases h with ⟨rfl, h⟩ | ⟨h1, h2, h3⟩
  · rw [nI_ltI (by omega) (by omega)]; omega
  · rw [lt_t, tI (by omega)]; omega
theorem BY.le {x : Int32} {k m : Nat} (h : BY x k) (hm : m < 128) : (x ≤ nI m) = (k ≤ m ∨ 128 ≤ k) := by
  rw [eq_iff_iff]
  rcases h with ⟨rfl, h⟩ | ⟨h1, h2, h3⟩
  · rw [nI_leI (by omega) (by omega)]; omega
  · rw [le_t, tI (by omega)]; omega
theorem BY.lo {x : Int32} {k : Nat} (h : BY x k) (hk : k < 128) : x = nI k := by
  rcases h with ⟨rfl, h⟩ | ⟨h1, h2, h3⟩
  · rfl
  · omega
theorem let_e {x : Int32} {k : Nat} (h : BY x k) (w : Wd) : X6_isLetter x w = if isLet k = true then nI 1 else nI 0 := by
  unfold X6_isLetter X6_isLetterO
  rw [show (97 : Int32) = nI 97 from rfl, show (122 : Int32) = nI 122 from rfl]
  simp only [h.lt (m := 97) (by omega), h.gt (m := 122) (by omega), let_iff]
  by_cases q : 97 ≤ k ∧ k ≤ 122
  · rw [if_neg (by omega), if_neg (by omega), if_pos q]; rfl
  · rw [if_neg q]
    by_cases q2 : k < 97 ∨ 128 ≤ k
    · rw [if_pos q2]; rfl
    · rw [if_neg q2, if_pos (by omega)]; rfl
theorem dig_e {x : Int32} {k : Nat} (h : BY x k) (w : Wd) : X6_isDigit x w = if isDig k = true then nI 1 else nI 0 := by
  unfold X6_isDigit X6_isDigitO
  rw [show (48 : Int32) = nI 48 from rfl, show (57 : Int32) = nI 57 from rfl]
  simp only [h.lt (m := 48) (by omega), h.gt (m := 57) (by omega), dig_iff]
  by_cases q : 48 ≤ k ∧ k ≤ 57
  · rw [if_neg (by omega), if_neg (by omega), if_pos q]; rfl
  · rw [if_neg q]
    by_cases q2 : k < 48 ∨ 128 ≤ k
    · rw [if_pos q2]; rfl
    · rw [if_neg q2, if_pos (by omega)]; rfl
theorem l_shln {v k : Nat} {s : Int64} (hs : (s.toBitVec.smod 64).toNat = k) : lN v <<< s = lN (v * 2 ^ k) := by
  apply Int64.toBitVec_inj.mp
  show (lN v).toBitVec <<< (s.toBitVec.smod 64).toNat = BitVec.ofNat 64 (v * 2 ^ k)
  rw [hs]
  show BitVec.ofNat 64 v <<< k = _
  apply BitVec.eq_of_toNat_eq
  rw [BitVec.toNat_shiftLeft, BitVec.toNat_ofNat, BitVec.toNat_ofNat, Nat.shiftLeft_eq, Nat.mod_mul_mod]
theorem or_add {v k d : Nat} (h : d < 2 ^ k) : v * 2 ^ k ||| d = v * 2 ^ k + d := by
  rw [Nat.mul_comm, Nat.two_pow_add_eq_or_of_lt h]
theorem i64_n {n : Nat} (h : n < 2 ^ 31) : Int32.toInt64 (nI n) = lN n := by
  apply Int64.toInt_inj.mp
  rw [Int32.toInt_toInt64, tI h, lN_t (by omega)]
theorem pack_e {x : Int32} {k v : Nat} (hx : x = nI k) (h1 : 97 ≤ k) (h2 : k ≤ 122) (w : Wd) : X6_pack (lN v) x w = lN (v * 32 + (k - 96)) := by
  unfold X6_pack X6_packO
  rw [hx, show (97 : Int32) = nI 97 from rfl, show (1 : Int32) = nI 1 from rfl, nsub (by omega), nI_add, i64_n (by omega), l_shln (k := 5) (by decide), l_or, show k - 97 + 1 = k - 96 by omega, or_add (by omega)]
  rfl
