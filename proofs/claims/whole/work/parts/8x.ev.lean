/-! what a row of codes comes to -/
def bL (b : Bool) : Int64 := if b then lN 1 else lN 0
def bI (b : Bool) : Int32 := if b then nI 1 else nI 0
theorem nar_bI (b : Bool) : vp_nar .boolean (bI b) = bI b := by cases b <;> decide
def cpv (t : Nat) (a b : Int64) : Bool := if t = 60 then decide (a < b) else if t = 62 then decide (b < a) else decide (a = b)
noncomputable def rk (t : Nat) (a b : Int64) : Int64 := if t = 42 then a * b else if t = 43 then a + b else if t = 45 then a - b else if t = 47 then (if b = 0 then 0 else a / b) else if t = 60 ∨ t = 61 ∨ t = 62 then bL (cpv t a b) else if t = 108 then a &&& b else a ||| b
noncomputable def ev1 (F : Nat → Int64) (x : Nat) (s : List Int64) : List Int64 := if x < 10000 then lN x :: s else if x < 10007 then F (x - 10000) :: s else if x = 10116 then (match s with
  | a :: s => ((1 : Int64) - a) :: s
  | [] => []) else (match s with
  | b :: a :: s => rk (x - 10007) a b :: s
  | s => s)
noncomputable def evS (F : Nat → Int64) : List Nat → List Int64 → List Int64
  | [], s => s
  | x :: C, s => evS F C (ev1 F x s)
theorem evS_app {F : Nat → Int64} {b : List Nat} : ∀ {a : List Nat} {s : List Int64}, evS F (a ++ b) s = evS F b (evS F a s)
  | [], _ => rfl
  | _ :: a, _ => evS_app (a := a)
theorem ev1_h {F : Nat → Int64} {B x h : Nat} {cs : List Nat} {r : Nat} {s st : List Int64} (hl : s.length = h) (hh : hg B (x :: cs) h = some r) : ∃ h', hg B cs h' = some r ∧ (ev1 F x s).length = h' ∧ ev1 F x (s ++ st) = ev1 F x s ++ st := by
  unfold hg at hh
  by_cases q1 : x < 10007
  · rw [if_pos q1] at hh
    by_cases q2 : h < B
    · rw [if_pos q2] at hh
      refine ⟨h + 1, hh, ?_, ?_⟩
      · unfold ev1
        by_cases q : x < 10000
        · rw [if_pos q, List.length_cons, hl]
        · rw [if_neg q, if_pos q1, List.length_cons, hl]
      · unfold ev1
        by_cases q : x < 10000
        · rw [if_pos q, if_pos q]; rfl
        · rw [if_neg q, if_pos q1, if_neg q, if_pos q1]; rfl
    · rw [if_neg q2] at hh; cases hh
  · rw [if_neg q1] at hh
    by_cases q3 : x = 10116
    · rw [if_pos q3] at hh
      by_cases q2 : 1 ≤ h
      · rw [if_pos q2] at hh
        cases s with
        | nil => simp at hl; omega
        | cons a s =>
          refine ⟨h, hh, ?_, ?_⟩
          · unfold ev1
            rw [if_neg (by omega), if_neg q1, if_pos q3]; exact hl
          · unfold ev1
            rw [if_neg (by omega), if_neg q1, if_pos q3, if_neg (by omega), if_neg q1, if_pos q3]; rfl
      · rw [if_neg q2] at hh; cases hh
    · rw [if_neg q3] at hh
      by_cases q2 : 2 ≤ h
      · rw [if_pos q2] at hh
        match s, hl with
        | b :: a :: s, hl =>
          refine ⟨h - 1, hh, ?_, ?_⟩
          · unfold ev1
            rw [if_neg (by omega), if_neg q1, if_neg q3]
            simp only [List.length_cons] at hl ⊢
            omega
          · unfold ev1
            rw [if_neg (by omega), if_neg q1, if_neg q3, if_neg (by omega), if_neg q1, if_neg q3]; rfl
        | [a], hl => simp at hl; omega
        | [], hl => simp at hl; omega
      · rw [if_neg q2] at hh; cases hh
theorem evS_h {F : Nat → Int64} {B r : Nat} : ∀ {C : List Nat} {h : Nat} {s st : List Int64}, s.length = h → hg B C h = some r → (evS F C s).length = r ∧ evS F C (s ++ st) = evS F C s ++ st
  | [], h, s, st, hl, hh => by
    unfold hg at hh
    injection hh with hh
    exact ⟨by rw [← hh]; exact hl, rfl⟩
  | x :: C, h, s, st, hl, hh => by
    obtain ⟨h', h1, h2, h3⟩ := ev1_h (F := F) (st := st) hl hh
    unfold evS
    rw [h3]
    exact evS_h h2 h1
theorem hg_up {B d : Nat} : ∀ {C : List Nat} {h r : Nat}, hg B C h = some r → hg (B + d) C (h + d) = some (r + d)
  | [], h, r, hh => by
    unfold hg at hh ⊢
    injection hh with hh
    rw [hh]
  | x :: C, h, r, hh => by
    unfold hg at hh ⊢
    by_cases q1 : x < 10007
    · rw [if_pos q1] at hh ⊢
      by_cases q2 : h < B
      · rw [if_pos q2] at hh
        rw [if_pos (by omega), show h + d + 1 = h + 1 + d by omega]; exact hg_up hh
      · rw [if_neg q2] at hh; cases hh
    · rw [if_neg q1] at hh ⊢
      by_cases q3 : x = 10116
      · rw [if_pos q3] at hh ⊢
        by_cases q2 : 1 ≤ h
        · rw [if_pos q2] at hh
          rw [if_pos (by omega)]; exact hg_up hh
        · rw [if_neg q2] at hh; cases hh
      · rw [if_neg q3] at hh ⊢
        by_cases q2 : 2 ≤ h
        · rw [if_pos q2] at hh
          rw [if_pos (by omega), show h + d - 1 = h - 1 + d by omega]; exact hg_up hh
        · rw [if_neg q2] at hh; cases hh
theorem hg_B {B B' : Nat} (hB : B ≤ B') : ∀ {C : List Nat} {h r : Nat}, hg B C h = some r → hg B' C h = some r
  | [], h, r, hh => hh
  | x :: C, h, r, hh => by
    unfold hg at hh ⊢
    by_cases q1 : x < 10007
    · rw [if_pos q1] at hh ⊢
      by_cases q2 : h < B
      · rw [if_pos q2] at hh
        rw [if_pos (by omega)]; exact hg_B hB hh
      · rw [if_neg q2] at hh; cases hh
    · rw [if_neg q1] at hh ⊢
      by_cases q3 : x = 10116
      · rw [if_pos q3] at hh ⊢
        by_cases q2 : 1 ≤ h
        · rw [if_pos q2] at hh ⊢; exact hg_B hB hh
        · rw [if_neg q2] at hh; cases hh
      · rw [if_neg q3] at hh ⊢
        by_cases q2 : 2 ≤ h
        · rw [if_pos q2] at hh ⊢; exact hg_B hB hh
        · rw [if_neg q2] at hh; cases hh
/-- what a SUM comes to -/
noncomputable def vS (F : Nat → Int64) (C : List Nat) : Int64 := (evS F C []).headD 0
theorem evS_1 {F : Nat → Int64} {B : Nat} {C : List Nat} {s : List Int64} (h : hg B C 0 = some 1) : evS F C s = vS F C :: s := by
  obtain ⟨h1, h2⟩ := evS_h (F := F) (s := []) (st := s) rfl h
  rw [List.nil_append] at h2
  rw [h2]
  unfold vS
  match evS F C [], h1 with
  | [a], _ => rfl
/-! a TEST -/
abbrev One := Bool × Bool × Nat × List Nat × List Nat
noncomputable def ovl (F : Nat → Int64) (o : One) : Bool := xor (cpv o.2.2.1 (vS F o.2.2.2.1) (vS F o.2.2.2.2)) o.2.1
noncomputable def tst (F : Nat → Int64) : List One → Bool × Bool
  | [] => (false, true)
  | o :: T => if o.1 = true ∧ T ≠ [] then ((tst F T).1 || (tst F T).2, ovl F o) else ((tst F T).1, (tst F T).2 && ovl F o)
noncomputable def hld (F : Nat → Int64) (T : List One) : Bool := (tst F T).1 || (tst F T).2
noncomputable def clo (F : Nat → Int64) (m : Bool) (T : List One) : Bool × Bool := if m = true then tst F T else if T = [] then (false, true) else (hld F T, true)
theorem tst_s {F : Nat → Int64} {m : Bool} {T : List One} {o : One} (h : o.1 = !m) : tst F (o :: T) = ((clo F m T).1, (clo F m T).2 && ovl F o) := by
  show (if o.1 = true ∧ T ≠ [] then ((tst F T).1 || (tst F T).2, ovl F o) else ((tst F T).1, (tst F T).2 && ovl F o)) = _
  unfold clo
  cases m with
  | true =>
    rw [if_neg (by rw [h]; simp), if_pos rfl]
  | false =>
    rw [if_neg (show ¬ (false = true) by simp)]
    by_cases q : T = []
    · rw [if_pos q, if_neg (fun z => z.2 q), q]; rfl
    · rw [if_neg q, if_pos ⟨h, q⟩]
      simp [hld]
def oneC (o : One) : List Nat := o.2.2.2.1 ++ o.2.2.2.2 ++ [opc o.2.2.1] ++ (if o.2.1 then [opc 109] else [])
def okOne (o : One) : Prop := okO o.2.2.1 o.2.2.2.1 o.2.2.2.2
def wr (m o : Bool) : List Nat := (if m then [108] else []) ++ (if o then [107] else [])
noncomputable def stF (m o : Bool) (a p : Bool) : List Int64 := (if m then [bL p] else []) ++ (if o then [bL a] else [])
theorem bL_not (b : Bool) : (1 : Int64) - bL b = bL (!b) := by cases b <;> decide
theorem bL_and (a b : Bool) : bL a &&& bL b = bL (a && b) := by cases a <;> cases b <;> decide
theorem bL_or (a b : Bool) : bL a ||| bL b = bL (a || b) := by cases a <;> cases b <;> decide
theorem ev_cmp {F : Nat → Int64} {t : Nat} (ht : t = 60 ∨ t = 61 ∨ t = 62) {a b : Int64} {s : List Int64} : evS F [opc t] (b :: a :: s) = bL (cpv t a b) :: s := by
  show ev1 F (opc t) (b :: a :: s) = _
  unfold ev1 opc
  rw [if_neg (by omega), if_neg (by omega), if_neg (by omega), show 10007 + t - 10007 = t by omega]
  show rk t a b :: s = _
  unfold rk
  rw [if_neg (by omega), if_neg (by omega), if_neg (by omega), if_neg (by omega), if_pos ht]
theorem ev_not {F : Nat → Int64} {b : Bool} {s : List Int64} : evS F [opc 109] (bL b :: s) = bL (!b) :: s := by
  show ev1 F (opc 109) (bL b :: s) = _
  unfold ev1 opc
  rw [if_neg (by omega), if_neg (by omega), if_pos (by omega), ← bL_not]
theorem ev_and {F : Nat → Int64} {a b : Bool} {s : List Int64} : evS F [opc 108] (bL b :: bL a :: s) = bL (a && b) :: s := by
  show ev1 F (opc 108) (bL b :: bL a :: s) = _
  unfold ev1 opc
  rw [if_neg (by omega), if_neg (by omega), if_neg (by omega), ← bL_and]
  show rk 108 (bL a) (bL b) :: s = _
  unfold rk
  rw [if_neg (by omega), if_neg (by omega), if_neg (by omega), if_neg (by omega), if_neg (by omega), if_pos rfl]
theorem ev_or {F : Nat → Int64} {a b : Bool} {s : List Int64} : evS F [opc 107] (bL b :: bL a :: s) = bL (a || b) :: s := by
  show ev1 F (opc 107) (bL b :: bL a :: s) = _
  unfold ev1 opc
  rw [if_neg (by omega), if_neg (by omega), if_neg (by omega), ← bL_or]
  show rk 107 (bL a) (bL b) :: s = _
  unfold rk
  rw [if_neg (by omega), if_neg (by omega), if_neg (by omega), if_neg (by omega), if_neg (by omega), if_neg (by omega)]
theorem ev_one {F : Nat → Int64} {o : One} (h : okOne o) {s : List Int64} : evS F (oneC o) s = bL (ovl F o) :: s := by
  obtain ⟨h1, h2, h3, -⟩ := h
  unfold oneC
  rw [evS_app, evS_app, evS_app, evS_1 h2, evS_1 h3, ev_cmp h1]
  unfold ovl
  by_cases q : o.2.1 = true
  · rw [if_pos q, q, ev_not, Bool.xor_true]
  · rw [if_neg q]
    have : o.2.1 = false := by simpa using q
    rw [this, Bool.xor_false]; rfl
theorem hg_one {o : One} (h : okOne o) {d : Nat} (hd : d ≤ 5) : hg 40 (oneC o) d = some (d + 1) := by
  obtain ⟨h1, h2, h3, -⟩ := h
  unfold oneC
  have e2 : hg 40 o.2.2.2.1 d = some (1 + d) := by
    have := hg_B (B := 20 + d) (B' := 40) (by omega) (hg_up (d := d) h2)
    rwa [Nat.zero_add] at this
  have e3 : hg 40 o.2.2.2.2 (1 + d) = some (2 + d) := by
    have := hg_B (B := 20 + (1 + d)) (B' := 40) (by omega) (hg_up (d := 1 + d) h3)
    rw [Nat.zero_add] at this
    rw [this]; congr 1; omega
  rw [hg_app, hg_app, hg_app, e2, Option.bind_some, e3, Option.bind_some]
  have e4 : hg 40 [opc o.2.2.1] (2 + d) = some (d + 1) := by
    show (if opc o.2.2.1 < 10007 then _ else if opc o.2.2.1 = 10116 then _ else if 2 ≤ 2 + d then some (2 + d - 1) else none) = _
    unfold opc
    rw [if_neg (by omega), if_neg (by omega), if_pos (by omega)]
    congr 1; omega
  rw [e4, Option.bind_some]
  by_cases q : o.2.1 = true
  · rw [if_pos q]
    show (if opc 109 < 10007 then _ else if opc 109 = 10116 then (if 1 ≤ d + 1 then some (d + 1) else none) else _) = _
    unfold opc
    rw [if_neg (by omega), if_pos (by omega), if_pos (by omega)]
  · rw [if_neg q]; rfl
theorem hg_bin {x h : Nat} (hx : x = 107 ∨ x = 108) (hh : 1 ≤ h) : hg 40 [opc x] (h + 1) = some h := by
  show (if opc x < 10007 then _ else if opc x = 10116 then _ else if 2 ≤ h + 1 then some (h + 1 - 1) else none) = _
  unfold opc
  rw [if_neg (by omega), if_neg (by omega), if_pos (by omega)]
  rfl
