/-! ONE and TEST, side by side -/
def OneAt (w : Wd) (k : Nat) (o : One) (S : Nat) : Prop := w.1 139 k = bI o.1 ∧ w.1 138 k = bI o.2.1 ∧ OQ w k o.2.2.1 o.2.2.2.1 o.2.2.2.2 S
def TA (w : Wd) (O S : Nat) : List One → Prop
  | [] => True
  | o :: T => OneAt w (O + T.length) o S ∧ TA w O S T
theorem OQ.kv {w w' : Wd} {k t : Nat} {L R : List Nat} {S K : Nat} (h : OQ w k t L R S) (e : KV K S w w') (hk : k < K) : OQ w' k t L R S := by
  obtain ⟨h1, s, h2, h3, h4, h5, h6, h7⟩ := h
  refine ⟨by rw [e.2.2 k hk 137 (by omega) (by omega)]; exact h1, s, by rw [e.2.2 k hk 134 (by omega) (by omega)]; exact h2, by rw [e.2.2 k hk 135 (by omega) (by omega)]; exact h3, by rw [e.2.2 k hk 136 (by omega) (by omega)]; exact h4, h5, h6.cg (fun i hi => e.2.1 i (by omega)), h7.cg (fun i hi => e.2.1 i (by omega))⟩
theorem OQ.up {w : Wd} {k t : Nat} {L R : List Nat} {S S' : Nat} (h : OQ w k t L R S) (hS : S ≤ S') : OQ w k t L R S' := by
  obtain ⟨h1, s, h2, h3, h4, h5, h6, h7⟩ := h
  exact ⟨h1, s, h2, h3, h4, by omega, h6, h7⟩
theorem TA.kv {w w' : Wd} {O S K : Nat} (e : KV K S w w') : ∀ {T : List One}, TA w O S T → O + T.length ≤ K → TA w' O S T
  | [], _, _ => trivial
  | o :: T, h, hK => by
    rw [List.length_cons] at hK
    obtain ⟨⟨h1, h2, h3⟩, h4⟩ := h
    exact ⟨⟨by rw [e.2.2 _ (by omega) 139 (by omega) (by omega)]; exact h1, by rw [e.2.2 _ (by omega) 138 (by omega) (by omega)]; exact h2, h3.kv e (by omega)⟩, TA.kv e h4 (by omega)⟩
theorem TA.up {w : Wd} {O S S' : Nat} (hS : S ≤ S') : ∀ {T : List One}, TA w O S T → TA w O S' T
  | [], _ => trivial
  | _ :: _, h => ⟨⟨h.1.1, h.1.2.1, h.1.2.2.up hS⟩, TA.up hS h.2⟩
def nw (b : Bool) : List Nat := if b then [109] else []
/-- a good ONE -/
def OE (c : Nat → Nat) (n : Nat) (w0c w0m : Wd) (W : List Nat) (A S K KA KB p0 : Nat) (b : Bool) (P : Option Wd) (r : Int32 × Wd) : Prop := r.1 = nI 1 ∧ ∃ st p wc U C o S', P = PS n st wc ∧ (st ≤ p ∧ p ≤ n ∧ wc.1 65 6 = nI p) ∧ p0 + 3 ≤ p ∧ CX wc 9 0 (U ++ W) A C ∧ KS A w0c wc ∧ (wc.1 65 4 = w0c.1 65 4 ∧ wc.1 65 5 = w0c.1 65 5 ∧ wc.1 65 12 = nI 2) ∧ ((∀ x ∈ U, 3 ≤ bnd x) ∧ U.length ≤ 4) ∧ C ++ U.map opc = oneC o ∧ okOne o ∧ o.1 = b ∧ KV K S w0m r.2 ∧ MT c n p r.2 ∧ (r.2.1 97 41 = nI 0 ∧ r.2.1 97 40 = w0m.1 97 40) ∧ r.2.1 97 44 = nI (K + 1) ∧ OneAt r.2 K o S' ∧ r.2.1 97 43 = nI S' ∧ S ≤ S' ∧ ¬ (tk c n p = 43 ∨ tk c n p = 45 ∨ tk c n p = 42 ∨ tk c n p = 47) ∧ (A + C.length + U.length + W.length ≤ KA + p ∧ S' ≤ KB + p)
section
variable {c : Nat → Nat} {n : Nat}
theorem one_e (hn : n ≤ 600) {w0c w0m : Wd} (hW : IW w0c) (hB : ∀ i, i < n → BY (w0c.1 66 i) (c i)) (hMB : MB c n w0m) {W : List Nat} (hWb : ∀ x, W.head? = some x → bnd x < 3) (hWl : W.length ≤ 5) {A S K KA KB p st : Nat} {b : Bool} (hKA : KA ≤ 2400) (hKB : KB ≤ 2400) (hK : K < 1500) (h12 : w0c.1 65 12 = nI 1) (hst : st ≤ p) (hp : p ≤ n) (h6 : w0c.1 65 6 = nI p) (hCX : CX w0c 7 0 W A []) (hMT : MT c n p w0m) (h41 : w0m.1 97 41 = nI 0) (h43 : w0m.1 97 43 = nI S) (h44 : w0m.1 97 44 = nI K) (bA : A + W.length ≤ KA + p) (bS : S ≤ KB + p) : ok (X12_one (bI b) w0m) (fun r => OE c n w0c w0m W A S K KA KB p b (PS n st w0c) r ∨ FP (KS A w0c) (KV K S w0m) (PS n st w0c) r) := by
  have kA : KV K S w0m (puI w0m 139 K (bI b)) := KV.rf.pu (by omega) (by omega) (Nat.le_refl _)
  have hMT1 : MT c n p (puI w0m 139 K (bI b)) := hMT.c (fun j _ _ => by rw [I_oth (by decide)])
  have hk := key_e hn (kA.mb hMB) hp hMT1 (t := 109) (by omega) (by omega)
  have hkx : kx 109 = 9 := rfl
  rw [hkx] at hk
  -- the model up to the first SUM
  have kB : ∀ v, KV K S w0m (puI (puI w0m 139 K (bI b)) 138 K v) := fun v => kA.pu (by omega) (by omega) (Nat.le_refl _)
  have hMT2 : ∀ v, MT c n p (puI (puI w0m 139 K (bI b)) 138 K v) := fun v => hMT1.c (fun j _ _ => by rw [I_oth (by decide)])
  have B139 : ∀ v, (puI (puI w0m 139 K (bI b)) 138 K v).1 139 K = bI b := fun v => by rw [I_oth (by decide), I_self]
  have B138 : ∀ v, (puI (puI w0m 139 K (bI b)) 138 K v).1 138 K = v := fun v => I_self
  have B97 : ∀ v j, (puI (puI w0m 139 K (bI b)) 138 K v).1 97 j = w0m.1 97 j := fun v j => by rw [I_oth (by decide), I_oth (by decide)]
  -- what is left behind the first SUM's beginning
  have fin : ∀ (nt : Bool) (st' p' : Nat) (wc' wm' : Wd) (s' : Nat), PS n st w0c = PS n st' wc' → KS A w0c wc' → (wc'.1 65 4 = w0c.1 65 4 ∧ wc'.1 65 5 = w0c.1 65 5) → KV K S w0m wm' → wm'.1 97 40 = w0m.1 97 40 → (wm'.1 139 K = bI b ∧ wm'.1 138 K = bI nt) → p ≤ p' → st' ≤ p' → p' ≤ n → (s' = 7 ∨ s' = 8) → A + (nw nt ++ W).length ≤ KA + p' → ok (X12_one_j37 (nI K) wm') (fun r => OM c n wc' wm' (nw nt ++ W) A S K KA KB p' (PS n st' wc') r ∨ FP (KS A wc') (KV K S wm') (PS n st' wc') r) → ok (X12_one_j37 (nI K) wm') (fun r => OE c n w0c w0m W A S K KA KB p b (PS n st w0c) r ∨ FP (KS A w0c) (KV K S w0m) (PS n st w0c) r) := by
    intro nt st' p' wc' wm' s' hP hKS hf hKV h40 hb hpp _ _ _ _ h
    refine ok_mono h (fun r hr => ?_)
    rcases hr with ⟨e1, st2, p2, wc2, U, C, t, L, R, h1, h2, h3, h4, h5, h6, h7, h8, h9, h10, h11, h12, h13, h14, h15, h16, h17, h18, h19⟩ | ⟨e1, k, pl, e, f1, f2, f3, f4, f5, f6, f7, f8, f9, f10⟩
    · refine Or.inl ⟨e1, st2, p2, wc2, U ++ nw nt, C, (b, nt, t, L, R), S + L.length + R.length, by rw [hP]; exact h1, h2, by omega, by rw [List.append_assoc]; exact h4, hKS.tr h5, ⟨by rw [h6.1]; exact hf.1, by rw [h6.2.1]; exact hf.2, h6.2.2⟩, ⟨?_, ?_⟩, ?_, h9, rfl, hKV.tr h10, h11, ⟨h12.1, by rw [h12.2]; exact h40⟩, h13, ⟨?_, ?_, h14⟩, h15, by omega, h17, ?_, h19⟩
      · intro x hx
        rcases List.mem_append.mp hx with z | z
        · have := h7.1 x z; omega
        · cases nt with
          | true => rw [List.mem_singleton.mp z]; decide
          | false => cases z
      · rw [List.length_append]
        have : (nw nt).length ≤ 1 := by cases nt <;> decide
        omega
      · rw [List.map_append, ← List.append_assoc, h8]
        unfold oneC
        cases nt <;> rfl
      · rw [h16.2]; exact hb.1
      · rw [h16.1]; exact hb.2
      · have := h18
        rw [List.length_append] at this ⊢
        omega
    · exact Or.inr ⟨e1, k, pl, e, f1, f2, f3, f4, f5, hKV.tr f6, by rw [hP]; exact f7, f8, f9, hKS.tr f10⟩
  by_cases q : tk c n p = 109
  · rw [if_pos q] at hk
    obtain ⟨te1, te2, te3, te4⟩ := te_s (c := c) hp
    have te5 := te4 (by omega)
    obtain ⟨e2, q1, q4, ⟨q5, q5b⟩, q6, q7, q8⟩ := cls_e (A := A) (st := st) hn hW hB hst hp h6 (by omega) (by omega) (Q := fun e2 => CX e2 8 0 (109 :: W) A [] ∧ e2.1 65 12 = nI 1) (fun e he hT => by
      obtain ⟨e2, z1, z2, z3, z4⟩ := t_not (hCX.scan he) (by rw [hT.1, q]) (by omega)
      exact ⟨e2, z1, ⟨z2, by rw [z4, (he 65 (by decide) 12 (by decide)).1]; exact h12⟩, z3⟩)
    obtain ⟨w2, n1, n2, n3⟩ := nxt hn ((kB (nI 1)).mb hMB) hp (hMT2 (nI 1)).2.2.1
    have hst1 : X12_one (bI b) w0m = X12_one_j37 (nI K) w2 := by
      unfold X12_one
      simp (disch := omega) only [gdn, gb0, gb1, ixn, nm1, nI_add, nI_mul, nsub, nI_ltI, nI_leI, nI_eq, eqNO, eqNO2, ltNO, NOlt, leNO, NOle, if_pos, if_neg, Option.bind_some, if_true, if_false, and_self, eq_self, l0, l1, l2, l3, l4, l5, l6, l7, l8, l9, l10, l11, l12, l13, l14, l15, l16, l17, l18, l19, l20, l24, l26, l30, l31, l32, l40, l41, l42, l43, l45, l47, l48, l57, l58, l59, l60, l61, l62, l63, l64, l97, l99, l100, l101, l102, l103, l104, l105, l106, l107, l108, l109, l110, l122, l160, l240, l255, l600, l1000, l3000, l10000, l10007, l10116, l67108863, l67108864, h44, nar_bI, hk, show vp_nar .boolean (nI 1) = nI 1 from nar_bI true, B138, n1]
    rw [hst1]
    have hfr : KM S (puI (puI w0m 139 K (bI b)) 138 K (nI 1)) w2 := KM.rf.nx n2
    refine fin true (st + 1) (te c n p) e2 w2 8 q1 q6 ⟨q7, q8⟩ ((kB _).tr hfr.kv) (by rw [(n2 97 (by decide) 40 (by decide)).1, B97]) ⟨by rw [hfr.ones (by omega) (by omega)]; exact B139 _, by rw [hfr.ones (by omega) (by omega)]; exact B138 _⟩ (by omega) (by omega) te3 (Or.inr rfl) (by show A + (W.length + 1) ≤ _; omega) ?_
    exact one_mid hn (q6.iw hW) (q6.by hB) (((kB _).tr hfr.kv).mb hMB) (W1 := nw true ++ W) (fun x hx => by cases hx; decide) (by show W.length + 1 ≤ 7; omega) hKA hKB hK q5b (by omega) te3 q4 q5 (Or.inr rfl) (fun z => by omega) n3 (by rw [(n2 97 (by decide) 41 (by decide)).1, B97]; exact h41) (by rw [(n2 97 (by decide) 43 (by decide)).1, B97]; exact h43) (by rw [(n2 97 (by decide) 44 (by decide)).1, B97]; exact h44) (by show A + (W.length + 1) ≤ _; omega) (by omega)
  · rw [if_neg q] at hk
    have hst1 : X12_one (bI b) w0m = X12_one_j37 (nI K) (puI (puI w0m 139 K (bI b)) 138 K (nI 0)) := by
      unfold X12_one
      simp (disch := omega) only [gdn, gb0, gb1, ixn, nm1, nI_add, nI_mul, nsub, nI_ltI, nI_leI, nI_eq, eqNO, eqNO2, ltNO, NOlt, leNO, NOle, if_pos, if_neg, Option.bind_some, if_true, if_false, and_self, eq_self, l0, l1, l2, l3, l4, l5, l6, l7, l8, l9, l10, l11, l12, l13, l14, l15, l16, l17, l18, l19, l20, l24, l26, l30, l31, l32, l40, l41, l42, l43, l45, l47, l48, l57, l58, l59, l60, l61, l62, l63, l64, l97, l99, l100, l101, l102, l103, l104, l105, l106, l107, l108, l109, l110, l122, l160, l240, l255, l600, l1000, l3000, l10000, l10007, l10116, l67108863, l67108864, h44, nar_bI, hk, show vp_nar .boolean (nI 0) = nI 0 from nar_bI false, B138]
    rw [hst1]
    refine fin false st p w0c _ 7 rfl KS.rf ⟨rfl, rfl⟩ (kB _) (B97 _ _) ⟨B139 _, B138 _⟩ (by omega) hst hp (Or.inl rfl) bA ?_
    exact one_mid hn hW hB ((kB _).mb hMB) (W1 := nw false ++ W) (fun x hx => by have := hWb x hx; omega) (by show W.length ≤ 7; omega) hKA hKB hK h12 hst hp h6 hCX (Or.inl rfl) (fun _ => q) (hMT2 _) (by rw [B97]; exact h41) (by rw [B97]; exact h43) (by rw [B97]; exact h44) bA bS
/-- a good TEST -/
def tOK (C : List Nat) (T : List One) : Prop := hg 40 C 0 = some 1 ∧ (∀ F, evS F C [] = [bL (hld F T)]) ∧ (∀ o ∈ T, okOne o) ∧ ∀ x ∈ C, x < 11000
def TM (c : Nat → Nat) (n : Nat) (w0c w0m : Wd) (A S O KA KB p0 : Nat) (P : Option Wd) (r : Int32 × Wd) : Prop := r.1 = nI 1 ∧ ∃ st p wc U C T S', P = PS n st wc ∧ (st ≤ p ∧ p ≤ n ∧ wc.1 65 6 = nI p) ∧ (1 ≤ T.length ∧ p0 + 3 * T.length ≤ p) ∧ CX wc 9 0 U A C ∧ KS A w0c wc ∧ (wc.1 65 4 = w0c.1 65 4 ∧ wc.1 65 5 = w0c.1 65 5 ∧ wc.1 65 12 = nI 2) ∧ ((∀ x ∈ U, 1 ≤ bnd x) ∧ U.length ≤ 8) ∧ tOK (C ++ U.map opc) T ∧ KV O S w0m r.2 ∧ MT c n p r.2 ∧ (r.2.1 97 41 = nI 0 ∧ r.2.1 97 40 = w0m.1 97 40) ∧ r.2.1 97 44 = nI (O + T.length) ∧ TA r.2 O S' T ∧ r.2.1 97 43 = nI S' ∧ S ≤ S' ∧ ¬ (tk c n p = 43 ∨ tk c n p = 45 ∨ tk c n p = 42 ∨ tk c n p = 47) ∧ ¬ (tk c n p = 107 ∨ tk c n p = 108) ∧ (A + C.length + U.length ≤ KA + p ∧ S' ≤ KB + p)
theorem lp_bd {Sx E : Type} {b : Sx → Option (Sx ⊕ E)} {s : Sx} {f : Option Sx} (h : b s = f.bind (fun q => some (.inl q))) : lp b s = f.bind (fun q => lp b q) := by
  rw [lp_eq, h]
  cases f with
  | none => rfl
  | some q => rfl
theorem hg_all {X : List Nat} {m o : Bool} (h : hg 40 X 0 = some (m.toNat + o.toNat + 1)) : hg 40 (X ++ (wr m o).map opc) 0 = some 1 := by
  rw [hg_app, h, Option.bind_some]
  cases m <;> cases o <;> decide
theorem ev_all {F : Nat → Int64} {X : List Nat} {m o v : Bool} {q : Bool × Bool} {T : List One} (h : evS F X [] = bL v :: stF m o q.1 q.2) (ht : tst F T = (q.1, q.2 && v)) (h0 : o = false → q.1 = false) (h1 : m = false → q.2 = true) : evS F (X ++ (wr m o).map opc) [] = [bL (hld F T)] := by
  rw [evS_app, h]
  unfold hld
  rw [ht]
  cases m with
  | true =>
    cases o with
    | true =>
      show evS F ([opc 108] ++ [opc 107]) (bL v :: bL q.2 :: bL q.1 :: []) = _
      rw [evS_app, ev_and, ev_or]
    | false =>
      show evS F [opc 108] (bL v :: bL q.2 :: []) = _
      rw [ev_and, h0 rfl, Bool.false_or]
  | false =>
    cases o with
    | true =>
      show evS F [opc 107] (bL v :: bL q.1 :: []) = _
      rw [ev_or, h1 rfl, Bool.true_and]
    | false =>
      show [bL v] = _
      rw [h0 rfl, h1 rfl, Bool.false_or, Bool.true_and]
theorem wr_lt {m o : Bool} {x : Nat} (h : x ∈ (wr m o).map opc) : x < 11000 := by
  obtain ⟨y, hy, rfl⟩ := List.mem_map.mp h
  have : y = 107 ∨ y = 108 := by
    cases m <;> cases o <;> simp [wr] at hy <;> omega
  unfold opc; omega
theorem oneC_lt {o : One} (h : okOne o) : ∀ x ∈ oneC o, x < 11000 := by
  obtain ⟨h1, h2, h3, h4, h5⟩ := h
  intro x hx
  unfold oneC at hx
  rcases List.mem_append.mp hx with hx | hx
  · rcases List.mem_append.mp hx with hx | hx
    · rcases List.mem_append.mp hx with hx | hx
      · have := h4 x hx; unfold smC at this; omega
      · have := h5 x hx; unfold smC at this; omega
    · rw [List.mem_singleton.mp hx]; unfold opc; omega
  · by_cases q : o.2.1 = true
    · rw [if_pos q] at hx; rw [List.mem_singleton.mp hx]; decide
    · rw [if_neg q] at hx; cases hx
theorem wr_len (m o : Bool) : (wr m o).length = m.toNat + o.toNat := by cases m <;> cases o <;> rfl
theorem t_andor {w : Wd} {A t : Nat} {C V R : List Nat} (h : CX w 9 0 (V ++ R) A C) (h7 : w.1 65 7 = nI t) (ht : t = 107 ∨ t = 108) (hV : ∀ x ∈ V, bnd t ≤ bnd x) (hR : ∀ x, R.head? = some x → bnd x < bnd t) (hL : (V ++ R).length < 63) (hC : A + C.length + V.length ≤ 3000) (h12 : w.1 65 12 = nI 2) : ∃ e, X6_take w = some (nI 0, e) ∧ (CX e 7 0 (t :: R) A (C ++ V.map opc) ∧ e.1 65 12 = nI 1) ∧ KT A w e := by
  obtain ⟨h11, h14, hq⟩ := h
  obtain ⟨e, r1, r2, r3, r4, r5, r6⟩ := t_op (sm := 1) (to := 7) hq h7 (by omega) rfl hV hR hL hC
  refine ⟨e, ?_, ⟨⟨r3, by rw [r5]; exact h14, r2⟩, r4⟩, r6⟩
  have hr : X6_isReckoner (nI t) w = nI 0 := by rw [reck_e (by omega), if_neg (by omega)]
  unfold X6_take X6_takeBehindSum X6_takeBehindSum_j92
  rcases ht with e | e
  · subst e; simp (disch := omega) only [gdn, gb0, gb1, ixn, nm1, nI_add, nI_mul, nsub, nI_ltI, nI_leI, nI_eq, eqNO, eqNO2, ltNO, NOlt, leNO, NOle, if_pos, if_neg, Option.bind_some, if_true, if_false, and_self, eq_self, l0, l1, l2, l3, l4, l5, l6, l7, l8, l9, l10, l11, l12, l13, l14, l15, l16, l17, l18, l19, l20, l24, l26, l30, l31, l32, l40, l41, l42, l43, l45, l47, l48, l57, l58, l59, l60, l61, l62, l63, l64, l97, l99, l100, l101, l102, l103, l104, l105, l106, l107, l108, l109, l110, l122, l160, l240, l255, l600, l1000, l3000, l10000, l10007, l10116, l67108863, l67108864, h11, h14, h7, hr, h12, r1]
  · subst e; simp (disch := omega) only [gdn, gb0, gb1, ixn, nm1, nI_add, nI_mul, nsub, nI_ltI, nI_leI, nI_eq, eqNO, eqNO2, ltNO, NOlt, leNO, NOle, if_pos, if_neg, Option.bind_some, if_true, if_false, and_self, eq_self, l0, l1, l2, l3, l4, l5, l6, l7, l8, l9, l10, l11, l12, l13, l14, l15, l16, l17, l18, l19, l20, l24, l26, l30, l31, l32, l40, l41, l42, l43, l45, l47, l48, l57, l58, l59, l60, l61, l62, l63, l64, l97, l99, l100, l101, l102, l103, l104, l105, l106, l107, l108, l109, l110, l122, l160, l240, l255, l600, l1000, l3000, l10000, l10007, l10116, l67108863, l67108864, h11, h14, h7, hr, h12, r1]
theorem test_lp (hn : n ≤ 600) {w0c w0m : Wd} (hW : IW w0c) (hB : ∀ i, i < n → BY (w0c.1 66 i) (c i)) (hMB : MB c n w0m) {A S O KA KB KO p0 : Nat} (hKA : KA ≤ 2400) (hKB : KB ≤ 2400) (hKO : KO ≤ 800) (hO : 3 * O ≤ 3 * KO + p0) {P : Option Wd} (st p : Nat) (wc wm : Wd) (m o : Bool) (T : List One) (C : List Nat) (S1 : Nat)
    (g : (st ≤ p ∧ p ≤ n ∧ wc.1 65 6 = nI p)) (gT : p0 + 3 * T.length ≤ p) (hCX : CX wc 7 0 (wr m o) A C) (hKS : KS A w0c wc) (hf : wc.1 65 4 = w0c.1 65 4 ∧ wc.1 65 5 = w0c.1 65 5 ∧ wc.1 65 12 = nI 1) (hmo : (T = [] → m = false ∧ o = false) ∧ (m = false → T ≠ [] → o = true) ∧ (o = false → ∀ F, (clo F m T).1 = false))
    (hhg : hg 40 C 0 = some (m.toNat + o.toNat)) (hev : ∀ F, evS F C [] = stF m o (clo F m T).1 (clo F m T).2) (hok : ∀ x ∈ T, okOne x) (hlt : ∀ x ∈ C, x < 11000) (hKV : KV O S w0m wm) (hMT : MT c n p wm) (hm : wm.1 97 41 = nI 0 ∧ wm.1 97 40 = w0m.1 97 40) (h44 : wm.1 97 44 = nI (O + T.length)) (hTA : TA wm O S1 T) (h43 : wm.1 97 43 = nI S1) (hS : S ≤ S1) (bd : A + C.length + (wr m o).length ≤ KA + p ∧ S1 ≤ KB + p) (hP : P = PS n st wc) :
    ok ((X12_one (bI !m) wm).bind (fun q => lp X12_test_b6 q)) (fun r => TM c n w0c w0m A S O KA KB p0 P r ∨ FP (KS A w0c) (KV O S w0m) P r) := by
  induction hμ : n - p using Nat.strongRecOn generalizing st p wc wm m o T C S1 with
  | _ μ ih =>
  have hwl := wr_len m o
  have hm1 : m.toNat ≤ 1 := by cases m <;> decide
  have ho1 : o.toNat ≤ 1 := by cases o <;> decide
  have hCb := hCX.base
  obtain ⟨⟨r, wr2⟩, hr, hout⟩ := one_e (b := !m) (st := st) hn (hKS.iw hW) (hKS.by hB) (hKV.mb hMB) (W := wr m o) (fun x hx => by
      cases m <;> cases o <;> cases hx <;> decide) (by omega) (A := A + C.length) (S := S1) (K := O + T.length) (KA := KA) (KB := KB) hKA hKB (by omega) hf.2.2 g.1 g.2.1 g.2.2 hCb hMT hm.1 h43 h44 (by omega) bd.2
  rw [hr]
  simp only [Option.bind_some]
  rcases hout with ⟨e1, st2, p2, wc2, U, C2, o1, S', h1, h2, h3, h4, h5, h6, h7, h8, h9, h10, h11, h12, h13, h14, h15, h16, h17, h18, h19⟩ | ⟨e1, k, pl, e, f1, f2, f3, f4, f5, f6, f7, f8, f9, f10⟩
  · simp only at e1 h11 h12 h13 h14 h15 h16
    subst e1
    have hCX2 := hCX.join h5 h4
    have hKS2 : KS A w0c wc2 := hKS.tr (h5.mono (by omega))
    have hKV2 : KV O S w0m wr2 := hKV.tr (h11.mono (by omega) (by omega))
    have hTA2 : TA wr2 O S' (o1 :: T) := ⟨h15, (hTA.kv h11 (Nat.le_refl _)).up h17⟩
    have hok2 : ∀ x ∈ o1 :: T, okOne x := fun x hx => by
      rcases List.mem_cons.mp hx with z | z
      · rw [z]; exact h9
      · exact hok x z
    have hts : ∀ F, tst F (o1 :: T) = ((clo F m T).1, (clo F m T).2 && ovl F o1) := fun F => tst_s h10
    have hev2 : ∀ F, evS F (C ++ C2 ++ U.map opc) [] = bL (ovl F o1) :: stF m o (clo F m T).1 (clo F m T).2 := fun F => by
      rw [List.append_assoc, h8, evS_app, hev F, ev_one h9]
    have hhg2 : hg 40 (C ++ C2 ++ U.map opc) 0 = some (m.toNat + o.toNat + 1) := by
      rw [List.append_assoc, h8, hg_app, hhg, Option.bind_some, hg_one h9 (by omega)]
    have hlt2 : ∀ x ∈ C ++ C2 ++ U.map opc, x < 11000 := fun x hx => by
      rw [List.append_assoc, h8] at hx
      rcases List.mem_append.mp hx with z | z
      · exact hlt x z
      · exact oneC_lt h9 x z
    have hk7 := key_e hn (hKV2.mb hMB) h2.2.1 h12 (t := 107) (by omega) (by omega)
    have hk8 := key_e hn (hKV2.mb hMB) h2.2.1 h12 (t := 108) (by omega) (by omega)
    rw [show kx 107 = 7 from rfl] at hk7
    rw [show kx 108 = 8 from rfl] at hk8
    obtain ⟨te1, te2, te3, te4⟩ := te_s (c := c) h2.2.1
    have hrg := tk_rng (c := c) (n := n) p2
    rw [hwl] at h19 bd
    have hlC : (C ++ C2).length = C.length + C2.length := List.length_append
    by_cases t8 : tk c n p2 = 108
    · -- and
      rw [if_neg (by omega)] at hk7
      rw [if_pos t8] at hk8
      obtain ⟨e2, q1, q4, ⟨q5, q5b⟩, q6, q7, q8⟩ := cls_e (A := A) (st := st2) hn (hKS2.iw hW) (hKS2.by hB) h2.1 h2.2.1 h2.2.2 (by omega) (by omega) (Q := fun e2 => CX e2 7 0 (108 :: (if o then [107] else [])) A ((C ++ C2) ++ (U ++ (if m then [108] else [])).map opc) ∧ e2.1 65 12 = nI 1) (fun e he hT => by
        have hx := hCX2.scan he
        rw [show U ++ wr m o = (U ++ (if m then [108] else [])) ++ (if o then [107] else []) by unfold wr; rw [List.append_assoc]] at hx
        refine t_andor hx (by rw [hT.1, t8]) (Or.inr rfl) (fun x hx => ?_) (fun x hx => ?_) ?_ ?_ (by rw [(he 65 (by decide) 12 (by decide)).1]; exact h6.2.2)
        · rcases List.mem_append.mp hx with z | z
          · have := h7.1 x z; show 2 ≤ _; omega
          · cases m with
            | true => rw [List.mem_singleton.mp z]; decide
            | false => cases z
        · cases o <;> cases hx; decide
        · simp only [List.length_append]
          cases m <;> cases o <;> simp <;> omega
        · rw [hlC, List.length_append]
          have : (if m then [108] else [] : List Nat).length = m.toNat := by cases m <;> rfl
          omega)
      obtain ⟨w2, n1, n2, n3⟩ := nxt hn (hKV2.mb hMB) h2.2.1 h12.2.2.1
      have hb : X12_test_b6 (nI 1, wr2) = (X12_one (bI !true) w2).bind (fun q => some (.inl q)) := by
        unfold X12_test_b6 X12_test_j28
        simp (disch := omega) only [gdn, gb0, gb1, ixn, nm1, nI_add, nI_mul, nsub, nI_ltI, nI_leI, nI_eq, eqNO, eqNO2, ltNO, NOlt, leNO, NOle, if_pos, if_neg, Option.bind_some, if_true, if_false, and_self, eq_self, l0, l1, l2, l3, l4, l5, l6, l7, l8, l9, l10, l11, l12, l13, l14, l15, l16, l17, l18, l19, l20, l24, l26, l30, l31, l32, l40, l41, l42, l43, l45, l47, l48, l57, l58, l59, l60, l61, l62, l63, l64, l97, l99, l100, l101, l102, l103, l104, l105, l106, l107, l108, l109, l110, l122, l160, l240, l255, l600, l1000, l3000, l10000, l10007, l10116, l67108863, l67108864, hk7, hk8, n1]
        rfl
      rw [lp_bd hb]
      have kM : KM S' wr2 w2 := KM.rf.nx n2
      refine ih (n - te c n p2) (by have := te4 (by omega); omega) (st2 + 1) (te c n p2) e2 w2 true o (o1 :: T) _ S' ⟨by have := te4 (by omega); omega, te3, q4⟩ (by rw [List.length_cons]; omega) q5 (hKS2.tr q6) ⟨by rw [q7, h6.1]; exact hf.1, by rw [q8, h6.2.1]; exact hf.2.1, q5b⟩ ⟨fun z => (by cases z), fun z => (by cases z), fun z F => ?_⟩ ?_ (fun F => ?_) hok2 ?_ (hKV2.nx n2) n3 ⟨by rw [(n2 97 (by decide) 41 (by decide)).1]; exact h13.1, by rw [(n2 97 (by decide) 40 (by decide)).1, h13.2]; exact hm.2⟩ (by rw [(n2 97 (by decide) 44 (by decide)).1, h14, List.length_cons]; rfl) (hTA2.kv (kM.kv (O := O + (o1 :: T).length)) (Nat.le_refl _)) (by rw [(n2 97 (by decide) 43 (by decide)).1]; exact h16) (by omega) ⟨?_, by have := h19.2; omega⟩ (by rw [hP, h1, q1]) rfl
      · show (if true = true then tst F (o1 :: T) else _).1 = false
        rw [if_pos rfl, hts F]
        exact hmo.2.2 z F
      · rw [List.map_append, ← List.append_assoc, hg_app, hhg2, Option.bind_some]
        cases m with
        | true =>
          show hg 40 [opc 108] (1 + o.toNat + 1) = some (1 + o.toNat)
          exact hg_bin (Or.inr rfl) (by omega)
        | false => show some (0 + o.toNat + 1) = some (1 + o.toNat); congr 1; omega
      · have e0 : clo F true (o1 :: T) = tst F (o1 :: T) := rfl
        rw [e0, hts F, List.map_append, ← List.append_assoc, evS_app, hev2 F]
        cases m with
        | true =>
          show evS F [opc 108] (bL (ovl F o1) :: bL (clo F true T).2 :: _) = _
          rw [ev_and]; rfl
        | false =>
          have : (clo F false T).2 = true := by
            unfold clo
            rw [if_neg (by simp)]
            split <;> rfl
          rw [this, Bool.true_and]; rfl
      · intro x hx
        rw [List.map_append, ← List.append_assoc] at hx
        rcases List.mem_append.mp hx with z | z
        · exact hlt2 x z
        · cases m with
          | true => rw [List.mem_singleton.mp z]; decide
          | false => cases z
      · have hw1 := wr_len true o
        rw [hw1, List.length_append, hlC, List.length_map, List.length_append]
        have : (if m then [108] else [] : List Nat).length = m.toNat := by cases m <;> rfl
        have := te4 (by omega)
        have e1 : true.toNat = 1 := rfl
        omega
    · by_cases t7 : tk c n p2 = 107
      · -- or
        rw [if_pos t7] at hk7
        obtain ⟨e2, q1, q4, ⟨q5, q5b⟩, q6, q7, q8⟩ := cls_e (A := A) (st := st2) hn (hKS2.iw hW) (hKS2.by hB) h2.1 h2.2.1 h2.2.2 (by omega) (by omega) (Q := fun e2 => CX e2 7 0 (107 :: []) A ((C ++ C2) ++ (U ++ wr m o).map opc) ∧ e2.1 65 12 = nI 1) (fun e he hT => by
          have hx := hCX2.scan he
          rw [show U ++ wr m o = (U ++ wr m o) ++ [] by rw [List.append_nil]] at hx
          refine t_andor hx (by rw [hT.1, t7]) (Or.inl rfl) (fun x hx => ?_) (fun x hx => by cases hx) ?_ ?_ (by rw [(he 65 (by decide) 12 (by decide)).1]; exact h6.2.2)
          · rcases List.mem_append.mp hx with z | z
            · have := h7.1 x z; show 1 ≤ _; omega
            · cases m <;> cases o <;> simp [wr] at z <;> (try rcases z with z | z) <;> (try subst z) <;> first | decide | (exfalso; exact z)
          · rw [List.append_nil, List.length_append]; omega
          · rw [hlC, List.length_append]; omega)
        obtain ⟨w2, n1, n2, n3⟩ := nxt hn (hKV2.mb hMB) h2.2.1 h12.2.2.1
        have hb : X12_test_b6 (nI 1, wr2) = (X12_one (bI !false) w2).bind (fun q => some (.inl q)) := by
          unfold X12_test_b6 X12_test_j28
          simp (disch := omega) only [gdn, gb0, gb1, ixn, nm1, nI_add, nI_mul, nsub, nI_ltI, nI_leI, nI_eq, eqNO, eqNO2, ltNO, NOlt, leNO, NOle, if_pos, if_neg, Option.bind_some, if_true, if_false, and_self, eq_self, l0, l1, l2, l3, l4, l5, l6, l7, l8, l9, l10, l11, l12, l13, l14, l15, l16, l17, l18, l19, l20, l24, l26, l30, l31, l32, l40, l41, l42, l43, l45, l47, l48, l57, l58, l59, l60, l61, l62, l63, l64, l97, l99, l100, l101, l102, l103, l104, l105, l106, l107, l108, l109, l110, l122, l160, l240, l255, l600, l1000, l3000, l10000, l10007, l10116, l67108863, l67108864, hk7, n1]
          rfl
        rw [lp_bd hb]
        have kM : KM S' wr2 w2 := KM.rf.nx n2
        refine ih (n - te c n p2) (by have := te4 (by omega); omega) (st2 + 1) (te c n p2) e2 w2 false true (o1 :: T) _ S' ⟨by have := te4 (by omega); omega, te3, q4⟩ (by rw [List.length_cons]; omega) q5 (hKS2.tr q6) ⟨by rw [q7, h6.1]; exact hf.1, by rw [q8, h6.2.1]; exact hf.2.1, q5b⟩ ⟨fun z => (by cases z), fun _ _ => rfl, fun z => by cases z⟩ ?_ (fun F => ?_) hok2 ?_ (hKV2.nx n2) n3 ⟨by rw [(n2 97 (by decide) 41 (by decide)).1]; exact h13.1, by rw [(n2 97 (by decide) 40 (by decide)).1, h13.2]; exact hm.2⟩ (by rw [(n2 97 (by decide) 44 (by decide)).1, h14, List.length_cons]; rfl) (hTA2.kv (kM.kv (O := O + (o1 :: T).length)) (Nat.le_refl _)) (by rw [(n2 97 (by decide) 43 (by decide)).1]; exact h16) (by omega) ⟨?_, by have := h19.2; omega⟩ (by rw [hP, h1, q1]) rfl
        · rw [List.map_append, ← List.append_assoc]
          exact hg_all hhg2
        · have e0 : clo F false (o1 :: T) = (hld F (o1 :: T), true) := rfl
          rw [e0, List.map_append, ← List.append_assoc]
          exact ev_all (hev2 F) (hts F) (hmo.2.2 · F) (by intro z; subst z; unfold clo; rw [if_neg (by simp)]; split <;> rfl)
        · intro x hx
          rw [List.map_append, ← List.append_assoc] at hx
          rcases List.mem_append.mp hx with z | z
          · exact hlt2 x z
          · exact wr_lt z
        · have hw1 := wr_len false true
          rw [hw1, List.length_append, hlC, List.length_map, List.length_append, hwl]
          have := te4 (by omega)
          have e1 : true.toNat = 1 := rfl
          have e2 : false.toNat = 0 := rfl
          omega
      · -- the TEST ends
        rw [if_neg t7] at hk7
        rw [if_neg t8] at hk8
        have hex : lp X12_test_b6 (nI 1, wr2) = some (nI 1, wr2) := by
          refine lp_exit ?_
          unfold X12_test_b6
          simp (disch := omega) only [gdn, gb0, gb1, ixn, nm1, nI_add, nI_mul, nsub, nI_ltI, nI_leI, nI_eq, eqNO, eqNO2, ltNO, NOlt, leNO, NOle, if_pos, if_neg, Option.bind_some, if_true, if_false, and_self, eq_self, l0, l1, l2, l3, l4, l5, l6, l7, l8, l9, l10, l11, l12, l13, l14, l15, l16, l17, l18, l19, l20, l24, l26, l30, l31, l32, l40, l41, l42, l43, l45, l47, l48, l57, l58, l59, l60, l61, l62, l63, l64, l97, l99, l100, l101, l102, l103, l104, l105, l106, l107, l108, l109, l110, l122, l160, l240, l255, l600, l1000, l3000, l10000, l10007, l10116, l67108863, l67108864, hk7, hk8]
        rw [hex]
        refine ok_i (Or.inl ⟨rfl, st2, p2, wc2, U ++ wr m o, C ++ C2, o1 :: T, S', by rw [hP, h1], h2, ⟨by rw [List.length_cons]; omega, by rw [List.length_cons]; omega⟩, hCX2, hKS2, ⟨by rw [h6.1]; exact hf.1, by rw [h6.2.1]; exact hf.2.1, h6.2.2⟩, ⟨fun x hx => ?_, ?_⟩, ⟨?_, fun F => ?_, hok2, ?_⟩, hKV2, h12, ⟨h13.1, by rw [h13.2]; exact hm.2⟩, by rw [h14, List.length_cons]; rfl, hTA2, h16, by omega, h18, by omega, ?_, h19.2⟩)
        · rcases List.mem_append.mp hx with z | z
          · have := h7.1 x z; omega
          · cases m <;> cases o <;> simp [wr] at z <;> (try rcases z with z | z) <;> (try subst z) <;> first | decide | (exfalso; exact z)
        · rw [List.length_append]; omega
        · rw [List.map_append, ← List.append_assoc]
          exact hg_all hhg2
        · rw [List.map_append, ← List.append_assoc]
          exact ev_all (hev2 F) (hts F) (hmo.2.2 · F) (by intro z; subst z; unfold clo; rw [if_neg (by simp)]; split <;> rfl)
        · intro x hx
          rw [List.map_append, ← List.append_assoc] at hx
          rcases List.mem_append.mp hx with z | z
          · exact hlt2 x z
          · exact wr_lt z
        · rw [hlC, List.length_append]; omega
  · simp only at e1 f4 f5 f6
    subst e1
    have hex : lp X12_test_b6 (nI 0, wr2) = some (nI 0, wr2) := by
      refine lp_exit ?_
      unfold X12_test_b6
      simp (disch := omega) only [gdn, gb0, gb1, ixn, nm1, nI_add, nI_mul, nsub, nI_ltI, nI_leI, nI_eq, eqNO, eqNO2, ltNO, NOlt, leNO, NOle, if_pos, if_neg, Option.bind_some, if_true, if_false, and_self, eq_self, l0, l1, l2, l3, l4, l5, l6, l7, l8, l9, l10, l11, l12, l13, l14, l15, l16, l17, l18, l19, l20, l24, l26, l30, l31, l32, l40, l41, l42, l43, l45, l47, l48, l57, l58, l59, l60, l61, l62, l63, l64, l97, l99, l100, l101, l102, l103, l104, l105, l106, l107, l108, l109, l110, l122, l160, l240, l255, l600, l1000, l3000, l10000, l10007, l10116, l67108863, l67108864]
    rw [hex]
    exact ok_i (Or.inr ⟨rfl, k, pl, e, f1, f2, f3, f4, f5, hKV.tr (f6.mono (by omega) (by omega)), by rw [hP]; exact f7, f8, f9, hKS.tr (f10.mono (by omega))⟩)
end
