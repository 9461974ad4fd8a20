/-! a SUM, side by side -/
def FP (RC RM : Wd → Prop) (P : Option Wd) (r : Int32 × Wd) : Prop := r.1 = nI 0 ∧ ∃ k pl e, 1 ≤ k ∧ k ≤ 6 ∧ pl < 1000 ∧ r.2.1 97 41 = nI k ∧ r.2.1 97 40 = nI pl ∧ RM r.2 ∧ P = some e ∧ e.1 65 4 = nI k ∧ e.1 65 5 = nI pl ∧ RC e
def f5 : List (Nat × Nat) := [(65, 6), (65, 7), (65, 8), (65, 9), (65, 10)]
def f7 : List (Nat × Nat) := [(65, 4), (65, 5), (65, 6), (65, 7), (65, 8), (65, 9), (65, 10)]
section
variable {c : Nat → Nat} {n : Nat}
theorem cfault (hn : n ≤ 600) {st p : Nat} {wc : Wd} (hW : IW wc) (hB : ∀ i, i < n → BY (wc.1 66 i) (c i)) (hst : st ≤ p) (hp : p ≤ n) (h6 : wc.1 65 6 = nI p) {k : Nat} (hk : 1 ≤ k) (hk6 : k ≤ 6) (ht : ∀ e, Fr [] f5 wc e → TC c n p e → ¬ tk c n p = 0 → X6_take e = some (nI k, e)) : ∃ e, PS n st wc = some e ∧ e.1 65 4 = nI (if tk c n p = 0 then 1 else k) ∧ e.1 65 5 = nI (tf c n p) ∧ Fr [] f7 wc e := by
  obtain ⟨e, he, hF, hT⟩ := scan_e hn hW hB hp h6
  have hF7 : Fr [] f7 wc e := (Fr.rf : Fr [] f7 wc wc).next hF (fun _ z => z) (by decide)
  have hr := tk_rng (c := c) (n := n) p
  have hT' := hT
  obtain ⟨t1, t2, -⟩ := hT
  by_cases q : tk c n p = 0
  · rw [if_pos q]
    rw [q] at t1
    refine ⟨_, ps_bad hn (by omega) he t1, ?_, ?_, Fr.pfI (Fr.pfI hF7 (by decide)) (by decide)⟩
    · rw [puI_ne (by decide), I_self]
    · rw [I_self]; exact t2
  · rw [if_neg q]
    refine ⟨_, ps_fault hn (by omega) he t1 q (by omega) (ht e hF hT' q) (by omega) (by omega), ?_, ?_, Fr.pfI (Fr.pfI hF7 (by decide)) (by decide)⟩
    · rw [puI_ne (by decide), I_self]
    · rw [I_self]; exact t2
theorem cstep (hn : n ≤ 600) {st p : Nat} {wc : Wd} (hW : IW wc) (hB : ∀ i, i < n → BY (wc.1 66 i) (c i)) (hst : st ≤ p) (hp : p ≤ n) (h6 : wc.1 65 6 = nI p) (h0 : ¬ tk c n p = 0) (h1 : ¬ tk c n p = 1) {Q : Wd → Wd → Prop} (ht : ∀ e, Fr [] f5 wc e → TC c n p e → ∃ e2, X6_take e = some (nI 0, e2) ∧ e2.1 65 7 = e.1 65 7 ∧ e2.1 65 6 = e.1 65 6 ∧ Q e e2) : ∃ e e2, PS n st wc = PS n (st + 1) e2 ∧ Fr [] f5 wc e ∧ TC c n p e ∧ e2.1 65 6 = nI (te c n p) ∧ Q e e2 := by
  obtain ⟨e, he, hF, hT⟩ := scan_e hn hW hB hp h6
  obtain ⟨e2, k1, k2, k3, k4⟩ := ht e hF hT
  have hr := tk_rng (c := c) (n := n) p
  refine ⟨e, e2, ps_step hn (by omega) he hT.1 h0 h1 (by omega) k1 k2, hF, hT, by rw [k3]; exact hT.2.2.1, k4⟩
theorem CX.scan {w e : Wd} {s D : Nat} {L : List Nat} {A : Nat} {C : List Nat} (h : CX w s D L A C) (hF : Fr [] f5 w e) : CX e s D L A C := by
  obtain ⟨h1, h2, h3, h4, h5, h6⟩ := h
  refine ⟨by rw [(hF 65 (by decide) 11 (by decide)).1]; exact h1, by rw [(hF 65 (by decide) 14 (by decide)).1]; exact h2, by rw [(hF 65 (by decide) 16 (by decide)).1]; exact h3, h4.c (fun i _ => by rw [(hF.row 68 (by decide) (by decide)).1]), by rw [(hF 30 (by decide) 15 (by decide)).1]; exact h5, h6.row (hF.row 42 (by decide) (by decide)).1⟩
theorem KT.f76 {A : Nat} {e e2 : Wd} (h : KT A e e2) : e2.1 65 7 = e.1 65 7 ∧ e2.1 65 6 = e.1 65 6 := ⟨(h.1 65 (by decide) 7 (by decide)).1, (h.1 65 (by decide) 6 (by decide)).1⟩
theorem KS.fr7 {A : Nat} {w w1 w2 : Wd} (h : KS A w w1) (h2 : Fr [] f7 w1 w2) : KS A w w2 := h.tr ⟨fun k hk j hj => h2 k (by simp) j (fun z => hj ((by decide : ∀ q ∈ f7, q ∈ fS) _ z)), fun i _ => by rw [(h2.row 42 (by decide) (by decide)).1]⟩
theorem KS.rows {A : Nat} {w w1 : Wd} (h : KS A w w1) : w1.1 66 = w.1 66 ∧ w1.2 67 = w.2 67 := ⟨(h.1.row 66 (by decide) (by decide)).1, (h.1.row 67 (by decide) (by decide)).2⟩
/-- the state of both within a SUM -/
def SJ (c : Nat → Nat) (n : Nat) (w0c w0m : Wd) (W0 : List Nat) (A0 S0 KA KB p0 : Nat) (st p : Nat) (wc wm : Wd) (D a s : Nat) (it si : Nat → Nat) (C : List Nat) : Prop :=
  (st ≤ p ∧ p ≤ n ∧ wc.1 65 6 = nI p) ∧ (p0 ≤ p ∧ (a = 0 → p0 < p) ∧ (a = 0 ∨ a = 1)) ∧
  CX wc s D (lv (it D) (si D) ++ wlb it si W0 D) A0 C ∧ ((a = 0 → s = 9) ∧ (a = 1 → (s = 7 ∨ s = 8) ∧ (s = 7 → ¬ tk c n p = 109))) ∧ KS A0 w0c wc ∧ (wc.1 65 4 = w0c.1 65 4 ∧ wc.1 65 5 = w0c.1 65 5 ∧ wc.1 65 12 = w0c.1 65 12) ∧
  KM S0 w0m wm ∧ MT c n p wm ∧ (wm.1 97 41 = nI 0 ∧ wm.1 97 40 = w0m.1 97 40) ∧ QM wm S0 C ∧ (∀ i, i ≤ D → wm.1 142 i = nI (si i) ∧ wm.1 143 i = nI (it i) ∧ isIt (it i) ∧ isSi (si i)) ∧ D ≤ 6 ∧
  (A0 + C.length + (lv (it D) (si D)).length + (wlb it si W0 D).length ≤ KA + p ∧ S0 + C.length + (lv (it D) (si D)).length + (wlb it si W0 D).length ≤ KB + W0.length + p) ∧
  hg 20 C 0 = some ((lv (it D) (si D)).length + pnd it si D + (1 - a)) ∧ (∀ x ∈ C, smC x)
def SP (c : Nat → Nat) (n : Nat) (w0c w0m : Wd) (W0 : List Nat) (A0 S0 KA KB p0 : Nat) (P : Option Wd) (r : Int32 × Wd) : Prop := r.1 = nI 1 ∧ ∃ st p wc C V, P = PS n st wc ∧ (st ≤ p ∧ p ≤ n ∧ wc.1 65 6 = nI p) ∧ p0 < p ∧ CX wc 9 0 (V ++ W0) A0 C ∧ KS A0 w0c wc ∧ (wc.1 65 4 = w0c.1 65 4 ∧ wc.1 65 5 = w0c.1 65 5 ∧ wc.1 65 12 = w0c.1 65 12) ∧ ((∀ x ∈ V, x = 42 ∨ x = 47 ∨ x = 43 ∨ x = 45) ∧ V.length ≤ 2) ∧ KM S0 w0m r.2 ∧ MT c n p r.2 ∧ (r.2.1 97 41 = nI 0 ∧ r.2.1 97 40 = w0m.1 97 40) ∧ QM r.2 S0 (C ++ V.map opc) ∧ hg 20 (C ++ V.map opc) 0 = some 1 ∧ (∀ x ∈ C ++ V.map opc, smC x) ∧ ¬ (tk c n p = 43 ∨ tk c n p = 45 ∨ tk c n p = 42 ∨ tk c n p = 47) ∧ (A0 + C.length + V.length + W0.length ≤ KA + p ∧ S0 + C.length + V.length ≤ KB + p)
noncomputable def smK (e27 : Wd ⊕ Wd ⊕ Wd ⊕ Wd ⊕ Wd) : Option (Int32 × Wd) := match e27 with
| (.inl e28) => ((X12_fails (2 : Int32) e28).bind fun q29 =>
gd (narrow .boolean (.int q29.1) = .int q29.1) <|
some (q29.1, q29.2))
| (.inr (.inl e31)) => ((X12_fails (5 : Int32) e31).bind fun q32 =>
gd (narrow .boolean (.int q32.1) = .int q32.1) <|
some (q32.1, q32.2))
| (.inr (.inr (.inl e34))) => (some ((1 : Int32), e34))
| (.inr (.inr (.inr (.inl e35)))) => (some ((0 : Int32), e35))
| (.inr (.inr (.inr (.inr e36)))) => (some ((0 : Int32), e36))
theorem nxt (hn : n ≤ 600) {w : Wd} (hb : MB c n w) {p : Nat} (hp : p ≤ n) (h : w.1 97 37 = nI (te c n p)) : ∃ w', X12_next w = some w' ∧ Fr [] [(97, 35), (97, 36), (97, 37), (97, 38)] w w' ∧ MT c n (te c n p) w' := by
  obtain ⟨-, -, h3, -⟩ := te_s (c := c) hp
  obtain ⟨e, he, h1, h2⟩ := next_e hn hb h3 h
  exact ⟨e, he, h1, h2⟩
theorem lv_op {x y : Nat} (hx : x = 42 ∨ x = 47) : lv x y = x :: lv 0 y := by unfold lv; rw [if_neg (by omega)]; rfl
theorem lv_0s {y : Nat} (hy : y = 43 ∨ y = 45) : lv 0 y = [y] := by unfold lv; rw [if_pos rfl, if_neg (by omega)]; rfl
theorem KM.mb {S : Nat} {w w1 : Wd} (h : KM S w w1) (hb : MB c n w) : MB c n w1 := hb.fr (h.1 97 (by decide) 34 (by decide)).1 (h.1.row 121 (by decide) (by decide)).1
theorem QM.cg {w w' : Wd} {S : Nat} {C : List Nat} (h : QM w S C) (e43 : w'.1 97 43 = w.1 97 43) (e140 : w'.1 140 = w.1 140) (e141 : w'.1 141 = w.1 141) : QM w' S C := ⟨by rw [e43]; exact h.1, fun i hi => by rw [e140, e141]; exact h.2 i hi⟩
/-- an operator of the model's level is written, if there is one -/
theorem putl {w : Wd} {S : Nat} {C : List Nat} (h : QM w S C) {z : Nat} (hz : z < 100) (hS : S + C.length < 4000) : ∃ w', (if nI z = (0 : Int32) then some w else X12_puts (nI z) (0 : Int32) w) = some w' ∧ QM w' S (C ++ (if z = 0 then [] else [opc z])) ∧ Fr [140, 141] [(97, 43)] w w' ∧ KM S w w' := by
  by_cases q : z = 0
  · subst q
    exact ⟨w, by rw [if_pos (show nI 0 = (0 : Int32) from rfl)], by rw [if_pos rfl, List.append_nil]; exact h, Fr.rf, KM.rf⟩
  · obtain ⟨w', h1, h2, h3, h4⟩ := puts_e h (opc z) hS
    refine ⟨w', ?_, by rw [if_neg q]; exact h2, h3, h4⟩
    rw [if_neg (show ¬ nI z = (0 : Int32) from by rw [show (0 : Int32) = nI 0 from rfl, nI_eq (by omega) (by omega)]; exact q)]
    have e1 : dec1 (opc z) = nI z := by unfold dec1 opc; rw [if_neg (by omega), if_neg (by omega), show 10007 + z - 10007 = z by omega]
    have e2 : dec2 (opc z) = nI 0 := by unfold dec2 opc; rw [if_neg (by omega), if_neg (by omega)]
    rw [e1, e2] at h1
    exact h1
end
