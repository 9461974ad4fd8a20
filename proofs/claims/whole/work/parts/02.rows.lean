/-! the world: 178 cells, what each holds is a function of w; J: the machine at pc with locals L, stack st, world w comes to a good end -/
abbrev Wd : Type := (Nat → Nat → Int32) × (Nat → Nat → Int64)
abbrev Gm : Type := va_G × (Nat → Nat) × (Nat → ClassId) × (Nat → Nat) × (Nat → Nat) × Option Nat
def ad (γ : Gm) (k : Nat) : Nat := γ.2.1 k
def cid (γ : Gm) (k : Nat) : ClassId := γ.2.2.1 k
def sK (γ : Gm) (k : Nat) : Nat := γ.2.2.2.1 k
def sV (γ : Gm) (k : Nat) : Nat := γ.2.2.2.2.1 k
def fm (γ : Gm) : Option Nat := γ.2.2.2.2.2
def fvN (γ : Gm) (w : Wd) (k j n : Nat) : Value := match n with
  | 0 => .int (w.1 k j)
  | 1 => .long (w.2 k j)
  | t + 2 => .ref (ad γ t)
def fv (γ : Gm) (w : Wd) (k j : Nat) : Value := fvN γ w k j (fk k j)
def stc (i : Nat) : Nat := 45 + 5 * i
def cell (γ : Gm) (w : Wd) (k : Nat) : va_E :=
  if (sh k).1 = 5 then .inr ((sh k).2, (List.range (nf k)).map (fv γ w k))
  else if (sh k).1 = 2 then .inl (cid γ 2, (sh k).2, .inr (.inl (w.2 k)))
  else if (sh k).1 = 4 then .inl (cid γ 4, (sh k).2, .inr (.inr (.inr (.inr (fun i => some (ad γ (stc i)))))))
  else .inl (cid γ (sh k).1, (sh k).2, .inl (w.1 k))
def wl (γ : Gm) (w : Wd) : va_W := (List.range 178).map (fun k => (ad γ k, cell γ w k))
def tys (γ : Gm) : List (ClassId × FieldType) := [(cid γ 0, .int), (cid γ 1, .byte), (cid γ 2, .long), (cid γ 3, .boolean), (cid γ 4, .object "LampYear$Standing")]
def seI (w : Wd) (k : Nat) (f : Nat → Int32) : Wd := (va_up w.1 k f, w.2)
def seJ (w : Wd) (k : Nat) (f : Nat → Int64) : Wd := (w.1, va_up w.2 k f)
def puI (w : Wd) (k i : Nat) (v : Int32) : Wd := seI w k (upd (w.1 k) i v)
def puJ (w : Wd) (k i : Nat) (v : Int64) : Wd := seJ w k (vp_updL (w.2 k) i v)
abbrev ix (i : Int32) : Nat := i.toNatClampNeg
theorem wl_at {γ : Gm} {w : Wd} {k : Nat} (hk : k < 178) : (wl γ w)[k]? = some (ad γ k, cell γ w k) := by
  unfold wl
  rw [List.getElem?_map, List.getElem?_range hk]
  rfl
theorem wl_set {γ : Gm} {w w' : Wd} {k : Nat} {x : va_E} (hk : k < 178) (h : ∀ j, j ≠ k → cell γ w' j = cell γ w j) (e : cell γ w' k = x) : (wl γ w).set k (ad γ k, x) = wl γ w' := by
  apply List.ext_getElem?
  intro j
  have hlen : k < (wl γ w).length := by simp [wl]; exact hk
  by_cases hj : k = j
  · subst hj
    rw [List.getElem?_set_self hlen, wl_at hk, e]
  · rw [List.getElem?_set_ne hj]
    unfold wl
    rw [List.getElem?_map, List.getElem?_map]
    cases hr : (List.range 178)[j]? with
    | none => rfl
    | some q =>
      have hq : q = j := by
        obtain ⟨hlt, hv⟩ := List.getElem?_eq_some_iff.mp hr
        rw [List.getElem_range] at hv
        exact hv.symm
      subst hq
      show some (ad γ q, cell γ w q) = some (ad γ q, cell γ w' q)
      rw [h q (fun z => hj z.symm)]
theorem cell_I {γ : Gm} {w : Wd} {k t n : Nat} (hs : sh k = (t, n)) (h5 : t ≠ 5) (h2 : t ≠ 2) (h4 : t ≠ 4) : cell γ w k = .inl (cid γ t, n, .inl (w.1 k)) := by
  unfold cell
  rw [hs]
  simp [h5, h2, h4]
theorem cell_J {γ : Gm} {w : Wd} {k n : Nat} (hs : sh k = (2, n)) : cell γ w k = .inl (cid γ 2, n, .inr (.inl (w.2 k))) := by
  unfold cell
  rw [hs]
  simp
theorem cell_R {γ : Gm} {w : Wd} {k n : Nat} (hs : sh k = (4, n)) : cell γ w k = .inl (cid γ 4, n, .inr (.inr (.inr (.inr (fun i => some (ad γ (stc i))))))) := by
  unfold cell
  rw [hs]
  simp
theorem cell_O {γ : Gm} {w : Wd} {k n : Nat} (hs : sh k = (5, n)) : cell γ w k = .inr (n, (List.range (nf k)).map (fv γ w k)) := by
  unfold cell
  rw [hs]
  simp
theorem up_ne {α : Type} {f : Nat → α} {k j : Nat} {v : α} (h : j ≠ k) : va_up f k v j = f j := by simp [va_up, h]
theorem up_eq {α : Type} {f : Nat → α} {k : Nat} {v : α} : va_up f k v k = v := by simp [va_up]
theorem cell_seI {γ : Gm} {w : Wd} {k j : Nat} {f : Nat → Int32} (h : j ≠ k) : cell γ (seI w k f) j = cell γ w j := by
  unfold cell
  have e1 : (seI w k f).1 j = w.1 j := up_ne h
  have e2 : fv γ (seI w k f) j = fv γ w j := by
    funext i
    unfold fv fvN
    rw [e1]
    rfl
  rw [e1, e2]
  rfl
theorem cell_seJ {γ : Gm} {w : Wd} {k j : Nat} {f : Nat → Int64} (h : j ≠ k) : cell γ (seJ w k f) j = cell γ w j := by
  unfold cell
  have e1 : (seJ w k f).2 j = w.2 j := up_ne h
  have e2 : fv γ (seJ w k f) j = fv γ w j := by
    funext i
    unfold fv fvN
    rw [e1]
    rfl
  rw [e1, e2]
  rfl
def Dst (γ : Gm) (A : Nat → Prop) : Prop := (∀ i j : Nat, i < 178 → j < 178 → ad γ i = ad γ j → i = j) ∧ ∀ k : Nat, k < 178 → A (ad γ k)
theorem wl_D {γ : Gm} {A : Nat → Prop} (h : Dst γ A) (w : Wd) : va_D A (wl γ w) := by
  have key : ∀ (k : Nat) (q : Nat × va_E), (wl γ w)[k]? = some q → k < 178 ∧ q.1 = ad γ k := by
    intro k q hq
    have hl : k < 178 := by
      have h1 := (List.getElem?_eq_some_iff.mp hq).1
      simpa [wl] using h1
    rw [wl_at hl] at hq
    cases hq
    exact ⟨hl, rfl⟩
  refine ⟨fun i j p q hi hj e => ?_, fun k q hk => ?_⟩
  · obtain ⟨a1, b1⟩ := key i p hi
    obtain ⟨a2, b2⟩ := key j q hj
    exact h.1 i j a1 a2 (by rw [← b1, ← b2]; exact e)
  · obtain ⟨a1, b1⟩ := key k q hk
    rw [b1]
    exact h.2 k a1
def strs : List (String × Nat × String) := [("LampYear$Reader", 36, "strikes may unless hours room pass flag or and not age tongue many week done rain shire "), ("LampYear$Reader", 89, ";:<>=+-*/()"), ("LampYearModel", 405, " strikes may hours room pass flag unless or and not "), ("LampYearModel", 426, " age tongue many week done rain shire ")]
def strB : List (List Int32) := strs.map (fun q => q.2.2.toList.map (fun c => Int32.ofNat c.toNat))
def strN : List Nat := strB.map List.length
/-- what a method finds beside its world: the tables, the nest's words, the texts, the JDK's statics -/
def Ev (γ : Gm) (A : Nat → Prop) (U : State) (H : Heap) : Prop :=
  va_K γ.1 cls (tys γ) U ∧ (∀ w ∈ TN, va_Nw w U) ∧ Dst γ A ∧ vk_S 4 strN strB (sK γ) (sV γ) A U H ∧ (∀ (i : Nat) (q : String × Nat × String), strs[i]? = some q → vk_R q.1 q.2.1 q.2.2 (sK γ i) U) ∧ va_Z "java/lang/String" "COMPACT_STRINGS" "Z" (.int 1) A U H ∧ va_Z "jdk/internal/util/Preconditions" "SIOOBE_FORMATTER" "Ljava/util/function/BiFunction;" (va_rf (fm γ)) A U H
theorem tn_warm {s U : State} (hW : s.WarmedH U.vm) (h : ∀ w ∈ TN, va_Nw w s) : ∀ w ∈ TN, va_Nw w U := by
  intro w hw
  have h1 := (List.mem_filter.mp hw).2
  have h2 := h w hw
  cases w with
  | fieldLinkNest a b c d e f => exact va_Nw.warmF hW h2
  | methodLinkNest a b c d => exact va_Nw.warmM hW h2
  | _ => exact absurd h1 (by simp [isNst])
theorem Ev.call {γ : Gm} {A : Nat → Prop} {s U : State} {H : Heap} {locs : List Loc} (h : Ev γ A s s.heap) (hS : va_S A s.heap H locs) (hW : s.WarmedH U.vm) : Ev γ A U H := by
  obtain ⟨h1, h2, h3, h4, h5, h6, h7⟩ := h
  exact ⟨va_K.moved hW.alike h1, tn_warm hW h2, h3, (h4.moved hW.alike).kept (fun a h1 h2 => hS.2.1 a h1 h2), fun i q hq => (h5 i q hq).warm hW, (h6.moved hW.alike).kept (fun a h1 h2 => hS.2.1 a h1 h2), (h7.moved hW.alike).kept (fun a h1 h2 => hS.2.1 a h1 h2)⟩
theorem Ev.calling {γ : Gm} {A : Nat → Prop} {U : State} {H : Heap} {g : JFrame} {mk : MethodId} {a : Array Value} (h : Ev γ A U H) : Ev γ A (U.calling g mk a) H := by
  obtain ⟨h1, h2, h3, h4, h5, h6, h7⟩ := h
  exact ⟨va_K.moved (u := U) (U := U.calling g mk a) (Vm.Alike.refl U.vm) h1, fun w hw => va_Nw.same (by
    have h1 := (List.mem_filter.mp hw).2
    cases w <;> first | rfl | exact absurd h1 (by simp [isNst])) (rfl : U.vm = (U.calling g mk a).vm) (h2 w hw), h3, h4.moved (u := U) (U := U.calling g mk a) (Vm.Alike.refl U.vm), fun i q hq => vk_R.same (u := U) (U := U.calling g mk a) rfl (h5 i q hq), va_Z.moved (u := U) (U := U.calling g mk a) (Vm.Alike.refl U.vm) h6, va_Z.moved (u := U) (U := U.calling g mk a) (Vm.Alike.refl U.vm) h7⟩
/-! the pure side -/
def ok {α : Type} (o : Option α) (P : α → Prop) : Prop := ∃ a, o = some a ∧ P a
theorem ok_s {α : Type} {a : α} {P : α → Prop} (h : ok (some a) P) : P a := by
  obtain ⟨b, h1, h2⟩ := h
  cases h1
  exact h2
theorem ok_n {α : Type} {P : α → Prop} {q : Prop} (h : ok none P) : q := by
  obtain ⟨b, h1, h2⟩ := h
  cases h1
theorem ok_b {α β : Type} {o : Option α} {f : α → Option β} {P : β → Prop} (h : ok (o.bind f) P) : ∃ a, o = some a ∧ ok (f a) P := by
  obtain ⟨b, h1, h2⟩ := h
  cases o with
  | none => cases h1
  | some a => exact ⟨a, rfl, b, h1, h2⟩
theorem ok_l {α β : Type} {a : α} {f : α → Option β} {P : β → Prop} (h : ok ((some a).bind f) P) : ok (f a) P := h
theorem ok_t {α : Type} {c : Prop} {dc : Decidable c} {a b : Option α} {P : α → Prop} (h : ok (@ite _ c dc a b) P) (hc : c) : ok a P := by rwa [if_pos hc] at h
theorem ok_f {α : Type} {c : Prop} {dc : Decidable c} {a b : Option α} {P : α → Prop} (h : ok (@ite _ c dc a b) P) (hc : ¬ c) : ok b P := by rwa [if_neg hc] at h
noncomputable def gd {α : Type} (c : Prop) (k : Option α) : Option α := @ite _ c (Classical.propDecidable c) k none
theorem ok_g {α : Type} {c : Prop} {k : Option α} {P : α → Prop} (h : ok (gd c k) P) : c ∧ ok k P := by
  unfold gd at h
  by_cases hc : c
  · exact ⟨hc, ok_t h hc⟩
  · exact ok_n (ok_f h hc)
theorem gd_t {α : Type} {c : Prop} {k : Option α} (hc : c) : gd c k = k := by
  unfold gd
  rw [if_pos hc]
def lpn {S E : Type} (b : S → Option (S ⊕ E)) : Nat → S → Option E
  | 0, _ => none
  | n + 1, s => (b s).bind (fun x => match x with
    | .inl s' => lpn b n s'
    | .inr e => some e)
theorem lpn_mono {S E : Type} {b : S → Option (S ⊕ E)} : ∀ (n m : Nat) (s : S) (e : E), n ≤ m → lpn b n s = some e → lpn b m s = some e
  | 0, _, _, _, _, h => by cases h
  | n + 1, 0, _, _, hm, _ => absurd hm (by omega)
  | n + 1, m + 1, s, e, hm, h => by
    unfold lpn at h ⊢
    cases hb : b s with
    | none => rw [hb] at h; cases h
    | some x =>
      rw [hb] at h
      cases x with
      | inl s' => exact lpn_mono n m s' e (by omega) h
      | inr e' => exact h
noncomputable def lp {S E : Type} (b : S → Option (S ⊕ E)) (s : S) : Option E := @dite _ (∃ e n, lpn b n s = some e) (Classical.propDecidable _) (fun h => some (Classical.choose h)) (fun _ => none)
theorem lp_some {S E : Type} {b : S → Option (S ⊕ E)} {s : S} {e : E} : lp b s = some e ↔ ∃ n, lpn b n s = some e := by
  unfold lp
  by_cases h : ∃ e n, lpn b n s = some e
  · rw [dif_pos h]
    obtain ⟨n, hn⟩ := Classical.choose_spec h
    constructor
    · intro q
      cases q
      exact ⟨n, hn⟩
    · intro ⟨m, hm⟩
      have h1 := lpn_mono n (n + m) s _ (by omega) hn
      have h2 := lpn_mono m (n + m) s _ (by omega) hm
      rw [h1] at h2
      exact h2
  · rw [dif_neg h]
    constructor
    · intro q
      cases q
    · intro ⟨n, hn⟩
      exact absurd ⟨e, n, hn⟩ h
theorem lp_eq {S E : Type} (b : S → Option (S ⊕ E)) (s : S) : lp b s = (b s).bind (fun x => match x with
    | .inl s' => lp b s'
    | .inr e => some e) := by
  apply Option.ext
  intro e
  rw [lp_some]
  cases hb : b s with
  | none =>
    constructor
    · intro ⟨n, hn⟩
      cases n with
      | zero => cases hn
      | succ n =>
        unfold lpn at hn
        rw [hb] at hn
        cases hn
    · intro q
      cases q
  | some x =>
    cases x with
    | inl s' =>
      show _ ↔ lp b s' = some e
      rw [lp_some]
      constructor
      · intro ⟨n, hn⟩
        cases n with
        | zero => cases hn
        | succ n =>
          unfold lpn at hn
          rw [hb] at hn
          exact ⟨n, hn⟩
      · intro ⟨n, hn⟩
        refine ⟨n + 1, ?_⟩
        unfold lpn
        rw [hb]
        exact hn
    | inr e' =>
      show _ ↔ some e' = some e
      constructor
      · intro ⟨n, hn⟩
        cases n with
        | zero => cases hn
        | succ n =>
          unfold lpn at hn
          rw [hb] at hn
          exact hn
      · intro q
        refine ⟨1, ?_⟩
        unfold lpn
        rw [hb]
        exact q
def sel {S E : Type} (G : S → Prop) (P : E → Prop) : S ⊕ E → Prop
  | .inl s => G s
  | .inr e => P e
theorem lp_ind {S E : Type} {b : S → Option (S ⊕ E)} {P : E → Prop} (G : S → Prop) (step : ∀ s, ok (b s) (sel G P) → G s) (s : S) (h : ok (lp b s) P) : G s := by
  obtain ⟨e, h1, h2⟩ := h
  obtain ⟨n, hn⟩ := lp_some.mp h1
  clear h1
  induction n generalizing s with
  | zero => cases hn
  | succ n ih =>
    unfold lpn at hn
    apply step
    cases hb : b s with
    | none => rw [hb] at hn; cases hn
    | some x =>
      rw [hb] at hn
      cases x with
      | inl s' => exact ⟨_, rfl, ih s' hn⟩
      | inr e' =>
        cases (show some e' = some e from hn)
        exact ⟨_, rfl, h2⟩
