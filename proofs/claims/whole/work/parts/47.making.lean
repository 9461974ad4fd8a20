/-! the world while it is being made: the first n cells are there; a reference's flag is its number in w.1 (0: null) -/
abbrev Zt : Type := Wd × Nat × Nat × Nat
abbrev KxC : Type := Program × Launch × Env × State × MethodId × Array Value × List Frame × Method × Code × (State → Prop) × Gm × (Nat → Prop) × (Option Value → Zt → Prop) × Nat
def cp (κ : KxC) : Program := κ.1
def cl (κ : KxC) : Launch := κ.2.1
def ce (κ : KxC) : Env := κ.2.2.1
def cs (κ : KxC) : State := κ.2.2.2.1
def cm (κ : KxC) : MethodId := κ.2.2.2.2.1
def ca (κ : KxC) : Array Value := κ.2.2.2.2.2.1
def cb (κ : KxC) : List Frame := κ.2.2.2.2.2.2.1
def cmeth (κ : KxC) : Method := κ.2.2.2.2.2.2.2.1
def cc_ (κ : KxC) : Code := κ.2.2.2.2.2.2.2.2.1
def cQ (κ : KxC) : State → Prop := κ.2.2.2.2.2.2.2.2.2.1
def cg (κ : KxC) : Gm := κ.2.2.2.2.2.2.2.2.2.2.1
def cA (κ : KxC) : Nat → Prop := κ.2.2.2.2.2.2.2.2.2.2.2.1
def cρ (κ : KxC) : Option Value → Zt → Prop := κ.2.2.2.2.2.2.2.2.2.2.2.2.1
def cN (κ : KxC) : Nat := κ.2.2.2.2.2.2.2.2.2.2.2.2.2
def pfvN (γ : Gm) (w : Wd) (k j n : Nat) : Value := match n with
  | 0 => .int (w.1 k j)
  | 1 => .long (w.2 k j)
  | t + 2 => if w.1 k j = 0 then .null else .ref (ad γ t)
def pfv (γ : Gm) (w : Wd) (k j : Nat) : Value := pfvN γ w k j (fk k j)
def pref (γ : Gm) (w : Wd) (k i : Nat) : Option Nat := if w.1 k i = 0 then none else some (ad γ (stc i))
def pcell (γ : Gm) (w : Wd) (k : Nat) : va_E :=
  if (sh k).1 = 5 then .inr ((sh k).2, (List.range (nf k)).map (pfv γ w k))
  else if (sh k).1 = 2 then .inl (cid γ 2, (sh k).2, .inr (.inl (w.2 k)))
  else if (sh k).1 = 4 then .inl (cid γ 4, (sh k).2, .inr (.inr (.inr (.inr (pref γ w k)))))
  else .inl (cid γ (sh k).1, (sh k).2, .inl (w.1 k))
def pl (γ : Gm) (w : Wd) (n : Nat) : va_W := (List.range n).map (fun k => (ad γ k, pcell γ w k))
def Zr (w : Wd) (n : Nat) : Prop := ∀ k, n ≤ k → w.1 k = (fun _ => 0) ∧ w.2 k = (fun _ => 0)
theorem pl_at {γ : Gm} {w : Wd} {k n : Nat} (hk : k < n) : (pl γ w n)[k]? = some (ad γ k, pcell γ w k) := by
  unfold pl
  rw [List.getElem?_map, List.getElem?_range hk]
  rfl
theorem pl_len {γ : Gm} {w : Wd} {n : Nat} : (pl γ w n).length = n := by simp [pl]
theorem pl_get {γ : Gm} {w : Wd} {k n : Nat} {q : Nat × va_E} (h : (pl γ w n)[k]? = some q) : k < n ∧ q = (ad γ k, pcell γ w k) := by
  have hl : k < n := by
    have h1 := (List.getElem?_eq_some_iff.mp h).1
    rwa [pl_len] at h1
  rw [pl_at hl] at h
  cases h
  exact ⟨hl, rfl⟩
theorem pl_set {γ : Gm} {w w' : Wd} {k n : Nat} {x : va_E} (hk : k < n) (h : ∀ j, j ≠ k → pcell γ w' j = pcell γ w j) (e : pcell γ w' k = x) : (pl γ w n).set k (ad γ k, x) = pl γ w' n := by
  apply List.ext_getElem?
  intro j
  by_cases hj : k = j
  · subst hj
    rw [List.getElem?_set_self (by rw [pl_len]; exact hk), pl_at hk, e]
  · rw [List.getElem?_set_ne hj]
    by_cases hn : j < n
    · rw [pl_at hn, pl_at hn, h j (fun z => hj z.symm)]
    · rw [List.getElem?_eq_none (by rw [pl_len]; omega), List.getElem?_eq_none (by rw [pl_len]; omega)]
theorem pl_push {γ : Gm} {w : Wd} {n : Nat} {x : va_E} (e : pcell γ w n = x) : pl γ w n ++ [(ad γ n, x)] = pl γ w (n + 1) := by
  unfold pl
  rw [List.range_succ, List.map_append]
  simp [e]
theorem pcell_seI {γ : Gm} {w : Wd} {k j : Nat} {f : Nat → Int32} (h : j ≠ k) : pcell γ (seI w k f) j = pcell γ w j := by
  unfold pcell
  have e1 : (seI w k f).1 j = w.1 j := up_ne h
  have e2 : pfv γ (seI w k f) j = pfv γ w j := by
    funext i
    unfold pfv pfvN
    rw [e1]
    rfl
  have e3 : pref γ (seI w k f) j = pref γ w j := by
    funext i
    unfold pref
    rw [e1]
  rw [e1, e2, e3]
  rfl
theorem pcell_seJ {γ : Gm} {w : Wd} {k j : Nat} {f : Nat → Int64} (h : j ≠ k) : pcell γ (seJ w k f) j = pcell γ w j := by
  unfold pcell
  have e1 : (seJ w k f).2 j = w.2 j := up_ne h
  have e2 : pfv γ (seJ w k f) j = pfv γ w j := by
    funext i
    unfold pfv pfvN
    rw [e1]
    rfl
  have e3 : pref γ (seJ w k f) j = pref γ w j := rfl
  rw [e1, e2, e3]
  rfl
theorem Zr.seI {w : Wd} {n k : Nat} {f : Nat → Int32} (h : Zr w n) (hk : k < n) : Zr (seI w k f) n := fun j hj => ⟨(up_ne (by omega)).trans (h j hj).1, (h j hj).2⟩
theorem Zr.seJ {w : Wd} {n k : Nat} {f : Nat → Int64} (h : Zr w n) (hk : k < n) : Zr (seJ w k f) n := fun j hj => ⟨(h j hj).1, (up_ne (by omega)).trans (h j hj).2⟩
theorem Zr.le {w : Wd} {n m : Nat} (h : Zr w n) (hm : n ≤ m) : Zr w m := fun j hj => h j (by omega)
def Pw (γ : Gm) (w : Wd) (n : Nat) (H : Heap) : Prop := va_P γ.1 cls (pl γ w n) H ∧ Zr w n
def EvC (γ : Gm) (A : Nat → Prop) (N : Nat) (U : State) (H : Heap) : Prop :=
  va_K γ.1 cls (tys γ) U ∧ (∀ w ∈ TN, va_Nw w U) ∧ ((∀ k, ad γ k = N + k) ∧ ∀ q, A q ↔ N ≤ q) ∧ vk_S 4 strN strB (sK γ) (sV γ) A U H ∧ (∀ (i : Nat) (q : String × Nat × String), strs[i]? = some q → vk_R q.1 q.2.1 q.2.2 (sK γ i) U) ∧ va_Z "java/lang/String" "COMPACT_STRINGS" "Z" (.int 1) A U H ∧ va_Z "jdk/internal/util/Preconditions" "SIOOBE_FORMATTER" "Ljava/util/function/BiFunction;" (va_rf (fm γ)) A U H ∧ va_AO "LampYear$Standing" U
theorem EvC.call {γ : Gm} {A : Nat → Prop} {N : Nat} {s U : State} {H : Heap} {locs : List Loc} (h : EvC γ A N s s.heap) (hS : va_S A s.heap H locs) (hW : s.WarmedH U.vm) : EvC γ A N U H := by
  obtain ⟨h1, h2, h3, h4, h5, h6, h7, h8⟩ := h
  exact ⟨va_K.moved hW.alike h1, tn_warm hW h2, h3, (h4.moved hW.alike).kept (fun a h1 h2 => hS.2.1 a h1 h2), fun i q hq => (h5 i q hq).warm hW, (h6.moved hW.alike).kept (fun a h1 h2 => hS.2.1 a h1 h2), (h7.moved hW.alike).kept (fun a h1 h2 => hS.2.1 a h1 h2), h8.moved hW.alike⟩
theorem EvC.calling {γ : Gm} {A : Nat → Prop} {N : Nat} {U : State} {H : Heap} {g : JFrame} {mk : MethodId} {a : Array Value} (h : EvC γ A N U H) : EvC γ A N (U.calling g mk a) H := by
  obtain ⟨h1, h2, h3, h4, h5, h6, h7, h8⟩ := h
  exact ⟨va_K.moved (u := U) (U := U.calling g mk a) (Vm.Alike.refl U.vm) h1, fun w hw => va_Nw.same (by
    have h1 := (List.mem_filter.mp hw).2
    cases w <;> first | rfl | exact absurd h1 (by simp [isNst])) (rfl : U.vm = (U.calling g mk a).vm) (h2 w hw), h3, h4.moved (u := U) (U := U.calling g mk a) (Vm.Alike.refl U.vm), fun i q hq => vk_R.same (u := U) (U := U.calling g mk a) rfl (h5 i q hq), va_Z.moved (u := U) (U := U.calling g mk a) (Vm.Alike.refl U.vm) h6, va_Z.moved (u := U) (U := U.calling g mk a) (Vm.Alike.refl U.vm) h7, va_AO.moved (u := U) (U := U.calling g mk a) (Vm.Alike.refl U.vm) h8⟩
def GwC (κ : KxC) (z : Zt) (H : Heap) (locs : List Loc) : Prop := Pw (cg κ) z.1 z.2.1 H ∧ va_S (cA κ) (cs κ).heap H locs ∧ (cs κ).heap.size + z.2.2.1 = cN κ + z.2.1
abbrev WC (κ : KxC) (rm : Room) (c s : Nat) (H : Heap) (locs : List Loc) (g : JFrame) : Prop := W (cp κ) (cl κ) (ce κ) rm (cs κ) (cm κ) (ca κ) (cb κ) (cmeth κ) (cc_ κ) H locs c s (cQ κ) g
def RtC (κ : KxC) (cc : ByteArray) (rt : Option FieldType) (rm : Room) : Prop :=
  (∀ (x : Int32) (z : Zt) (H : Heap) (locs : List Loc) (pc : Nat) (ls : Array Slot) (ty : FieldType), rt = some ty → narrow ty (.int x) = .int x → cρ κ (some (.int x)) z → GwC κ z H locs → decode cc pc = .ok (.ireturn, 1) → WC κ rm z.2.2.1 z.2.2.2 H locs (F0 (cm κ) pc ls [.int x])) ∧
  (∀ (x : Int64) (z : Zt) (H : Heap) (locs : List Loc) (pc : Nat) (ls : Array Slot), rt = some .long → cρ κ (some (.long x)) z → GwC κ z H locs → decode cc pc = .ok (.lreturn, 1) → WC κ rm z.2.2.1 z.2.2.2 H locs (F0 (cm κ) pc ls [.long x])) ∧
  (∀ (z : Zt) (H : Heap) (locs : List Loc) (pc : Nat) (ls : Array Slot), rt = none → cρ κ none z → GwC κ z H locs → decode cc pc = .ok (.return_, 1) → WC κ rm z.2.2.1 z.2.2.2 H locs (F0 (cm κ) pc ls [])) ∧
  (∀ (x : Nat) (z : Zt) (H : Heap) (locs : List Loc) (pc : Nat) (ls : Array Slot) (n : String), rt = some (.object n) → cρ κ (some (.ref x)) z → GwC κ z H locs → decode cc pc = .ok (.areturn, 1) → WC κ rm z.2.2.1 z.2.2.2 H locs (F0 (cm κ) pc ls [.ref x]))
def FxC (κ : KxC) (own : String) (cc : ByteArray) (nL : Nat) (rt : Option FieldType) (rm : Room) : Prop :=
  (cp κ).tables.exec = Jvm.exec ∧ (cc_ κ).code = cc ∧ (cc_ κ).maxLocals = nL ∧ (cs κ).vm.findClass own = some (cm κ).cls ∧ (∀ w ∈ TG, w.before (ca κ) (cs κ) = true) ∧ EvC (cg κ) (cA κ) (cN κ) (cs κ) (cs κ).heap ∧ (∀ q, (cs κ).heap.size ≤ q → cA κ q) ∧ True ∧ RtC κ cc rt rm
def JC (κ : KxC) (own : String) (cc : ByteArray) (nL : Nat) (rt : Option FieldType) (rm : Room) (pc : Nat) (L : List (Nat × Value)) (st : List Value) (z : Zt) : Prop :=
  FxC κ own cc nL rt rm → ∀ (ls : Array Slot) (H : Heap) (locs : List Loc), lv_has ls nL L → GwC κ z H locs → WC κ rm z.2.2.1 z.2.2.2 H locs (F0 (cm κ) pc ls st)
section JRC
variable {κ : KxC} {own : String} {cc : ByteArray} {nL : Nat} {rt : Option FieldType} {rm : Room} {pc : Nat} {L : List (Nat × Value)} {st : List Value} {w : Zt}
theorem jc_iconst {n : Int} (v : Int32) (hd : decode cc pc = .ok (.iconst n, 1)) (hv : Int32.ofInt n = v) (k : JC κ own cc nL rt rm (pc + 1) L (.int v :: st) w) : JC κ own cc nL rt rm pc L st w := fun F ls H locs hl hG => lv_iconst F.1 F.2.1 hd hv (k F ls H locs hl hG)
theorem jc_bipush {n : Int} (v : Int32) (hd : decode cc pc = .ok (.bipush n, 2)) (hv : (Int8.ofInt n).toInt32 = v) (k : JC κ own cc nL rt rm (pc + 2) L (.int v :: st) w) : JC κ own cc nL rt rm pc L st w := fun F ls H locs hl hG => lv_bipush F.1 F.2.1 hd hv (k F ls H locs hl hG)
theorem jc_sipush {n : Int} (v : Int32) (hd : decode cc pc = .ok (.sipush n, 3)) (hv : (Int16.ofInt n).toInt32 = v) (k : JC κ own cc nL rt rm (pc + 3) L (.int v :: st) w) : JC κ own cc nL rt rm pc L st w := fun F ls H locs hl hG => lv_sipush F.1 F.2.1 hd hv (k F ls H locs hl hG)
theorem jc_lconst {n : Fin 2} (v : Int64) (hd : decode cc pc = .ok (.lconst n, 1)) (hv : Int64.ofNat (n : Nat) = v) (k : JC κ own cc nL rt rm (pc + 1) L (.long v :: st) w) : JC κ own cc nL rt rm pc L st w := fun F ls H locs hl hG => lv_lconst F.1 F.2.1 hd hv (k F ls H locs hl hG)
theorem jc_ldc {i : Nat} {v : Int32} (hw : Cond.constant own i v ∈ TG) (hd : decode cc pc = .ok (.ldc i, 2)) (k : JC κ own cc nL rt rm (pc + 2) L (.int v :: st) w) : JC κ own cc nL rt rm pc L st w := fun F ls H locs hl hG => lv_ldc F.1 F.2.1 F.2.2.2.1 (F.2.2.2.2.1 _ hw) hd (k F ls H locs hl hG)
theorem jc_ldcw {i : Nat} {v : Int32} (hw : Cond.constant own i v ∈ TG) (hd : decode cc pc = .ok (.ldc_w i, 3)) (k : JC κ own cc nL rt rm (pc + 3) L (.int v :: st) w) : JC κ own cc nL rt rm pc L st w := fun F ls H locs hl hG => lv_ldcw F.1 F.2.1 F.2.2.2.1 (F.2.2.2.2.1 _ hw) hd (k F ls H locs hl hG)
theorem jc_ldc2 {i : Nat} {v : Int64} (hw : Cond.constantLong own i v ∈ TG) (hd : decode cc pc = .ok (.ldc2_w i, 3)) (k : JC κ own cc nL rt rm (pc + 3) L (.long v :: st) w) : JC κ own cc nL rt rm pc L st w := fun F ls H locs hl hG => lv_ldc2 F.1 F.2.1 F.2.2.2.1 (F.2.2.2.2.1 _ hw) hd (k F ls H locs hl hG)
theorem jc_iload_n {f : Fin 4} {x : Int32} (i : Nat) {a : Nat} (hd : decode cc pc = .ok (.iload_n f, 1)) (ha : (f : Nat) = a) (hL : L[i]? = some (a, .int x)) (k : JC κ own cc nL rt rm (pc + 1) L (.int x :: st) w) : JC κ own cc nL rt rm pc L st w := fun F ls H locs hl hG => lv_iload_n F.1 F.2.1 hd ha (lv_at hl i hL) (k F ls H locs hl hG)
theorem jc_iload {x : Int32} (i : Nat) {a : Nat} (hd : decode cc pc = .ok (.iload a, 2)) (hL : L[i]? = some (a, .int x)) (k : JC κ own cc nL rt rm (pc + 2) L (.int x :: st) w) : JC κ own cc nL rt rm pc L st w := fun F ls H locs hl hG => lv_iload F.1 F.2.1 hd (lv_at hl i hL) (k F ls H locs hl hG)
theorem jc_lload_n {f : Fin 4} {x : Int64} (i : Nat) {a : Nat} (hd : decode cc pc = .ok (.lload_n f, 1)) (ha : (f : Nat) = a) (hL : L[i]? = some (a, .long x)) (k : JC κ own cc nL rt rm (pc + 1) L (.long x :: st) w) : JC κ own cc nL rt rm pc L st w := fun F ls H locs hl hG => lv_lload_n F.1 F.2.1 hd ha (lv_at hl i hL) (k F ls H locs hl hG)
theorem jc_lload {x : Int64} (i : Nat) {a : Nat} (hd : decode cc pc = .ok (.lload a, 2)) (hL : L[i]? = some (a, .long x)) (k : JC κ own cc nL rt rm (pc + 2) L (.long x :: st) w) : JC κ own cc nL rt rm pc L st w := fun F ls H locs hl hG => lv_lload F.1 F.2.1 hd (lv_at hl i hL) (k F ls H locs hl hG)
theorem jc_aload_n {f : Fin 4} {x : Nat} (i : Nat) {a : Nat} (hd : decode cc pc = .ok (.aload_n f, 1)) (ha : (f : Nat) = a) (hL : L[i]? = some (a, .ref x)) (k : JC κ own cc nL rt rm (pc + 1) L (.ref x :: st) w) : JC κ own cc nL rt rm pc L st w := fun F ls H locs hl hG => lv_aload_n F.1 F.2.1 hd ha (lv_at hl i hL) (k F ls H locs hl hG)
theorem jc_aload {x : Nat} (i : Nat) {a : Nat} (hd : decode cc pc = .ok (.aload a, 2)) (hL : L[i]? = some (a, .ref x)) (k : JC κ own cc nL rt rm (pc + 2) L (.ref x :: st) w) : JC κ own cc nL rt rm pc L st w := fun F ls H locs hl hG => lv_aload F.1 F.2.1 hd (lv_at hl i hL) (k F ls H locs hl hG)
theorem jc_istore_n {f : Fin 4} {a : Nat} {x : Int32} (L' : List (Nat × Value)) (hd : decode cc pc = .ok (.istore_n f, 1)) (ha : (f : Nat) = a) (hn : a < nL) (hL : (a, Value.int x) :: L.filter (fun q => !(q.1 == a) && !(q.1 + 1 == a && q.2.category == 2)) = L') (k : JC κ own cc nL rt rm (pc + 1) L' st w) : JC κ own cc nL rt rm pc L (.int x :: st) w := fun F ls H locs hl hG => lv_istore_n F.1 F.2.1 hd ha hl hn hL (fun ls' hl' => k F ls' H locs hl' hG)
theorem jc_istore {a : Nat} {x : Int32} (L' : List (Nat × Value)) (hd : decode cc pc = .ok (.istore a, 2)) (hn : a < nL) (hL : (a, Value.int x) :: L.filter (fun q => !(q.1 == a) && !(q.1 + 1 == a && q.2.category == 2)) = L') (k : JC κ own cc nL rt rm (pc + 2) L' st w) : JC κ own cc nL rt rm pc L (.int x :: st) w := fun F ls H locs hl hG => lv_istore F.1 F.2.1 hd hl hn hL (fun ls' hl' => k F ls' H locs hl' hG)
theorem jc_lstore_n {f : Fin 4} {a : Nat} {x : Int64} (L' : List (Nat × Value)) (hd : decode cc pc = .ok (.lstore_n f, 1)) (ha : (f : Nat) = a) (hn : a + 1 < nL) (hL : (a, Value.long x) :: L.filter (fun q => !(q.1 == a) && (!(q.1 == a + 1) && !(q.1 + 1 == a && q.2.category == 2))) = L') (k : JC κ own cc nL rt rm (pc + 1) L' st w) : JC κ own cc nL rt rm pc L (.long x :: st) w := fun F ls H locs hl hG => lv_lstore_n F.1 F.2.1 hd ha hl hn hL (fun ls' hl' => k F ls' H locs hl' hG)
theorem jc_lstore {a : Nat} {x : Int64} (L' : List (Nat × Value)) (hd : decode cc pc = .ok (.lstore a, 2)) (hn : a + 1 < nL) (hL : (a, Value.long x) :: L.filter (fun q => !(q.1 == a) && (!(q.1 == a + 1) && !(q.1 + 1 == a && q.2.category == 2))) = L') (k : JC κ own cc nL rt rm (pc + 2) L' st w) : JC κ own cc nL rt rm pc L (.long x :: st) w := fun F ls H locs hl hG => lv_lstore F.1 F.2.1 hd hl hn hL (fun ls' hl' => k F ls' H locs hl' hG)
theorem jc_astore_n {f : Fin 4} {a : Nat} {x : Nat} (L' : List (Nat × Value)) (hd : decode cc pc = .ok (.astore_n f, 1)) (ha : (f : Nat) = a) (hn : a < nL) (hL : (a, Value.ref x) :: L.filter (fun q => !(q.1 == a) && !(q.1 + 1 == a && q.2.category == 2)) = L') (k : JC κ own cc nL rt rm (pc + 1) L' st w) : JC κ own cc nL rt rm pc L (.ref x :: st) w := fun F ls H locs hl hG => lv_astore_n F.1 F.2.1 hd ha hl hn hL (fun ls' hl' => k F ls' H locs hl' hG)
theorem jc_astore {a : Nat} {x : Nat} (L' : List (Nat × Value)) (hd : decode cc pc = .ok (.astore a, 2)) (hn : a < nL) (hL : (a, Value.ref x) :: L.filter (fun q => !(q.1 == a) && !(q.1 + 1 == a && q.2.category == 2)) = L') (k : JC κ own cc nL rt rm (pc + 2) L' st w) : JC κ own cc nL rt rm pc L (.ref x :: st) w := fun F ls H locs hl hG => lv_astore F.1 F.2.1 hd hl hn hL (fun ls' hl' => k F ls' H locs hl' hG)
theorem jc_iinc {a : Nat} {n : Int} {x : Int32} (v : Int32) (i : Nat) (L' : List (Nat × Value)) (hd : decode cc pc = .ok (.iinc a n, 3)) (hi : L[i]? = some (a, .int x)) (hv : x + Int32.ofInt n = v) (hn : a < nL) (hL : (a, Value.int v) :: L.filter (fun q => !(q.1 == a) && !(q.1 + 1 == a && q.2.category == 2)) = L') (k : JC κ own cc nL rt rm (pc + 3) L' st w) : JC κ own cc nL rt rm pc L st w := fun F ls H locs hl hG => lv_iinc F.1 F.2.1 hd hl hi hv hn hL (fun ls' hl' => k F ls' H locs hl' hG)
theorem jc_loc (L' : List (Nat × Value)) (is : List Nat) (h : lv_pick L is = L') (k : JC κ own cc nL rt rm pc L' st w) : JC κ own cc nL rt rm pc L st w := fun F ls H locs hl hG => k F ls H locs (lv_sub hl is h) hG
theorem jc_iadd {x y : Int32} (hd : decode cc pc = .ok (.iadd, 1)) (k : JC κ own cc nL rt rm (pc + 1) L (.int (x + y) :: st) w) : JC κ own cc nL rt rm pc L (.int y :: .int x :: st) w := fun F ls H locs hl hG => lv_iadd F.1 F.2.1 hd (k F ls H locs hl hG)
theorem jc_isub {x y : Int32} (hd : decode cc pc = .ok (.isub, 1)) (k : JC κ own cc nL rt rm (pc + 1) L (.int (x - y) :: st) w) : JC κ own cc nL rt rm pc L (.int y :: .int x :: st) w := fun F ls H locs hl hG => lv_isub F.1 F.2.1 hd (k F ls H locs hl hG)
theorem jc_imul {x y : Int32} (hd : decode cc pc = .ok (.imul, 1)) (k : JC κ own cc nL rt rm (pc + 1) L (.int (x * y) :: st) w) : JC κ own cc nL rt rm pc L (.int y :: .int x :: st) w := fun F ls H locs hl hG => lv_imul F.1 F.2.1 hd (k F ls H locs hl hG)
theorem jc_iand {x y : Int32} (hd : decode cc pc = .ok (.iand, 1)) (k : JC κ own cc nL rt rm (pc + 1) L (.int (x &&& y) :: st) w) : JC κ own cc nL rt rm pc L (.int y :: .int x :: st) w := fun F ls H locs hl hG => lv_iand F.1 F.2.1 hd (k F ls H locs hl hG)
theorem jc_ior {x y : Int32} (hd : decode cc pc = .ok (.ior, 1)) (k : JC κ own cc nL rt rm (pc + 1) L (.int (x ||| y) :: st) w) : JC κ own cc nL rt rm pc L (.int y :: .int x :: st) w := fun F ls H locs hl hG => lv_ior F.1 F.2.1 hd (k F ls H locs hl hG)
theorem jc_ixor {x y : Int32} (hd : decode cc pc = .ok (.ixor, 1)) (k : JC κ own cc nL rt rm (pc + 1) L (.int (x ^^^ y) :: st) w) : JC κ own cc nL rt rm pc L (.int y :: .int x :: st) w := fun F ls H locs hl hG => lv_ixor F.1 F.2.1 hd (k F ls H locs hl hG)
theorem jc_ishl {x y : Int32} (hd : decode cc pc = .ok (.ishl, 1)) (k : JC κ own cc nL rt rm (pc + 1) L (.int (x <<< (y &&& 31)) :: st) w) : JC κ own cc nL rt rm pc L (.int y :: .int x :: st) w := fun F ls H locs hl hG => lv_ishl F.1 F.2.1 hd (k F ls H locs hl hG)
theorem jc_ishr {x y : Int32} (hd : decode cc pc = .ok (.ishr, 1)) (k : JC κ own cc nL rt rm (pc + 1) L (.int (x >>> (y &&& 31)) :: st) w) : JC κ own cc nL rt rm pc L (.int y :: .int x :: st) w := fun F ls H locs hl hG => lv_ishr F.1 F.2.1 hd (k F ls H locs hl hG)
theorem jc_iushr {x y : Int32} (hd : decode cc pc = .ok (.iushr, 1)) (k : JC κ own cc nL rt rm (pc + 1) L (.int (x.toUInt32 >>> (y.toUInt32 &&& Int32.toUInt32 31)).toInt32 :: st) w) : JC κ own cc nL rt rm pc L (.int y :: .int x :: st) w := fun F ls H locs hl hG => lv_iushr F.1 F.2.1 hd rfl (k F ls H locs hl hG)
theorem jc_idiv {x y : Int32} (hd : decode cc pc = .ok (.idiv, 1)) (hy : ¬ y = 0) (k : JC κ own cc nL rt rm (pc + 1) L (.int (x / y) :: st) w) : JC κ own cc nL rt rm pc L (.int y :: .int x :: st) w := fun F ls H locs hl hG => lv_idiv F.1 F.2.1 hd hy (k F ls H locs hl hG)
theorem jc_irem {x y : Int32} (hd : decode cc pc = .ok (.irem, 1)) (hy : ¬ y = 0) (k : JC κ own cc nL rt rm (pc + 1) L (.int (x - x / y * y) :: st) w) : JC κ own cc nL rt rm pc L (.int y :: .int x :: st) w := fun F ls H locs hl hG => lv_irem F.1 F.2.1 hd hy (k F ls H locs hl hG)
theorem jc_ladd {x y : Int64} (hd : decode cc pc = .ok (.ladd, 1)) (k : JC κ own cc nL rt rm (pc + 1) L (.long (x + y) :: st) w) : JC κ own cc nL rt rm pc L (.long y :: .long x :: st) w := fun F ls H locs hl hG => lv_ladd F.1 F.2.1 hd (k F ls H locs hl hG)
theorem jc_lsub {x y : Int64} (hd : decode cc pc = .ok (.lsub, 1)) (k : JC κ own cc nL rt rm (pc + 1) L (.long (x - y) :: st) w) : JC κ own cc nL rt rm pc L (.long y :: .long x :: st) w := fun F ls H locs hl hG => lv_lsub F.1 F.2.1 hd (k F ls H locs hl hG)
theorem jc_lmul {x y : Int64} (hd : decode cc pc = .ok (.lmul, 1)) (k : JC κ own cc nL rt rm (pc + 1) L (.long (x * y) :: st) w) : JC κ own cc nL rt rm pc L (.long y :: .long x :: st) w := fun F ls H locs hl hG => lv_lmul F.1 F.2.1 hd (k F ls H locs hl hG)
theorem jc_land {x y : Int64} (hd : decode cc pc = .ok (.land, 1)) (k : JC κ own cc nL rt rm (pc + 1) L (.long (x &&& y) :: st) w) : JC κ own cc nL rt rm pc L (.long y :: .long x :: st) w := fun F ls H locs hl hG => lv_land F.1 F.2.1 hd (k F ls H locs hl hG)
theorem jc_lor {x y : Int64} (hd : decode cc pc = .ok (.lor, 1)) (k : JC κ own cc nL rt rm (pc + 1) L (.long (x ||| y) :: st) w) : JC κ own cc nL rt rm pc L (.long y :: .long x :: st) w := fun F ls H locs hl hG => lv_lor F.1 F.2.1 hd (k F ls H locs hl hG)
theorem jc_ldiv {x y : Int64} (hd : decode cc pc = .ok (.ldiv, 1)) (hy : ¬ y = 0) (k : JC κ own cc nL rt rm (pc + 1) L (.long (x / y) :: st) w) : JC κ own cc nL rt rm pc L (.long y :: .long x :: st) w := fun F ls H locs hl hG => lv_ldiv F.1 F.2.1 hd hy (k F ls H locs hl hG)
theorem jc_lshl {x : Int64} {y : Int32} (hd : decode cc pc = .ok (.lshl, 1)) (k : JC κ own cc nL rt rm (pc + 1) L (.long (x <<< (y.toInt64 &&& 63)) :: st) w) : JC κ own cc nL rt rm pc L (.int y :: .long x :: st) w := fun F ls H locs hl hG => lv_lshl F.1 F.2.1 hd rfl (k F ls H locs hl hG)
theorem jc_lshr {x : Int64} {y : Int32} (hd : decode cc pc = .ok (.lshr, 1)) (k : JC κ own cc nL rt rm (pc + 1) L (.long (x >>> (y.toInt64 &&& 63)) :: st) w) : JC κ own cc nL rt rm pc L (.int y :: .long x :: st) w := fun F ls H locs hl hG => lv_lshr F.1 F.2.1 hd rfl (k F ls H locs hl hG)
theorem jc_lcmp {x y : Int64} (hd : decode cc pc = .ok (.lcmp, 1)) (k : JC κ own cc nL rt rm (pc + 1) L (.int (lg_cmp x y) :: st) w) : JC κ own cc nL rt rm pc L (.long y :: .long x :: st) w := fun F ls H locs hl hG => W.lcmp F.1 F.2.1 hd (k F ls H locs hl hG)
theorem jc_i2l {x : Int32} (hd : decode cc pc = .ok (.i2l, 1)) (k : JC κ own cc nL rt rm (pc + 1) L (.long x.toInt64 :: st) w) : JC κ own cc nL rt rm pc L (.int x :: st) w := fun F ls H locs hl hG => lv_i2l F.1 F.2.1 hd rfl (k F ls H locs hl hG)
theorem jc_l2i {x : Int64} (hd : decode cc pc = .ok (.l2i, 1)) (k : JC κ own cc nL rt rm (pc + 1) L (.int x.toInt32 :: st) w) : JC κ own cc nL rt rm pc L (.long x :: st) w := fun F ls H locs hl hG => lv_l2i F.1 F.2.1 hd rfl (k F ls H locs hl hG)
theorem jc_i2b {x : Int32} (hd : decode cc pc = .ok (.i2b, 1)) (k : JC κ own cc nL rt rm (pc + 1) L (.int x.toInt8.toInt32 :: st) w) : JC κ own cc nL rt rm pc L (.int x :: st) w := fun F ls H locs hl hG => lv_i2b F.1 F.2.1 hd rfl (k F ls H locs hl hG)
theorem jc_i2s {x : Int32} (hd : decode cc pc = .ok (.i2s, 1)) (k : JC κ own cc nL rt rm (pc + 1) L (.int x.toInt16.toInt32 :: st) w) : JC κ own cc nL rt rm pc L (.int x :: st) w := fun F ls H locs hl hG => lv_i2s F.1 F.2.1 hd rfl (k F ls H locs hl hG)
theorem jc_i2c {x : Int32} (hd : decode cc pc = .ok (.i2c, 1)) (k : JC κ own cc nL rt rm (pc + 1) L (.int (x.toUInt32 % 65536).toInt32 :: st) w) : JC κ own cc nL rt rm pc L (.int x :: st) w := fun F ls H locs hl hG => lv_i2c F.1 F.2.1 hd rfl (k F ls H locs hl hG)
theorem jc_dup {v : Value} (hd : decode cc pc = .ok (.dup, 1)) (hv : v.category = 1) (k : JC κ own cc nL rt rm (pc + 1) L (v :: v :: st) w) : JC κ own cc nL rt rm pc L (v :: st) w := fun F ls H locs hl hG => lv_dup F.1 F.2.1 hd hv (k F ls H locs hl hG)
theorem jc_dup_x1 {u v : Value} (hd : decode cc pc = .ok (.dup_x1, 1)) (hu : u.category = 1) (hv : v.category = 1) (k : JC κ own cc nL rt rm (pc + 1) L (u :: v :: u :: st) w) : JC κ own cc nL rt rm pc L (u :: v :: st) w := fun F ls H locs hl hG => lv_dup_x1 F.1 F.2.1 hd hu hv (k F ls H locs hl hG)
theorem jc_dup2 {u v : Value} (hd : decode cc pc = .ok (.dup2, 1)) (hu : u.category = 1) (hv : v.category = 1) (k : JC κ own cc nL rt rm (pc + 1) L (u :: v :: u :: v :: st) w) : JC κ own cc nL rt rm pc L (u :: v :: st) w := fun F ls H locs hl hG => lv_dup2_11 F.1 F.2.1 hd hu hv (k F ls H locs hl hG)
theorem jc_pop {v : Value} (hd : decode cc pc = .ok (.pop, 1)) (hv : v.category = 1) (k : JC κ own cc nL rt rm (pc + 1) L st w) : JC κ own cc nL rt rm pc L (v :: st) w := fun F ls H locs hl hG => lv_pop F.1 F.2.1 hd hv (k F ls H locs hl hG)
theorem jc_goto {off : Int} (t : Nat) (hd : decode cc pc = .ok (.goto off, 3)) (ht : (pc : Int) + off = (t : Int)) (k : JC κ own cc nL rt rm t L st w) : JC κ own cc nL rt rm pc L st w := fun F ls H locs hl hG => lv_goto F.1 F.2.1 hd ht (k F ls H locs hl hG)
variable {α : Type} {P : α → Prop} {kt kf : Option α} {off : Int} {x y : Int32}
theorem jc_if_eq (t : Nat) (hd : decode cc pc = .ok (.ifCond .eq off, 3)) (ht : (pc : Int) + off = (t : Int)) (h : ok (if x = 0 then kt else kf) P) (jt : ok kt P → JC κ own cc nL rt rm t L st w) (jf : ok kf P → JC κ own cc nL rt rm (pc + 3) L st w) : JC κ own cc nL rt rm pc L (.int x :: st) w := fun F ls H locs hl hG => lv_if_eq F.1 F.2.1 hd ht (fun q => jt (ok_t h q) F ls H locs hl hG) (fun q => jf (ok_f h q) F ls H locs hl hG)
theorem jc_if_ne (t : Nat) (hd : decode cc pc = .ok (.ifCond .ne off, 3)) (ht : (pc : Int) + off = (t : Int)) (h : ok (if x = 0 then kf else kt) P) (jt : ok kt P → JC κ own cc nL rt rm t L st w) (jf : ok kf P → JC κ own cc nL rt rm (pc + 3) L st w) : JC κ own cc nL rt rm pc L (.int x :: st) w := fun F ls H locs hl hG => lv_if_ne F.1 F.2.1 hd ht (fun q => jt (ok_f h q) F ls H locs hl hG) (fun q => jf (ok_t h q) F ls H locs hl hG)
theorem jc_if_lt (t : Nat) (hd : decode cc pc = .ok (.ifCond .lt off, 3)) (ht : (pc : Int) + off = (t : Int)) (h : ok (if x < 0 then kt else kf) P) (jt : ok kt P → JC κ own cc nL rt rm t L st w) (jf : ok kf P → JC κ own cc nL rt rm (pc + 3) L st w) : JC κ own cc nL rt rm pc L (.int x :: st) w := fun F ls H locs hl hG => lv_if_lt F.1 F.2.1 hd ht (fun q => jt (ok_t h q) F ls H locs hl hG) (fun q => jf (ok_f h q) F ls H locs hl hG)
theorem jc_if_ge (t : Nat) (hd : decode cc pc = .ok (.ifCond .ge off, 3)) (ht : (pc : Int) + off = (t : Int)) (h : ok (if 0 ≤ x then kt else kf) P) (jt : ok kt P → JC κ own cc nL rt rm t L st w) (jf : ok kf P → JC κ own cc nL rt rm (pc + 3) L st w) : JC κ own cc nL rt rm pc L (.int x :: st) w := fun F ls H locs hl hG => lv_if_ge F.1 F.2.1 hd ht (fun q => jt (ok_t h q) F ls H locs hl hG) (fun q => jf (ok_f h q) F ls H locs hl hG)
theorem jc_if_gt (t : Nat) (hd : decode cc pc = .ok (.ifCond .gt off, 3)) (ht : (pc : Int) + off = (t : Int)) (h : ok (if 0 < x then kt else kf) P) (jt : ok kt P → JC κ own cc nL rt rm t L st w) (jf : ok kf P → JC κ own cc nL rt rm (pc + 3) L st w) : JC κ own cc nL rt rm pc L (.int x :: st) w := fun F ls H locs hl hG => lv_if_gt F.1 F.2.1 hd ht (fun q => jt (ok_t h q) F ls H locs hl hG) (fun q => jf (ok_f h q) F ls H locs hl hG)
theorem jc_if_le (t : Nat) (hd : decode cc pc = .ok (.ifCond .le off, 3)) (ht : (pc : Int) + off = (t : Int)) (h : ok (if x ≤ 0 then kt else kf) P) (jt : ok kt P → JC κ own cc nL rt rm t L st w) (jf : ok kf P → JC κ own cc nL rt rm (pc + 3) L st w) : JC κ own cc nL rt rm pc L (.int x :: st) w := fun F ls H locs hl hG => lv_if_le F.1 F.2.1 hd ht (fun q => jt (ok_t h q) F ls H locs hl hG) (fun q => jf (ok_f h q) F ls H locs hl hG)
theorem jc_ic_eq (t : Nat) (hd : decode cc pc = .ok (.if_icmp .eq off, 3)) (ht : (pc : Int) + off = (t : Int)) (h : ok (if x = y then kt else kf) P) (jt : ok kt P → JC κ own cc nL rt rm t L st w) (jf : ok kf P → JC κ own cc nL rt rm (pc + 3) L st w) : JC κ own cc nL rt rm pc L (.int y :: .int x :: st) w := fun F ls H locs hl hG => lv_icmp_eq F.1 F.2.1 hd ht (fun q => jt (ok_t h q) F ls H locs hl hG) (fun q => jf (ok_f h q) F ls H locs hl hG)
theorem jc_ic_ne (t : Nat) (hd : decode cc pc = .ok (.if_icmp .ne off, 3)) (ht : (pc : Int) + off = (t : Int)) (h : ok (if x = y then kf else kt) P) (jt : ok kt P → JC κ own cc nL rt rm t L st w) (jf : ok kf P → JC κ own cc nL rt rm (pc + 3) L st w) : JC κ own cc nL rt rm pc L (.int y :: .int x :: st) w := fun F ls H locs hl hG => lv_icmp_ne F.1 F.2.1 hd ht (fun q => jt (ok_f h q) F ls H locs hl hG) (fun q => jf (ok_t h q) F ls H locs hl hG)
theorem jc_ic_lt (t : Nat) (hd : decode cc pc = .ok (.if_icmp .lt off, 3)) (ht : (pc : Int) + off = (t : Int)) (h : ok (if x < y then kt else kf) P) (jt : ok kt P → JC κ own cc nL rt rm t L st w) (jf : ok kf P → JC κ own cc nL rt rm (pc + 3) L st w) : JC κ own cc nL rt rm pc L (.int y :: .int x :: st) w := fun F ls H locs hl hG => lv_icmp_lt F.1 F.2.1 hd ht (fun q => jt (ok_t h q) F ls H locs hl hG) (fun q => jf (ok_f h q) F ls H locs hl hG)
theorem jc_ic_ge (t : Nat) (hd : decode cc pc = .ok (.if_icmp .ge off, 3)) (ht : (pc : Int) + off = (t : Int)) (h : ok (if y ≤ x then kt else kf) P) (jt : ok kt P → JC κ own cc nL rt rm t L st w) (jf : ok kf P → JC κ own cc nL rt rm (pc + 3) L st w) : JC κ own cc nL rt rm pc L (.int y :: .int x :: st) w := fun F ls H locs hl hG => lv_icmp_ge F.1 F.2.1 hd ht (fun q => jt (ok_t h q) F ls H locs hl hG) (fun q => jf (ok_f h q) F ls H locs hl hG)
theorem jc_ic_gt (t : Nat) (hd : decode cc pc = .ok (.if_icmp .gt off, 3)) (ht : (pc : Int) + off = (t : Int)) (h : ok (if y < x then kt else kf) P) (jt : ok kt P → JC κ own cc nL rt rm t L st w) (jf : ok kf P → JC κ own cc nL rt rm (pc + 3) L st w) : JC κ own cc nL rt rm pc L (.int y :: .int x :: st) w := fun F ls H locs hl hG => lv_icmp_gt F.1 F.2.1 hd ht (fun q => jt (ok_t h q) F ls H locs hl hG) (fun q => jf (ok_f h q) F ls H locs hl hG)
theorem jc_ic_le (t : Nat) (hd : decode cc pc = .ok (.if_icmp .le off, 3)) (ht : (pc : Int) + off = (t : Int)) (h : ok (if x ≤ y then kt else kf) P) (jt : ok kt P → JC κ own cc nL rt rm t L st w) (jf : ok kf P → JC κ own cc nL rt rm (pc + 3) L st w) : JC κ own cc nL rt rm pc L (.int y :: .int x :: st) w := fun F ls H locs hl hG => lv_icmp_le F.1 F.2.1 hd ht (fun q => jt (ok_t h q) F ls H locs hl hG) (fun q => jf (ok_f h q) F ls H locs hl hG)
theorem jc_iret (hd : decode cc pc = .ok (.ireturn, 1)) {ty : FieldType} (hty : rt = some ty) (hn : narrow ty (.int x) = .int x) (h : cρ κ (some (.int x)) w) : JC κ own cc nL rt rm pc L [.int x] w := fun F ls H locs hl hG => F.2.2.2.2.2.2.2.2.1 x w H locs pc ls ty hty hn h hG hd
theorem jc_lret {x : Int64} (hd : decode cc pc = .ok (.lreturn, 1)) (hty : rt = some .long) (h : cρ κ (some (.long x)) w) : JC κ own cc nL rt rm pc L [.long x] w := fun F ls H locs hl hG => F.2.2.2.2.2.2.2.2.2.1 x w H locs pc ls hty h hG hd
theorem jc_vret (hd : decode cc pc = .ok (.return_, 1)) (hty : rt = none) (h : cρ κ none w) : JC κ own cc nL rt rm pc L [] w := fun F ls H locs hl hG => F.2.2.2.2.2.2.2.2.2.2.1 w H locs pc ls hty h hG hd
theorem jc_aret {x : Nat} {n : String} (hd : decode cc pc = .ok (.areturn, 1)) (hty : rt = some (.object n)) (h : cρ κ (some (.ref x)) w) : JC κ own cc nL rt rm pc L [.ref x] w := fun F ls H locs hl hG => F.2.2.2.2.2.2.2.2.2.2.2 x w H locs pc ls n hty h hG hd
end JRC
theorem pl_D {γ : Gm} {A : Nat → Prop} {N : Nat} (h : (∀ k, ad γ k = N + k) ∧ ∀ q, A q ↔ N ≤ q) (w : Wd) (n : Nat) : va_D A (pl γ w n) := by
  refine ⟨fun i j p q hi hj e => ?_, fun k q hk => ?_⟩
  · obtain ⟨a1, rfl⟩ := pl_get hi
    obtain ⟨a2, rfl⟩ := pl_get hj
    have e' : ad γ i = ad γ j := e
    rw [h.1, h.1] at e'
    omega
  · obtain ⟨a1, rfl⟩ := pl_get hk
    exact (h.2 _).mpr (by rw [h.1]; omega)
theorem pcell_I {γ : Gm} {w : Wd} {k t n : Nat} (hs : sh k = (t, n)) (h5 : t ≠ 5) (h2 : t ≠ 2) (h4 : t ≠ 4) : pcell γ w k = .inl (cid γ t, n, .inl (w.1 k)) := by
  unfold pcell
  rw [hs]
  simp [h5, h2, h4]
theorem pcell_J {γ : Gm} {w : Wd} {k n : Nat} (hs : sh k = (2, n)) : pcell γ w k = .inl (cid γ 2, n, .inr (.inl (w.2 k))) := by
  unfold pcell
  rw [hs]
  simp
theorem pcell_R {γ : Gm} {w : Wd} {k n : Nat} (hs : sh k = (4, n)) : pcell γ w k = .inl (cid γ 4, n, .inr (.inr (.inr (.inr (pref γ w k))))) := by
  unfold pcell
  rw [hs]
  simp
theorem pcell_O {γ : Gm} {w : Wd} {k n : Nat} (hs : sh k = (5, n)) : pcell γ w k = .inr (n, (List.range (nf k)).map (pfv γ w k)) := by
  unfold pcell
  rw [hs]
  simp
theorem pfv_at {γ : Gm} {w : Wd} {k j : Nat} (hj : j < nf k) : ((List.range (nf k)).map (pfv γ w k))[j]? = some (pfv γ w k j) := by
  rw [List.getElem?_map, List.getElem?_range hj]
  rfl
theorem pfv_set {γ : Gm} {w w' : Wd} {k j : Nat} {v : Value} (h1 : pfv γ w' k j = v) (h2 : ∀ q, q ≠ j → pfv γ w' k q = pfv γ w k q) : (List.range (nf k)).map (pfv γ w' k) = ((List.range (nf k)).map (pfv γ w k)).set j v := by
  apply List.ext_getElem?
  intro q
  by_cases hq : j = q
  · subst hq
    by_cases hj : j < nf k
    · rw [pfv_at hj, List.getElem?_set_self (by simp; exact hj), h1]
    · rw [List.getElem?_eq_none (by simp; omega), List.getElem?_eq_none (by simp; omega)]
  · rw [List.getElem?_set_ne hq]
    by_cases hj : q < nf k
    · rw [pfv_at hj, pfv_at hj, h2 q (fun z => hq z.symm)]
    · rw [List.getElem?_eq_none (by simp; omega), List.getElem?_eq_none (by simp; omega)]
theorem pfv_puI {γ : Gm} {w : Wd} {k j q : Nat} {x : Int32} (hq : q ≠ j) : pfv γ (puI w k j x) k q = pfv γ w k q := by
  have e1 : (puI w k j x).1 k q = w.1 k q := by simp [puI, seI, up_eq, upd, hq]
  unfold pfv pfvN
  rw [e1]
  rfl
theorem pu_self {w : Wd} {k j : Nat} {x : Int32} : (puI w k j x).1 k j = x := by simp [puI, seI, up_eq, upd]
section JCH
variable {κ : KxC} {own : String} {cc : ByteArray} {nL : Nat} {rt : Option FieldType} {rm : Room} {pc : Nat} {L : List (Nat × Value)} {st : List Value} {w : Wd} {n c s : Nat} {α : Type} {P : α → Prop} {kk : Option α} {k m : Nat} {i : Int32}
theorem jc_lW {f : Wd → Option α} (h : ok ((some w).bind f) P) (jn : ∀ z, ok (f z) P → JC κ own cc nL rt rm pc L st (z, n, c, s)) : JC κ own cc nL rt rm pc L st (w, n, c, s) := jn w h
theorem jc_lI {z : Zt} {x : Int32} {f : Int32 → Option α} (h : ok ((some x).bind f) P) (jn : ∀ y, ok (f y) P → JC κ own cc nL rt rm pc L (.int y :: st) z) : JC κ own cc nL rt rm pc L (.int x :: st) z := jn x h
theorem jc_lJ {z : Zt} {x : Int64} {f : Int64 → Option α} (h : ok ((some x).bind f) P) (jn : ∀ y, ok (f y) P → JC κ own cc nL rt rm pc L (.long y :: st) z) : JC κ own cc nL rt rm pc L (.long x :: st) z := jn x h
theorem jc_iald (hs : sh k = (0, m)) (hk : k < n) (hd : decode cc pc = .ok (.iaload, 1)) (h : ok (gd (vp_in i m) kk) P) (jn : ok kk P → JC κ own cc nL rt rm (pc + 1) L (.int (w.1 k (ix i)) :: st) (w, n, c, s)) : JC κ own cc nL rt rm pc L (.int i :: .ref (ad (cg κ) k) :: st) (w, n, c, s) := fun F ls H locs hl hG =>
  va_iald F.1 F.2.1 F.2.2.2.2.2.1.1 hG.1.1 k 0 (by rw [pl_at hk, pcell_I hs (by decide) (by decide) (by decide)]) rfl (ok_g h).1 hd (jn (ok_g h).2 F ls H locs hl hG)
theorem jc_lald (hs : sh k = (2, m)) (hk : k < n) (hd : decode cc pc = .ok (.laload, 1)) (h : ok (gd (vp_in i m) kk) P) (jn : ok kk P → JC κ own cc nL rt rm (pc + 1) L (.long (w.2 k (ix i)) :: st) (w, n, c, s)) : JC κ own cc nL rt rm pc L (.int i :: .ref (ad (cg κ) k) :: st) (w, n, c, s) := fun F ls H locs hl hG =>
  va_lald F.1 F.2.1 F.2.2.2.2.2.1.1 hG.1.1 k 2 (by rw [pl_at hk, pcell_J hs]) rfl (ok_g h).1 hd (jn (ok_g h).2 F ls H locs hl hG)
theorem jc_iast {x : Int32} (hs : sh k = (0, m)) (hk : k < n) (hd : decode cc pc = .ok (.iastore, 1)) (h : ok (gd (vp_in i m) kk) P) (jn : ok kk P → JC κ own cc nL rt rm (pc + 1) L st (puI w k (ix i) x, n, c, s)) : JC κ own cc nL rt rm pc L (.int x :: .int i :: .ref (ad (cg κ) k) :: st) (w, n, c, s) := fun F ls H locs hl hG =>
  va_iast F.1 F.2.1 F.2.2.2.2.2.1.1 hG.1.1 (pl_D F.2.2.2.2.2.1.2.2.1 w n) hG.2.1 k 0 (by rw [pl_at hk, pcell_I hs (by decide) (by decide) (by decide)]) rfl (ok_g h).1 hd (fun H1 locs1 hP hD hS => by
    rw [pl_set (w' := puI w k (ix i) x) hk (fun j hj => pcell_seI hj) (by rw [pcell_I hs (by decide) (by decide) (by decide)]; simp only [puI, seI, up_eq])] at hP
    exact jn (ok_g h).2 F ls H1 locs1 hl ⟨⟨hP, hG.1.2.seI hk⟩, hS, hG.2.2⟩)
theorem jc_last {x : Int64} (hs : sh k = (2, m)) (hk : k < n) (hd : decode cc pc = .ok (.lastore, 1)) (h : ok (gd (vp_in i m) kk) P) (jn : ok kk P → JC κ own cc nL rt rm (pc + 1) L st (puJ w k (ix i) x, n, c, s)) : JC κ own cc nL rt rm pc L (.long x :: .int i :: .ref (ad (cg κ) k) :: st) (w, n, c, s) := fun F ls H locs hl hG =>
  va_last F.1 F.2.1 F.2.2.2.2.2.1.1 hG.1.1 (pl_D F.2.2.2.2.2.1.2.2.1 w n) hG.2.1 k 2 (by rw [pl_at hk, pcell_J hs]) rfl (ok_g h).1 hd (fun H1 locs1 hP hD hS => by
    rw [pl_set (w' := puJ w k (ix i) x) hk (fun j hj => pcell_seJ hj) (by rw [pcell_J hs]; simp only [puJ, seJ, up_eq])] at hP
    exact jn (ok_g h).2 F ls H1 locs1 hl ⟨⟨hP, hG.1.2.seJ hk⟩, hS, hG.2.2⟩)
theorem jc_alenI {t : Nat} {v : Int32} (hs : sh k = (t, m)) (hk : k < n) (ht : t = 0 ∨ t = 1 ∨ t = 3) (hv : Int32.ofNat m = v) (hd : decode cc pc = .ok (.arraylength, 1)) (jn : JC κ own cc nL rt rm (pc + 1) L (.int v :: st) (w, n, c, s)) : JC κ own cc nL rt rm pc L (.ref (ad (cg κ) k) :: st) (w, n, c, s) := fun F ls H locs hl hG => by
  have ha : (pl (cg κ) w n)[k]? = some (ad (cg κ) k, .inl (cid (cg κ) t, m, .inl (w.1 k))) := by
    rw [pl_at hk, pcell_I hs (by rcases ht with rfl | rfl | rfl <;> decide) (by rcases ht with rfl | rfl | rfl <;> decide) (by rcases ht with rfl | rfl | rfl <;> decide)]
  rcases ht with rfl | rfl | rfl
  · exact va_alen F.1 F.2.1 F.2.2.2.2.2.1.1 hG.1.1 k 0 ha (ty := .int) rfl hv hd (jn F ls H locs hl hG)
  · exact va_alen F.1 F.2.1 F.2.2.2.2.2.1.1 hG.1.1 k 1 ha (ty := .byte) rfl hv hd (jn F ls H locs hl hG)
  · exact va_alen F.1 F.2.1 F.2.2.2.2.2.1.1 hG.1.1 k 3 ha (ty := .boolean) rfl hv hd (jn F ls H locs hl hG)
theorem jc_alenJ {v : Int32} (hs : sh k = (2, m)) (hk : k < n) (hv : Int32.ofNat m = v) (hd : decode cc pc = .ok (.arraylength, 1)) (jn : JC κ own cc nL rt rm (pc + 1) L (.int v :: st) (w, n, c, s)) : JC κ own cc nL rt rm pc L (.ref (ad (cg κ) k) :: st) (w, n, c, s) := fun F ls H locs hl hG =>
  va_alen F.1 F.2.1 F.2.2.2.2.2.1.1 hG.1.1 k 2 (x := (m, .inr (.inl (w.2 k)))) (by rw [pl_at hk, pcell_J hs]) (ty := .long) rfl hv hd (jn F ls H locs hl hG)
theorem jc_getV {idx ci j : Nat} (hF : FLk own idx ci j) (hs : sh k = (5, ci)) (hk : k < n) (hj : j < nf k) (hd : decode cc pc = .ok (.getfield idx, 3)) (jn : JC κ own cc nL rt rm (pc + 3) L (pfv (cg κ) w k j :: st) (w, n, c, s)) : JC κ own cc nL rt rm pc L (.ref (ad (cg κ) k) :: st) (w, n, c, s) := fun F ls H locs hl hG => by
  obtain ⟨C, T, N, hc, hN, hin, hC, hl1⟩ := hF
  have he : (pl (cg κ) w n)[k]? = some (ad (cg κ) k, .inr (ci, (List.range (nf k)).map (pfv (cg κ) w k))) := by rw [pl_at hk, pcell_O hs]
  rcases hl1 with hl1 | ⟨host, hl1⟩
  · exact va_get F.1 F.2.1 F.2.2.2.2.1 hin F.2.2.2.1 F.2.2.2.2.2.1.1 hG.1.1 k he hc j hN (F.2.2.2.2.1 _ hl1) (fun x h => by rw [hC] at h; exact h) (pfv_at hj) hd (jn F ls H locs hl hG)
  · exact va_getN F.1 F.2.1 F.2.2.2.2.1 hin F.2.2.2.1 F.2.2.2.2.2.1.1 hG.1.1 k he hc j hN (va_Nw.use rfl (F.2.2.2.2.2.1.2.1 _ hl1)) (fun x h => by rw [hC] at h; exact h) (pfv_at hj) hd (jn F ls H locs hl hG)
theorem jc_getI {idx ci j : Nat} (hF : FLk own idx ci j) (hs : sh k = (5, ci)) (hk : k < n) (hf : fk k j = 0) (hd : decode cc pc = .ok (.getfield idx, 3)) (jn : JC κ own cc nL rt rm (pc + 3) L (.int (w.1 k j) :: st) (w, n, c, s)) : JC κ own cc nL rt rm pc L (.ref (ad (cg κ) k) :: st) (w, n, c, s) := jc_getV hF hs hk (fk_lt (by rw [hf]; decide)) hd (by rw [show pfv (cg κ) w k j = .int (w.1 k j) from by unfold pfv; rw [hf]; rfl]; exact jn)
theorem jc_getA {idx ci j : Nat} (t : Nat) (hF : FLk own idx ci j) (hs : sh k = (5, ci)) (hk : k < n) (hf : fk k j = t + 2) (ht : t + 2 < 999999) (hd : decode cc pc = .ok (.getfield idx, 3)) (h : ok (gd (¬ w.1 k j = 0) kk) P) (jn : ok kk P → JC κ own cc nL rt rm (pc + 3) L (.ref (ad (cg κ) t) :: st) (w, n, c, s)) : JC κ own cc nL rt rm pc L (.ref (ad (cg κ) k) :: st) (w, n, c, s) := jc_getV hF hs hk (fk_lt (by rw [hf]; exact ht)) hd (by rw [show pfv (cg κ) w k j = .ref (ad (cg κ) t) from by unfold pfv; rw [hf]; simp only [pfvN]; rw [if_neg (ok_g h).1]]; exact jn (ok_g h).2)
theorem jc_putV {idx ci j : Nat} {ty : FieldType} {v : Value} {x : Int32} (hF : FPk own idx ci j ty) (hs : sh k = (5, ci)) (hk : k < n) (hj : j < nf k) (hn : narrow ty v = v) (hfit : fits ty v = true) (h1 : pfv (cg κ) (puI w k j x) k j = v) (hd : decode cc pc = .ok (.putfield idx, 3)) (jn : JC κ own cc nL rt rm (pc + 3) L st (puI w k j x, n, c, s)) : JC κ own cc nL rt rm pc L (v :: .ref (ad (cg κ) k) :: st) (w, n, c, s) := fun F ls H locs hl hG => by
  obtain ⟨C, T, N, ty0, hc, hN, hin, hC, hl1, hty, hnm, hfin, hpd⟩ := hF
  have he : (pl (cg κ) w n)[k]? = some (ad (cg κ) k, .inr (ci, (List.range (nf k)).map (pfv (cg κ) w k))) := by rw [pl_at hk, pcell_O hs]
  have hset := pl_set (γ := cg κ) (w := w) (w' := puI w k j x) (x := .inr (ci, ((List.range (nf k)).map (pfv (cg κ) w k)).set j v)) hk (fun q hq => pcell_seI hq) (by rw [pcell_O hs, pfv_set h1 (fun q hq => pfv_puI hq)])
  rcases hl1 with hl1 | ⟨host, hl1⟩
  · exact va_put F.1 F.2.1 F.2.2.2.2.1 hin ty0 hty hnm F.2.2.2.1 F.2.2.2.2.2.1.1 hG.1.1 (pl_D F.2.2.2.2.2.1.2.2.1 w n) hG.2.1 k he hc j hN (F.2.2.2.2.1 _ hl1) (fun x h => by rw [hC] at h; exact h) hfin hpd hn hfit (by simp; exact hj) hd (fun H1 locs1 hP hD hS => by
      rw [hset] at hP
      exact jn F ls H1 locs1 hl ⟨⟨hP, hG.1.2.seI hk⟩, hS, hG.2.2⟩)
  · exact va_putN F.1 F.2.1 F.2.2.2.2.1 hin ty0 hty hnm F.2.2.2.1 F.2.2.2.2.2.1.1 hG.1.1 (pl_D F.2.2.2.2.2.1.2.2.1 w n) hG.2.1 k he hc j hN (va_Nw.use rfl (F.2.2.2.2.2.1.2.1 _ hl1)) (fun x h => by rw [hC] at h; exact h) hfin hpd hn hfit (by simp; exact hj) hd (fun H1 locs1 hP hD hS => by
      rw [hset] at hP
      exact jn F ls H1 locs1 hl ⟨⟨hP, hG.1.2.seI hk⟩, hS, hG.2.2⟩)
theorem jc_putI {idx ci j : Nat} {x : Int32} (hF : FPk own idx ci j .int) (hs : sh k = (5, ci)) (hk : k < n) (hf : fk k j = 0) (hd : decode cc pc = .ok (.putfield idx, 3)) (jn : JC κ own cc nL rt rm (pc + 3) L st (puI w k j x, n, c, s)) : JC κ own cc nL rt rm pc L (.int x :: .ref (ad (cg κ) k) :: st) (w, n, c, s) := jc_putV hF hs hk (fk_lt (by rw [hf]; decide)) rfl rfl (by unfold pfv; rw [hf]; simp only [pfvN]; rw [pu_self]) hd jn
/-- a final reference in its own constructor -/
def FRk (own : String) (idx ci j : Nat) (ty : FieldType) : Prop := ∃ (T : u_T) (N : Nat) (ty0 : Nat → FieldType), cls[ci]? = some (own, T, N) ∧ j < N ∧ (∀ q ∈ u_ws own T N, q ∈ TG) ∧ (T j).1 = own ∧ Cond.fieldLink own idx own (T j).2.1 (T j).2.2.1 ∈ TG ∧ (∀ k, k < N → parseFieldDescriptor (T k).2.2.1 = some (ty0 k)) ∧ (∀ a, a < N → ∀ b, b < N → a ≠ b → (T a).2.1 ≠ (T b).2.1) ∧ (T j).2.2.2 = true ∧ parseFieldDescriptor (T j).2.2.1 = some ty
theorem jc_putA {idx ci j t : Nat} {ty : FieldType} (hF : FRk own idx ci j ty) (hs : sh k = (5, ci)) (hk : k < n) (hf : fk k j = t + 2) (ht : t + 2 < 999999) (hn : ∀ a, narrow ty (.ref a) = .ref a) (hfit : ∀ a, fits ty (.ref a) = true) (hi : (cmeth κ).name = "<init>") (hd : decode cc pc = .ok (.putfield idx, 3)) (jn : JC κ own cc nL rt rm (pc + 3) L st (puI w k j 1, n, c, s)) : JC κ own cc nL rt rm pc L (.ref (ad (cg κ) t) :: .ref (ad (cg κ) k) :: st) (w, n, c, s) := fun F ls H locs hl hG => by
  obtain ⟨T, N, ty0, hc, hN, hin, hC, hl1, hty, hnm, hfin, hpd⟩ := hF
  have hj : j < nf k := fk_lt (by rw [hf]; exact ht)
  have he : (pl (cg κ) w n)[k]? = some (ad (cg κ) k, .inr (ci, (List.range (nf k)).map (pfv (cg κ) w k))) := by rw [pl_at hk, pcell_O hs]
  have h1 : pfv (cg κ) (puI w k j 1) k j = .ref (ad (cg κ) t) := by
    unfold pfv
    rw [hf]
    simp only [pfvN]
    rw [pu_self, if_neg (by decide)]
  have hset := pl_set (γ := cg κ) (w := w) (w' := puI w k j 1) (x := .inr (ci, ((List.range (nf k)).map (pfv (cg κ) w k)).set j (.ref (ad (cg κ) t)))) hk (fun q hq => pcell_seI hq) (by rw [pcell_O hs, pfv_set h1 (fun q hq => pfv_puI hq)])
  exact va_putF F.1 F.2.1 F.2.2.2.2.1 hin ty0 hty hnm F.2.2.2.1 F.2.2.2.2.2.1.1 hG.1.1 (pl_D F.2.2.2.2.2.1.2.2.1 w n) hG.2.1 k he hc j hN (F.2.2.2.2.1 _ hl1) (fun x h => by rw [hC] at h; exact h) hfin hi hC hpd (hn _) (hfit _) (by simp; exact hj) hd (fun H1 locs1 hP hD hS => by
      rw [hset] at hP
      exact jn F ls H1 locs1 hl ⟨⟨hP, hG.1.2.seI hk⟩, hS, hG.2.2⟩)
theorem jc_aast {ci j : Nat} {T : u_T} {N : Nat} (hs : sh k = (4, m)) (hk : k < n) (hv : stc (ix i) = j) (hjs : sh j = (5, ci)) (hj : j < n) (hc : cls[ci]? = some ("LampYear$Standing", T, N)) (hd : decode cc pc = .ok (.aastore, 1)) (h : ok (gd (vp_in i m) kk) P) (jn : ok kk P → JC κ own cc nL rt rm (pc + 1) L st (puI w k (ix i) 1, n, c, s)) : JC κ own cc nL rt rm pc L (.ref (ad (cg κ) j) :: .int i :: .ref (ad (cg κ) k) :: st) (w, n, c, s) := fun F ls H locs hl hG =>
  va_astq (r := ("LampYear$Standing", T, N)) (vs := (List.range (nf j)).map (pfv (cg κ) w j)) F.1 F.2.1 F.2.2.2.2.2.1.1 hG.1.1 (pl_D F.2.2.2.2.2.1.2.2.1 w n) hG.2.1 k 4 j ci (by rw [pl_at hk, pcell_R hs]) rfl (by rw [pl_at hj, pcell_O hjs]) hc (ok_g h).1 hd (fun H1 locs1 hP hD hS => by
    rw [pl_set (w' := puI w k (ix i) 1) hk (fun q hq => pcell_seI hq) (by
      rw [pcell_R hs]
      congr 7
      funext q
      unfold pref
      by_cases hq : q = ix i
      · subst hq
        rw [pu_self, if_neg (by decide), hv]
        simp [va_up]
      · have e1 : (puI w k (ix i) 1).1 k q = w.1 k q := by simp [puI, seI, up_eq, upd, hq]
        rw [e1]
        simp [va_up, hq])] at hP
    exact jn (ok_g h).2 F ls H1 locs1 hl ⟨⟨hP, hG.1.2.seI hk⟩, hS, hG.2.2⟩)
theorem jc_size (hn0 : 0 < n ∨ c = 0) (F : FxC κ own cc nL rt rm) {H : Heap} {locs : List Loc} (hG : GwC κ (w, n, c, s) H locs) {T : State} (hT : T.heap = H) (X : Stand (cp κ) (cl κ) (ce κ) rm (cs κ) (cm κ) (ca κ) (cb κ) (cmeth κ) (cc_ κ) T locs c s) : H.size = cN κ + n := by
  have h1 : T.heap.size ≤ (cs κ).heap.size + c := X.same.2.2.1
  have h2 := hG.2.2
  rw [hT] at h1
  simp only at h2
  have h3 : cN κ + n ≤ H.size := by
    by_cases hn : n = 0
    · subst hn
      have := hG.2.1.1
      omega
    · have h4 := (hG.1.1 (n - 1) _ (pl_at (by show n - 1 < n; omega))).lt
      have h5 : ad (cg κ) (n - 1) = cN κ + (n - 1) := F.2.2.2.2.2.1.2.2.1.1 _
      rw [h5] at h4
      omega
  omega
theorem pw_push {γ : Gm} {H H1 : Heap} {h : Nat} (hP : Pw γ w n H) (hh : H.size = h) (ha : ad γ n = h) (o1 : ∀ q, q < h → H1[q]? = H[q]?) (hc : va_at γ.1 cls (ad γ n, pcell γ w n) H1) : Pw γ w (n + 1) H1 := by
  refine ⟨?_, hP.2.le (by omega)⟩
  rw [← pl_push (γ := γ) (w := w) (n := n) rfl]
  refine va_P.app (hP.1.kept (fun k q hk => o1 q.1 (by rw [← hh]; exact (hP.1 k q hk).lt))) (fun k q hk => ?_)
  have hz : k < 1 := (List.getElem?_eq_some_iff.mp hk).1
  rw [show k = 0 by omega] at hk
  cases hk
  exact hc
set_option maxHeartbeats 100000 in
theorem jc_newI {x : Int32} (hn0 : 0 < n ∨ c = 0) (hs : sh n = (0, m)) (hw : Cond.arrayClass .int ∈ TG) (hx0 : ¬ x < 0) (hx : ix x = m) (hb : m * componentBytes .int ≤ 536870912) (hc1 : c + 1 ≤ rm.cells) (hs1 : s + m ≤ rm.slots) (hd : decode cc pc = .ok (.newarray .int, 2)) (jn : JC κ own cc nL rt rm (pc + 2) L (.ref (ad (cg κ) n) :: st) (w, n + 1, c + 1, s + m)) : JC κ own cc nL rt rm pc L (.int x :: st) (w, n, c, s) := fun F ls H locs hl hG => by
  intro T hT X
  have hz := jc_size hn0 F hG hT X
  have had : ad (cg κ) n = cN κ + n := F.2.2.2.2.2.1.2.2.1.1 n
  suffices K : WC κ rm c s H locs (F0 (cm κ) pc ls (.int x :: st)) from K T hT X
  refine va_newaK (atype := .int) (h := cN κ + n) (N := m) (n := x) (rest := st) (g := F0 (cm κ) pc ls (.int x :: st)) F.1 F.2.1 (F.2.2.2.2.1 _ hw) rfl hd rfl hx0 hx hb hc1 hs1 hz (fun H1 cA1 e1 z1 o1 hAr hNm => ?_)
  have hcA : cA1 = cid (cg κ) 0 := Option.some.inj (hNm.symm.trans (F.2.2.2.2.2.1.1.2 0 (cid (cg κ) 0, .int) rfl).2)
  rw [← had]
  refine jn F ls H1 locs hl ⟨pw_push hG.1 hz had o1 ?_, ⟨by have := hG.2.1.1; omega, fun q h1 h2 => (o1 q (by have := hG.2.1.1; omega)).trans (hG.2.1.2.1 q h1 h2), hG.2.1.2.2⟩, by have := hG.2.2; simp only at this ⊢; omega⟩
  rw [pcell_I hs (by decide) (by decide) (by decide), show w.1 n = (fun _ => 0) from (hG.1.2 n (Nat.le_refl n)).1]
  show H1[ad (cg κ) n]? = some (vp_cell _ _)
  rw [had, e1, hcA]
  rfl
set_option maxHeartbeats 100000 in
theorem jc_newB {x : Int32} (hn0 : 0 < n ∨ c = 0) (hs : sh n = (1, m)) (hw : Cond.arrayClass .byte ∈ TG) (hx0 : ¬ x < 0) (hx : ix x = m) (hb : m * componentBytes .byte ≤ 536870912) (hc1 : c + 1 ≤ rm.cells) (hs1 : s + m ≤ rm.slots) (hd : decode cc pc = .ok (.newarray .byte, 2)) (jn : JC κ own cc nL rt rm (pc + 2) L (.ref (ad (cg κ) n) :: st) (w, n + 1, c + 1, s + m)) : JC κ own cc nL rt rm pc L (.int x :: st) (w, n, c, s) := fun F ls H locs hl hG => by
  intro T hT X
  have hz := jc_size hn0 F hG hT X
  have had : ad (cg κ) n = cN κ + n := F.2.2.2.2.2.1.2.2.1.1 n
  suffices K : WC κ rm c s H locs (F0 (cm κ) pc ls (.int x :: st)) from K T hT X
  refine va_newaK (atype := .byte) (h := cN κ + n) (N := m) (n := x) (rest := st) (g := F0 (cm κ) pc ls (.int x :: st)) F.1 F.2.1 (F.2.2.2.2.1 _ hw) rfl hd rfl hx0 hx hb hc1 hs1 hz (fun H1 cA1 e1 z1 o1 hAr hNm => ?_)
  have hcA : cA1 = cid (cg κ) 1 := Option.some.inj (hNm.symm.trans (F.2.2.2.2.2.1.1.2 1 (cid (cg κ) 1, .byte) rfl).2)
  rw [← had]
  refine jn F ls H1 locs hl ⟨pw_push hG.1 hz had o1 ?_, ⟨by have := hG.2.1.1; omega, fun q h1 h2 => (o1 q (by have := hG.2.1.1; omega)).trans (hG.2.1.2.1 q h1 h2), hG.2.1.2.2⟩, by have := hG.2.2; simp only at this ⊢; omega⟩
  rw [pcell_I hs (by decide) (by decide) (by decide), show w.1 n = (fun _ => 0) from (hG.1.2 n (Nat.le_refl n)).1]
  show H1[ad (cg κ) n]? = some (vp_cell _ _)
  rw [had, e1, hcA]
  rfl
set_option maxHeartbeats 100000 in
theorem jc_newZ {x : Int32} (hn0 : 0 < n ∨ c = 0) (hs : sh n = (3, m)) (hw : Cond.arrayClass .boolean ∈ TG) (hx0 : ¬ x < 0) (hx : ix x = m) (hb : m * componentBytes .boolean ≤ 536870912) (hc1 : c + 1 ≤ rm.cells) (hs1 : s + m ≤ rm.slots) (hd : decode cc pc = .ok (.newarray .boolean, 2)) (jn : JC κ own cc nL rt rm (pc + 2) L (.ref (ad (cg κ) n) :: st) (w, n + 1, c + 1, s + m)) : JC κ own cc nL rt rm pc L (.int x :: st) (w, n, c, s) := fun F ls H locs hl hG => by
  intro T hT X
  have hz := jc_size hn0 F hG hT X
  have had : ad (cg κ) n = cN κ + n := F.2.2.2.2.2.1.2.2.1.1 n
  suffices K : WC κ rm c s H locs (F0 (cm κ) pc ls (.int x :: st)) from K T hT X
  refine va_newaK (atype := .boolean) (h := cN κ + n) (N := m) (n := x) (rest := st) (g := F0 (cm κ) pc ls (.int x :: st)) F.1 F.2.1 (F.2.2.2.2.1 _ hw) rfl hd rfl hx0 hx hb hc1 hs1 hz (fun H1 cA1 e1 z1 o1 hAr hNm => ?_)
  have hcA : cA1 = cid (cg κ) 3 := Option.some.inj (hNm.symm.trans (F.2.2.2.2.2.1.1.2 3 (cid (cg κ) 3, .boolean) rfl).2)
  rw [← had]
  refine jn F ls H1 locs hl ⟨pw_push hG.1 hz had o1 ?_, ⟨by have := hG.2.1.1; omega, fun q h1 h2 => (o1 q (by have := hG.2.1.1; omega)).trans (hG.2.1.2.1 q h1 h2), hG.2.1.2.2⟩, by have := hG.2.2; simp only at this ⊢; omega⟩
  rw [pcell_I hs (by decide) (by decide) (by decide), show w.1 n = (fun _ => 0) from (hG.1.2 n (Nat.le_refl n)).1]
  show H1[ad (cg κ) n]? = some (vp_cell _ _)
  rw [had, e1, hcA]
  rfl
set_option maxHeartbeats 100000 in
theorem jc_newJ {x : Int32} (hn0 : 0 < n ∨ c = 0) (hs : sh n = (2, m)) (hw : Cond.arrayClass .long ∈ TG) (hx0 : ¬ x < 0) (hx : ix x = m) (hb : m * componentBytes .long ≤ 536870912) (hc1 : c + 1 ≤ rm.cells) (hs1 : s + m ≤ rm.slots) (hd : decode cc pc = .ok (.newarray .long, 2)) (jn : JC κ own cc nL rt rm (pc + 2) L (.ref (ad (cg κ) n) :: st) (w, n + 1, c + 1, s + m)) : JC κ own cc nL rt rm pc L (.int x :: st) (w, n, c, s) := fun F ls H locs hl hG => by
  intro T hT X
  have hz := jc_size hn0 F hG hT X
  have had : ad (cg κ) n = cN κ + n := F.2.2.2.2.2.1.2.2.1.1 n
  suffices K : WC κ rm c s H locs (F0 (cm κ) pc ls (.int x :: st)) from K T hT X
  refine va_newaK (atype := .long) (h := cN κ + n) (N := m) (n := x) (rest := st) (g := F0 (cm κ) pc ls (.int x :: st)) F.1 F.2.1 (F.2.2.2.2.1 _ hw) rfl hd rfl hx0 hx hb hc1 hs1 hz (fun H1 cA1 e1 z1 o1 hAr hNm => ?_)
  have hcA : cA1 = cid (cg κ) 2 := Option.some.inj (hNm.symm.trans (F.2.2.2.2.2.1.1.2 2 (cid (cg κ) 2, .long) rfl).2)
  rw [← had]
  refine jn F ls H1 locs hl ⟨pw_push hG.1 hz had o1 ?_, ⟨by have := hG.2.1.1; omega, fun q h1 h2 => (o1 q (by have := hG.2.1.1; omega)).trans (hG.2.1.2.1 q h1 h2), hG.2.1.2.2⟩, by have := hG.2.2; simp only at this ⊢; omega⟩
  rw [pcell_J hs, show w.2 n = (fun _ => 0) from (hG.1.2 n (Nat.le_refl n)).2]
  show H1[ad (cg κ) n]? = some (vp_cell _ _)
  rw [had, e1, hcA]
  rfl
set_option maxHeartbeats 100000 in
theorem jc_newR {x : Int32} {idx : Nat} (hn0 : 0 < n ∨ c = 0) (hs : sh n = (4, m)) (hw : Cond.classLink own idx "LampYear$Standing" ∈ TG) (hx0 : ¬ x < 0) (hx : ix x = m) (hb : m * 4 ≤ 536870912) (hc1 : c + 1 ≤ rm.cells) (hs1 : s + m ≤ rm.slots) (hd : decode cc pc = .ok (.anewarray idx, 3)) (jn : JC κ own cc nL rt rm (pc + 3) L (.ref (ad (cg κ) n) :: st) (w, n + 1, c + 1, s + m)) : JC κ own cc nL rt rm pc L (.int x :: st) (w, n, c, s) := fun F ls H locs hl hG => by
  intro T hT X
  have hz := jc_size hn0 F hG hT X
  have had : ad (cg κ) n = cN κ + n := F.2.2.2.2.2.1.2.2.1.1 n
  subst hx
  suffices K : WC κ rm c s H locs (F0 (cm κ) pc ls (.int x :: st)) from K T hT X
  refine W.anew (n := x) (rest := st) (g := F0 (cm κ) pc ls (.int x :: st)) F.1 F.2.1 F.2.2.2.1 (F.2.2.2.2.1 _ hw) (va_AO.use F.2.2.2.2.2.1.2.2.2.2.2.2.2) rfl hd rfl hx0 hb hc1 hs1 (fun cA1 kA comp f1 f2 f3 f4 => ?_)
  generalize hH1 : H.push ({ cls := cA1, slots := Array.replicate x.toNatClampNeg .null, vm := .none } : Cell) = H1
  have e1 : H1[H.size]? = some (arrV cA1 x.toNatClampNeg (fun _ => .null)) := by rw [← hH1, Array.getElem?_push_size, ← arrV_new]
  have o1 : ∀ q : Nat, q < H.size → H1[q]? = H[q]? := fun q hq => by rw [← hH1, Array.getElem?_push, if_neg (Nat.ne_of_lt hq)]
  have z1 : H1.size = H.size + 1 := by rw [← hH1, Array.size_push]
  obtain ⟨kA2, comp2, g1, g2, g3, g4⟩ := (F.2.2.2.2.2.1.1.2 4 (cid (cg κ) 4, .object "LampYear$Standing") rfl).2
  have hcA : cA1 = cid (cg κ) 4 := Option.some.inj (f1.symm.trans g4)
  rw [show H.size = ad (cg κ) n from hz.trans had.symm]
  refine jn F ls H1 locs hl ⟨pw_push hG.1 hz had (fun q hq => o1 q (by omega)) ?_, ⟨by have := hG.2.1.1; omega, fun q h1 h2 => (o1 q (by have := hG.2.1.1; omega)).trans (hG.2.1.2.1 q h1 h2), hG.2.1.2.2⟩, by have := hG.2.2; simp only at this ⊢; omega⟩
  have hpr : pref (cg κ) w n = fun _ => none := by
    funext q
    unfold pref
    rw [show w.1 n = (fun _ => 0) from (hG.1.2 n (Nat.le_refl n)).1]
    rfl
  rw [pcell_R hs, hpr]
  show H1[ad (cg κ) n]? = some (vp_cell _ _)
  rw [had, ← hz, e1, hcA]
  rfl
def dfl (k : Nat) : Value := match k with
  | 0 => .int 0
  | 1 => .long 0
  | _ => .null
/-- what 'new' needs of the tables -/
def NWk (own : String) (idx ci k : Nat) : Prop := ∃ (C : String) (T : u_T) (N : Nat) (ty0 : Nat → FieldType), cls[ci]? = some (C, T, N) ∧ (∀ q ∈ u_ws C T N, q ∈ TG) ∧ (∀ k, k < N → parseFieldDescriptor (T k).2.2.1 = some (ty0 k)) ∧ Cond.classLink own idx C ∈ TG ∧ Cond.instantiable C N ∈ TG ∧ Cond.initialized C ∈ TG ∧ nf k = N ∧ ∀ j, j < N → defaultValue (ty0 j) = dfl (fk k j)
set_option maxHeartbeats 100000 in
theorem jc_new {idx ci N : Nat} (hn0 : 0 < n ∨ c = 0) (hW : NWk own idx ci n) (hs : sh n = (5, ci)) (hN : nf n = N) (hc1 : c + 1 ≤ rm.cells) (hs1 : s + N ≤ rm.slots) (hd : decode cc pc = .ok (.new idx, 3)) (jn : JC κ own cc nL rt rm (pc + 3) L (.ref (ad (cg κ) n) :: st) (w, n + 1, c + 1, s + N)) : JC κ own cc nL rt rm pc L st (w, n, c, s) := fun F ls H locs hl hG => by
  obtain ⟨C, T, N', ty0, hc, hin, hty, hcl, hins, hini, hnf, hdf⟩ := hW
  have hNN : N' = N := hnf.symm.trans hN
  subst hNN
  intro T0 hT X
  have hz := jc_size hn0 F hG hT X
  have had : ad (cg κ) n = cN κ + n := F.2.2.2.2.2.1.2.2.1.1 n
  have hKn := F.2.2.2.2.2.1.1.1 ci _ hc
  suffices K : WC κ rm c s H locs (F0 (cm κ) pc ls st) from K T0 hT X
  refine W.newcK (g := F0 (cm κ) pc ls st) F.1 F.2.1 F.2.2.2.1 (F.2.2.2.2.1 _ hcl) (F.2.2.2.2.1 _ hins) (F.2.2.2.2.1 _ hini) rfl hd hc1 hs1 hKn.2.1 hz (fun H1 kC hkC e1 z1 o1 => ?_)
  rw [← had]
  refine jn F ls H1 locs hl ⟨pw_push hG.1 hz had o1 ?_, ⟨by have := hG.2.1.1; omega, fun q h1 h2 => (o1 q (by have := hG.2.1.1; omega)).trans (hG.2.1.2.1 q h1 h2), hG.2.1.2.2⟩, by have := hG.2.2; simp only at this ⊢; omega⟩
  rw [pcell_O hs]
  rw [← had] at e1
  refine ⟨_, hc, (u_born ty0 F.2.2.2.2.1 hin hKn hkC e1 hty).to (fun j hj => ?_)⟩
  have hj' : j < nf n := by rw [hnf]; exact hj
  rw [hdf j hj]
  unfold vp_V
  rw [List.getD_eq_getElem?_getD, pfv_at hj']
  show dfl (fk n j) = pfv (cg κ) w n j
  unfold pfv
  cases hfk : fk n j with
  | zero => simp [dfl, pfvN, show w.1 n = (fun _ => 0) from (hG.1.2 n (Nat.le_refl n)).1]
  | succ q =>
    cases q with
    | zero => simp [dfl, pfvN, show w.2 n = (fun _ => 0) from (hG.1.2 n (Nat.le_refl n)).2]
    | succ q => simp [dfl, pfvN, show w.1 n = (fun _ => 0) from (hG.1.2 n (Nat.le_refl n)).1]
def OIk (own : String) (idx : Nat) : Prop := Cond.methodLink own idx Lib.objectInit ∈ TG ∧ Cond.instanceMethod Lib.objectInit ∈ TG ∧ Cond.code Lib.objectInit ⟨#[0xb1]⟩ 1 none ∈ TG
theorem jc_objInit {idx a : Nat} {z : Zt} (hO : OIk own idx) (hf : 1 ≤ rm.frames) (hlo : (st.map fun v => v.category).sum + 12 ≤ rm.locals) (hd : decode cc pc = .ok (.invokespecial idx, 3)) (jn : JC κ own cc nL rt rm (pc + 3) L st z) : JC κ own cc nL rt rm pc L (.ref a :: st) z := fun F ls H locs hl hG =>
  W.objInit F.1 F.2.1 F.2.2.2.1 (F.2.2.2.2.1 _ hO.1) (F.2.2.2.2.1 _ hO.2.1) (F.2.2.2.2.1 _ hO.2.2) rfl (hl.1.trans F.2.2.1.symm) rfl hd hf (by simp [JFrame.monitorRoom]; exact hlo) (jn F ls H locs hl hG)
end JCH
/-! contracts while the world is made -/
def PcC (γ : Gm) (A : Nat → Prop) (N : Nat) (w : Wd) (n : Nat) (U : State) : Prop := EvC γ A N U U.heap ∧ (∀ q, U.heap.size ≤ q → A q) ∧ Pw γ w n U.heap ∧ U.heap.size = N + n
def QcC (γ : Gm) (A : Nat → Prop) (v : Option Value) (w' : Wd) (n' : Nat) : Array Value → State → Outcome → State → Prop := fun _ st o t => o = .returned v ∧ Pw γ w' n' t.heap ∧ va_F A st t
def rmc (f n mc ms : Nat) : Room := { frames := f, cells := mc, slots := ms, locals := n }
def MetC (l : Launch) (γ : Gm) (A : Nat → Prop) (N : Nat) (y : MethodName) (cc : ByteArray) (nL : Nat) (rt : Option FieldType) (rm : Room) (av : List Value) (w : Wd) (n : Nat) (v : Option Value) (w' : Wd) (n' mc ms : Nat) : Prop :=
  Met l y (.code y cc nL rt :: TG) rm (va_Pc av (PcC γ A N w n)) (QcC γ A v w' n') mc ms A
theorem met_ofC {l : Launch} {γ : Gm} {A : Nat → Prop} {N : Nat} {y : MethodName} {cc : ByteArray} {nL : Nat} {rt : Option FieldType} {rm : Room} {av : List Value} {w : Wd} {n : Nat} {v : Option Value} {w' : Wd} {n' mc ms : Nat} (hy : plainName y.cls = true) (hav : (lg_sl av).length ≤ nL)
    (body : ∀ κ : KxC, cl κ = l → cg κ = γ → cA κ = A → cN κ = N → cρ κ = (fun a b => a = v ∧ b = (w', n', mc, ms)) → (cmeth κ).name = y.name → JC κ y.cls cc nL rt rm 0 (lv_args 0 av) [] (w, n, 0, 0)) : MetC l γ A N y cc nL rt rm av w n v w' n' mc ms := by
  refine Met.ofW (cc := cc) (maxL := nL) (ret := rt) hy rfl ?_
  intro p e s m args below meth c s₁ B hml hv
  obtain ⟨rfl, hE, hA, hP, hsz⟩ := hv
  have hx := B.exec
  have hb := B.bytes
  have hr := B.returns
  have hts := atoms_spec (ws := .code y cc nL rt :: TG) B.pre
  have hown : s.vm.findClass y.cls = some m.cls := findClass_of_methodNamed B.named
  have hlocks := B.notSynchronized
  have hin : meth.name = y.name := (name_of_methodNamed B.named B.method).1
  have hl := lv_entry av (n := nL) hav
  rw [lg_entry_eq]
  generalize (lg_sl av ++ List.replicate (nL - (lg_sl av).length) Slot.unset).toArray = ls at hl ⊢
  refine body (p, l, e, s, m, av.toArray, below, meth, c, MQ below (QcC γ A v w' n') av.toArray s mc ms A, γ, A, (fun a b => a = v ∧ b = (w', n', mc, ms)), N) rfl rfl rfl rfl rfl hin ⟨hx, hb, hml, hown, fun w hw => hts w (List.mem_cons_of_mem _ hw), hE, hA, trivial, ?_, ?_, ?_, ?_⟩ ls s.heap [] hl ⟨hP, va_S.rf, by show s.heap.size + 0 = N + n; omega⟩
  · intro x z H locs pc ls ty hty hn hρ hG hd
    obtain ⟨rfl, rfl⟩ := hρ
    exact W.zret hx hb (hr.trans hty) hn (fun t ht hW => ⟨rfl, by rw [ht]; exact hG.1, hG.2.1.F ht⟩) hG.2.1.2.2 hd hlocks
  · intro x z H locs pc ls hty hρ hG hd
    obtain ⟨rfl, rfl⟩ := hρ
    exact W.lret hx hb (hr.trans hty) (fun t ht hW => ⟨rfl, by rw [ht]; exact hG.1, hG.2.1.F ht⟩) hG.2.1.2.2 hd hlocks
  · intro z H locs pc ls hty hρ hG hd
    obtain ⟨rfl, rfl⟩ := hρ
    exact W.vret hx hb (hr.trans hty) (fun t ht hW => ⟨rfl, by rw [ht]; exact hG.1, hG.2.1.F ht⟩) hG.2.1.2.2 hd hlocks
  · intro x z H locs pc ls n hty hρ hG hd
    obtain ⟨rfl, rfl⟩ := hρ
    exact W.aret hx hb (hr.trans hty) (Or.inl ⟨n, rfl⟩) (Or.inr ⟨x, rfl⟩) (fun t ht hW => ⟨rfl, by rw [ht]; exact hG.1, hG.2.1.F ht⟩) hG.2.1.2.2 hd hlocks
theorem pc_blindC {γ : Gm} {A : Nat → Prop} {N : Nat} {av : List Value} {w : Wd} {n : Nat} : FrameBlind (va_Pc av (PcC γ A N w n)) := by
  intro a U g mk h
  obtain ⟨h0, h1, h2, h3⟩ := h
  exact ⟨h0, h1.calling, h2, h3⟩
section JCC
variable {κ : KxC} {own : String} {cc : ByteArray} {nL : Nat} {rt : Option FieldType} {rm : Room} {pc : Nat} {L : List (Nat × Value)} {st : List Value} {w : Wd} {n c s : Nat}
variable {y : MethodName} {yc : ByteArray} {yn : Nat} {yt : Option FieldType} {ym : Room} {idx na : Nat} {As : List Value} {v : Option Value} {w' : Wd} {n' mc ms : Nat} {k : Nat}
theorem jc_goes {H : Heap} {locs : List Loc} {ls : Array Slot} {st0 st' : List Value} {a : Array Value} (F : FxC κ own cc nL rt rm) (hl : lv_has ls nL L) (hG : GwC κ (w, n, c, s) H locs) (hst : v.toList ++ st = st') (hmc : n + mc = n')
    (hr : va_Run (cp κ) (cl κ) (ce κ) rm (cs κ) (cm κ) (ca κ) (cb κ) (cmeth κ) (cc_ κ) H locs c s mc ms (F0 (cm κ) pc ls st0) st (QcC (cg κ) (cA κ) v w' n' a) (cA κ)) (jn : JC κ own cc nL rt rm (pc + 3) L st' (w', n', c + mc, s + ms)) : WC κ rm c s H locs (F0 (cm κ) pc ls st0) := by
  intro T hT X
  obtain ⟨v1, st₀, t, T', L1, h0, X', hL, e1, e2, ⟨hv, hb, hz, hk⟩, stp⟩ := hr T hT X
  cases hv
  rw [h0] at hz hk
  have hS := hG.2.1
  obtain ⟨t2, a1, b1⟩ := jn F ls T'.heap (locs ++ L1) hl ⟨by rw [e1]; exact hb, ⟨Nat.le_trans hS.1 (by rw [e1]; exact hz), fun q h1 h2 => by rw [e1, hk q (Nat.lt_of_lt_of_le h1 hS.1) h2]; exact hS.2.1 q h1 h2, fun q hq => by
      rcases List.mem_append.mp hq with h | h
      · exact hS.2.2 q h
      · exact hL q h⟩, by have := hG.2.2; simp only at this ⊢; omega⟩ T' rfl X'
  rw [← hst] at a1
  exact ⟨t2, stp t2 a1, b1⟩
theorem jc_callI (st' : List Value) (hn0 : 0 < n ∨ c = 0) (hM : MetC (cl κ) (cg κ) (cA κ) (cN κ) y yc yn none ym (.ref (ad (cg κ) k) :: As) w n none w' n' mc ms) (hC : CLk own idx y yc yn none na) (hi : Cond.instanceMethod y ∈ TG) (hin : y.name = "<init>") (hmc : n + mc = n') (hr1 : ym.cells = mc ∧ ym.slots = ms) (hr2 : ym.frames + 1 ≤ rm.frames ∧ 8 + (yn + 11) + ym.locals ≤ rm.locals) (hr3 : c + mc ≤ rm.cells ∧ s + ms ≤ rm.slots) (hn : As.length = na) (hst : st = st') (hcat : (st.map fun v => v.category).sum ≤ 8) (hd : decode cc pc = .ok (.invokespecial idx, 3)) (st0 : List Value) (hst0 : As.reverse ++ .ref (ad (cg κ) k) :: st = st0) (jn : JC κ own cc nL rt rm (pc + 3) L st' (w', n', c + mc, s + ms)) : JC κ own cc nL rt rm pc L st0 (w, n, c, s) := fun F ls H locs hl hG => by
  subst hst0
  obtain ⟨hl1, hcode, hini, hd1⟩ := hC
  have hgood : GoodIn TG (.code y yc yn none :: TG) := tg_good (fun w hw => by
    rcases List.mem_cons.mp hw with rfl | h
    · exact hcode
    · exact h)
  intro T hT X
  have hz := jc_size hn0 F hG hT X
  have hp : PreS (cs κ) H (va_Pc (.ref (ad (cg κ) k) :: As) (PcC (cg κ) (cA κ) (cN κ) w n)) (.ref (ad (cg κ) k) :: As) := ⟨pc_blindC, fun U hU hW => ⟨rfl, by rw [hU]; exact F.2.2.2.2.2.1.call hG.2.1 hW, fun q hq => F.2.2.2.2.2.2.1 q (by rw [hU] at hq; exact Nat.le_trans hG.2.1.1 hq), by rw [hU]; exact hG.1, by rw [hU]; exact hz⟩⟩
  rcases hl1 with hl1 | ⟨host, hl1⟩
  · exact jc_goes F hl hG (v := none) hst hmc (va_runI (Ts := TG) ⟨F.1, F.2.1, F.2.2.1, F.2.2.2.1, F.2.2.2.2.1⟩ hM ⟨callB_of na F.2.2.2.2.1 hgood rfl hr1.1 hr1.2 (F.2.2.2.2.1 _ hini) (F.2.2.2.2.1 _ hl1) hd1 hr2, hin, F.2.2.2.2.1 _ hi⟩ hp rfl hn hl.1 rfl (lv_room hcat) hd hr3) jn T hT X
  · exact jc_goes F hl hG (v := none) hst hmc (va_runIN (Ts := TG) ⟨F.1, F.2.1, F.2.2.1, F.2.2.2.1, F.2.2.2.2.1⟩ hM ⟨va_cnB na F.2.2.2.2.1 hgood rfl hr1.1 hr1.2 (F.2.2.2.2.2.1.2.1 _ hl1) (F.2.2.2.2.1 _ hini) hd1 hr2, hin, F.2.2.2.2.1 _ hi⟩ hp rfl hn hl.1 rfl (lv_room hcat) hd hr3) jn T hT X
theorem jc_callS (st' : List Value) (hn0 : 0 < n ∨ c = 0) (hM : MetC (cl κ) (cg κ) (cA κ) (cN κ) y yc yn yt ym As w n v w' n 0 0) (hC : CLk own idx y yc yn yt na) (hi : Cond.static y ∈ TG) (hr1 : ym.cells = 0 ∧ ym.slots = 0) (hr2 : ym.frames + 1 ≤ rm.frames ∧ 8 + (yn + 11) + ym.locals ≤ rm.locals) (hr3 : c + 0 ≤ rm.cells ∧ s + 0 ≤ rm.slots) (hn : As.length = na) (hst : v.toList ++ st = st') (hcat : (st.map fun v => v.category).sum ≤ 8) (hd : decode cc pc = .ok (.invokestatic idx, 3)) (st0 : List Value) (hst0 : As.reverse ++ st = st0) (jn : JC κ own cc nL rt rm (pc + 3) L st' (w', n, c, s)) : JC κ own cc nL rt rm pc L st0 (w, n, c, s) := fun F ls H locs hl hG => by
  subst hst0
  obtain ⟨hl1, hcode, hini, hd1⟩ := hC
  have hgood : GoodIn TG (.code y yc yn yt :: TG) := tg_good (fun w hw => by
    rcases List.mem_cons.mp hw with rfl | h
    · exact hcode
    · exact h)
  intro T hT X
  have hz := jc_size hn0 F hG hT X
  have hp : PreS (cs κ) H (va_Pc As (PcC (cg κ) (cA κ) (cN κ) w n)) As := ⟨pc_blindC, fun U hU hW => ⟨rfl, by rw [hU]; exact F.2.2.2.2.2.1.call hG.2.1 hW, fun q hq => F.2.2.2.2.2.2.1 q (by rw [hU] at hq; exact Nat.le_trans hG.2.1.1 hq), by rw [hU]; exact hG.1, by rw [hU]; exact hz⟩⟩
  rcases hl1 with hl1 | ⟨host, hl1⟩
  · exact jc_goes F hl hG hst (Nat.add_zero n) (va_runS (Ts := TG) ⟨F.1, F.2.1, F.2.2.1, F.2.2.2.1, F.2.2.2.2.1⟩ hM ⟨callB_of na F.2.2.2.2.1 hgood rfl hr1.1 hr1.2 (F.2.2.2.2.1 _ hini) (F.2.2.2.2.1 _ hl1) hd1 hr2, F.2.2.2.2.1 _ hi⟩ hp rfl hn hl.1 rfl (lv_room hcat) hd hr3) jn T hT X
  · exact jc_goes F hl hG hst (Nat.add_zero n) (va_runSN (Ts := TG) ⟨F.1, F.2.1, F.2.2.1, F.2.2.2.1, F.2.2.2.2.1⟩ hM ⟨va_cnB na F.2.2.2.2.1 hgood rfl hr1.1 hr1.2 (F.2.2.2.2.2.1.2.1 _ hl1) (F.2.2.2.2.1 _ hini) hd1 hr2, F.2.2.2.2.1 _ hi, trivial⟩ hp rfl hn hl.1 rfl (lv_room hcat) hd hr3) jn T hT X
theorem jc_callT {i : Nat} (st' : List Value) (hn0 : 0 < n ∨ c = 0) (hM : MetC (cl κ) (cg κ) (cA κ) (cN κ) y yc yn yt ym (.ref (sK (cg κ) i) :: As) w n v w' n 0 0) (hC : CLk own idx y yc yn yt na) (hi : Cond.instanceMethod y ∈ TG) (hsel : Cond.selects y.cls y y ∈ TG) (hs : i < 4) (hc : y.cls = "java/lang/String") (hr1 : ym.cells = 0 ∧ ym.slots = 0) (hr2 : ym.frames + 1 ≤ rm.frames ∧ 8 + (yn + 11) + ym.locals ≤ rm.locals) (hr3 : c + 0 ≤ rm.cells ∧ s + 0 ≤ rm.slots) (hn : As.length = na) (hst : v.toList ++ st = st') (hcat : (st.map fun v => v.category).sum ≤ 8) (hd : decode cc pc = .ok (.invokevirtual idx, 3)) (st0 : List Value) (hst0 : As.reverse ++ .ref (sK (cg κ) i) :: st = st0) (jn : JC κ own cc nL rt rm (pc + 3) L st' (w', n, c, s)) : JC κ own cc nL rt rm pc L st0 (w, n, c, s) := fun F ls H locs hl hG => by
  subst hst0
  obtain ⟨hl1, hcode, hini, hd1⟩ := hC
  have hgood : GoodIn TG (.code y yc yn yt :: TG) := tg_good (fun w hw => by
    rcases List.mem_cons.mp hw with rfl | h
    · exact hcode
    · exact h)
  intro T hT X
  have hz := jc_size hn0 F hG hT X
  have hp : PreV (cs κ) H y.cls (sK (cg κ) i) (va_Pc (.ref (sK (cg κ) i) :: As) (PcC (cg κ) (cA κ) (cN κ) w n)) As := ⟨pc_blindC, by rw [hc]; exact vk_recv F.2.2.2.2.2.1.2.2.2.1 hs hG.2.1, fun U hU hW => ⟨rfl, by rw [hU]; exact F.2.2.2.2.2.1.call hG.2.1 hW, fun q hq => F.2.2.2.2.2.2.1 q (by rw [hU] at hq; exact Nat.le_trans hG.2.1.1 hq), by rw [hU]; exact hG.1, by rw [hU]; exact hz⟩⟩
  rcases hl1 with hl1 | ⟨host, hl1⟩
  · exact jc_goes F hl hG hst (Nat.add_zero n) (va_runV (Ts := TG) ⟨F.1, F.2.1, F.2.2.1, F.2.2.2.1, F.2.2.2.2.1⟩ hM ⟨callB_of na F.2.2.2.2.1 hgood rfl hr1.1 hr1.2 (F.2.2.2.2.1 _ hini) (F.2.2.2.2.1 _ hl1) hd1 hr2, F.2.2.2.2.1 _ hi, F.2.2.2.2.1 _ hsel⟩ hp rfl hn hl.1 rfl (lv_room hcat) hd hr3) jn T hT X
  · exact jc_goes F hl hG hst (Nat.add_zero n) (va_runVN (Ts := TG) ⟨F.1, F.2.1, F.2.2.1, F.2.2.2.1, F.2.2.2.2.1⟩ hM ⟨va_cnB na F.2.2.2.2.1 hgood rfl hr1.1 hr1.2 (F.2.2.2.2.2.1.2.1 _ hl1) (F.2.2.2.2.1 _ hini) hd1 hr2, F.2.2.2.2.1 _ hi, F.2.2.2.2.1 _ hsel⟩ hp rfl hn hl.1 rfl (lv_room hcat) hd hr3) jn T hT X
end JCC
section JCT
variable {κ : KxC} {own : String} {cc : ByteArray} {nL : Nat} {rt : Option FieldType} {rm : Room} {pc : Nat} {L : List (Nat × Value)} {st : List Value} {z : Zt} {α : Type} {P : α → Prop} {kk : Option α} {x : Int32}
theorem jc_ldcS {i : Nat} {q : String × Nat × String} {idx : Nat} (hq : strs[i]? = some q) (ho : q.1 = own) (hidx : q.2.1 = idx) (hd : decode cc pc = .ok (.ldc idx, 2)) (k : JC κ own cc nL rt rm (pc + 2) L (.ref (sK (cg κ) i) :: st) z) : JC κ own cc nL rt rm pc L st z := fun F ls H locs hl hG => by
  subst ho
  subst hidx
  exact va_ldcS F.1 F.2.1 F.2.2.2.1 (F.2.2.2.2.2.1.2.2.2.2.1 i q hq) hd (k F ls H locs hl hG)
theorem jc_textV {i idx : Nat} (hi : i < 4) (hl1 : Cond.fieldLink own idx "java/lang/String" "value" "[B" ∈ TG) (hd : decode cc pc = .ok (.getfield idx, 3)) (k : JC κ own cc nL rt rm (pc + 3) L (.ref (sV (cg κ) i) :: st) z) : JC κ own cc nL rt rm pc L (.ref (sK (cg κ) i) :: st) z := fun F ls H locs hl hG =>
  vk_getf F.1 F.2.1 (F.2.2.2.2.2.1.2.2.2.1.1 i hi).2.2.1 hG.2.1 F.2.2.2.1 (F.2.2.2.2.1 _ hl1) (fun _ h => h) hd (k F ls H locs hl hG)
theorem jc_textC {i idx : Nat} (hi : i < 4) (hl1 : Cond.fieldLink own idx "java/lang/String" "coder" "B" ∈ TG) (hd : decode cc pc = .ok (.getfield idx, 3)) (k : JC κ own cc nL rt rm (pc + 3) L (.int 0 :: st) z) : JC κ own cc nL rt rm pc L (.ref (sK (cg κ) i) :: st) z := fun F ls H locs hl hG =>
  vk_getf F.1 F.2.1 (F.2.2.2.2.2.1.2.2.2.1.1 i hi).2.1 hG.2.1 F.2.2.2.1 (F.2.2.2.2.1 _ hl1) (fun _ h => h) hd (k F ls H locs hl hG)
theorem jc_gets {idx : Nat} (hl1 : Cond.fieldLink own idx "java/lang/String" "COMPACT_STRINGS" "Z" ∈ TG) (hd : decode cc pc = .ok (.getstatic idx, 3)) (k : JC κ own cc nL rt rm (pc + 3) L (.int 1 :: st) z) : JC κ own cc nL rt rm pc L st z := fun F ls H locs hl hG =>
  va_gets F.1 F.2.1 F.2.2.2.2.2.1.2.2.2.2.2.1 hG.2.1 F.2.2.2.1 (F.2.2.2.2.1 _ hl1) (fun _ h => h) hd (k F ls H locs hl hG)
theorem jc_getsF (hd : decode cc pc = .ok (.getstatic 1053, 3)) (k : JC κ RJ0 cc nL rt rm (pc + 3) L (va_rf (fm (cg κ)) :: st) z) : JC κ RJ0 cc nL rt rm pc L st z := fun F ls H locs hl hG =>
  va_gets F.1 F.2.1 F.2.2.2.2.2.1.2.2.2.2.2.2.1 hG.2.1 F.2.2.2.1 (F.2.2.2.2.1 _ fw_RJ0_fm) (fun _ h => h) hd (k F ls H locs hl hG)
theorem jc_tb {i : Nat} (hi : i < 4) (hd : decode cc pc = .ok (.baload, 1)) (h : ok (gd (vp_in x (strN.getD i 0)) kk) P) (jn : ok kk P → JC κ own cc nL rt rm (pc + 1) L (.int ((strB.getD i []).getD (ix x) 0) :: st) z) : JC κ own cc nL rt rm pc L (.int x :: .ref (sV (cg κ) i) :: st) z := fun F ls H locs hl hG =>
  va_tb F.1 F.2.1 (F.2.2.2.2.2.1.2.2.2.1.1 i hi).2.2.2 hG.2.1 (ok_g h).1 rfl hd (jn (ok_g h).2 F ls H locs hl hG)
theorem jc_tlen {i : Nat} (hi : i < 4) (hd : decode cc pc = .ok (.arraylength, 1)) (jn : JC κ own cc nL rt rm (pc + 1) L (.int (Int32.ofNat (strN.getD i 0)) :: st) z) : JC κ own cc nL rt rm pc L (.ref (sV (cg κ) i) :: st) z := fun F ls H locs hl hG =>
  va_tlen F.1 F.2.1 (F.2.2.2.2.2.1.2.2.2.1.1 i hi).2.2.2 hG.2.1 rfl hd (jn F ls H locs hl hG)
end JCT
