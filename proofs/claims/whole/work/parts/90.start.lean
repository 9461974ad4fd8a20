/-! THE CLAIM OUT OF ONE WALK OF THE LAW'S BODY. Your part is whole_start (and what it stands on); all else here is the same for every law, but numbers. -/
def R_law : String := "LampYearLaw"
def lw_P (b : Addr) (xs : List Int32) (args : Array Value) (s : State) : Prop := args = #[.ref b] ∧ s.IntsAt b xs ∧ xs.length ≤ 3584 ∧ (Jvm.Cond.and given_1 narrow_1).before args s = true
def lw_Q (_ : Array Value) (s : State) (o : Outcome) (t : State) : Prop := o = .returned (some (.int 1)) ∧ Framed s o t [] 600000 7302250
def lw_Z (below : List Frame) (a : Array Value) (s : State) : State → Prop := fun t => ∃ o, t.status = .running ∧ Ended t below o ∧ lw_Q a s o t
/-- the law's own end, with 1 on the stack, nothing written that was there before, its room as the claim has it -/
theorem lw_ret {p : Program} {l : Launch} {e : Env} {s : State} {m : MethodId} {below : List Frame} {meth : Method} {c : Code} {b : Nat} (hx : p.tables.exec = Jvm.exec) (hb : c.code = code) (hr : meth.sig.returnType = ret) (hlocks : meth.locks = false) {pc : Nat} {H : Heap} {ls : Array Slot} (hdg : decode code pc = .ok (.ireturn, 1)) : W p l e room_1 s m #[Value.ref b] below meth c H [] 600000 7302250 (lw_Z below #[Value.ref b] s) (F0 m pc ls [.int 1]) := by
  intro T hT X
  obtain ⟨fs, hret, hrun, hended, hW, hframe⟩ := X.leave (v := some (.int 1)) (hlocks := hlocks) (fun h => by rw [hr] at h; cases h)
  have hmeth' : T.vm.method? m = some meth := X.method'
  refine ⟨T.setFrames fs, ?_, .returned (some (.int 1)), hrun, hended, rfl, ⟨_, rfl⟩, hW, hframe⟩
  jvm_step X.here [X.here.top, hx, hb, hdg, hmeth', hr, ret, narrow_b1]
  (try refine ⟨rfl, ?_⟩); (try refine ⟨rfl, ?_⟩)
  first | (intro acts; rw [hret _ acts rfl rfl rfl]) | rw [hret _ _ rfl rfl rfl]
  exact Steps.refl _
/-- what holds at the law's entry: the machine, the code, the tables' words (any of lw_tbl by 'hts w (by decide +kernel)'), the script of L ints xs at the cell b, what the Statement gives of the start (any of its parts by flat_of_before) -/
def lw_At (p : Program) (s : State) (m : MethodId) (meth : Method) (c : Code) (b L : Nat) (xs : Nat → Int32) : Prop :=
  p.tables.exec = Jvm.exec ∧ c.code = code ∧ meth.sig.returnType = ret ∧ c.maxLocals = 4 ∧ s.vm.findClass R_law = some m.cls ∧ (∀ w ∈ lw_tbl, w.before #[Value.ref b] s = true) ∧ va_X b L xs s s.heap ∧ b < s.heap.size ∧ meth.locks = false ∧ (Jvm.Cond.and given_1 narrow_1).before #[Value.ref b] s = true
theorem full_at {γ : Gm} {w : Wd} {H : Heap} (hF : Full w) {k : Nat} (hk : k < 178) (h : va_at γ.1 cls (ad γ k, pcell γ w k) H) : va_at γ.1 cls (ad γ k, cell γ w k) H := by
  by_cases h5 : (sh k).1 = 5
  · have e : pcell γ w k = cell γ w k := by
      unfold pcell cell
      rw [if_pos h5, if_pos h5]
      have e2 : (List.range (nf k)).map (pfv γ w k) = (List.range (nf k)).map (fv γ w k) := by
        apply List.map_congr_left
        intro j hj
        have hj := List.mem_range.mp hj
        unfold pfv fv
        cases hf : fk k j with
        | zero => rfl
        | succ q =>
          cases q with
          | zero => rfl
          | succ q =>
            have := hF.1 k j hk hj (by rw [hf]; omega)
            simp only [pfvN, fvN]
            rw [if_neg this]
      rw [e2]
    rw [← e]; exact h
  · by_cases h4 : (sh k).1 = 4
    · have h2 : ¬ (sh k).1 = 2 := by rw [h4]; decide
      have hk43 : k = 43 ∧ (sh k).2 = 4 := by
        have key : ∀ q, q < 178 → (sh q).1 = 4 → q = 43 ∧ (sh q).2 = 4 := by decide +kernel
        exact key k hk h4
      obtain ⟨rfl, h42⟩ := hk43
      unfold cell
      unfold pcell at h
      rw [if_neg h5, if_neg h2, if_pos h4, h42] at h ⊢
      have e : vp_cell (cid γ 4) (4, .inr (.inr (.inr (.inr (pref γ w 43))))) = vp_cell (cid γ 4) (4, .inr (.inr (.inr (.inr (fun i => some (ad γ (stc i))))))) := by
        rw [vp_cell_q, vp_cell_q]
        unfold arrV
        congr 2
        funext j
        have hj := hF.2 j.val j.isLt
        show va_rf (pref γ w 43 j.val) = va_rf (some (ad γ (stc j.val)))
        unfold pref
        rw [if_neg hj]
      exact Eq.trans h (by rw [e])
    · have e : pcell γ w k = cell γ w k := by
        unfold pcell cell
        rw [if_neg h5, if_neg h5, if_neg h4, if_neg h4]
      rw [← e]; exact h
theorem full_P {γ : Gm} {w : Wd} {H : Heap} (hF : Full w) (h : va_P γ.1 cls (pl γ w 178) H) : va_P γ.1 cls (wl γ w) H := by
  intro k q hq
  have hl : k < 178 := by
    have h1 := (List.getElem?_eq_some_iff.mp hq).1
    simpa [wl] using h1
  rw [wl_at hl] at hq
  cases hq
  exact full_at hF hl (h k _ (pl_at hl))
def tmS (i : Nat) : Term := Term.string (strs.getD i ("", 0, "")).1 (strs.getD i ("", 0, "")).2.1
theorem str_ok : (List.range 4).all (fun i => decide (Cond.exactly (tmS i) "java/lang/String" ∈ flatC (Jvm.Cond.and given_1 narrow_1)) && decide (Cond.eq (.field (tmS i) "java/lang/String" "coder" "B") (.int 0) ∈ flatC (Jvm.Cond.and given_1 narrow_1)) && decide (Cond.arrayOf (.field (tmS i) "java/lang/String" "value" "[B") .byte ∈ flatC (Jvm.Cond.and given_1 narrow_1)) && decide (Cond.eq (.length (.field (tmS i) "java/lang/String" "value" "[B")) (.int (Int32.ofNat (strN.getD i 0))) ∈ flatC (Jvm.Cond.and given_1 narrow_1)) && decide (strN.getD i 0 < 2 ^ 31) && decide (Cond.stringRef (strs.getD i ("", 0, "")).1 (strs.getD i ("", 0, "")).2.1 (strs.getD i ("", 0, "")).2.2 ∈ tables_1)) = true := by decide +kernel
def strBase : List Nat := [13, 105, 121, 179]
theorem str_el : (List.range 4).all (fun i => decide (((flatC (Jvm.Cond.and given_1 narrow_1)).drop (strBase.getD i 0)).take (strN.getD i 0) = (List.range (strN.getD i 0)).map (fun j => Cond.eq (.elem (.field (tmS i) "java/lang/String" "value" "[B") (.int (Int32.ofNat j))) (.int ((strB.getD i []).getD j 0))))) = true := by decide +kernel
theorem str_ne : (List.range 4).all (fun i => (List.range 4).all (fun j => i == j || decide (Cond.not (Cond.eq (tmS i) (tmS j)) ∈ flatC (Jvm.Cond.and given_1 narrow_1)) || decide (Cond.not (Cond.eq (tmS j) (tmS i)) ∈ flatC (Jvm.Cond.and given_1 narrow_1)))) = true := by decide +kernel
/-- what the start gives: addresses, classes, texts, statics -/
theorem start_env {p : Program} {s : State} {m : MethodId} {meth : Method} {c : Code} {b L : Nat} {xs : Nat → Int32} (C0 : lw_At p s m meth c b L xs) : ∃ γ : Gm, EvC γ (fun q => s.heap.size ≤ q) s.heap.size s s.heap := by
  obtain ⟨hx, hb, hr, hml, hown, hts, hX, hbl, hlocks, hgv⟩ := C0
  have hTG : ∀ w ∈ TG, w.before #[Value.ref b] s = true := fun w h => hts w (List.mem_filter.mp h).1
  have hTN : ∀ w ∈ TN, va_Nw w s := fun w h => va_Nw.of (by
    have h1 := (List.mem_filter.mp h).2
    cases w <;> first | rfl | exact absurd h1 (by simp [isNst])) (hts w (List.mem_append_right _ (List.mem_filter.mp h).1))
  have hA : ∀ a : Nat, a < s.heap.size → ¬ (fun q : Nat => s.heap.size ≤ q) a := fun a h => Nat.not_le.mpr h
  have hs := flat_of_before _ hgv
  obtain ⟨c0, i0, k0⟩ := u_known (C := RX0) (T := TX0) (N := 18) (n := 18) hTG layX0 (hts _ (List.mem_append_right _ (ti_1 189 rfl)))
  obtain ⟨c1, i1, k1⟩ := u_known (C := RX1) (T := TX1) (N := 1) (n := 1) hTG layX1 (hts _ (List.mem_append_right _ (ti_3 73 rfl)))
  obtain ⟨c2, i2, k2⟩ := u_known (C := RX2) (T := TX2) (N := 18) (n := 18) hTG layX2 (hts _ (List.mem_append_right _ (ti_1 53 rfl)))
  obtain ⟨c3, i3, k3⟩ := u_known (C := RX3) (T := TX3) (N := 4) (n := 4) hTG layX3 (hts _ (List.mem_append_right _ (ti_2 183 rfl)))
  obtain ⟨c4, i4, k4⟩ := u_known (C := RX4) (T := TX4) (N := 13) (n := 13) hTG layX4 (hts _ (List.mem_append_right _ (ti_1 133 rfl)))
  obtain ⟨c5, i5, k5⟩ := u_known (C := RX5) (T := TX5) (N := 8) (n := 8) hTG layX5 (hts _ (List.mem_append_right _ (ti_3 5 rfl)))
  obtain ⟨c6, i6, k6⟩ := u_known (C := RX6) (T := TX6) (N := 17) (n := 17) hTG layX6 (hts _ (List.mem_append_right _ (ti_2 69 rfl)))
  obtain ⟨c7, i7, k7⟩ := u_known (C := RX7) (T := TX7) (N := 8) (n := 8) hTG layX7 (hts _ (List.mem_append_right _ (ti_3 40 rfl)))
  obtain ⟨c8, i8, k8⟩ := u_known (C := RX8) (T := TX8) (N := 11) (n := 11) hTG layX8 (hts _ (List.mem_append_right _ (ti_1 196 rfl)))
  obtain ⟨c9, i9, k9⟩ := u_known (C := RX9) (T := TX9) (N := 3) (n := 3) hTG layX9 (hts _ (List.mem_append_right _ (ti_1 32 rfl)))
  obtain ⟨c10, i10, k10⟩ := u_known (C := RX10) (T := TX10) (N := 11) (n := 11) hTG layX10 (hts _ (List.mem_append_right _ (ti_2 204 rfl)))
  obtain ⟨c11, i11, k11⟩ := u_known (C := RX11) (T := TX11) (N := 11) (n := 11) hTG layX11 (hts _ (List.mem_append_right _ (ti_1 24 rfl)))
  obtain ⟨c12, i12, k12⟩ := u_known (C := RX12) (T := TX12) (N := 108) (n := 108) hTG layX12 (hts _ (List.mem_append_right _ (ti_6 197 rfl)))
  obtain ⟨cI, kI, pI, a1, a2, a3⟩ := Cond.arrayClass_spec (hTG _ aw_I)
  obtain ⟨cB, kB, pB, b1, b2, b3⟩ := Cond.arrayClass_spec (hTG _ aw_B)
  obtain ⟨cJ, kJ, pJ, d1, d2, d3⟩ := Cond.arrayClass_spec (hTG _ aw_J)
  obtain ⟨cZ, kZ, pZ, e1, e2, e3⟩ := Cond.arrayClass_spec (hTG _ aw_Z)
  have hAO : (Cond.arrayOver (.object "LampYear$Standing")).before #[Value.ref b] s = true := hts _ (List.mem_append_right _ (ti_1 195 rfl))
  obtain ⟨comp, cR, kR, g1, g2, g3, g4, g5⟩ := Cond.arrayOver_spec hAO
  have hall := List.all_eq_true.mp str_ok
  have hok : ∀ i : Nat, i < 4 → Cond.exactly (tmS i) "java/lang/String" ∈ flatC (Jvm.Cond.and given_1 narrow_1) ∧ Cond.eq (.field (tmS i) "java/lang/String" "coder" "B") (.int 0) ∈ flatC (Jvm.Cond.and given_1 narrow_1) ∧ Cond.arrayOf (.field (tmS i) "java/lang/String" "value" "[B") .byte ∈ flatC (Jvm.Cond.and given_1 narrow_1) ∧ Cond.eq (.length (.field (tmS i) "java/lang/String" "value" "[B")) (.int (Int32.ofNat (strN.getD i 0))) ∈ flatC (Jvm.Cond.and given_1 narrow_1) ∧ strN.getD i 0 < 2 ^ 31 ∧ Cond.stringRef (strs.getD i ("", 0, "")).1 (strs.getD i ("", 0, "")).2.1 (strs.getD i ("", 0, "")).2.2 ∈ tables_1 := by
    intro i hi
    have h := hall i (List.mem_range.mpr hi)
    simp only [Bool.and_eq_true, decide_eq_true_eq] at h
    exact ⟨h.1.1.1.1.1, h.1.1.1.1.2, h.1.1.1.2, h.1.1.2, h.1.2, h.2⟩
  have hel : ∀ i : Nat, i < 4 → ∀ j : Nat, j < strN.getD i 0 → Cond.eq (.elem (.field (tmS i) "java/lang/String" "value" "[B") (.int (Int32.ofNat j))) (.int ((strB.getD i []).getD j 0)) ∈ flatC (Jvm.Cond.and given_1 narrow_1) := by
    intro i hi j hj
    have h := of_decide_eq_true (List.all_eq_true.mp str_el i (List.mem_range.mpr hi))
    have h2 : Cond.eq (.elem (.field (tmS i) "java/lang/String" "value" "[B") (.int (Int32.ofNat j))) (.int ((strB.getD i []).getD j 0)) ∈ (List.range (strN.getD i 0)).map (fun j => Cond.eq (.elem (.field (tmS i) "java/lang/String" "value" "[B") (.int (Int32.ofNat j))) (.int ((strB.getD i []).getD j 0))) := List.mem_map.mpr ⟨j, List.mem_range.mpr hj, rfl⟩
    rw [← h] at h2
    exact List.mem_of_mem_drop (List.mem_of_mem_take h2)
  obtain ⟨sk1, sv1, hS, hK⟩ := vk_Sof (args := #[Value.ref b]) (s := s) (N := 4) (tm := tmS) (len := strN) (byt := strB) (A := fun q => s.heap.size ≤ q) (fun i hi => (hok i hi).2.2.2.2.1) (fun i hi => hs _ (hok i hi).1) (fun i hi => hs _ (hok i hi).2.1) (fun i hi => hs _ (hok i hi).2.2.1) (fun i hi => hs _ (hok i hi).2.2.2.1) (fun i hi j hj => hs _ (hel i hi j hj)) (fun i j hi hj hij => by
    have h := List.all_eq_true.mp (List.all_eq_true.mp str_ne i (List.mem_range.mpr hi)) j (List.mem_range.mpr hj)
    simp only [Bool.or_eq_true, decide_eq_true_eq, beq_iff_eq] at h
    rcases h with (h | h) | h
    · exact absurd h hij
    · exact Or.inl (hs _ h)
    · exact Or.inr (hs _ h)) hA
  have hZ := va_Zof (C := "java/lang/String") (n := "COMPACT_STRINGS") (d := "Z") (v := .int 1) (A := fun q => s.heap.size ≤ q) (hts _ (List.mem_append_right _ (ti_2 84 rfl))) (hts _ (List.mem_append_right _ (ti_1 9 rfl))) (va_eqi (hs _ (by decide +kernel))) hA
  have hZq := va_Zqof (C := "jdk/internal/util/Preconditions") (n := "SIOOBE_FORMATTER") (d := "Ljava/util/function/BiFunction;") (A := fun q => s.heap.size ≤ q) (hts _ (List.mem_append_right _ (ti_2 100 rfl))) (hts _ (List.mem_append_right _ (ti_1 11 rfl))) (hs _ (by decide +kernel)) hA
  have hfm : ∃ f : Option Nat, va_Z "jdk/internal/util/Preconditions" "SIOOBE_FORMATTER" "Ljava/util/function/BiFunction;" (va_rf f) (fun q => s.heap.size ≤ q) s s.heap := by
    rcases hZq with h | ⟨t, h⟩
    · exact ⟨none, h⟩
    · exact ⟨some t, h⟩
  obtain ⟨f, hf⟩ := hfm
  refine ⟨((fun k => [c0, c1, c2, c3, c4, c5, c6, c7, c8, c9, c10, c11, c12].getD k c0, fun k => [i0, i1, i2, i3, i4, i5, i6, i7, i8, i9, i10, i11, i12].getD k i0), fun k => s.heap.size + k, fun t => [cI, cB, cJ, cZ, cR].getD t cI, sk1, sv1, f), ⟨?_, ?_⟩, hTN, ⟨fun _ => rfl, fun _ => Iff.rfl⟩, hS, ?_, hZ, hf, va_AO.of hAO⟩
  · intro k q hq
    match k, hq with
    | 0, hq => cases hq; exact k0
    | 1, hq => cases hq; exact k1
    | 2, hq => cases hq; exact k2
    | 3, hq => cases hq; exact k3
    | 4, hq => cases hq; exact k4
    | 5, hq => cases hq; exact k5
    | 6, hq => cases hq; exact k6
    | 7, hq => cases hq; exact k7
    | 8, hq => cases hq; exact k8
    | 9, hq => cases hq; exact k9
    | 10, hq => cases hq; exact k10
    | 11, hq => cases hq; exact k11
    | 12, hq => cases hq; exact k12
    | k + 13, hq => simp [cls] at hq
  · intro k q hq
    match k, hq with
    | 0, hq => cases hq; exact ⟨fun n z => ⟨fun k h => (by cases h), kI, a2, pI, a3⟩, a1⟩
    | 1, hq => cases hq; exact ⟨fun n z => ⟨fun k h => (by cases h), kB, b2, pB, b3⟩, b1⟩
    | 2, hq => cases hq; exact ⟨fun n z => ⟨fun k h => (by cases h), kJ, d2, pJ, d3⟩, d1⟩
    | 3, hq => cases hq; exact ⟨fun n z => ⟨fun k h => (by cases h), kZ, e2, pZ, e3⟩, e1⟩
    | 4, hq => cases hq; exact ⟨fun n z => ⟨fun k h => (by cases h), kR, g3, comp, g4⟩, kR, comp, g3, g4, g1, g5⟩
    | k + 5, hq => simp [tys] at hq
  · intro i q hq
    have hi : i < 4 := (List.getElem?_eq_some_iff.mp hq).1
    have hg : strs.getD i ("", 0, "") = q := by rw [List.getD_eq_getElem?_getD, hq]; rfl
    have h1 := hts _ (List.mem_append_right _ (hok i hi).2.2.2.2.2)
    have h2 := hK i hi
    unfold tmS at h2
    rw [hg] at h1 h2
    exact vk_R.of h1 h2
set_option maxHeartbeats 4000000 in
set_option maxRecDepth 100000 in
theorem whole_start {p : Program} {e : Env} {s : State} {m : MethodId} {below : List Frame} {meth : Method} {c : Code} (l : Launch) {b L : Nat} {xs : Nat → Int32} (hL : L ≤ 3584) (C0 : lw_At p s m meth c b L xs) : W p l e room_1 s m #[Value.ref b] below meth c s.heap [] 0 0 (lw_Z below #[Value.ref b] s) (entryFrame m ([Value.ref b] : List Value).toArray 4) := by
  obtain ⟨γ, hE⟩ := start_env C0
  obtain ⟨hx, hb, hr, hml, hown, hts, hX, hbl, hlocks, hgv⟩ := C0
  have hTG : ∀ w ∈ TG, w.before #[Value.ref b] s = true := fun w h => hts w (List.mem_filter.mp h).1
  obtain ⟨w1, w2, q1, q2, hF, hok⟩ := pure_main b L xs hL
  have hl := lv_entry ([.ref b]) (n := 4) (Nat.le_of_ble_eq_true rfl)
  rw [lg_entry_eq]
  generalize (lg_sl ([.ref b]) ++ List.replicate (4 - (lg_sl ([.ref b])).length) Slot.unset).toArray = ls at hl ⊢
  have hl : lv_has ls 4 [(0, .ref b)] := hl
  obtain ⟨κ, hκ⟩ : ∃ κ : KxC, κ = (p, l, e, s, m, #[Value.ref b], below, meth, c, lw_Z below #[Value.ref b] s, γ, (fun q => s.heap.size ≤ q), (fun _ _ => False), s.heap.size) := ⟨_, rfl⟩
  obtain ⟨κ2, hκ2⟩ : ∃ κ : Kx, κ = (p, l, e, s, m, #[Value.ref b], below, meth, c, lw_Z below #[Value.ref b] s, γ, (fun q => s.heap.size ≤ q), (fun v _ => v = some (.int 1)), 178, 80513) := ⟨_, rfl⟩
  have hXS : XS κ2 b L xs := by subst hκ2; exact ⟨hX, hbl, Nat.not_le.mpr hbl⟩
  have hJ : J κ2 RL cL_law 4 (some .boolean) room_1 18 [(0, .ref b), (1, .ref (ad (gm κ2) 0)), (2, .ref (ad (gm κ2) 97)), (3, .int (0 : Int32))] [] w2 := by
    refine t_L_law_b18 b L xs hXS (P := fun _ => True) (fun w _ => ?_) ((0 : Int32), w2) hok
    refine j_iconst (1 : Int32) dL_law_1731 ki_1 ?_
    exact j_iret dL_law_1732 rfl (by decide) (by subst hκ2; rfl)
  have hF2 : Fx κ2 RL cL_law 4 (some .boolean) room_1 := by
    subst hκ2
    refine ⟨hx, hb, hml, hown, hTG, ⟨hE.1, hE.2.1, ⟨fun i j hi hj h => ?_, fun k hk => ?_⟩, hE.2.2.2.1, hE.2.2.2.2.1, hE.2.2.2.2.2.1, hE.2.2.2.2.2.2.1⟩, fun q h => h, ⟨by show 178 ≤ 600000; decide, by show 80513 ≤ 7302250; decide⟩, ?_, ?_, ?_, ?_⟩
    · have h : ad γ i = ad γ j := h
      rw [hE.2.2.1.1, hE.2.2.1.1] at h
      omega
    · show s.heap.size ≤ ad γ k
      rw [hE.2.2.1.1]
      omega
    · intro x w H locs pc ls ty hty hn hρ hG hd
      cases hρ
      refine va_forget (fun q hq => hG.2.2.2 q hq) ?_
      refine W.widen (k := 600000) (n := 7302250) (by show 178 ≤ 600000; decide) (by show 80513 ≤ 7302250; decide) ?_
      exact lw_ret hx hb hr hlocks hd
    · intro x w H locs pc ls hty
      cases hty
    · intro w H locs pc ls hty
      cases hty
    · intro x w H locs pc ls n hty
      cases hty
  have hC : JC κ RL cL_law 4 (some .boolean) room_1 0 [(0, .ref b)] [] (zw, 0, 0, 0) := by
    refine jc_new (N := 11) (by decide) nw_RL_7_0 sh_0 nf_0 (by decide) (by decide) dL_law_0 ?_
    refine jc_dup dL_law_3 rfl ?_
    refine jc_callI (As := []) (st := [.ref (ad (cg κ) 0)]) [.ref (ad (cg κ) 0)] (by decide) (k_X11_init (cl κ) (cg κ) (cA κ) (cN κ) zw w1 q1) ck_RL_9 im_X11_init rfl rfl ⟨rfl, rfl⟩ ⟨by decide, by decide⟩ ⟨by decide, by decide⟩ rfl rfl (Nat.le_of_ble_eq_true rfl) dL_law_4 _ rfl ?_
    refine jc_astore_n [(1, .ref (ad (cg κ) 0)), (0, .ref b)] dL_law_7 rfl (by decide) rfl ?_
    refine jc_new (N := 108) (by decide) nw_RL_10_97 sh_97 nf_97 (by decide) (by decide) dL_law_8 ?_
    refine jc_dup dL_law_11 rfl ?_
    refine jc_callI (As := []) (st := [.ref (ad (cg κ) 97)]) [.ref (ad (cg κ) 97)] (by decide) (k_X12_init (cl κ) (cg κ) (cA κ) (cN κ) w1 w2 q2) ck_RL_12 im_X12_init rfl rfl ⟨rfl, rfl⟩ ⟨by decide, by decide⟩ ⟨by decide, by decide⟩ rfl rfl (Nat.le_of_ble_eq_true rfl) dL_law_12 _ rfl ?_
    refine jc_astore_n [(2, .ref (ad (cg κ) 97)), (1, .ref (ad (cg κ) 0)), (0, .ref b)] dL_law_15 rfl (by decide) rfl ?_
    refine jc_iconst (0 : Int32) dL_law_16 ki_0 ?_
    refine jc_istore_n [(3, .int (0 : Int32)), (2, .ref (ad (cg κ) 97)), (1, .ref (ad (cg κ) 0)), (0, .ref b)] dL_law_17 rfl (by decide) rfl ?_
    refine jc_loc [(0, .ref b), (1, .ref (ad (cg κ) 0)), (2, .ref (ad (cg κ) 97)), (3, .int (0 : Int32))] [3, 2, 1, 0] rfl ?_
    intro F ls H locs hl hG
    subst hκ
    subst hκ2
    exact hJ hF2 ls H locs hl ⟨full_P hF hG.1.1, hG.2.1⟩
  subst hκ
  refine hC ⟨hx, hb, hml, hown, hTG, hE, fun q h => h, trivial, ?_, ?_, ?_, ?_⟩ ls s.heap [] hl ⟨⟨?_, fun k _ => ⟨rfl, rfl⟩⟩, va_S.rf, rfl⟩
  · intro x z H locs pc ls ty hty hn hρ
    exact hρ.elim
  · intro x z H locs pc ls hty hρ
    exact hρ.elim
  · intro z H locs pc ls hty hρ
    exact hρ.elim
  · intro x z H locs pc ls n hty hρ
    exact hρ.elim
  · intro k q hq
    simp [pl] at hq
