/-! the model: does a TEST hold? -/
theorem j144_e {a1 a2 : Int32} {p c g : Bool} {k : Nat} (hk : k < 1500) {v : Wd} (h : v.1 138 k = bI g) : X12_holds_j144 a1 a2 (bI p) (nI k) (bI c) v = some (.inl (bI (p && xor c g), nI (k + 1), v)) := by
  unfold X12_holds_j144 X12_holds_j166 X12_holds_j167
  rw [show nI k + (1 : Int32) = nI (k + 1) from by rw [show (1 : Int32) = nI 1 from rfl, nI_add]]
  cases p with
  | false => rw [if_pos (show bI false = 0 from rfl)]; rfl
  | true =>
    rw [if_neg (show ¬ bI true = 0 by decide), gdn hk (by omega), ixn (by omega), h]
    cases c <;> cases g
    · rw [if_pos rfl]; rfl
    · rw [if_neg (show ¬ bI false = bI true by decide)]; rfl
    · rw [if_neg (show ¬ bI true = bI false by decide)]; rfl
    · rw [if_pos rfl]; rfl
theorem SGN.fr {w v : Wd} {s : Nat} {C : List Nat} (h : SGN w s C) (e : Fr [160] [] w v) : SGN v s C := fun i hi => by
  rw [(e 140 (by decide) (s + i) (by simp)).1, (e 141 (by decide) (s + i) (by simp)).1]; exact h i hi
theorem j35_e {w v : Wd} {F : Nat → Int64} (hF : ∀ i, i < 7 → w.2 159 i = F i) {S : Nat} (hS : S ≤ 4000) {k : Nat} (hk : k < 1500) {o : One} (h1 : OneAt w k o S) (h2 : okOne o) (hv : Fr [160] [] w v) {p : Bool} {a1 a2 : Int32} : ∃ v', X12_holds_j35 a1 a2 (bI p) (nI k) v = some (.inl (bI (p && ovl F o), nI (k + 1), v')) ∧ Fr [160] [] w v' := by
  obtain ⟨-, k1, k2, s, k3, k4, k5, k6, k7, k8⟩ := h1
  obtain ⟨o1, o2, o3, o4, o5⟩ := h2
  have rd : ∀ u : Wd, Fr [160] [] w u → (∀ q, q ≠ 160 → u.1 q = w.1 q) ∧ ∀ i, i < 7 → u.2 159 i = F i := fun u hu => ⟨fun q hq => (hu.row q (by simpa using hq) (by simp)).1, fun i hi => by rw [(hu 159 (by decide) i (by simp)).2]; exact hF i hi⟩
  have rv := rd v hv
  obtain ⟨v1, x1, x2⟩ := work_e rv.2 (k7.fr hv) o4 (by omega) o2
  have hv1 : Fr [160] [] w v1 := hv.tr x2
  have rv1 := rd v1 hv1
  obtain ⟨v2, y1, y2⟩ := work_e rv1.2 (k8.fr hv1) o5 (by omega) o3
  have hv2 : Fr [160] [] w v2 := hv1.tr y2
  have rv2 := rd v2 hv2
  refine ⟨v2, ?_, hv2⟩
  have e138 : v2.1 138 k = bI o.2.1 := by rw [rv2.1 138 (by omega)]; exact k1
  have e137 : v2.1 137 k = nI o.2.2.1 := by rw [rv2.1 137 (by omega)]; exact k2
  have f134 : v.1 134 k = nI s := by rw [rv.1 134 (by omega)]; exact k3
  have f135 : v.1 135 k = nI (s + o.2.2.2.1.length) := by rw [rv.1 135 (by omega)]; exact k4
  have g135 : v1.1 135 k = nI (s + o.2.2.2.1.length) := by rw [rv1.1 135 (by omega)]; exact k4
  have g136 : v1.1 136 k = nI (s + o.2.2.2.1.length + o.2.2.2.2.length) := by rw [rv1.1 136 (by omega)]; exact k5
  have j0 : X12_holds_j144 a1 a2 (bI p) (nI k) (nI 0) v2 = some (.inl (bI (p && xor false o.2.1), nI (k + 1), v2)) := j144_e (c := false) hk e138
  have j1 : X12_holds_j144 a1 a2 (bI p) (nI k) (nI 1) v2 = some (.inl (bI (p && xor true o.2.1), nI (k + 1), v2)) := j144_e (c := true) hk e138
  unfold X12_holds_j35 ovl cpv
  have ht : ∀ t, o.2.2.1 = t → (t = 60 ∨ t = 61 ∨ t = 62) → (X12_work (nI s) (nI (s + o.2.2.2.1.length)) v).bind (fun q1 => (X12_work (q1.2.1 135 k) (q1.2.1 136 k) q1.2).bind (fun q3 => if q3.2.1 137 k = nI 60 then (if nI 0 ≤ lg_cmp q1.1 q3.1 then X12_holds_j144 a1 a2 (bI p) (nI k) (nI 0) q3.2 else X12_holds_j144 a1 a2 (bI p) (nI k) (nI 1) q3.2) else if q3.2.1 137 k = nI 62 then (if lg_cmp q1.1 q3.1 ≤ nI 0 then X12_holds_j144 a1 a2 (bI p) (nI k) (nI 0) q3.2 else X12_holds_j144 a1 a2 (bI p) (nI k) (nI 1) q3.2) else (if lg_cmp q1.1 q3.1 = nI 0 then X12_holds_j144 a1 a2 (bI p) (nI k) (nI 1) q3.2 else X12_holds_j144 a1 a2 (bI p) (nI k) (nI 0) q3.2))) = some (.inl (bI (p && xor (if t = 60 then decide (vS F o.2.2.2.1 < vS F o.2.2.2.2) else if t = 62 then decide (vS F o.2.2.2.2 < vS F o.2.2.2.1) else decide (vS F o.2.2.2.1 = vS F o.2.2.2.2)) o.2.1), nI (k + 1), v2)) := by
    intro t et ht
    rw [x1]
    simp only [Option.bind_some]
    rw [g135, g136, y1]
    simp only [Option.bind_some]
    rw [e137, et]
    rcases ht with rfl | rfl | rfl
    · rw [if_pos (show nI 60 = nI 60 from rfl), if_pos (show 60 = 60 from rfl)]
      by_cases z : vS F o.2.2.2.1 < vS F o.2.2.2.2
      · rw [if_neg (by rw [cge]; exact fun y => y z), j1, decide_eq_true z]
      · rw [if_pos (by rw [cge]; exact z), j0, decide_eq_false z]
    · rw [if_neg (show ¬ nI 61 = nI 60 by decide), if_neg (show ¬ nI 61 = nI 62 by decide), if_neg (show ¬ 61 = 60 by decide), if_neg (show ¬ 61 = 62 by decide)]
      by_cases z : vS F o.2.2.2.1 = vS F o.2.2.2.2
      · rw [if_pos (by rw [cmpz]; exact z), j1, decide_eq_true z]
      · rw [if_neg (by rw [cmpz]; exact z), j0, decide_eq_false z]
    · rw [if_neg (show ¬ nI 62 = nI 60 by decide), if_pos (show nI 62 = nI 62 from rfl), if_neg (show ¬ 62 = 60 by decide), if_pos (show 62 = 62 from rfl)]
      by_cases z : vS F o.2.2.2.2 < vS F o.2.2.2.1
      · rw [if_neg (by rw [cle]; exact fun y => y z), j1, decide_eq_true z]
      · rw [if_pos (by rw [cle]; exact z), j0, decide_eq_false z]
  have ht2 := ht o.2.2.1 rfl o1
  rw [gdn hk (by omega), gdn hk (by omega), ixn (by omega), f134, f135]
  simp only [gdn hk (show 1500 < 2 ^ 31 by omega)]
  exact ht2
theorem TA_app {w : Wd} {O S : Nat} {T : List One} : ∀ {L : List One}, TA w O S (L ++ T) → TA w O S T
  | [], h => h
  | _ :: _, h => TA_app h.2
theorem tst_mono {F : Nat → Int64} {T : List One} (h : (tst F T).1 = true) : ∀ L : List One, (tst F (L ++ T)).1 = true
  | [] => h
  | o :: L => by
    have := tst_mono h L
    show (if o.1 = true ∧ L ++ T ≠ [] then ((tst F (L ++ T)).1 || (tst F (L ++ T)).2, ovl F o) else ((tst F (L ++ T)).1, (tst F (L ++ T)).2 && ovl F o)).1 = true
    split
    · show ((tst F (L ++ T)).1 || (tst F (L ++ T)).2) = true
      rw [this, Bool.true_or]
    · exact this
theorem holds_lp {w : Wd} {F : Nat → Int64} (hF : ∀ i, i < 7 → w.2 159 i = F i) {O S N : Nat} (hS : S ≤ 4000) (hN : O + N ≤ 1500) : ∀ (Q T : List One) (v : Wd), TA w O S (Q.reverse ++ T) → (∀ o ∈ Q.reverse ++ T, okOne o) → Q.length + T.length = N → Fr [160] [] w v → (tst F T).1 = false → ∃ e v', lp (X12_holds_b5 (nI O) (nI (O + N))) (bI (tst F T).2, nI (O + T.length), v) = some e ∧ Fr [160] [] w v' ∧ ((e = .inl v' ∧ hld F (Q.reverse ++ T) = true) ∨ e = .inr (bI (hld F (Q.reverse ++ T)), v'))
  | [], T, v, h1, h2, h3, h4, h5 => by
    rw [List.length_nil, Nat.zero_add] at h3
    refine ⟨_, v, lp_exit ?_, h4, Or.inr rfl⟩
    unfold X12_holds_b5
    rw [h3, if_pos (by rw [nI_leI (by omega) (by omega)]; exact Nat.le_refl _)]
    show _ = some (Sum.inr (Sum.inr (bI (hld F T), v)))
    unfold hld
    rw [h5, Bool.false_or]
  | o :: Q, T, v, h1, h2, h3, h4, h5 => by
    rw [List.length_cons] at h3
    have e : (o :: Q).reverse ++ T = Q.reverse ++ (o :: T) := by rw [List.reverse_cons, List.append_assoc]; rfl
    rw [e] at h1 h2 ⊢
    have hO : OneAt w (O + T.length) o S := (TA_app h1).1
    have ho : okOne o := h2 o (List.mem_append_right _ List.mem_cons_self)
    have e139 : v.1 139 (O + T.length) = bI o.1 := by rw [(h4 139 (by decide) _ (by simp)).1]; exact hO.1
    have hlt : ¬ nI (O + N) ≤ nI (O + T.length) := by rw [nI_leI (by omega) (by omega)]; omega
    have go : ∀ p : Bool, (tst F (o :: T)) = (false, p && ovl F o) → X12_holds_b5 (nI O) (nI (O + N)) (bI (tst F T).2, nI (O + T.length), v) = X12_holds_j35 (nI O) (nI (O + N)) (bI p) (nI (O + T.length)) v → ∃ e v', lp (X12_holds_b5 (nI O) (nI (O + N))) (bI (tst F T).2, nI (O + T.length), v) = some e ∧ Fr [160] [] w v' ∧ ((e = .inl v' ∧ hld F (Q.reverse ++ (o :: T)) = true) ∨ e = .inr (bI (hld F (Q.reverse ++ (o :: T))), v')) := by
      intro p g1 g2
      obtain ⟨v1, g3, g4⟩ := j35_e hF hS (k := O + T.length) (by omega) hO ho h4 (p := p) (a1 := nI O) (a2 := nI (O + N))
      rw [lp_step (g2.trans g3)]
      have r := holds_lp hF hS hN Q (o :: T) v1 h1 h2 (by rw [List.length_cons]; omega) g4 (by rw [g1])
      rw [g1, List.length_cons, ← Nat.add_assoc] at r
      exact r
    have tdef : tst F (o :: T) = if o.1 = true ∧ T ≠ [] then ((tst F T).1 || (tst F T).2, ovl F o) else ((tst F T).1, (tst F T).2 && ovl F o) := rfl
    by_cases q1 : o.1 = true
    · by_cases q2 : T = []
      · refine go (tst F T).2 (by rw [tdef, if_neg (fun z => z.2 q2), h5]) ?_
        unfold X12_holds_b5
        rw [if_neg hlt]
        simp only []
        rw [gdn (by omega) (by omega), ixn (by omega), e139, q1, if_neg (show ¬ bI true = 0 by decide), if_pos (by rw [q2, nI_leI (by simp; omega) (by omega)]; simp)]
      · have hTl : 0 < T.length := by
          cases T with
          | nil => exact (q2 rfl).elim
          | cons _ _ => simp
        have hbody : X12_holds_b5 (nI O) (nI (O + N)) (bI (tst F T).2, nI (O + T.length), v) = if bI (tst F T).2 = 0 then X12_holds_j35 (nI O) (nI (O + N)) (1 : Int32) (nI (O + T.length)) v else some (.inr (.inl v)) := by
          unfold X12_holds_b5
          rw [if_neg hlt]
          simp only []
          rw [gdn (by omega) (by omega), ixn (by omega), e139, q1, if_neg (show ¬ bI true = 0 by decide), if_neg (by rw [nI_leI (by omega) (by omega)]; omega)]
        cases hp : (tst F T).2 with
        | false =>
          rw [hp] at hbody go
          refine go true (by rw [tdef, if_pos ⟨q1, q2⟩, h5, hp]; rfl) ?_
          rw [hbody, if_pos (show bI false = 0 from rfl)]; rfl
        | true =>
          rw [hp] at hbody
          refine ⟨.inl v, v, lp_exit (by rw [hbody, if_neg (show ¬ bI true = 0 by decide)]), h4, Or.inl ⟨rfl, ?_⟩⟩
          unfold hld
          rw [tst_mono (by rw [tdef, if_pos ⟨q1, q2⟩, hp, Bool.or_true]) Q.reverse, Bool.true_or]
    · refine go (tst F T).2 (by rw [tdef, if_neg (fun z => q1 z.1), h5]) ?_
      have q1f : o.1 = false := by simpa using q1
      unfold X12_holds_b5
      rw [if_neg hlt]
      simp only []
      rw [gdn (by omega) (by omega), ixn (by omega), e139, q1f, if_pos (show bI false = 0 from rfl)]
theorem holds_e {w : Wd} {F : Nat → Int64} (hF : ∀ i, i < 7 → w.2 159 i = F i) {O S : Nat} {T : List One} (hS : S ≤ 4000) (hN : O + T.length ≤ 1500) (h1 : TA w O S T) (h2 : ∀ o ∈ T, okOne o) : ∃ v, X12_holds (nI O) (nI (O + T.length)) w = some (bI (hld F T), v) ∧ Fr [160] [] w v := by
  obtain ⟨e, v, k1, k2, k3⟩ := holds_lp hF hS hN T.reverse [] w (by rw [List.reverse_reverse, List.append_nil]; exact h1) (by rw [List.reverse_reverse, List.append_nil]; exact h2) (by rw [List.length_reverse]; rfl) Fr.rf rfl
  rw [List.reverse_reverse, List.append_nil] at k3
  refine ⟨v, ?_, k2⟩
  unfold X12_holds
  rw [show ((1 : Int32), nI O, w) = (bI (tst F []).2, nI (O + ([] : List One).length), w) from rfl, k1]
  rcases k3 with ⟨rfl, k3⟩ | rfl
  · rw [k3]; rfl
  · simp only [Option.bind_some]
    rw [gd_t (by cases hld F T <;> decide)]
theorem unless_e {w : Wd} {F : Nat → Int64} (hF : ∀ i, i < 7 → w.2 159 i = F i) {m O S : Nat} {T : List One} (hm : m < 120) (hS : S ≤ 4000) (hN : O + T.length ≤ 1500) (e1 : w.1 130 m = nI O) (e2 : w.1 131 m = nI (O + T.length)) (h1 : TA w O S T) (h2 : ∀ o ∈ T, okOne o) : ∃ v, X12_isUnless (nI m) w = some (bI (decide (T ≠ []) && hld F T), v) ∧ Fr [160] [] w v := by
  obtain ⟨v, k1, k2⟩ := holds_e hF hS hN h1 h2
  unfold X12_isUnless
  rw [gdn hm (by omega), gdn hm (by omega), ixn (by omega), e1, e2]
  cases T with
  | nil =>
    rw [if_pos (by rw [nI_leI (by simp; omega) (by omega)]; simp)]
    exact ⟨w, rfl, Fr.rf⟩
  | cons o T =>
    rw [if_neg (by rw [nI_leI (by omega) (by omega), List.length_cons]; omega), gdn hm (by omega), gdn hm (by omega), k1]
    refine ⟨v, ?_, k2⟩
    simp only [Option.bind_some]
    cases hld F (o :: T) <;> rfl
