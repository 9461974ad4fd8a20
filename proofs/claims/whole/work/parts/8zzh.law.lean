/-! the law's loop -/
def LIv (L : Nat) (s : Int32 × Wd) : Prop := ∃ k, s.1 = nI k ∧ k ≤ L ∧ IA s.2
def LPo (L k : Nat) : ((Int32 × Wd) ⊕ Wd) → Prop := sel (fun s' => LIv L s' ∧ L + 8 - ix s'.1 < L + 8 - k) (fun _ => True)
theorem law_j {b L : Nat} {xs : Nat → Int32} {k : Nat} (hk : k + 7 ≤ L) (hL : L ≤ 3584) {w : Wd} (h : IA w) : ok (L_law_j1725 b L xs (nI k) w) (LPo L k) := by
  unfold L_law_j1725
  rw [show (7 : Int32) = nI 7 from rfl, nI_add]
  refine ok_i ⟨⟨k + 7, rfl, hk, h⟩, ?_⟩
  show L + 8 - ix (nI (k + 7)) < L + 8 - k
  rw [ixn (by omega)]; omega
theorem law_two {f g : Wd → Option (Int32 × Wd)} {w : Wd} (h : two f g w IA) {b L : Nat} {xs : Nat → Int32} {k : Nat} (hk : k + 7 ≤ L) (hL : L ≤ 3584) : ok ((f w).bind fun q1 => (g q1.2).bind fun q3 => if q1.1 = q3.1 then L_law_j1725 b L xs (nI k) q3.2 else none) (LPo L k) := by
  obtain ⟨r, w1, w2, h1, h2, h3⟩ := h
  rw [h1]
  simp only [Option.bind_some]
  rw [h2]
  simp only [Option.bind_some]
  rw [if_pos trivial]
  exact law_j hk hL h3
theorem law_two64 {f g : Wd → Option (Int64 × Wd)} {w : Wd} (h : two f g w IA) {b L : Nat} {xs : Nat → Int32} {k : Nat} (hk : k + 7 ≤ L) (hL : L ≤ 3584) : ok ((f w).bind fun q1 => (g q1.2).bind fun q3 => if (lg_cmp q1.1 q3.1) = 0 then L_law_j1725 b L xs (nI k) q3.2 else none) (LPo L k) := by
  obtain ⟨r, w1, w2, h1, h2, h3⟩ := h
  rw [h1]
  simp only [Option.bind_some]
  rw [h2]
  simp only [Option.bind_some]
  rw [if_pos (by rw [show (0 : Int32) = nI 0 from rfl, cmpz])]
  exact law_j hk hL h3
theorem law_if {c : Prop} {dc : Decidable c} (hc : c) {b L : Nat} {xs : Nat → Int32} {k : Nat} (hk : k + 7 ≤ L) (hL : L ≤ 3584) {w : Wd} (h : IA w) : ok (@ite _ c dc (L_law_j1725 b L xs (nI k) w) none) (LPo L k) := by
  rw [if_pos hc]
  exact law_j hk hL h
set_option maxRecDepth 20000 in
set_option maxHeartbeats 4000000 in
theorem law_step {b L : Nat} {xs : Nat → Int32} (hL : L ≤ 3584) {k : Nat} (hkL : k ≤ L) {w : Wd} (h : IA w) : ok (L_law_b18 b L xs (nI k, w)) (LPo L k) := by
  unfold L_law_b18
  refine ok_ii (fun _ => ok_i trivial) (fun hn => ?_)
  have hk : k + 7 ≤ L := by
    rw [lt_t, show Int32.ofNat L = nI L from rfl, toInt_sub (by rw [tI (by omega), show (7 : Int32).toInt = 7 by decide]; omega) (by rw [tI (by omega), show (7 : Int32).toInt = 7 by decide]; omega), tI (by omega), show (7 : Int32).toInt = 7 by decide] at hn
    have : (nI k, w).1.toInt = (k : Int) := tI (by omega)
    rw [this] at hn
    omega
  have g0 : ∀ {α : Type} {K : Option α}, gd (vp_in (nI k) L) K = K := gdn (by omega) (by omega)
  have g1 : ∀ {α : Type} {K : Option α}, gd (vp_in (nI k + (1 : Int32)) L) K = K := fun {α K} => by
    rw [show (1 : Int32) = nI 1 from rfl, nI_add]; exact gdn (by omega) (by omega)
  have g2 : ∀ {α : Type} {K : Option α}, gd (vp_in (nI k + (2 : Int32)) L) K = K := fun {α K} => by
    rw [show (2 : Int32) = nI 2 from rfl, nI_add]; exact gdn (by omega) (by omega)
  have g3 : ∀ {α : Type} {K : Option α}, gd (vp_in (nI k + (3 : Int32)) L) K = K := fun {α K} => by
    rw [show (3 : Int32) = nI 3 from rfl, nI_add]; exact gdn (by omega) (by omega)
  have g4 : ∀ {α : Type} {K : Option α}, gd (vp_in (nI k + (4 : Int32)) L) K = K := fun {α K} => by
    rw [show (4 : Int32) = nI 4 from rfl, nI_add]; exact gdn (by omega) (by omega)
  have g5 : ∀ {α : Type} {K : Option α}, gd (vp_in (nI k + (5 : Int32)) L) K = K := fun {α K} => by
    rw [show (5 : Int32) = nI 5 from rfl, nI_add]; exact gdn (by omega) (by omega)
  have g6 : ∀ {α : Type} {K : Option α}, gd (vp_in (nI k + (6 : Int32)) L) K = K := fun {α K} => by
    rw [show (6 : Int32) = nI 6 from rfl, nI_add]; exact gdn (by omega) (by omega)
  simp only [g0, g1, g2, g3, g4, g5, g6]
  refine ok_ii (fun _ => ?_) (fun _ => ?_)
  · exact law_if (show X11_status w = X12_status w from h.1) hk hL h
  refine ok_ii (fun _ => ?_) (fun _ => ?_)
  · exact law_two (a_tray _ _ _ h) hk hL
  refine ok_ii (fun _ => ?_) (fun _ => ?_)
  · exact law_two (a_write _ _ _ h) hk hL
  refine ok_ii (fun _ => ?_) (fun _ => ?_)
  · exact law_two64 (a_read _ _ h) hk hL
  refine ok_ii (fun _ => ?_) (fun _ => ?_)
  · exact law_two (a_pour _ _ _ _ _ h) hk hL
  refine ok_ii (fun _ => ?_) (fun _ => ?_)
  · exact law_two (a_place _ h) hk hL
  refine ok_ii (fun _ => ?_) (fun _ => ?_)
  · exact law_two (a_way _ _ _ _ _ h) hk hL
  refine ok_ii (fun _ => ?_) (fun _ => ?_)
  · exact law_two (a_arrival _ _ _ h) hk hL
  refine ok_ii (fun _ => ?_) (fun _ => ?_)
  · exact law_two (a_learner _ _ _ h) hk hL
  refine ok_ii (fun _ => ?_) (fun _ => ?_)
  · exact law_two (a_teacher _ _ h) hk hL
  refine ok_ii (fun _ => ?_) (fun _ => ?_)
  · exact law_two (a_lamp _ h) hk hL
  refine ok_ii (fun _ => ?_) (fun _ => ?_)
  · exact law_two (a_note _ _ _ _ _ _ h) hk hL
  refine ok_ii (fun _ => ?_) (fun _ => ?_)
  · exact law_two (a_asof _ h) hk hL
  refine ok_ii (fun _ => ?_) (fun _ => ?_)
  · exact law_two (a_where _ _ _ h) hk hL
  refine ok_ii (fun _ => ?_) (fun _ => ?_)
  · exact law_two (a_lit _ _ h) hk hL
  refine ok_ii (fun _ => ?_) (fun _ => ?_)
  · exact law_two (a_feed _ _ _ _ _ h) hk hL
  refine ok_ii (fun _ => ?_) (fun _ => ?_)
  · exact law_two (a_orders _ _ _ h) hk hL
  refine ok_ii (fun _ => ?_) (fun _ => ?_)
  · exact law_if (o_fault _ h.2.2.2.2.2.2.1.1 h.2.2.2.2.2.2.1.2) hk hL h
  refine ok_ii (fun _ => ?_) (fun _ => ?_)
  · exact law_two (a_rules _ _ _ h) hk hL
  refine ok_ii (fun _ => ?_) (fun _ => ?_)
  · exact law_two (a_struck _ _ _ h) hk hL
  refine ok_ii (fun _ => ?_) (fun _ => ?_)
  · exact law_two (a_taught _ _ _ h) hk hL
  refine ok_ii (fun _ => ?_) (fun _ => ?_)
  · exact law_two (a_lesson _ _ _ _ h) hk hL
  refine ok_ii (fun _ => ?_) (fun _ => ?_)
  · exact law_two (a_fade _ h) hk hL
  refine ok_ii (fun _ => ?_) (fun _ => ?_)
  · exact law_two (a_knows _ _ h) hk hL
  refine ok_ii (fun _ => ?_) (fun _ => ?_)
  · exact law_two (a_hours _ _ _ h) hk hL
  refine ok_ii (fun _ => ?_) (fun _ => ?_)
  · exact law_two (a_gap _ _ h) hk hL
  refine ok_ii (fun _ => ?_) (fun _ => ?_)
  · exact law_two (a_foretold _ _ _ _ h) hk hL
  refine ok_ii (fun _ => ?_) (fun _ => ?_)
  · exact law_two (a_proof _ _ _ _ h) hk hL
  refine ok_ii (fun _ => ?_) (fun _ => ?_)
  · exact law_two (a_slips _ _ h) hk hL
  refine ok_ii (fun _ => ?_) (fun _ => ?_)
  · exact law_two (a_owed _ _ h) hk hL
  refine ok_ii (fun _ => ?_) (fun _ => ?_)
  · exact law_two (a_reads _ _ h) hk hL
  refine ok_ii (fun _ => ?_) (fun _ => ?_)
  · exact law_two (a_flag _ _ h) hk hL
  refine ok_ii (fun _ => ?_) (fun _ => ?_)
  · exact law_two (a_send _ _ _ _ h) hk hL
  refine ok_ii (fun _ => ?_) (fun _ => ?_)
  · exact law_two (a_sent _ h) hk hL
  refine ok_ii (fun _ => ?_) (fun _ => ?_)
  · exact law_two (a_count _ _ _ _ h) hk hL
  refine ok_ii (fun _ => ?_) (fun _ => ?_)
  · exact law_two (a_near _ _ h) hk hL
  exact law_j hk hL h
theorem law_all {b L : Nat} {xs : Nat → Int32} (hL : L ≤ 3584) {w : Wd} (h : IA w) : ok (lp (L_law_b18 b L xs) ((0 : Int32), w)) (fun _ => True) := by
  refine lp_dn (LIv L) (fun s => L + 8 - ix s.1) ?_ _ ⟨0, rfl, Nat.zero_le _, h⟩
  rintro ⟨s1, v⟩ ⟨k, e, hk, hv⟩
  simp only at e hv
  subst e
  have := law_step (b := b) (xs := xs) hL hk hv
  unfold LPo at this
  show ok _ (sel (fun s' => LIv L s' ∧ L + 8 - ix s'.1 < L + 8 - ix (nI k)) _)
  rw [ixn (by omega)]
  exact this
