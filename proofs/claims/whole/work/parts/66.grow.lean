/-! calls that add one -/
theorem IL_place {w0 : Wd} (h : IL w0) {n : Nat} (hn : nn w0 5 0 = n) (hc : n < 16) {a : Nat} (ha : a < 4) : IL (puI (puI (puI (puI (puI (puI w0 6 n (nI a)) 5 0 (nI (n + 1))) 0 10 (nI 0)) 101 n (nI a)) 97 4 (nI (n + 1))) 97 0 (nI 0)) := by
  generalize hw : (puI (puI (puI (puI (puI (puI w0 6 n (nI a)) 5 0 (nI (n + 1))) 0 10 (nI 0)) 101 n (nI a)) 97 4 (nI (n + 1))) 97 0 (nI 0)) = w2
  have h0 := h
  obtain ⟨⟨c0, c2, c8, c12, c15⟩, ⟨m0, m2, m8, m12, m15⟩, ⟨r6, r7, r8, r9, r10, r11⟩, ⟨r12, r13, r14, r15, r16, r17⟩, t0, t2, t8, t12, t15⟩ := h
  have n0 : nn w2 5 0 = n + 1 := nn_of (by rw [← hw]; rfl) (by omega)
  have n2 : nn w2 5 2 = nn w0 5 2 := nn_eq (by rw [← hw]; rfl)
  have n8 : nn w2 5 8 = nn w0 5 8 := nn_eq (by rw [← hw]; rfl)
  have n12 : nn w2 5 12 = nn w0 5 12 := nn_eq (by rw [← hw]; rfl)
  have n15 : nn w2 5 15 = nn w0 5 15 := nn_eq (by rw [← hw]; rfl)
  have e6 : w2.1 6 = upd (w0.1 6) n (nI a) := by rw [← hw]; rfl
  have e7 : w2.1 7 = w0.1 7 := by rw [← hw]; rfl
  have e8 : w2.1 8 = w0.1 8 := by rw [← hw]; rfl
  have e9 : w2.1 9 = w0.1 9 := by rw [← hw]; rfl
  have e10 : w2.1 10 = w0.1 10 := by rw [← hw]; rfl
  have e11 : w2.1 11 = w0.1 11 := by rw [← hw]; rfl
  have e12 : w2.1 12 = w0.1 12 := by rw [← hw]; rfl
  have e13 : w2.1 13 = w0.1 13 := by rw [← hw]; rfl
  have e14 : w2.1 14 = w0.1 14 := by rw [← hw]; rfl
  have e15 : w2.1 15 = w0.1 15 := by rw [← hw]; rfl
  have e16 : w2.1 16 = w0.1 16 := by rw [← hw]; rfl
  have e17 : w2.1 17 = w0.1 17 := by rw [← hw]; rfl
  refine ⟨⟨isN.of (n := n + 1) (by rw [← hw]; rfl) (by omega) (by omega), c2.eq (by rw [← hw]; rfl), c8.eq (by rw [← hw]; rfl), c12.eq (by rw [← hw]; rfl), c15.eq (by rw [← hw]; rfl)⟩, ⟨by rw [← hw]; rfl, by rw [← hw]; exact m2, by rw [← hw]; exact m8, by rw [← hw]; exact m12, by rw [← hw]; exact m15⟩, ⟨by rw [e6, ← r6, ← hw]; rfl, by rw [e7, ← r7, ← hw]; rfl, by rw [e8, ← r8, ← hw]; rfl, by rw [e9, ← r9, ← hw]; rfl, by rw [e10, ← r10, ← hw]; rfl, by rw [e11, ← r11, ← hw]; rfl⟩, ⟨by rw [e12, ← r12, ← hw]; rfl, by rw [e13, ← r13, ← hw]; rfl, by rw [e14, ← r14, ← hw]; rfl, by rw [e15, ← r15, ← hw]; rfl, by rw [e16, ← r16, ← hw]; rfl, by rw [e17, ← r17, ← hw]; rfl⟩, ?_, ?_, ?_, ?_, ?_⟩
  · intro i hi
    rw [n0] at hi
    exact isN.app (fun i hi => t0 i (by omega)) e6 (by omega) (by omega) (by omega) hi
  · intro i hi
    rw [n2] at hi
    rw [n0]
    have ha := t2 i hi
    obtain ⟨a1, a2, a3, a4, a5⟩ := ha
    refine ⟨(a1.row e7).mono (by omega), (a2.row e8).mono (by omega), a3.row e9, by rw [nn_eq (w := w0) (by rw [e9])]; exact a4, ?_⟩
    rw [e10, e11]
    exact a5.imp id (fun z => ⟨z.1.row e10, z.2.row e11⟩)
  · intro i hi
    rw [n8] at hi
    rw [n0]
    have ha := t8 i hi
    obtain ⟨a1, a2, a3⟩ := ha
    refine ⟨(a1.row e12).mono (by omega), a2.row e13, a3.row e14⟩
  · intro i hi
    rw [n12] at hi
    rw [n0]
    have ha := t12 i hi
    obtain ⟨a1, a2⟩ := ha
    refine ⟨a1.row e15, (a2.row e16).mono (by omega)⟩
  · intro i hi
    rw [n15] at hi
    rw [n0]
    have ha := t15 i hi
    have a1 := ha
    refine (a1.row e17).mono (by omega)
theorem IL_learner {w0 : Wd} (h : IL w0) {n : Nat} (hn : nn w0 5 8 = n) (hc : n < 40) {a b c : Nat} (ha : a < nn w0 5 0) (hb : b < 100) (hcc : c < 5) : IL (puI (puI (puI (puI (puI (puI (puI (puI (puI (puI w0 12 n (nI a)) 13 n (nI b)) 14 n (nI c)) 5 8 (nI (n + 1))) 0 10 (nI 0)) 108 n (nI a)) 109 n (nI b)) 110 n (nI c)) 97 6 (nI (n + 1))) 97 0 (nI 0)) := by
  generalize hw : (puI (puI (puI (puI (puI (puI (puI (puI (puI (puI w0 12 n (nI a)) 13 n (nI b)) 14 n (nI c)) 5 8 (nI (n + 1))) 0 10 (nI 0)) 108 n (nI a)) 109 n (nI b)) 110 n (nI c)) 97 6 (nI (n + 1))) 97 0 (nI 0)) = w2
  have h0 := h
  obtain ⟨⟨c0, c2, c8, c12, c15⟩, ⟨m0, m2, m8, m12, m15⟩, ⟨r6, r7, r8, r9, r10, r11⟩, ⟨r12, r13, r14, r15, r16, r17⟩, t0, t2, t8, t12, t15⟩ := h
  have n0 : nn w2 5 0 = nn w0 5 0 := nn_eq (by rw [← hw]; rfl)
  have n2 : nn w2 5 2 = nn w0 5 2 := nn_eq (by rw [← hw]; rfl)
  have n8 : nn w2 5 8 = n + 1 := nn_of (by rw [← hw]; rfl) (by omega)
  have n12 : nn w2 5 12 = nn w0 5 12 := nn_eq (by rw [← hw]; rfl)
  have n15 : nn w2 5 15 = nn w0 5 15 := nn_eq (by rw [← hw]; rfl)
  have e6 : w2.1 6 = w0.1 6 := by rw [← hw]; rfl
  have e7 : w2.1 7 = w0.1 7 := by rw [← hw]; rfl
  have e8 : w2.1 8 = w0.1 8 := by rw [← hw]; rfl
  have e9 : w2.1 9 = w0.1 9 := by rw [← hw]; rfl
  have e10 : w2.1 10 = w0.1 10 := by rw [← hw]; rfl
  have e11 : w2.1 11 = w0.1 11 := by rw [← hw]; rfl
  have e12 : w2.1 12 = upd (w0.1 12) n (nI a) := by rw [← hw]; rfl
  have e13 : w2.1 13 = upd (w0.1 13) n (nI b) := by rw [← hw]; rfl
  have e14 : w2.1 14 = upd (w0.1 14) n (nI c) := by rw [← hw]; rfl
  have e15 : w2.1 15 = w0.1 15 := by rw [← hw]; rfl
  have e16 : w2.1 16 = w0.1 16 := by rw [← hw]; rfl
  have e17 : w2.1 17 = w0.1 17 := by rw [← hw]; rfl
  refine ⟨⟨c0.eq (by rw [← hw]; rfl), c2.eq (by rw [← hw]; rfl), isN.of (n := n + 1) (by rw [← hw]; rfl) (by omega) (by omega), c12.eq (by rw [← hw]; rfl), c15.eq (by rw [← hw]; rfl)⟩, ⟨by rw [← hw]; exact m0, by rw [← hw]; exact m2, by rw [← hw]; rfl, by rw [← hw]; exact m12, by rw [← hw]; exact m15⟩, ⟨by rw [e6, ← r6, ← hw]; rfl, by rw [e7, ← r7, ← hw]; rfl, by rw [e8, ← r8, ← hw]; rfl, by rw [e9, ← r9, ← hw]; rfl, by rw [e10, ← r10, ← hw]; rfl, by rw [e11, ← r11, ← hw]; rfl⟩, ⟨by rw [e12, ← r12, ← hw]; rfl, by rw [e13, ← r13, ← hw]; rfl, by rw [e14, ← r14, ← hw]; rfl, by rw [e15, ← r15, ← hw]; rfl, by rw [e16, ← r16, ← hw]; rfl, by rw [e17, ← r17, ← hw]; rfl⟩, ?_, ?_, ?_, ?_, ?_⟩
  · intro i hi
    rw [n0] at hi
    exact (t0 i hi).row e6
  · intro i hi
    rw [n2] at hi
    rw [n0]
    have ha := t2 i hi
    obtain ⟨a1, a2, a3, a4, a5⟩ := ha
    refine ⟨(a1.row e7).mono (by omega), (a2.row e8).mono (by omega), a3.row e9, by rw [nn_eq (w := w0) (by rw [e9])]; exact a4, ?_⟩
    rw [e10, e11]
    exact a5.imp id (fun z => ⟨z.1.row e10, z.2.row e11⟩)
  · intro i hi
    rw [n8] at hi
    rw [n0]
    have hP := c0.2
    exact ⟨isN.app (fun i hi => (t8 i (by omega)).1) e12 ha (by omega) (by omega) hi, isN.app (fun i hi => (t8 i (by omega)).2.1) e13 hb (by omega) (by omega) hi, isN.app (fun i hi => (t8 i (by omega)).2.2) e14 hcc (by omega) (by omega) hi⟩
  · intro i hi
    rw [n12] at hi
    rw [n0]
    have ha := t12 i hi
    obtain ⟨a1, a2⟩ := ha
    refine ⟨a1.row e15, (a2.row e16).mono (by omega)⟩
  · intro i hi
    rw [n15] at hi
    rw [n0]
    have ha := t15 i hi
    have a1 := ha
    refine (a1.row e17).mono (by omega)
theorem IL_teacher {w0 : Wd} (h : IL w0) {n : Nat} (hn : nn w0 5 12 = n) (hc : n < 20) {a b : Nat} (ha : a < 32) (hb : b < nn w0 5 0) : IL (puI (puI (puI (puI (puI (puI (puI (puI w0 15 n (nI a)) 16 n (nI b)) 5 12 (nI (n + 1))) 0 10 (nI 0)) 111 n (nI a)) 112 n (nI b)) 97 7 (nI (n + 1))) 97 0 (nI 0)) := by
  generalize hw : (puI (puI (puI (puI (puI (puI (puI (puI w0 15 n (nI a)) 16 n (nI b)) 5 12 (nI (n + 1))) 0 10 (nI 0)) 111 n (nI a)) 112 n (nI b)) 97 7 (nI (n + 1))) 97 0 (nI 0)) = w2
  have h0 := h
  obtain ⟨⟨c0, c2, c8, c12, c15⟩, ⟨m0, m2, m8, m12, m15⟩, ⟨r6, r7, r8, r9, r10, r11⟩, ⟨r12, r13, r14, r15, r16, r17⟩, t0, t2, t8, t12, t15⟩ := h
  have n0 : nn w2 5 0 = nn w0 5 0 := nn_eq (by rw [← hw]; rfl)
  have n2 : nn w2 5 2 = nn w0 5 2 := nn_eq (by rw [← hw]; rfl)
  have n8 : nn w2 5 8 = nn w0 5 8 := nn_eq (by rw [← hw]; rfl)
  have n12 : nn w2 5 12 = n + 1 := nn_of (by rw [← hw]; rfl) (by omega)
  have n15 : nn w2 5 15 = nn w0 5 15 := nn_eq (by rw [← hw]; rfl)
  have e6 : w2.1 6 = w0.1 6 := by rw [← hw]; rfl
  have e7 : w2.1 7 = w0.1 7 := by rw [← hw]; rfl
  have e8 : w2.1 8 = w0.1 8 := by rw [← hw]; rfl
  have e9 : w2.1 9 = w0.1 9 := by rw [← hw]; rfl
  have e10 : w2.1 10 = w0.1 10 := by rw [← hw]; rfl
  have e11 : w2.1 11 = w0.1 11 := by rw [← hw]; rfl
  have e12 : w2.1 12 = w0.1 12 := by rw [← hw]; rfl
  have e13 : w2.1 13 = w0.1 13 := by rw [← hw]; rfl
  have e14 : w2.1 14 = w0.1 14 := by rw [← hw]; rfl
  have e15 : w2.1 15 = upd (w0.1 15) n (nI a) := by rw [← hw]; rfl
  have e16 : w2.1 16 = upd (w0.1 16) n (nI b) := by rw [← hw]; rfl
  have e17 : w2.1 17 = w0.1 17 := by rw [← hw]; rfl
  refine ⟨⟨c0.eq (by rw [← hw]; rfl), c2.eq (by rw [← hw]; rfl), c8.eq (by rw [← hw]; rfl), isN.of (n := n + 1) (by rw [← hw]; rfl) (by omega) (by omega), c15.eq (by rw [← hw]; rfl)⟩, ⟨by rw [← hw]; exact m0, by rw [← hw]; exact m2, by rw [← hw]; exact m8, by rw [← hw]; rfl, by rw [← hw]; exact m15⟩, ⟨by rw [e6, ← r6, ← hw]; rfl, by rw [e7, ← r7, ← hw]; rfl, by rw [e8, ← r8, ← hw]; rfl, by rw [e9, ← r9, ← hw]; rfl, by rw [e10, ← r10, ← hw]; rfl, by rw [e11, ← r11, ← hw]; rfl⟩, ⟨by rw [e12, ← r12, ← hw]; rfl, by rw [e13, ← r13, ← hw]; rfl, by rw [e14, ← r14, ← hw]; rfl, by rw [e15, ← r15, ← hw]; rfl, by rw [e16, ← r16, ← hw]; rfl, by rw [e17, ← r17, ← hw]; rfl⟩, ?_, ?_, ?_, ?_, ?_⟩
  · intro i hi
    rw [n0] at hi
    exact (t0 i hi).row e6
  · intro i hi
    rw [n2] at hi
    rw [n0]
    have ha := t2 i hi
    obtain ⟨a1, a2, a3, a4, a5⟩ := ha
    refine ⟨(a1.row e7).mono (by omega), (a2.row e8).mono (by omega), a3.row e9, by rw [nn_eq (w := w0) (by rw [e9])]; exact a4, ?_⟩
    rw [e10, e11]
    exact a5.imp id (fun z => ⟨z.1.row e10, z.2.row e11⟩)
  · intro i hi
    rw [n8] at hi
    rw [n0]
    have ha := t8 i hi
    obtain ⟨a1, a2, a3⟩ := ha
    refine ⟨(a1.row e12).mono (by omega), a2.row e13, a3.row e14⟩
  · intro i hi
    rw [n12] at hi
    rw [n0]
    have hP := c0.2
    exact ⟨isN.app (fun i hi => (t12 i (by omega)).1) e15 ha (by omega) (by omega) hi, isN.app (fun i hi => (t12 i (by omega)).2) e16 hb (by omega) (by omega) hi⟩
  · intro i hi
    rw [n15] at hi
    rw [n0]
    have ha := t15 i hi
    have a1 := ha
    refine (a1.row e17).mono (by omega)
theorem IL_lamp {w0 : Wd} (h : IL w0) {n : Nat} (hn : nn w0 5 15 = n) (hc : n < 12) {a : Nat} (ha : a < nn w0 5 0) : IL (puI (puI (puI (puI (puI (puI w0 17 n (nI a)) 5 15 (nI (n + 1))) 0 10 (nI 0)) 113 n (nI a)) 97 8 (nI (n + 1))) 97 0 (nI 0)) := by
  generalize hw : (puI (puI (puI (puI (puI (puI w0 17 n (nI a)) 5 15 (nI (n + 1))) 0 10 (nI 0)) 113 n (nI a)) 97 8 (nI (n + 1))) 97 0 (nI 0)) = w2
  have h0 := h
  obtain ⟨⟨c0, c2, c8, c12, c15⟩, ⟨m0, m2, m8, m12, m15⟩, ⟨r6, r7, r8, r9, r10, r11⟩, ⟨r12, r13, r14, r15, r16, r17⟩, t0, t2, t8, t12, t15⟩ := h
  have n0 : nn w2 5 0 = nn w0 5 0 := nn_eq (by rw [← hw]; rfl)
  have n2 : nn w2 5 2 = nn w0 5 2 := nn_eq (by rw [← hw]; rfl)
  have n8 : nn w2 5 8 = nn w0 5 8 := nn_eq (by rw [← hw]; rfl)
  have n12 : nn w2 5 12 = nn w0 5 12 := nn_eq (by rw [← hw]; rfl)
  have n15 : nn w2 5 15 = n + 1 := nn_of (by rw [← hw]; rfl) (by omega)
  have e6 : w2.1 6 = w0.1 6 := by rw [← hw]; rfl
  have e7 : w2.1 7 = w0.1 7 := by rw [← hw]; rfl
  have e8 : w2.1 8 = w0.1 8 := by rw [← hw]; rfl
  have e9 : w2.1 9 = w0.1 9 := by rw [← hw]; rfl
  have e10 : w2.1 10 = w0.1 10 := by rw [← hw]; rfl
  have e11 : w2.1 11 = w0.1 11 := by rw [← hw]; rfl
  have e12 : w2.1 12 = w0.1 12 := by rw [← hw]; rfl
  have e13 : w2.1 13 = w0.1 13 := by rw [← hw]; rfl
  have e14 : w2.1 14 = w0.1 14 := by rw [← hw]; rfl
  have e15 : w2.1 15 = w0.1 15 := by rw [← hw]; rfl
  have e16 : w2.1 16 = w0.1 16 := by rw [← hw]; rfl
  have e17 : w2.1 17 = upd (w0.1 17) n (nI a) := by rw [← hw]; rfl
  refine ⟨⟨c0.eq (by rw [← hw]; rfl), c2.eq (by rw [← hw]; rfl), c8.eq (by rw [← hw]; rfl), c12.eq (by rw [← hw]; rfl), isN.of (n := n + 1) (by rw [← hw]; rfl) (by omega) (by omega)⟩, ⟨by rw [← hw]; exact m0, by rw [← hw]; exact m2, by rw [← hw]; exact m8, by rw [← hw]; exact m12, by rw [← hw]; rfl⟩, ⟨by rw [e6, ← r6, ← hw]; rfl, by rw [e7, ← r7, ← hw]; rfl, by rw [e8, ← r8, ← hw]; rfl, by rw [e9, ← r9, ← hw]; rfl, by rw [e10, ← r10, ← hw]; rfl, by rw [e11, ← r11, ← hw]; rfl⟩, ⟨by rw [e12, ← r12, ← hw]; rfl, by rw [e13, ← r13, ← hw]; rfl, by rw [e14, ← r14, ← hw]; rfl, by rw [e15, ← r15, ← hw]; rfl, by rw [e16, ← r16, ← hw]; rfl, by rw [e17, ← r17, ← hw]; rfl⟩, ?_, ?_, ?_, ?_, ?_⟩
  · intro i hi
    rw [n0] at hi
    exact (t0 i hi).row e6
  · intro i hi
    rw [n2] at hi
    rw [n0]
    have ha := t2 i hi
    obtain ⟨a1, a2, a3, a4, a5⟩ := ha
    refine ⟨(a1.row e7).mono (by omega), (a2.row e8).mono (by omega), a3.row e9, by rw [nn_eq (w := w0) (by rw [e9])]; exact a4, ?_⟩
    rw [e10, e11]
    exact a5.imp id (fun z => ⟨z.1.row e10, z.2.row e11⟩)
  · intro i hi
    rw [n8] at hi
    rw [n0]
    have ha := t8 i hi
    obtain ⟨a1, a2, a3⟩ := ha
    refine ⟨(a1.row e12).mono (by omega), a2.row e13, a3.row e14⟩
  · intro i hi
    rw [n12] at hi
    rw [n0]
    have ha := t12 i hi
    obtain ⟨a1, a2⟩ := ha
    refine ⟨a1.row e15, (a2.row e16).mono (by omega)⟩
  · intro i hi
    rw [n15] at hi
    rw [n0]
    have hP := c0.2
    exact isN.app (fun i hi => t15 i (by omega)) e17 ha (by omega) (by omega) hi
theorem IL_way {w0 : Wd} (h : IL w0) {n : Nat} (hn : nn w0 5 2 = n) (hc : n < 30) {a b c : Nat} {x y : Int32} (ha : a < nn w0 5 0) (hb : b < nn w0 5 0) (hcc : c < 10) (hc1 : 1 ≤ c) (hxy : (x = NO ∧ y = NO) ∨ ∃ u v : Nat, x = nI u ∧ y = nI v ∧ u < 60 ∧ v < 60) : IL (puI (puI (puI (puI (puI (puI (puI (puI (puI (puI (puI (puI (puI (puI w0 7 n (nI a)) 8 n (nI b)) 9 n (nI c)) 10 n x) 11 n y) 5 2 (nI (n + 1))) 0 10 (nI 0)) 102 n (nI a)) 103 n (nI b)) 104 n (nI c)) 105 n x) 106 n y) 97 5 (nI (n + 1))) 97 0 (nI 0)) := by
  generalize hw : (puI (puI (puI (puI (puI (puI (puI (puI (puI (puI (puI (puI (puI (puI w0 7 n (nI a)) 8 n (nI b)) 9 n (nI c)) 10 n x) 11 n y) 5 2 (nI (n + 1))) 0 10 (nI 0)) 102 n (nI a)) 103 n (nI b)) 104 n (nI c)) 105 n x) 106 n y) 97 5 (nI (n + 1))) 97 0 (nI 0)) = w2
  have h0 := h
  obtain ⟨⟨c0, c2, c8, c12, c15⟩, ⟨m0, m2, m8, m12, m15⟩, ⟨r6, r7, r8, r9, r10, r11⟩, ⟨r12, r13, r14, r15, r16, r17⟩, t0, t2, t8, t12, t15⟩ := h
  have n0 : nn w2 5 0 = nn w0 5 0 := nn_eq (by rw [← hw]; rfl)
  have n2 : nn w2 5 2 = n + 1 := nn_of (by rw [← hw]; rfl) (by omega)
  have n8 : nn w2 5 8 = nn w0 5 8 := nn_eq (by rw [← hw]; rfl)
  have n12 : nn w2 5 12 = nn w0 5 12 := nn_eq (by rw [← hw]; rfl)
  have n15 : nn w2 5 15 = nn w0 5 15 := nn_eq (by rw [← hw]; rfl)
  have e6 : w2.1 6 = w0.1 6 := by rw [← hw]; rfl
  have e7 : w2.1 7 = upd (w0.1 7) n (nI a) := by rw [← hw]; rfl
  have e8 : w2.1 8 = upd (w0.1 8) n (nI b) := by rw [← hw]; rfl
  have e9 : w2.1 9 = upd (w0.1 9) n (nI c) := by rw [← hw]; rfl
  have e10 : w2.1 10 = upd (w0.1 10) n x := by rw [← hw]; rfl
  have e11 : w2.1 11 = upd (w0.1 11) n y := by rw [← hw]; rfl
  have e12 : w2.1 12 = w0.1 12 := by rw [← hw]; rfl
  have e13 : w2.1 13 = w0.1 13 := by rw [← hw]; rfl
  have e14 : w2.1 14 = w0.1 14 := by rw [← hw]; rfl
  have e15 : w2.1 15 = w0.1 15 := by rw [← hw]; rfl
  have e16 : w2.1 16 = w0.1 16 := by rw [← hw]; rfl
  have e17 : w2.1 17 = w0.1 17 := by rw [← hw]; rfl
  refine ⟨⟨c0.eq (by rw [← hw]; rfl), isN.of (n := n + 1) (by rw [← hw]; rfl) (by omega) (by omega), c8.eq (by rw [← hw]; rfl), c12.eq (by rw [← hw]; rfl), c15.eq (by rw [← hw]; rfl)⟩, ⟨by rw [← hw]; exact m0, by rw [← hw]; rfl, by rw [← hw]; exact m8, by rw [← hw]; exact m12, by rw [← hw]; exact m15⟩, ⟨by rw [e6, ← r6, ← hw]; rfl, by rw [e7, ← r7, ← hw]; rfl, by rw [e8, ← r8, ← hw]; rfl, by rw [e9, ← r9, ← hw]; rfl, by rw [e10, ← r10, ← hw]; rfl, by rw [e11, ← r11, ← hw]; rfl⟩, ⟨by rw [e12, ← r12, ← hw]; rfl, by rw [e13, ← r13, ← hw]; rfl, by rw [e14, ← r14, ← hw]; rfl, by rw [e15, ← r15, ← hw]; rfl, by rw [e16, ← r16, ← hw]; rfl, by rw [e17, ← r17, ← hw]; rfl⟩, ?_, ?_, ?_, ?_, ?_⟩
  · intro i hi
    rw [n0] at hi
    exact (t0 i hi).row e6
  · intro i hi
    rw [n2] at hi
    rw [n0]
    have hP := c0.2
    refine ⟨isN.app (fun i hi => (t2 i (by omega)).1) e7 ha (by omega) (by omega) hi, isN.app (fun i hi => (t2 i (by omega)).2.1) e8 hb (by omega) (by omega) hi, isN.app (fun i hi => (t2 i (by omega)).2.2.1) e9 hcc (by omega) (by omega) hi, ?_, ?_⟩
    · by_cases q : i = n
      · rw [nn_of (n := c) (by rw [e9, q]; exact upd_s) (by omega)]; exact hc1
      · rw [nn_eq (w := w0) (by rw [e9]; exact upd_n q)]; exact (t2 i (by omega)).2.2.2.1
    · by_cases q : i = n
      · subst q
        rw [e10, e11, upd_s, upd_s]
        rcases hxy with z | ⟨u, v, hu, hv, h1, h2⟩
        · exact Or.inl z
        · exact Or.inr ⟨isN.of (n := u) (by rw [e10, upd_s]; exact hu) h1 (by omega), isN.of (n := v) (by rw [e11, upd_s]; exact hv) h2 (by omega)⟩
      · rw [e10, e11, upd_n q, upd_n q]
        exact ((t2 i (by omega)).2.2.2.2).imp id (fun z => ⟨z.1.eq (by rw [e10]; exact upd_n q), z.2.eq (by rw [e11]; exact upd_n q)⟩)
  · intro i hi
    rw [n8] at hi
    rw [n0]
    have ha := t8 i hi
    obtain ⟨a1, a2, a3⟩ := ha
    refine ⟨(a1.row e12).mono (by omega), a2.row e13, a3.row e14⟩
  · intro i hi
    rw [n12] at hi
    rw [n0]
    have ha := t12 i hi
    obtain ⟨a1, a2⟩ := ha
    refine ⟨a1.row e15, (a2.row e16).mono (by omega)⟩
  · intro i hi
    rw [n15] at hi
    rw [n0]
    have ha := t15 i hi
    have a1 := ha
    refine (a1.row e17).mono (by omega)
