/-! all that is kept, over every call -/
def sR_IB : List Nat := [66, 120]
def sF_IB : List (Nat × Nat) := [(65, 2), (97, 33)]
theorem IB.sm {w w' : Wd} (h : IB w) (e : Sm sR_IB sF_IB w w') : IB w' := by
  obtain ⟨h1, h2, h3, h4⟩ := h
  have r66 := (e.1 66 (by decide)).1
  exact ⟨h1.eq (e.2 (65, 2) (by decide)).1, by rw [(e.2 (97, 33) (by decide)).1, (e.2 (65, 2) (by decide)).1]; exact h2, by rw [(e.1 120 (by decide)).1, r66]; exact h3, fun i => by rw [r66]; exact h4 i⟩
def sF_IF : List (Nat × Nat) := [(97, 39), (97, 40), (65, 4), (65, 5)]
theorem IF.sm {w w' : Wd} (h : IF w) (e : Sm [] sF_IF w w') : IF w' := by
  obtain ⟨h1, h2⟩ := h
  exact ⟨by rw [(e.2 (97, 39) (by decide)).1, (e.2 (65, 4) (by decide)).1]; exact h1, by rw [(e.2 (97, 40) (by decide)).1, (e.2 (65, 5) (by decide)).1]; exact h2⟩
def sR_Sm : List Nat := [94, 175]
def sF_Sm : List (Nat × Nat) := [(88, 6), (97, 105)]
theorem ISm.sm {w w' : Wd} (h : ISm w) (e : Sm sR_Sm sF_Sm w w') : ISm w' := by
  obtain ⟨h1, h2, h3⟩ := h
  have f := (e.2 (88, 6) (by decide)).1
  exact ⟨h1.eq f, by rw [(e.2 (97, 105) (by decide)).1, f]; exact h2, fun i hi => by rw [nn_eq f] at hi; rw [(e.1 94 (by decide)).1, (e.1 175 (by decide)).1]; exact h3 i hi⟩
theorem IW.sm {w w' : Wd} (h : IW w) (e : Sm [67] [] w w') : IW w' := fun i hi => by rw [(e.1 67 (by decide)).2]; exact h i hi
theorem ID.s2 {w w' : Wd} (h : ID w) (e : Sm [96] [] w w') : ID w' := h.sm (e.1 96 (by decide)).2
theorem IS.sm {w w' : Wd} (h : IS w) (e : Sm [] [(0, 10), (97, 0)] w w') : IS w' := by
  unfold IS at h ⊢
  rw [(e.2 (0, 10) (by decide)).1, (e.2 (97, 0) (by decide)).1]; exact h
def sR_Yy : List Nat := [74, 75, 76] ++ sR_Y
def sF_Yy : List (Nat × Nat) := [(5, 8), (73, 4)] ++ sF_Y
theorem IY.sm {w w' : Wd} (h : IY w) (e : Sm sR_Yy sF_Yy w w') : IY w' :=
  h.c (e.sub (by decide) (by decide)) (e.2 (5, 8) (by decide)).1 (e.2 (73, 4) (by decide)).1 (e.1 74 (by decide)).1 (e.1 75 (by decide)).1 (e.1 76 (by decide)).1
theorem IG.s2 {w w' : Wd} (h : IBo w ∧ IG w) (e : Sm sR_G sF_B w w') : IG w' := IG.sm h.1 h.2 e
def IA (w : Wd) : Prop := IS w ∧ IL w ∧ IN w ∧ IC w ∧ IT w ∧ IB w ∧ IF w ∧ ISm w ∧ ILs w ∧ ID w ∧ IP w ∧ IW w ∧ IBo w ∧ IG w ∧ IR w ∧ IY w
theorem two_fr {α : Type} {f g : Wd → Option (α × Wd)} {w : Wd} {P Q : Wd → Prop} {S1 S2 : List Nat} {T1 T2 : List (Nat × Nat)} (h : two f g w P) (hf : okF (f w) (fun q => Fr S1 T1 w q.2)) (hg : ∀ w1, okF (g w1) (fun q => Fr S2 T2 w1 q.2)) (k : ∀ w', P w' → Fr (S1 ++ S2) (T1 ++ T2) w w' → Q w') : two f g w Q := by
  obtain ⟨r, w1, w2, h1, h2, h3⟩ := h
  refine ⟨r, w1, w2, h1, h2, k w2 h3 ?_⟩
  exact ((hf _ h1).wk (fun x hx => List.mem_append_left _ hx) (fun x hx => List.mem_append_left _ hx)).next (hg w1 _ h2) (fun x hx => List.mem_append_right _ hx) (fun x hx => List.mem_append_right _ hx)
theorem IA.st {w w' : Wd} (h : IA w) (z : St w w') : IA w' := by
  obtain ⟨i1, i2, i3, i4, i5, i6, i7, i8, i9, i10, i11, i12, i13, i14, i15, i16⟩ := h
  have hf := z.fr
  exact ⟨z.is, i2.sm (hf.sm (by decide)), i3.sm (hf.sm (by decide)), i4.sm (hf.sm (by decide)), i5.sm (hf.sm (by decide)), i6.sm (hf.sm (by decide)), i7.sm (hf.sm (by decide)), i8.sm (hf.sm (by decide)), i9.sm (hf.sm (by decide)), i10.s2 (hf.sm (by decide)), i11.sm (hf.sm (by decide)), i12.sm (hf.sm (by decide)), i13.sm (hf.sm (by decide)), IG.s2 ⟨i13, i14⟩ (hf.sm (by decide)), i15.sm (hf.sm (by decide)), i16.sm (hf.sm (by decide))⟩
theorem IN.grow {w w' : Wd} (h : IN w) (e : Sm [20, 21, 22, 23, 24, 25, 114, 115, 116, 117, 118, 119] [(19, 0), (19, 7), (97, 9), (97, 10), (97, 11)] w w') (g8 : nn w 5 8 ≤ nn w' 5 8) (g12 : nn w 5 12 ≤ nn w' 5 12) (g15 : nn w 5 15 ≤ nn w' 5 15) : IN w' := by
  obtain ⟨⟨a1, a2⟩, ⟨b1, b2, b3⟩, ⟨c1, c2, c3, c4, c5, c6⟩, d⟩ := h
  have r := fun k hk => (e.1 k hk).1
  have f := fun q hq => (e.2 q hq).1
  have n0 : nn w' 19 0 = nn w 19 0 := nn_eq (f (19, 0) (by decide))
  refine ⟨⟨a1.eq (f (19, 0) (by decide)), a2.eq (f (19, 7) (by decide))⟩, ⟨?_, ?_, ?_⟩, ⟨?_, ?_, ?_, ?_, ?_, ?_⟩, fun i hi => ?_⟩
  · rw [f (97, 9) (by decide), f (19, 0) (by decide)]; exact b1
  · rw [f (97, 11) (by decide), f (19, 7) (by decide)]; exact b2
  · rw [f (97, 10) (by decide), n0, r 25 (by decide)]; exact b3
  · rw [r 114 (by decide), r 20 (by decide)]; exact c1
  · rw [r 115 (by decide), r 21 (by decide)]; exact c2
  · rw [r 116 (by decide), r 22 (by decide)]; exact c3
  · rw [r 117 (by decide), r 23 (by decide)]; exact c4
  · rw [r 118 (by decide), r 24 (by decide)]; exact c5
  · rw [r 119 (by decide), r 25 (by decide)]; exact c6
  · rw [n0] at hi
    obtain ⟨d1, d2, d3, d4, d5, d6, d7, d8⟩ := d i hi
    have n20 : nn w' 20 i = nn w 20 i := nn_row (r 20 (by decide))
    have n21 : nn w' 21 i = nn w 21 i := nn_row (r 21 (by decide))
    refine ⟨d1.row (r 20 (by decide)), d2.row (r 21 (by decide)), d3.row (r 23 (by decide)), d4.row (r 24 (by decide)), d5.row (r 25 (by decide)), fun z => ?_, fun z => ?_, fun z => ?_⟩
    · rw [n20] at z; rw [n21]; have := d6 z; omega
    · rw [n20] at z; rw [n21]; have := d7 z; omega
    · rw [n20] at z; exact ((d8 z).row (r 22 (by decide))).mono g15
theorem IP.grow {w w' : Wd} (h : IP w) (e : Sm sR_P [(80, 0), (97, 86)] w w') (g8 : nn w 5 8 ≤ nn w' 5 8) : IP w' := by
  obtain ⟨h1, h2, h3⟩ := h
  have r := fun k hk => (e.1 k hk).1
  have f80 := (e.2 (80, 0) (by decide)).1
  refine ⟨h1.eq f80, by rw [(e.2 (97, 86) (by decide)).1, f80]; exact h2, fun p hp => ?_⟩
  rw [nn_eq f80] at hp
  obtain ⟨k1, k2, k3, k4, V, U, k5, k6, k7, k8, k9, k10⟩ := h3 p hp
  exact ⟨(k1.row (r 81 (by decide))).mono g8, k2.row (r 82 (by decide)), by rw [r 161 (by decide), r 81 (by decide)]; exact k3, by rw [r 162 (by decide), r 82 (by decide)]; exact k4, V, U, k5, k6, by rw [(e.1 168 (by decide)).2]; exact k7, by rw [(e.1 169 (by decide)).2]; exact k8, by rw [r 83 (by decide)]; exact k9, fun k hk => by rw [r 84 (by decide)]; exact k10 k hk⟩
theorem lampS_c {w w' : Wd} {week : Nat} (n0 : nn w' 19 0 = nn w 19 0) (hh : ∀ i, i < nn w 19 0 → ∀ s t, hitB w' s t week i = hitB w s t week i) (h22 : ∀ i, i < nn w 19 0 → w'.1 22 i = w.1 22 i) (s t : Nat) : lampS w' s t week = lampS w s t week := by
  have hl : ∀ k, k ≤ nn w 19 0 → lat w' s t week k = lat w s t week k := by
    intro k hk
    induction k with
    | zero => rfl
    | succ k ih => unfold lat; rw [ih (by omega), hh k (by omega), h22 k (by omega)]
  have he : exP w' (3 - s) t week (nn w 19 0) = exP w (3 - s) t week (nn w 19 0) := by
    unfold exP
    rw [eq_iff_iff]
    constructor
    · rintro ⟨i, hi, z⟩; exact ⟨i, hi, by rw [← hh i hi]; exact z⟩
    · rintro ⟨i, hi, z⟩; exact ⟨i, hi, by rw [hh i hi]; exact z⟩
  unfold lampS
  rw [n0, hl _ (Nat.le_refl _), he]
theorem lampS_a {w w' : Wd} {week : Nat} (n0 : nn w' 19 0 = nn w 19 0 + 1) (hh : ∀ i, i < nn w 19 0 → ∀ s t, hitB w' s t week i = hitB w s t week i) (h22 : ∀ i, i < nn w 19 0 → w'.1 22 i = w.1 22 i) (hn : ∀ s t, hitB w' s t week (nn w 19 0) = false) (s t : Nat) : lampS w' s t week = lampS w s t week := by
  have hl : ∀ k, k ≤ nn w 19 0 → lat w' s t week k = lat w s t week k := by
    intro k hk
    induction k with
    | zero => rfl
    | succ k ih => unfold lat; rw [ih (by omega), hh k (by omega), h22 k (by omega)]
  have he : exP w' (3 - s) t week (nn w 19 0 + 1) = exP w (3 - s) t week (nn w 19 0) := by
    unfold exP
    rw [eq_iff_iff]
    constructor
    · rintro ⟨i, hi, z⟩
      by_cases q : i = nn w 19 0
      · rw [q, hn] at z; cases z
      · exact ⟨i, by omega, by rw [← hh i (by omega)]; exact z⟩
    · rintro ⟨i, hi, z⟩; exact ⟨i, by omega, by rw [hh i hi]; exact z⟩
  unfold lampS
  rw [n0, he]
  congr 1
  show (if hitB w' s t week (nn w 19 0) = true then w'.1 22 (nn w 19 0) else lat w' s t week (nn w 19 0)) = _
  rw [hn, if_neg (by simp)]
  exact hl _ (Nat.le_refl _)
theorem IA.yi {w : Wd} (h : IA w) : YI w := ⟨h.2.1, h.2.2.1, h.2.2.2.1, h.2.2.2.2.2.2.2.2.2.2.2.2.1, h.2.2.2.2.2.2.2.2.2.2.2.2.2.1, h.2.2.2.2.2.2.2.2.2.2.2.2.2.2.1, h.2.2.2.2.2.2.2.2.1, h.2.2.2.2.2.2.2.2.2.2.2.2.2.2.2⟩
theorem a_tray (a1 : Int32) (a2 : Int32) (a3 : Int32) {w : Wd} (h : IA w) : two (X11_tray a1 a2 a3) (X12_tray a1 a2 a3) w IA := by
  obtain ⟨i1, i2, i3, i4, i5, i6, i7, i8, i9, i10, i11, i12, i13, i14, i15, i16⟩ := id h
  refine two_fr (o_tray a1 a2 a3 i5) (f_X11_tray a1 a2 a3 w) (fun w1 => f_X12_tray a1 a2 a3 w1) (fun w' hp hf => ?_)
  rcases hp with z | ⟨p1, p2⟩
  · exact h.st z
  · exact ⟨p1, i2.sm (hf.sm (by decide)), i3.sm (hf.sm (by decide)), i4.sm (hf.sm (by decide)), p2, i6.sm (hf.sm (by decide)), i7.sm (hf.sm (by decide)), i8.sm (hf.sm (by decide)), i9.sm (hf.sm (by decide)), i10.s2 (hf.sm (by decide)), i11.sm (hf.sm (by decide)), i12.sm (hf.sm (by decide)), i13.sm (hf.sm (by decide)), IG.s2 ⟨i13, i14⟩ (hf.sm (by decide)), i15.sm (hf.sm (by decide)), i16.sm (hf.sm (by decide))⟩
theorem a_write (a1 : Int32) (a2 : Int32) (a3 : Int64) {w : Wd} (h : IA w) : two (X11_write a1 a2 a3) (X12_write a1 a2 a3) w IA := by
  obtain ⟨i1, i2, i3, i4, i5, i6, i7, i8, i9, i10, i11, i12, i13, i14, i15, i16⟩ := id h
  refine two_fr (o_write a1 a2 a3 i5) (f_X11_write a1 a2 a3 w) (fun w1 => f_X12_write a1 a2 a3 w1) (fun w' hp hf => ?_)
  rcases hp with z | ⟨p1, p2⟩
  · exact h.st z
  · exact ⟨p1, i2.sm (hf.sm (by decide)), i3.sm (hf.sm (by decide)), i4.sm (hf.sm (by decide)), p2, i6.sm (hf.sm (by decide)), i7.sm (hf.sm (by decide)), i8.sm (hf.sm (by decide)), i9.sm (hf.sm (by decide)), i10.s2 (hf.sm (by decide)), i11.sm (hf.sm (by decide)), i12.sm (hf.sm (by decide)), i13.sm (hf.sm (by decide)), IG.s2 ⟨i13, i14⟩ (hf.sm (by decide)), i15.sm (hf.sm (by decide)), i16.sm (hf.sm (by decide))⟩
theorem a_read (a1 : Int32) (a2 : Int32) {w : Wd} (h : IA w) : two (X11_read a1 a2) (X12_read a1 a2) w IA := by
  obtain ⟨i1, i2, i3, i4, i5, i6, i7, i8, i9, i10, i11, i12, i13, i14, i15, i16⟩ := id h
  refine two_fr (o_read a1 a2 i5) (f_X11_read a1 a2 w) (fun w1 => f_X12_read a1 a2 w1) (fun w' hp hf => ?_)
  exact h.st hp
theorem a_pour (a1 : Int32) (a2 : Int32) (a3 : Int32) (a4 : Int32) (a5 : Int32) {w : Wd} (h : IA w) : two (X11_pour a1 a2 a3 a4 a5) (X12_pour a1 a2 a3 a4 a5) w IA := by
  obtain ⟨i1, i2, i3, i4, i5, i6, i7, i8, i9, i10, i11, i12, i13, i14, i15, i16⟩ := id h
  refine two_fr (o_pour a1 a2 a3 a4 a5 i5) (f_X11_pour a1 a2 a3 a4 a5 w) (fun w1 => f_X12_pour a1 a2 a3 a4 a5 w1) (fun w' hp hf => ?_)
  rcases hp with z | ⟨p1, p2⟩
  · exact h.st z
  · exact ⟨p1, i2.sm (hf.sm (by decide)), i3.sm (hf.sm (by decide)), i4.sm (hf.sm (by decide)), p2, i6.sm (hf.sm (by decide)), i7.sm (hf.sm (by decide)), i8.sm (hf.sm (by decide)), i9.sm (hf.sm (by decide)), i10.s2 (hf.sm (by decide)), i11.sm (hf.sm (by decide)), i12.sm (hf.sm (by decide)), i13.sm (hf.sm (by decide)), IG.s2 ⟨i13, i14⟩ (hf.sm (by decide)), i15.sm (hf.sm (by decide)), i16.sm (hf.sm (by decide))⟩
theorem a_place (a1 : Int32) {w : Wd} (h : IA w) : two (X11_place a1) (X12_place a1) w IA := by
  obtain ⟨i1, i2, i3, i4, i5, i6, i7, i8, i9, i10, i11, i12, i13, i14, i15, i16⟩ := id h
  refine two_fr (o_place a1 i2) (f_X11_place a1 w) (fun w1 => f_X12_place a1 w1) (fun w' hp hf => ?_)
  rcases hp with z | ⟨p1, p2, p3, p4⟩
  · exact h.st z
  · exact ⟨p1, p2, i3.sm (hf.sm (by decide)), i4.sm (hf.sm (by decide)), i5.sm (hf.sm (by decide)), i6.sm (hf.sm (by decide)), i7.sm (hf.sm (by decide)), i8.sm (hf.sm (by decide)), i9.sm (hf.sm (by decide)), i10.s2 (hf.sm (by decide)), i11.sm (hf.sm (by decide)), i12.sm (hf.sm (by decide)), i13.sm (hf.sm (by decide)), IG.s2 ⟨i13, i14⟩ (hf.sm (by decide)), i15.sm (hf.sm (by decide)), i16.land i2 i3 (hf.sm (by decide)) (hf.sm (by decide)) (hf.sm (by decide)) p4 (fun i _ => by rw [(hf.row 17 (by decide) (by decide)).1]) (fun i _ => by rw [(hf.row 15 (by decide) (by decide)).1])⟩
theorem a_lamp (a1 : Int32) {w : Wd} (h : IA w) : two (X11_lamp a1) (X12_lamp a1) w IA := by
  obtain ⟨i1, i2, i3, i4, i5, i6, i7, i8, i9, i10, i11, i12, i13, i14, i15, i16⟩ := id h
  refine two_fr (o_lamp a1 i2) (f_X11_lamp a1 w) (fun w1 => f_X12_lamp a1 w1) (fun w' hp hf => ?_)
  rcases hp with z | ⟨p1, p2, p3, p4⟩
  · exact h.st z
  · exact ⟨p1, p2, i3.grow (hf.sm (by decide)) (by rw [nn_eq (hf 5 (by decide) 8 (by decide)).1]; exact Nat.le_refl _) (by rw [nn_eq (hf 5 (by decide) 12 (by decide)).1]; exact Nat.le_refl _) p3, i4.sm (hf.sm (by decide)), i5.sm (hf.sm (by decide)), i6.sm (hf.sm (by decide)), i7.sm (hf.sm (by decide)), i8.sm (hf.sm (by decide)), i9.sm (hf.sm (by decide)), i10.s2 (hf.sm (by decide)), i11.sm (hf.sm (by decide)), i12.sm (hf.sm (by decide)), i13.sm (hf.sm (by decide)), IG.s2 ⟨i13, i14⟩ (hf.sm (by decide)), i15.sm (hf.sm (by decide)), i16.land i2 i3 (hf.sm (by decide)) (hf.sm (by decide)) (hf.sm (by decide)) (fun i _ => by rw [(hf.row 6 (by decide) (by decide)).1]) p4 (fun i _ => by rw [(hf.row 15 (by decide) (by decide)).1])⟩
theorem a_teacher (a1 : Int32) (a2 : Int32) {w : Wd} (h : IA w) : two (X11_teacher a1 a2) (X12_teacher a1 a2) w IA := by
  obtain ⟨i1, i2, i3, i4, i5, i6, i7, i8, i9, i10, i11, i12, i13, i14, i15, i16⟩ := id h
  refine two_fr (o_teacher a1 a2 i2) (f_X11_teacher a1 a2 w) (fun w1 => f_X12_teacher a1 a2 w1) (fun w' hp hf => ?_)
  rcases hp with z | ⟨p1, p2, p3, p4⟩
  · exact h.st z
  · exact ⟨p1, p2, i3.grow (hf.sm (by decide)) (by rw [nn_eq (hf 5 (by decide) 8 (by decide)).1]; exact Nat.le_refl _) p3 (by rw [nn_eq (hf 5 (by decide) 15 (by decide)).1]; exact Nat.le_refl _), i4.sm (hf.sm (by decide)), i5.sm (hf.sm (by decide)), i6.sm (hf.sm (by decide)), i7.sm (hf.sm (by decide)), i8.sm (hf.sm (by decide)), i9.sm (hf.sm (by decide)), i10.s2 (hf.sm (by decide)), i11.sm (hf.sm (by decide)), i12.sm (hf.sm (by decide)), i13.sm (hf.sm (by decide)), IG.s2 ⟨i13, i14⟩ (hf.sm (by decide)), i15.sm (hf.sm (by decide)), i16.land i2 i3 (hf.sm (by decide)) (hf.sm (by decide)) (hf.sm (by decide)) (fun i _ => by rw [(hf.row 6 (by decide) (by decide)).1]) (fun i _ => by rw [(hf.row 17 (by decide) (by decide)).1]) (fun i hi => (p4 i hi).1)⟩
theorem a_learner (a1 : Int32) (a2 : Int32) (a3 : Int32) {w : Wd} (h : IA w) : two (X11_learner a1 a2 a3) (X12_learner a1 a2 a3) w IA := by
  obtain ⟨i1, i2, i3, i4, i5, i6, i7, i8, i9, i10, i11, i12, i13, i14, i15, i16⟩ := id h
  refine two_fr (o_learner a1 a2 a3 i2) (f_X11_learner a1 a2 a3 w) (fun w1 => f_X12_learner a1 a2 a3 w1) (fun w' hp hf => ?_)
  rcases hp with z | ⟨p1, p2, p3, p4, p5⟩
  · exact h.st z
  · exact ⟨p1, p2, i3.grow (hf.sm (by decide)) p4 (by rw [nn_eq (hf 5 (by decide) 12 (by decide)).1]; exact Nat.le_refl _) (by rw [nn_eq (hf 5 (by decide) 15 (by decide)).1]; exact Nat.le_refl _), i4.sm (hf.sm (by decide)), i5.sm (hf.sm (by decide)), i6.sm (hf.sm (by decide)), i7.sm (hf.sm (by decide)), i8.sm (hf.sm (by decide)), i9.sm (hf.sm (by decide)), i10.s2 (hf.sm (by decide)), i11.grow (hf.sm (by decide)) p4, i12.sm (hf.sm (by decide)), i13.sm (hf.sm (by decide)), IG.s2 ⟨i13, i14⟩ (hf.sm (by decide)), i15.sm (hf.sm (by decide)), i16.zero p3⟩
theorem a_way (a1 : Int32) (a2 : Int32) (a3 : Int32) (a4 : Int32) (a5 : Int32) {w : Wd} (h : IA w) : two (X11_way a1 a2 a3 a4 a5) (X12_way a1 a2 a3 a4 a5) w IA := by
  obtain ⟨i1, i2, i3, i4, i5, i6, i7, i8, i9, i10, i11, i12, i13, i14, i15, i16⟩ := id h
  refine two_fr (o_way a1 a2 a3 a4 a5 i2) (f_X11_way a1 a2 a3 a4 a5 w) (fun w1 => f_X12_way a1 a2 a3 a4 a5 w1) (fun w' hp hf => ?_)
  rcases hp with z | ⟨p1, p2, p3⟩
  · exact h.st z
  · exact ⟨p1, p2, i3.sm (hf.sm (by decide)), i4.sm (hf.sm (by decide)), i5.sm (hf.sm (by decide)), i6.sm (hf.sm (by decide)), i7.sm (hf.sm (by decide)), i8.sm (hf.sm (by decide)), i9.sm (hf.sm (by decide)), i10.s2 (hf.sm (by decide)), i11.sm (hf.sm (by decide)), i12.sm (hf.sm (by decide)), i13.sm (hf.sm (by decide)), IG.s2 ⟨i13, i14⟩ (hf.sm (by decide)), i15.sm (hf.sm (by decide)), i16.zero p3⟩
theorem a_arrival (a1 : Int32) (a2 : Int32) (a3 : Int32) {w : Wd} (h : IA w) : two (X11_arrival a1 a2 a3) (X12_arrival a1 a2 a3) w IA := by
  obtain ⟨i1, i2, i3, i4, i5, i6, i7, i8, i9, i10, i11, i12, i13, i14, i15, i16⟩ := id h
  refine two_fr (o_arrival a1 a2 a3 i2) (f_X11_arrival a1 a2 a3 w) (fun w1 => f_X12_arrival a1 a2 a3 w1) (fun w' hp hf => ?_)
  exact ⟨hp, i2.sm (hf.sm (by decide)), i3.sm (hf.sm (by decide)), i4.sm (hf.sm (by decide)), i5.sm (hf.sm (by decide)), i6.sm (hf.sm (by decide)), i7.sm (hf.sm (by decide)), i8.sm (hf.sm (by decide)), i9.sm (hf.sm (by decide)), i10.s2 (hf.sm (by decide)), i11.sm (hf.sm (by decide)), i12.sm (hf.sm (by decide)), i13.sm (hf.sm (by decide)), IG.s2 ⟨i13, i14⟩ (hf.sm (by decide)), i15.sm (hf.sm (by decide)), i16.sm (hf.sm (by decide))⟩
theorem a_where (a1 : Int32) (a2 : Int32) (a3 : Int32) {w : Wd} (h : IA w) : two (X11_where a1 a2 a3) (X12_where a1 a2 a3) w IA := by
  obtain ⟨i1, i2, i3, i4, i5, i6, i7, i8, i9, i10, i11, i12, i13, i14, i15, i16⟩ := id h
  refine two_fr (o_where a1 a2 a3 i2 i3 i4) (f_X11_where a1 a2 a3 w) (fun w1 => f_X12_where a1 a2 a3 w1) (fun w' hp hf => ?_)
  exact ⟨hp.1, i2.sm (hf.sm (by decide)), i3.sm (hf.sm (by decide)), hp.2, i5.sm (hf.sm (by decide)), i6.sm (hf.sm (by decide)), i7.sm (hf.sm (by decide)), i8.sm (hf.sm (by decide)), i9.sm (hf.sm (by decide)), i10.s2 (hf.sm (by decide)), i11.sm (hf.sm (by decide)), i12.sm (hf.sm (by decide)), i13.sm (hf.sm (by decide)), IG.s2 ⟨i13, i14⟩ (hf.sm (by decide)), i15.sm (hf.sm (by decide)), i16.sm (hf.sm (by decide))⟩
theorem a_lit (a1 : Int32) (a2 : Int32) {w : Wd} (h : IA w) : two (X11_lit a1 a2) (X12_lit a1 a2) w IA := by
  obtain ⟨i1, i2, i3, i4, i5, i6, i7, i8, i9, i10, i11, i12, i13, i14, i15, i16⟩ := id h
  refine two_fr (o_lit a1 a2 i2 i3 i4) (f_X11_lit a1 a2 w) (fun w1 => f_X12_lit a1 a2 w1) (fun w' hp hf => ?_)
  exact ⟨hp.1, i2.sm (hf.sm (by decide)), i3.sm (hf.sm (by decide)), hp.2, i5.sm (hf.sm (by decide)), i6.sm (hf.sm (by decide)), i7.sm (hf.sm (by decide)), i8.sm (hf.sm (by decide)), i9.sm (hf.sm (by decide)), i10.s2 (hf.sm (by decide)), i11.sm (hf.sm (by decide)), i12.sm (hf.sm (by decide)), i13.sm (hf.sm (by decide)), IG.s2 ⟨i13, i14⟩ (hf.sm (by decide)), i15.sm (hf.sm (by decide)), i16.sm (hf.sm (by decide))⟩
theorem a_note (a1 : Int32) (a2 : Int32) (a3 : Int32) (a4 : Int32) (a5 : Int32) (a6 : Int32) {w : Wd} (h : IA w) : two (X11_note a1 a2 a3 a4 a5 a6) (X12_note a1 a2 a3 a4 a5 a6) w IA := by
  obtain ⟨i1, i2, i3, i4, i5, i6, i7, i8, i9, i10, i11, i12, i13, i14, i15, i16⟩ := id h
  refine two_fr (o_note a1 a2 a3 a4 a5 a6 i2 i3) (f_X11_note a1 a2 a3 a4 a5 a6 w) (fun w1 => f_X12_note a1 a2 a3 a4 a5 a6 w1) (fun w' hp hf => ?_)
  rcases hp with z | ⟨p1, p2, p3, f, p4, p6, p7, p8, p9, p10⟩
  · exact h.st z
  · have hrow : ∀ i, i < nn w 19 0 → ∀ week s t, hitB w' s t week i = hitB w s t week i := fun i hi week s t => by
      obtain ⟨q1, q2, q3, q4, q5, q6⟩ := p10 i hi
      unfold hitB
      rw [nn_eq q1, nn_eq q2, nn_eq q4, nn_eq q5, nn_eq q6, nn_eq p9]
    have hy : IY w' := by
      rcases p6 with y | ⟨y1, y2⟩
      · refine i16.note (hf.sm (by decide)) (hf.sm (by decide)) (f := f) (by omega) y (fun week hw s t _ => ?_)
        refine lampS_a p8 (fun i hi s t => hrow i hi week s t) (fun i hi => (p10 i hi).2.2.1) (fun s t => ?_) s t
        unfold hitB
        exact decide_eq_false (fun z => by have := z.1; rw [p7] at this; omega)
      · refine i16.note (hf.sm (by decide)) (hf.sm (by decide)) (f := 60) (by omega) (same73 i16 y1) (fun week hw s t _ => ?_)
        refine lampS_a p8 (fun i hi s t => hrow i hi week s t) (fun i hi => (p10 i hi).2.2.1) (fun s t => ?_) s t
        unfold hitB
        exact decide_eq_false (fun z => by have := z.2.2.1; rw [nn_eq p9] at this; omega)
    exact ⟨p1, i2.sm (hf.sm (by decide)), p2, Or.inl p3, i5.sm (hf.sm (by decide)), i6.sm (hf.sm (by decide)), i7.sm (hf.sm (by decide)), i8.sm (hf.sm (by decide)), i9.sm (hf.sm (by decide)), i10.s2 (hf.sm (by decide)), i11.sm (hf.sm (by decide)), i12.sm (hf.sm (by decide)), i13.sm (hf.sm (by decide)), IG.s2 ⟨i13, i14⟩ (hf.sm (by decide)), i15.sm (hf.sm (by decide)), hy⟩
theorem a_asof (a1 : Int32) {w : Wd} (h : IA w) : two (X11_asof a1) (X12_asof a1) w IA := by
  obtain ⟨i1, i2, i3, i4, i5, i6, i7, i8, i9, i10, i11, i12, i13, i14, i15, i16⟩ := id h
  refine two_fr (o_asof a1 i3) (f_X11_asof a1 w) (fun w1 => f_X12_asof a1 w1) (fun w' hp hf => ?_)
  rcases hp with z | ⟨p1, p2, p3, f, p4, p5, p6, p7⟩
  · exact h.st z
  · have hy : IY w' := by
      refine i16.note (hf.sm (by decide)) (hf.sm (by decide)) (f := f) p4 p5 (fun week hw s t _ => ?_)
      refine lampS_c (nn_eq (hf 19 (by decide) 0 (by decide)).1) (fun i hi s t => ?_) (fun i _ => by rw [(hf.row 22 (by decide) (by decide)).1]) s t
      have n20 : nn w' 20 i = nn w 20 i := nn_row (hf.row 20 (by decide) (by decide)).1
      have n21 : nn w' 21 i = nn w 21 i := nn_row (hf.row 21 (by decide) (by decide)).1
      have n23 : nn w' 23 i = nn w 23 i := nn_row (hf.row 23 (by decide) (by decide)).1
      have n24 : nn w' 24 i = nn w 24 i := nn_row (hf.row 24 (by decide) (by decide)).1
      have n25 : nn w' 25 i = nn w 25 i := nn_row (hf.row 25 (by decide) (by decide)).1
      unfold hitB
      rw [n20, n21, n23, n24, n25]
      rcases p7 i hi with z | z
      · exact decide_eq_decide.mpr (by rw [z])
      · rw [decide_eq_false (fun y => by have := y.1; omega), decide_eq_false (fun y => by have := y.1; omega)]
    exact ⟨p1, i2.sm (hf.sm (by decide)), p2, Or.inl p3, i5.sm (hf.sm (by decide)), i6.sm (hf.sm (by decide)), i7.sm (hf.sm (by decide)), i8.sm (hf.sm (by decide)), i9.sm (hf.sm (by decide)), i10.s2 (hf.sm (by decide)), i11.sm (hf.sm (by decide)), i12.sm (hf.sm (by decide)), i13.sm (hf.sm (by decide)), IG.s2 ⟨i13, i14⟩ (hf.sm (by decide)), i15.sm (hf.sm (by decide)), hy⟩
theorem a_feed (a1 : Int32) (a2 : Int32) (a3 : Int32) (a4 : Int32) (a5 : Int32) {w : Wd} (h : IA w) : two (X11_feed a1 a2 a3 a4 a5) (X12_feed a1 a2 a3 a4 a5) w IA := by
  obtain ⟨i1, i2, i3, i4, i5, i6, i7, i8, i9, i10, i11, i12, i13, i14, i15, i16⟩ := id h
  refine two_fr (o_feed a1 a2 a3 a4 a5 i6) (f_X11_feed a1 a2 a3 a4 a5 w) (fun w1 => f_X12_feed a1 a2 a3 a4 a5 w1) (fun w' hp hf => ?_)
  rcases hp with rfl | p2
  · exact h
  · exact ⟨i1.sm (hf.sm (by decide)), i2.sm (hf.sm (by decide)), i3.sm (hf.sm (by decide)), i4.sm (hf.sm (by decide)), i5.sm (hf.sm (by decide)), p2, i7.sm (hf.sm (by decide)), i8.sm (hf.sm (by decide)), i9.sm (hf.sm (by decide)), i10.s2 (hf.sm (by decide)), i11.sm (hf.sm (by decide)), i12.sm (hf.sm (by decide)), i13.sm (hf.sm (by decide)), IG.s2 ⟨i13, i14⟩ (hf.sm (by decide)), i15.sm (hf.sm (by decide)), i16.sm (hf.sm (by decide))⟩
theorem a_orders (a1 : Int32) (a2 : Int32) (a3 : Int32) {w : Wd} (h : IA w) : two (X11_orders a1 a2 a3) (X12_orders a1 a2 a3) w IA := by
  obtain ⟨i1, i2, i3, i4, i5, i6, i7, i8, i9, i10, i11, i12, i13, i14, i15, i16⟩ := id h
  refine two_fr (o_orders a1 a2 a3 i12 i13 i14 i15 i6) (f_X11_orders a1 a2 a3 w) (fun w1 => f_X12_orders a1 a2 a3 w1) (fun w' hp hf => ?_)
  obtain ⟨p1, p2, p3, p4, p5, p6, p7⟩ := hp
  exact ⟨p1, i2.sm (hf.sm (by decide)), i3.sm (hf.sm (by decide)), i4.sm (hf.sm (by decide)), i5.sm (hf.sm (by decide)), p5, p6 i7, i8.sm (hf.sm (by decide)), i9.sm (hf.sm (by decide)), i10.s2 (hf.sm (by decide)), i11.sm (hf.sm (by decide)), i12.sm (hf.sm (by decide)), p2, p3, p4, i16.ord i13 i15 p7 (hf.sm (by decide)) (hf.sm (by decide))⟩
theorem a_rules (a1 : Int32) (a2 : Int32) (a3 : Int32) {w : Wd} (h : IA w) : two (X11_rules a1 a2 a3) (X12_rules a1 a2 a3) w IA := by
  obtain ⟨i1, i2, i3, i4, i5, i6, i7, i8, i9, i10, i11, i12, i13, i14, i15, i16⟩ := id h
  refine two_fr (o_rules a1 a2 a3 i13 i14) (f_X11_rules a1 a2 a3 w) (fun w1 => f_X12_rules a1 a2 a3 w1) (fun w' hp hf => ?_)
  obtain ⟨p1, p2, p3⟩ := hp
  exact ⟨p1, i2.sm (hf.sm (by decide)), i3.sm (hf.sm (by decide)), i4.sm (hf.sm (by decide)), i5.sm (hf.sm (by decide)), i6.sm (hf.sm (by decide)), i7.sm (hf.sm (by decide)), i8.sm (hf.sm (by decide)), i9.sm (hf.sm (by decide)), i10.s2 (hf.sm (by decide)), i11.sm (hf.sm (by decide)), i12.sm (hf.sm (by decide)), p2, p3, i15.sm (hf.sm (by decide)), i16.sm (hf.sm (by decide))⟩
theorem a_struck (a1 : Int32) (a2 : Int32) (a3 : Int32) {w : Wd} (h : IA w) : two (X11_struck a1 a2 a3) (X12_struck a1 a2 a3) w IA := by
  obtain ⟨i1, i2, i3, i4, i5, i6, i7, i8, i9, i10, i11, i12, i13, i14, i15, i16⟩ := id h
  refine two_fr (o_struck a1 a2 a3 i13 i14) (f_X11_struck a1 a2 a3 w) (fun w1 => f_X12_struck a1 a2 a3 w1) (fun w' hp hf => ?_)
  obtain ⟨p1, p2, p3⟩ := hp
  exact ⟨p1, i2.sm (hf.sm (by decide)), i3.sm (hf.sm (by decide)), i4.sm (hf.sm (by decide)), i5.sm (hf.sm (by decide)), i6.sm (hf.sm (by decide)), i7.sm (hf.sm (by decide)), i8.sm (hf.sm (by decide)), i9.sm (hf.sm (by decide)), i10.s2 (hf.sm (by decide)), i11.sm (hf.sm (by decide)), i12.sm (hf.sm (by decide)), p2, p3, i15.sm (hf.sm (by decide)), i16.sm (hf.sm (by decide))⟩
theorem a_taught (a1 : Int32) (a2 : Int32) (a3 : Int32) {w : Wd} (h : IA w) : two (X11_taught a1 a2 a3) (X12_taught a1 a2 a3) w IA := by
  obtain ⟨i1, i2, i3, i4, i5, i6, i7, i8, i9, i10, i11, i12, i13, i14, i15, i16⟩ := id h
  refine two_fr (o_taught a1 a2 a3 h.yi) (f_X11_taught a1 a2 a3 w) (fun w1 => f_X12_taught a1 a2 a3 w1) (fun w' hp hf => ?_)
  obtain ⟨p1, p2, p3, p4⟩ := hp
  exact ⟨p1, i2.sm (hf.sm (by decide)), i3.sm (hf.sm (by decide)), p3, i5.sm (hf.sm (by decide)), i6.sm (hf.sm (by decide)), i7.sm (hf.sm (by decide)), i8.sm (hf.sm (by decide)), i9.sm (hf.sm (by decide)), i10.s2 (hf.sm (by decide)), i11.sm (hf.sm (by decide)), i12.sm (hf.sm (by decide)), i13.sm (hf.sm (by decide)), p2, i15.sm (hf.sm (by decide)), p4⟩
theorem a_knows (a1 : Int32) (a2 : Int32) {w : Wd} (h : IA w) : two (X11_knows a1 a2) (X12_knows a1 a2) w IA := by
  obtain ⟨i1, i2, i3, i4, i5, i6, i7, i8, i9, i10, i11, i12, i13, i14, i15, i16⟩ := id h
  refine two_fr (o_knows a1 a2 h.yi) (f_X11_knows a1 a2 w) (fun w1 => f_X12_knows a1 a2 w1) (fun w' hp hf => ?_)
  obtain ⟨p1, p2, p3, p4⟩ := hp
  exact ⟨p1, i2.sm (hf.sm (by decide)), i3.sm (hf.sm (by decide)), p3, i5.sm (hf.sm (by decide)), i6.sm (hf.sm (by decide)), i7.sm (hf.sm (by decide)), i8.sm (hf.sm (by decide)), i9.sm (hf.sm (by decide)), i10.s2 (hf.sm (by decide)), i11.sm (hf.sm (by decide)), i12.sm (hf.sm (by decide)), i13.sm (hf.sm (by decide)), p2, i15.sm (hf.sm (by decide)), p4⟩
theorem a_hours (a1 : Int32) (a2 : Int32) (a3 : Int32) {w : Wd} (h : IA w) : two (X11_hours a1 a2 a3) (X12_hours a1 a2 a3) w IA := by
  obtain ⟨i1, i2, i3, i4, i5, i6, i7, i8, i9, i10, i11, i12, i13, i14, i15, i16⟩ := id h
  refine two_fr (o_hours a1 a2 a3 h.yi) (f_X11_hours a1 a2 a3 w) (fun w1 => f_X12_hours a1 a2 a3 w1) (fun w' hp hf => ?_)
  obtain ⟨p1, p2, p3, p4⟩ := hp
  exact ⟨p1, i2.sm (hf.sm (by decide)), i3.sm (hf.sm (by decide)), p3, i5.sm (hf.sm (by decide)), i6.sm (hf.sm (by decide)), i7.sm (hf.sm (by decide)), i8.sm (hf.sm (by decide)), i9.sm (hf.sm (by decide)), i10.s2 (hf.sm (by decide)), i11.sm (hf.sm (by decide)), i12.sm (hf.sm (by decide)), i13.sm (hf.sm (by decide)), p2, i15.sm (hf.sm (by decide)), p4⟩
theorem a_gap (a1 : Int32) (a2 : Int32) {w : Wd} (h : IA w) : two (X11_gap a1 a2) (X12_gap a1 a2) w IA := by
  obtain ⟨i1, i2, i3, i4, i5, i6, i7, i8, i9, i10, i11, i12, i13, i14, i15, i16⟩ := id h
  refine two_fr (o_gap a1 a2 h.yi) (f_X11_gap a1 a2 w) (fun w1 => f_X12_gap a1 a2 w1) (fun w' hp hf => ?_)
  obtain ⟨p1, p2, p3, p4⟩ := hp
  exact ⟨p1, i2.sm (hf.sm (by decide)), i3.sm (hf.sm (by decide)), p3, i5.sm (hf.sm (by decide)), i6.sm (hf.sm (by decide)), i7.sm (hf.sm (by decide)), i8.sm (hf.sm (by decide)), i9.sm (hf.sm (by decide)), i10.s2 (hf.sm (by decide)), i11.sm (hf.sm (by decide)), i12.sm (hf.sm (by decide)), i13.sm (hf.sm (by decide)), p2, i15.sm (hf.sm (by decide)), p4⟩
theorem a_foretold (a1 : Int32) (a2 : Int32) (a3 : Int32) (a4 : Int32) {w : Wd} (h : IA w) : two (X11_foretold a1 a2 a3 a4) (X12_foretold a1 a2 a3 a4) w IA := by
  obtain ⟨i1, i2, i3, i4, i5, i6, i7, i8, i9, i10, i11, i12, i13, i14, i15, i16⟩ := id h
  refine two_fr (o_foretold a1 a2 a3 a4 h.yi) (f_X11_foretold a1 a2 a3 a4 w) (fun w1 => f_X12_foretold a1 a2 a3 a4 w1) (fun w' hp hf => ?_)
  obtain ⟨p1, p2, p3, p4⟩ := hp
  exact ⟨p1, i2.sm (hf.sm (by decide)), i3.sm (hf.sm (by decide)), p3, i5.sm (hf.sm (by decide)), i6.sm (hf.sm (by decide)), i7.sm (hf.sm (by decide)), i8.sm (hf.sm (by decide)), i9.sm (hf.sm (by decide)), i10.s2 (hf.sm (by decide)), i11.sm (hf.sm (by decide)), i12.sm (hf.sm (by decide)), i13.sm (hf.sm (by decide)), p2, i15.sm (hf.sm (by decide)), p4⟩
theorem a_near (a1 : Int32) (a2 : Int32) {w : Wd} (h : IA w) : two (X11_near a1 a2) (X12_near a1 a2) w IA := by
  obtain ⟨i1, i2, i3, i4, i5, i6, i7, i8, i9, i10, i11, i12, i13, i14, i15, i16⟩ := id h
  refine two_fr (o_near a1 a2 h.yi) (f_X11_near a1 a2 w) (fun w1 => f_X12_near a1 a2 w1) (fun w' hp hf => ?_)
  obtain ⟨p1, p2, p3, p4⟩ := hp
  exact ⟨p1, i2.sm (hf.sm (by decide)), i3.sm (hf.sm (by decide)), p3, i5.sm (hf.sm (by decide)), i6.sm (hf.sm (by decide)), i7.sm (hf.sm (by decide)), i8.sm (hf.sm (by decide)), i9.sm (hf.sm (by decide)), i10.s2 (hf.sm (by decide)), i11.sm (hf.sm (by decide)), i12.sm (hf.sm (by decide)), i13.sm (hf.sm (by decide)), p2, i15.sm (hf.sm (by decide)), p4⟩
theorem a_slips (a1 : Int32) (a2 : Int32) {w : Wd} (h : IA w) : two (X11_slips a1 a2) (X12_slips a1 a2) w IA := by
  obtain ⟨i1, i2, i3, i4, i5, i6, i7, i8, i9, i10, i11, i12, i13, i14, i15, i16⟩ := id h
  refine two_fr (o_slips a1 a2 h.yi i11) (f_X11_slips a1 a2 w) (fun w1 => f_X12_slips a1 a2 w1) (fun w' hp hf => ?_)
  obtain ⟨p1, p2, p3, p4⟩ := hp
  exact ⟨p1, i2.sm (hf.sm (by decide)), i3.sm (hf.sm (by decide)), p3, i5.sm (hf.sm (by decide)), i6.sm (hf.sm (by decide)), i7.sm (hf.sm (by decide)), i8.sm (hf.sm (by decide)), i9.sm (hf.sm (by decide)), i10.s2 (hf.sm (by decide)), i11.sm (hf.sm (by decide)), i12.sm (hf.sm (by decide)), i13.sm (hf.sm (by decide)), p2, i15.sm (hf.sm (by decide)), p4⟩
theorem a_owed (a1 : Int32) (a2 : Int32) {w : Wd} (h : IA w) : two (X11_owed a1 a2) (X12_owed a1 a2) w IA := by
  obtain ⟨i1, i2, i3, i4, i5, i6, i7, i8, i9, i10, i11, i12, i13, i14, i15, i16⟩ := id h
  refine two_fr (o_owed a1 a2 h.yi i11) (f_X11_owed a1 a2 w) (fun w1 => f_X12_owed a1 a2 w1) (fun w' hp hf => ?_)
  obtain ⟨p1, p2, p3, p4⟩ := hp
  exact ⟨p1, i2.sm (hf.sm (by decide)), i3.sm (hf.sm (by decide)), p3, i5.sm (hf.sm (by decide)), i6.sm (hf.sm (by decide)), i7.sm (hf.sm (by decide)), i8.sm (hf.sm (by decide)), i9.sm (hf.sm (by decide)), i10.s2 (hf.sm (by decide)), i11.sm (hf.sm (by decide)), i12.sm (hf.sm (by decide)), i13.sm (hf.sm (by decide)), p2, i15.sm (hf.sm (by decide)), p4⟩
theorem a_reads (a1 : Int32) (a2 : Int32) {w : Wd} (h : IA w) : two (X11_reads a1 a2) (X12_reads a1 a2) w IA := by
  obtain ⟨i1, i2, i3, i4, i5, i6, i7, i8, i9, i10, i11, i12, i13, i14, i15, i16⟩ := id h
  refine two_fr (o_reads a1 a2 h.yi i11) (f_X11_reads a1 a2 w) (fun w1 => f_X12_reads a1 a2 w1) (fun w' hp hf => ?_)
  obtain ⟨p1, p2, p3, p4⟩ := hp
  exact ⟨p1, i2.sm (hf.sm (by decide)), i3.sm (hf.sm (by decide)), p3, i5.sm (hf.sm (by decide)), i6.sm (hf.sm (by decide)), i7.sm (hf.sm (by decide)), i8.sm (hf.sm (by decide)), i9.sm (hf.sm (by decide)), i10.s2 (hf.sm (by decide)), i11.sm (hf.sm (by decide)), i12.sm (hf.sm (by decide)), i13.sm (hf.sm (by decide)), p2, i15.sm (hf.sm (by decide)), p4⟩
theorem a_flag (a1 : Int32) (a2 : Int32) {w : Wd} (h : IA w) : two (X11_flag a1 a2) (X12_flag a1 a2) w IA := by
  obtain ⟨i1, i2, i3, i4, i5, i6, i7, i8, i9, i10, i11, i12, i13, i14, i15, i16⟩ := id h
  refine two_fr (o_flag a1 a2 h.yi i11) (f_X11_flag a1 a2 w) (fun w1 => f_X12_flag a1 a2 w1) (fun w' hp hf => ?_)
  obtain ⟨p1, p2, p3, p4⟩ := hp
  exact ⟨p1, i2.sm (hf.sm (by decide)), i3.sm (hf.sm (by decide)), p3, i5.sm (hf.sm (by decide)), i6.sm (hf.sm (by decide)), i7.sm (hf.sm (by decide)), i8.sm (hf.sm (by decide)), i9.sm (hf.sm (by decide)), i10.s2 (hf.sm (by decide)), i11.sm (hf.sm (by decide)), i12.sm (hf.sm (by decide)), i13.sm (hf.sm (by decide)), p2, i15.sm (hf.sm (by decide)), p4⟩
theorem a_lesson (a1 : Int32) (a2 : Int32) (a3 : Int32) (a4 : Int32) {w : Wd} (h : IA w) : two (X11_lesson a1 a2 a3 a4) (X12_lesson a1 a2 a3 a4) w IA := by
  obtain ⟨i1, i2, i3, i4, i5, i6, i7, i8, i9, i10, i11, i12, i13, i14, i15, i16⟩ := id h
  refine two_fr (o_lesson a1 a2 a3 a4 i9) (f_X11_lesson a1 a2 a3 a4 w) (fun w1 => f_X12_lesson a1 a2 a3 a4 w1) (fun w' hp hf => ?_)
  rcases hp with z | ⟨p1, p2, p3⟩
  · exact h.st z
  · exact ⟨p1, i2.sm (hf.sm (by decide)), i3.sm (hf.sm (by decide)), i4.sm (hf.sm (by decide)), i5.sm (hf.sm (by decide)), i6.sm (hf.sm (by decide)), i7.sm (hf.sm (by decide)), i8.sm (hf.sm (by decide)), p2, i10.s2 (hf.sm (by decide)), i11.sm (hf.sm (by decide)), i12.sm (hf.sm (by decide)), i13.sm (hf.sm (by decide)), IG.s2 ⟨i13, i14⟩ (hf.sm (by decide)), i15.sm (hf.sm (by decide)), i16.zero p3⟩
theorem a_fade (a1 : Int32) {w : Wd} (h : IA w) : two (X11_fade a1) (X12_fade a1) w IA := by
  obtain ⟨i1, i2, i3, i4, i5, i6, i7, i8, i9, i10, i11, i12, i13, i14, i15, i16⟩ := id h
  refine two_fr (o_fade a1 i9) (f_X11_fade a1 w) (fun w1 => f_X12_fade a1 w1) (fun w' hp hf => ?_)
  rcases hp with z | ⟨p1, p2, p3⟩
  · exact h.st z
  · exact ⟨p1, i2.sm (hf.sm (by decide)), i3.sm (hf.sm (by decide)), i4.sm (hf.sm (by decide)), i5.sm (hf.sm (by decide)), i6.sm (hf.sm (by decide)), i7.sm (hf.sm (by decide)), i8.sm (hf.sm (by decide)), p2, i10.s2 (hf.sm (by decide)), i11.sm (hf.sm (by decide)), i12.sm (hf.sm (by decide)), i13.sm (hf.sm (by decide)), IG.s2 ⟨i13, i14⟩ (hf.sm (by decide)), i15.sm (hf.sm (by decide)), i16.zero p3⟩
theorem a_proof (a1 : Int32) (a2 : Int32) (a3 : Int64) (a5 : Int64) {w : Wd} (h : IA w) : two (X11_proof a1 a2 a3 a5) (X12_proof a1 a2 a3 a5) w IA := by
  obtain ⟨i1, i2, i3, i4, i5, i6, i7, i8, i9, i10, i11, i12, i13, i14, i15, i16⟩ := id h
  refine two_fr (o_proof a1 a2 a3 a5 i2 i11) (f_X11_proof a1 a2 a3 a5 w) (fun w1 => f_X12_proof a1 a2 a3 a5 w1) (fun w' hp hf => ?_)
  rcases hp with z | ⟨p1, p2⟩
  · exact h.st z
  · exact ⟨p1, i2.sm (hf.sm (by decide)), i3.sm (hf.sm (by decide)), i4.sm (hf.sm (by decide)), i5.sm (hf.sm (by decide)), i6.sm (hf.sm (by decide)), i7.sm (hf.sm (by decide)), i8.sm (hf.sm (by decide)), i9.sm (hf.sm (by decide)), i10.s2 (hf.sm (by decide)), p2, i12.sm (hf.sm (by decide)), i13.sm (hf.sm (by decide)), IG.s2 ⟨i13, i14⟩ (hf.sm (by decide)), i15.sm (hf.sm (by decide)), i16.sm (hf.sm (by decide))⟩
theorem a_send (a1 : Int32) (a2 : Int32) (a3 : Int32) (a4 : Int32) {w : Wd} (h : IA w) : two (X11_send a1 a2 a3 a4) (X12_send a1 a2 a3 a4) w IA := by
  obtain ⟨i1, i2, i3, i4, i5, i6, i7, i8, i9, i10, i11, i12, i13, i14, i15, i16⟩ := id h
  refine two_fr (o_send a1 a2 a3 a4 i2 i3 i4 i5 i8) (f_X11_send a1 a2 a3 a4 w) (fun w1 => f_X12_send a1 a2 a3 a4 w1) (fun w' hp hf => ?_)
  obtain ⟨p1, p2, p3⟩ := hp
  exact ⟨p1, i2.sm (hf.sm (by decide)), i3.sm (hf.sm (by decide)), p2, i5.sm (hf.sm (by decide)), i6.sm (hf.sm (by decide)), i7.sm (hf.sm (by decide)), p3, i9.sm (hf.sm (by decide)), i10.s2 (hf.sm (by decide)), i11.sm (hf.sm (by decide)), i12.sm (hf.sm (by decide)), i13.sm (hf.sm (by decide)), IG.s2 ⟨i13, i14⟩ (hf.sm (by decide)), i15.sm (hf.sm (by decide)), i16.sm (hf.sm (by decide))⟩
theorem a_sent (a1 : Int32) {w : Wd} (h : IA w) : two (X11_sent a1) (X12_sent a1) w IA := by
  obtain ⟨i1, i2, i3, i4, i5, i6, i7, i8, i9, i10, i11, i12, i13, i14, i15, i16⟩ := id h
  refine two_fr (o_sent2 a1 i8) (f_X11_sent a1 w) (fun w1 => f_X12_sent a1 w1) (fun w' hp hf => ?_)
  exact h.st hp
theorem a_count (a1 : Int32) (a2 : Int32) (a3 : Int32) (a4 : Int32) {w : Wd} (h : IA w) : two (X11_count a1 a2 a3 a4) (X12_count a1 a2 a3 a4) w IA := by
  obtain ⟨i1, i2, i3, i4, i5, i6, i7, i8, i9, i10, i11, i12, i13, i14, i15, i16⟩ := id h
  refine two_fr (o_count a1 a2 a3 a4 i10) (f_X11_count a1 a2 a3 a4 w) (fun w1 => f_X12_count a1 a2 a3 a4 w1) (fun w' hp hf => ?_)
  exact ⟨hp, i2.sm (hf.sm (by decide)), i3.sm (hf.sm (by decide)), i4.sm (hf.sm (by decide)), i5.sm (hf.sm (by decide)), i6.sm (hf.sm (by decide)), i7.sm (hf.sm (by decide)), i8.sm (hf.sm (by decide)), i9.sm (hf.sm (by decide)), i10.s2 (hf.sm (by decide)), i11.sm (hf.sm (by decide)), i12.sm (hf.sm (by decide)), i13.sm (hf.sm (by decide)), IG.s2 ⟨i13, i14⟩ (hf.sm (by decide)), i15.sm (hf.sm (by decide)), i16.sm (hf.sm (by decide))⟩
