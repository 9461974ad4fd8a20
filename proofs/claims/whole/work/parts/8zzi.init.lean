/-! the two objects as they are made -/
def look : List (Nat × Nat × Int32) → Nat → Nat → Int32
  | [], _, _ => 0
  | (a, i, v) :: l, k, j => if k = a ∧ j = i then v else look l k j
def R0 (l : List (Nat × Nat × Int32)) (f4 f70 f72 : Nat → Int32) (J : Nat → Nat → Int64) (w : Wd) : Prop := (∀ k, k ≠ 4 → k ≠ 70 → k ≠ 72 → ∀ j, w.1 k j = look l k j) ∧ w.1 4 = f4 ∧ w.1 70 = f70 ∧ w.1 72 = f72 ∧ w.2 = J
theorem r_pw {l : List (Nat × Nat × Int32)} {f4 f70 f72 : Nat → Int32} {J : Nat → Nat → Int64} {w : Wd} {a i i' : Nat} {v : Int32} (h : R0 l f4 f70 f72 J w) (hi : i = i') (ha : a ≠ 4 ∧ a ≠ 70 ∧ a ≠ 72) : R0 ((a, i', v) :: l) f4 f70 f72 J (puI w a i v) := by
  subst hi
  obtain ⟨h1, h2, h3, h4, h5⟩ := h
  refine ⟨fun k k1 k2 k3 j => ?_, by rw [I_oth (Ne.symm ha.1)]; exact h2, by rw [I_oth (Ne.symm ha.2.1)]; exact h3, by rw [I_oth (Ne.symm ha.2.2)]; exact h4, h5⟩
  show (puI w a i v).1 k j = if k = a ∧ j = i then v else look l k j
  by_cases q : k = a
  · subst q
    rw [I_row]
    by_cases y : j = i
    · subst y; rw [upd_s, if_pos ⟨rfl, rfl⟩]
    · rw [upd_n y, if_neg (fun z => y z.2)]; exact h1 k k1 k2 k3 j
  · rw [I_oth q, if_neg (fun z => q z.1)]; exact h1 k k1 k2 k3 j
theorem r_pu {α : Type} {l : List (Nat × Nat × Int32)} {f4 f70 f72 : Nat → Int32} {J : Nat → Nat → Int64} {w : Wd} {a i : Nat} {v : Int32} {F : Wd → Option α} {P : α → Prop} (i' : Nat) (h : R0 l f4 f70 f72 J w) (hi : i = i') (ha : a ≠ 4 ∧ a ≠ 70 ∧ a ≠ 72) (k : ∀ w', R0 ((a, i', v) :: l) f4 f70 f72 J w' → ok (F w') P) : ok ((some (puI w a i v)).bind F) P := by
  rw [Option.bind_some]
  exact k _ (r_pw h hi ha)
theorem ok_gdt {α : Type} {c : Prop} {K : Option α} {P : α → Prop} (h : c) (k : ok K P) : ok (gd c K) P := by rw [gd_t h]; exact k
theorem r_nz {l : List (Nat × Nat × Int32)} {f4 f70 f72 : Nat → Int32} {J : Nat → Nat → Int64} {w : Wd} (h : R0 l f4 f70 f72 J w) {a i : Nat} (ha : a ≠ 4 ∧ a ≠ 70 ∧ a ≠ 72) (e : look l a i = 1) : ¬ w.1 a i = 0 := by
  rw [h.1 a ha.1 ha.2.1 ha.2.2 i, e]; decide
section
variable {l : List (Nat × Nat × Int32)} {f4 f70 f72 : Nat → Int32} {J : Nat → Nat → Int64} {w : Wd}
def l_X8_init_0 (l : List (Nat × Nat × Int32)) : List (Nat × Nat × Int32) := (45, 7, 1)::(45, 5, 1)::(45, 3, 1)::(45, 2, 1)::(45, 0, (-1 : Int32))::l
set_option maxRecDepth 20000 in
theorem i_X8_init_0 (h : R0 l f4 f70 f72 J w) : ok (X8_init_0 w) (R0 (l_X8_init_0 l) f4 f70 f72 J) := by
  unfold X8_init_0
  refine r_pu 0 h rfl (by decide) (fun w h => ?_)
  refine r_pu 2 h rfl (by decide) (fun w h => ?_)
  refine r_pu 3 h rfl (by decide) (fun w h => ?_)
  refine r_pu 5 h rfl (by decide) (fun w h => ?_)
  refine r_pu 7 h rfl (by decide) (fun w h => ?_)
  exact ok_i h
def l_X8_init_1 (l : List (Nat × Nat × Int32)) : List (Nat × Nat × Int32) := (50, 7, 1)::(50, 5, 1)::(50, 3, 1)::(50, 2, 1)::(50, 0, (-1 : Int32))::l
set_option maxRecDepth 20000 in
theorem i_X8_init_1 (h : R0 l f4 f70 f72 J w) : ok (X8_init_1 w) (R0 (l_X8_init_1 l) f4 f70 f72 J) := by
  unfold X8_init_1
  refine r_pu 0 h rfl (by decide) (fun w h => ?_)
  refine r_pu 2 h rfl (by decide) (fun w h => ?_)
  refine r_pu 3 h rfl (by decide) (fun w h => ?_)
  refine r_pu 5 h rfl (by decide) (fun w h => ?_)
  refine r_pu 7 h rfl (by decide) (fun w h => ?_)
  exact ok_i h
def l_X8_init_2 (l : List (Nat × Nat × Int32)) : List (Nat × Nat × Int32) := (55, 7, 1)::(55, 5, 1)::(55, 3, 1)::(55, 2, 1)::(55, 0, (-1 : Int32))::l
set_option maxRecDepth 20000 in
theorem i_X8_init_2 (h : R0 l f4 f70 f72 J w) : ok (X8_init_2 w) (R0 (l_X8_init_2 l) f4 f70 f72 J) := by
  unfold X8_init_2
  refine r_pu 0 h rfl (by decide) (fun w h => ?_)
  refine r_pu 2 h rfl (by decide) (fun w h => ?_)
  refine r_pu 3 h rfl (by decide) (fun w h => ?_)
  refine r_pu 5 h rfl (by decide) (fun w h => ?_)
  refine r_pu 7 h rfl (by decide) (fun w h => ?_)
  exact ok_i h
def l_X8_init_3 (l : List (Nat × Nat × Int32)) : List (Nat × Nat × Int32) := (60, 7, 1)::(60, 5, 1)::(60, 3, 1)::(60, 2, 1)::(60, 0, (-1 : Int32))::l
set_option maxRecDepth 20000 in
theorem i_X8_init_3 (h : R0 l f4 f70 f72 J w) : ok (X8_init_3 w) (R0 (l_X8_init_3 l) f4 f70 f72 J) := by
  unfold X8_init_3
  refine r_pu 0 h rfl (by decide) (fun w h => ?_)
  refine r_pu 2 h rfl (by decide) (fun w h => ?_)
  refine r_pu 3 h rfl (by decide) (fun w h => ?_)
  refine r_pu 5 h rfl (by decide) (fun w h => ?_)
  refine r_pu 7 h rfl (by decide) (fun w h => ?_)
  exact ok_i h
def l_X2_init (l : List (Nat × Nat × Int32)) : List (Nat × Nat × Int32) := (5, 17, 1)::(5, 16, 1)::(5, 14, 1)::(5, 13, 1)::(5, 11, 1)::(5, 10, 1)::(5, 9, 1)::(5, 7, 1)::(5, 6, 1)::(5, 5, 1)::(5, 4, 1)::(5, 3, 1)::(5, 1, 1)::l
set_option maxRecDepth 20000 in
theorem i_X2_init (h : R0 l f4 f70 f72 J w) : ok (X2_init w) (R0 (l_X2_init l) f4 f70 f72 J) := by
  unfold X2_init
  refine r_pu 1 h rfl (by decide) (fun w h => ?_)
  refine r_pu 3 h rfl (by decide) (fun w h => ?_)
  refine r_pu 4 h rfl (by decide) (fun w h => ?_)
  refine r_pu 5 h rfl (by decide) (fun w h => ?_)
  refine r_pu 6 h rfl (by decide) (fun w h => ?_)
  refine r_pu 7 h rfl (by decide) (fun w h => ?_)
  refine r_pu 9 h rfl (by decide) (fun w h => ?_)
  refine r_pu 10 h rfl (by decide) (fun w h => ?_)
  refine r_pu 11 h rfl (by decide) (fun w h => ?_)
  refine r_pu 13 h rfl (by decide) (fun w h => ?_)
  refine r_pu 14 h rfl (by decide) (fun w h => ?_)
  refine r_pu 16 h rfl (by decide) (fun w h => ?_)
  refine r_pu 17 h rfl (by decide) (fun w h => ?_)
  exact ok_i h
def l_X4_init (l : List (Nat × Nat × Int32)) : List (Nat × Nat × Int32) := (19, 12, 1)::(19, 11, 1)::(19, 10, 1)::(19, 9, 1)::(19, 8, (-1 : Int32))::(19, 7, (59 : Int32))::(19, 6, 1)::(19, 5, 1)::(19, 4, 1)::(19, 3, 1)::(19, 2, 1)::(19, 1, 1)::l
set_option maxRecDepth 20000 in
theorem i_X4_init (h : R0 l f4 f70 f72 J w) : ok (X4_init w) (R0 (l_X4_init l) f4 f70 f72 J) := by
  unfold X4_init
  refine r_pu 1 h rfl (by decide) (fun w h => ?_)
  refine r_pu 2 h rfl (by decide) (fun w h => ?_)
  refine r_pu 3 h rfl (by decide) (fun w h => ?_)
  refine r_pu 4 h rfl (by decide) (fun w h => ?_)
  refine r_pu 5 h rfl (by decide) (fun w h => ?_)
  refine r_pu 6 h rfl (by decide) (fun w h => ?_)
  refine r_pu 7 h rfl (by decide) (fun w h => ?_)
  refine r_pu 8 h rfl (by decide) (fun w h => ?_)
  refine r_pu 9 h rfl (by decide) (fun w h => ?_)
  refine r_pu 10 h rfl (by decide) (fun w h => ?_)
  refine r_pu 11 h rfl (by decide) (fun w h => ?_)
  refine r_pu 12 h rfl (by decide) (fun w h => ?_)
  exact ok_i h
def l_X10_init (l : List (Nat × Nat × Int32)) : List (Nat × Nat × Int32) := (73, 3, 1)::(73, 2, 1)::(73, 1, 1)::(73, 0, 1)::(73, 10, 1)::(73, 9, 1)::(73, 8, 1)::(73, 7, 1)::(73, 6, 1)::(73, 5, 1)::l
set_option maxRecDepth 20000 in
theorem i_X10_init (h : R0 l f4 f70 f72 J w) : ok (X10_init w) (R0 (l_X10_init l) f4 f70 f72 J) := by
  unfold X10_init
  refine r_pu 5 h rfl (by decide) (fun w h => ?_)
  refine r_pu 6 h rfl (by decide) (fun w h => ?_)
  refine r_pu 7 h rfl (by decide) (fun w h => ?_)
  refine r_pu 8 h rfl (by decide) (fun w h => ?_)
  refine r_pu 9 h rfl (by decide) (fun w h => ?_)
  refine r_pu 10 h rfl (by decide) (fun w h => ?_)
  refine r_pu 0 h rfl (by decide) (fun w h => ?_)
  refine r_pu 1 h rfl (by decide) (fun w h => ?_)
  refine r_pu 2 h rfl (by decide) (fun w h => ?_)
  refine r_pu 3 h rfl (by decide) (fun w h => ?_)
  exact ok_i h
def l_X5_init (l : List (Nat × Nat × Int32)) : List (Nat × Nat × Int32) := (80, 7, 1)::(80, 6, 1)::(80, 5, 1)::(80, 4, 1)::(80, 3, 1)::(80, 2, 1)::(80, 1, 1)::l
set_option maxRecDepth 20000 in
theorem i_X5_init (h : R0 l f4 f70 f72 J w) : ok (X5_init w) (R0 (l_X5_init l) f4 f70 f72 J) := by
  unfold X5_init
  refine r_pu 1 h rfl (by decide) (fun w h => ?_)
  refine r_pu 2 h rfl (by decide) (fun w h => ?_)
  refine r_pu 3 h rfl (by decide) (fun w h => ?_)
  refine r_pu 4 h rfl (by decide) (fun w h => ?_)
  refine r_pu 5 h rfl (by decide) (fun w h => ?_)
  refine r_pu 6 h rfl (by decide) (fun w h => ?_)
  refine r_pu 7 h rfl (by decide) (fun w h => ?_)
  exact ok_i h
def l_X7_init (l : List (Nat × Nat × Int32)) : List (Nat × Nat × Int32) := (88, 7, 1)::(88, 5, 1)::(88, 4, 1)::(88, 3, 1)::(88, 2, 1)::(88, 1, 1)::l
set_option maxRecDepth 20000 in
theorem i_X7_init (h : R0 l f4 f70 f72 J w) : ok (X7_init w) (R0 (l_X7_init l) f4 f70 f72 J) := by
  unfold X7_init
  refine r_pu 1 h rfl (by decide) (fun w h => ?_)
  refine r_pu 2 h rfl (by decide) (fun w h => ?_)
  refine r_pu 3 h rfl (by decide) (fun w h => ?_)
  refine r_pu 4 h rfl (by decide) (fun w h => ?_)
  refine r_pu 5 h rfl (by decide) (fun w h => ?_)
  refine r_pu 7 h rfl (by decide) (fun w h => ?_)
  exact ok_i h
def l_X9_init (l : List (Nat × Nat × Int32)) : List (Nat × Nat × Int32) := (1, 2, 1)::(1, 1, 1)::(1, 0, 1)::l
def f4I : Nat → Int32 := fun j => if j < 4 then NO else 0
theorem i_X9_init (h : R0 l (fun _ => 0) f70 f72 J w) : ok (X9_init w) (R0 (l_X9_init l) f4I f70 f72 J) := by
  unfold X9_init
  refine r_pu 0 h rfl (by decide) (fun w h => ?_)
  refine r_pu 1 h rfl (by decide) (fun w h => ?_)
  refine r_pu 2 h rfl (by decide) (fun w h => ?_)
  refine ok_gdt (r_nz h (by decide) rfl) ?_
  rw [fillI (by omega), Option.bind_some]
  obtain ⟨h1, h2, h3, h4, h5⟩ := h
  refine ok_i ⟨fun k k1 k2 k3 j => by rw [SI_oth k1]; exact h1 k k1 k2 k3 j, ?_, by rw [SI_oth (by decide)]; exact h3, by rw [SI_oth (by decide)]; exact h4, h5⟩
  rw [SI_row]
  funext j
  rw [h2]
  rfl
def l_X0_init (l : List (Nat × Nat × Int32)) : List (Nat × Nat × Int32) := ((43, 3, 1)::(l_X8_init_3 ((43, 2, 1)::(l_X8_init_2 ((43, 1, 1)::(l_X8_init_1 ((43, 0, 1)::(l_X8_init_0 ((30, 17, 1)::(30, 16, 1)::(30, 12, 1)::(30, 11, 1)::(30, 10, 1)::(30, 9, 1)::(30, 8, 1)::(30, 7, 1)::(30, 6, 1)::(30, 5, 1)::(30, 4, 1)::(30, 3, 1)::(30, 2, 1)::(30, 1, 1)::l)))))))))
set_option maxRecDepth 20000 in
theorem i_X0_init (h : R0 l f4 f70 f72 J w) : ok (X0_init w) (R0 (l_X0_init l) f4 f70 f72 J) := by
  unfold X0_init
  refine r_pu 1 h rfl (by decide) (fun w h => ?_)
  refine r_pu 2 h rfl (by decide) (fun w h => ?_)
  refine r_pu 3 h rfl (by decide) (fun w h => ?_)
  refine r_pu 4 h rfl (by decide) (fun w h => ?_)
  refine r_pu 5 h rfl (by decide) (fun w h => ?_)
  refine r_pu 6 h rfl (by decide) (fun w h => ?_)
  refine r_pu 7 h rfl (by decide) (fun w h => ?_)
  refine r_pu 8 h rfl (by decide) (fun w h => ?_)
  refine r_pu 9 h rfl (by decide) (fun w h => ?_)
  refine r_pu 10 h rfl (by decide) (fun w h => ?_)
  refine r_pu 11 h rfl (by decide) (fun w h => ?_)
  refine r_pu 12 h rfl (by decide) (fun w h => ?_)
  refine r_pu 16 h rfl (by decide) (fun w h => ?_)
  refine r_pu 17 h rfl (by decide) (fun w h => ?_)
  rw [if_neg (by decide)]
  refine ok_gdt (r_nz h (by decide) rfl) ?_
  refine ok_bi (i_X8_init_0 h) (fun w h => ?_)
  refine ok_gdt (in_nI (by decide) (by decide) : vp_in (nI 0) 4) ?_
  refine r_pu 0 h rfl (by decide) (fun w h => ?_)
  rw [if_neg (by decide)]
  refine ok_gdt (r_nz h (by decide) rfl) ?_
  refine ok_bi (i_X8_init_1 h) (fun w h => ?_)
  refine ok_gdt (in_nI (by decide) (by decide) : vp_in (nI 1) 4) ?_
  refine r_pu 1 h rfl (by decide) (fun w h => ?_)
  rw [if_neg (by decide)]
  refine ok_gdt (r_nz h (by decide) rfl) ?_
  refine ok_bi (i_X8_init_2 h) (fun w h => ?_)
  refine ok_gdt (in_nI (by decide) (by decide) : vp_in (nI 2) 4) ?_
  refine r_pu 2 h rfl (by decide) (fun w h => ?_)
  rw [if_neg (by decide)]
  refine ok_gdt (r_nz h (by decide) rfl) ?_
  refine ok_bi (i_X8_init_3 h) (fun w h => ?_)
  refine ok_gdt (in_nI (by decide) (by decide) : vp_in (nI 3) 4) ?_
  refine r_pu 3 h rfl (by decide) (fun w h => ?_)
  rw [if_pos (by decide)]
  exact ok_i h
def ltsI : List Nat := [32769, 65538, 131076, 262152, 524304, 1048608, 2097216, 4194432, 8388864, 16777728, 33555456, 2048, 4096, 8192, 16384]
def f70I (n : Nat) : Nat → Int32 := fun j => if j < n then nI 6 else 0
def f72I (n : Nat) : Nat → Int32 := fun j => if j < n then nI (ltsI.getD j 0) else 0
def l_X3_init (l : List (Nat × Nat × Int32)) : List (Nat × Nat × Int32) := (69, 3, (4 : Int32))::(69, 2, 1)::(69, 1, 1)::(69, 0, 1)::l
theorem lts_e : ∀ i, i < 15 → (26 ≤ nI i + (15 : Int32) → (1 : Int32) <<< (nI i &&& 31) = nI (ltsI.getD i 0)) ∧ (¬ 26 ≤ nI i + (15 : Int32) → ((1 : Int32) <<< (nI i &&& 31)) ||| ((1 : Int32) <<< ((nI i + (15 : Int32)) &&& 31)) = nI (ltsI.getD i 0)) := by decide +kernel
theorem up70 {n : Nat} : upd (f70I n) n (nI 6) = f70I (n + 1) := by
  funext j
  unfold upd f70I
  by_cases q : j = n
  · rw [if_pos q, if_pos (by omega)]
  · rw [if_neg q]
    by_cases z : j < n
    · rw [if_pos z, if_pos (by omega)]
    · rw [if_neg z, if_neg (by omega)]
theorem up72 {n : Nat} : upd (f72I n) n (nI (ltsI.getD n 0)) = f72I (n + 1) := by
  funext j
  unfold upd f72I
  by_cases q : j = n
  · rw [if_pos q, if_pos (by omega), q]
  · rw [if_neg q]
    by_cases z : j < n
    · rw [if_pos z, if_pos (by omega)]
    · rw [if_neg z, if_neg (by omega)]
theorem up_up {f : Nat → Int32} {n : Nat} {x y : Int32} : upd (upd f n x) n y = upd f n y := by
  funext j
  unfold upd
  by_cases q : j = n
  · rw [if_pos q, if_pos q]
  · rw [if_neg q, if_neg q, if_neg q]
theorem i_X3_init (h : R0 l f4 (fun _ => 0) (fun _ => 0) J w) : ok (X3_init w) (R0 (l_X3_init l) f4 (f70I 15) (f72I 15) J) := by
  unfold X3_init
  refine r_pu 0 h rfl (by decide) (fun w h => ?_)
  refine r_pu 1 h rfl (by decide) (fun w h => ?_)
  refine r_pu 2 h rfl (by decide) (fun w h => ?_)
  refine r_pu 3 h rfl (by decide) (fun w h => ?_)
  refine ok_bi (R := R0 (l_X3_init l) f4 (f70I 15) (f72I 15) J) ?_ (fun w h => ok_i h)
  refine lp_up (fun i s => s.1 = nI i ∧ R0 (l_X3_init l) f4 (f70I i) (f72I i) J s.2) 15 ?_ ?_ 0 _ (Nat.zero_le _) ⟨rfl, ?_⟩
  · rintro i ⟨z, v⟩ hi ⟨rfl, hv⟩
    simp only at hv
    have hz0 := r_nz hv (a := 69) (i := 0) (by decide) rfl
    have hz2 := r_nz hv (a := 69) (i := 2) (by decide) rfl
    obtain ⟨h1, h2, h3, h4, h5⟩ := hv
    obtain ⟨t1, t2⟩ := lts_e i hi
    unfold X3_init_b35 X3_init_j82
    rw [if_neg (show ¬ (15 : Int32) ≤ nI i by rw [show (15 : Int32) = nI 15 from rfl, nI_leI (by omega) (by omega)]; omega)]
    simp only []
    rw [gd_t hz0, gdn (by omega) (by omega), ixn (by omega)]
    simp only [Option.bind_some]
    have f1 : ¬ (puI v 70 i (6 : Int32)).1 69 2 = 0 := by rw [I_oth (by decide)]; exact hz2
    rw [gd_t f1, gdn (by omega) (by omega)]
    by_cases q : (26 : Int32) ≤ nI i + (15 : Int32)
    · rw [if_pos q, t1 q]
      refine ok_i ⟨by rw [show (1 : Int32) = nI 1 from rfl, nI_add], fun k k1 k2 k3 j => ?_, ?_, ?_, ?_, h5⟩
      · show (puI (puI v 70 i (6 : Int32)) 72 i _).1 k j = _
        rw [I_oth k3, I_oth k2]; exact h1 k k1 k2 k3 j
      · show (puI (puI v 70 i (6 : Int32)) 72 i _).1 4 = _
        rw [I_oth (by decide), I_oth (by decide)]; exact h2
      · show (puI (puI v 70 i (6 : Int32)) 72 i _).1 70 = _
        rw [I_oth (by decide), I_row, h3]; exact up70
      · show (puI (puI v 70 i (6 : Int32)) 72 i _).1 72 = _
        rw [I_row, I_oth (by decide), h4]; exact up72
    · have f2 : ¬ (puI (puI v 70 i (6 : Int32)) 72 i ((1 : Int32) <<< (nI i &&& 31))).1 69 2 = 0 := by rw [I_oth (by decide)]; exact f1
      have f3 : (puI (puI v 70 i (6 : Int32)) 72 i ((1 : Int32) <<< (nI i &&& 31))).1 72 i = (1 : Int32) <<< (nI i &&& 31) := I_self
      rw [if_neg q, gd_t f2, gdn (by omega) (by omega), gdn (by omega) (by omega), f3, t2 q]
      refine ok_i ⟨by rw [show (1 : Int32) = nI 1 from rfl, nI_add], fun k k1 k2 k3 j => ?_, ?_, ?_, ?_, h5⟩
      · show (puI (puI (puI v 70 i (6 : Int32)) 72 i _) 72 i _).1 k j = _
        rw [I_oth k3, I_oth k3, I_oth k2]; exact h1 k k1 k2 k3 j
      · show (puI (puI (puI v 70 i (6 : Int32)) 72 i _) 72 i _).1 4 = _
        rw [I_oth (by decide), I_oth (by decide), I_oth (by decide)]; exact h2
      · show (puI (puI (puI v 70 i (6 : Int32)) 72 i _) 72 i _).1 70 = _
        rw [I_oth (by decide), I_oth (by decide), I_row, h3]; exact up70
      · show (puI (puI (puI v 70 i (6 : Int32)) 72 i _) 72 i _).1 72 = _
        rw [I_row, I_row, I_oth (by decide), h4, up_up]; exact up72
  · rintro ⟨z, v⟩ ⟨rfl, hv⟩
    unfold X3_init_b35
    rw [if_pos (show (15 : Int32) ≤ nI 15 by decide)]
    exact ok_i hv
  · obtain ⟨h1, h2, h3, h4, h5⟩ := h
    exact ⟨h1, h2, by rw [h3]; funext j; exact (if_neg (by omega)).symm, by rw [h4]; funext j; exact (if_neg (by omega)).symm, h5⟩
/-! the table of draws -/
def z64 : Nat → Int64 := fun _ => 0
theorem tbl_z {n : Nat} : tbl (61 * n + (n + 1)) z64 = tbl (61 * (n + 1)) z64 ∨ 60 < n := by
  by_cases hn : 60 < n
  · exact Or.inr hn
  · left
    funext j
    unfold tbl
    by_cases q : j < 61 * n + (n + 1)
    · rw [if_pos q, if_pos (by omega)]
    · rw [if_neg q]
      by_cases z : j < 61 * (n + 1)
      · rw [if_pos z, bnm_gt _ _ (by omega)]; rfl
      · rw [if_neg z]
theorem x1_in {n : Nat} (hn : n ≤ 60) (h95 : ¬ w.1 95 0 = 0) : lp (X1_init_b33 (nI n)) (nI 1, seJ w 96 (tbl (61 * n + 1) z64)) = some (seJ w 96 (tbl (61 * (n + 1)) z64)) := by
  have h95' : ∀ f, ¬ (seJ w 96 f).1 95 0 = 0 := fun f => h95
  have hlp := lp_for (b := X1_init_b33 (nI n)) (fun i => (nI (i + 1), seJ w 96 (tbl (61 * n + (i + 1)) z64))) n (e := seJ w 96 (tbl (61 * (n + 1)) z64)) (fun i hi => ?_) ?_ 0 (Nat.zero_le _)
  · exact hlp
  · have hup := tbl_up (m := 61 * n + (i + 1)) (n := n) (k := i + 1) (z := z64) rfl (by omega)
    have r1 := tbl_at (m := 61 * n + (i + 1)) (n := n - 1) (k := i) (z := z64) (by omega) (by omega)
    have r2 := tbl_at (m := 61 * n + (i + 1)) (n := n - 1) (k := i + 1) (z := z64) (by omega) (by omega)
    have hb : bnm (n - 1) i + bnm (n - 1) (i + 1) = bnm n (i + 1) := by
      obtain ⟨m, rfl⟩ : ∃ m, n = m + 1 := ⟨n - 1, by omega⟩
      rfl
    unfold X1_init_b33
    simp only [gd_t (h95' _)]
    have x1 : 61 * (n - 1) + (i + 1) - 1 = 61 * (n - 1) + i := by omega
    have x2 : (n - 1) * 61 + (i + 1) = 61 * (n - 1) + (i + 1) := by omega
    have x3 : n * 61 + (i + 1) = 61 * n + (i + 1) := by omega
    simp (disch := omega) only [gdn, gb0, gb1, ixn, nm1, nI_add, nI_mul, nsub, nI_ltI, nI_leI, nI_eq, eqNO, eqNO2, ltNO, NOlt, leNO, NOle, if_pos, if_neg, Option.bind_some, if_true, if_false, and_self, eq_self, l0, l1, l2, l3, l4, l5, l6, l7, l8, l9, l10, l11, l12, l13, l14, l15, l16, l17, l18, l19, l20, l24, l26, l30, l31, l32, l40, l41, l42, l43, l45, l47, l48, l57, l58, l59, l60, l61, l62, l63, l64, l97, l99, l100, l101, l102, l103, l104, l105, l106, l107, l108, l109, l110, l122, l160, l240, l255, l600, l1000, l3000, l10000, l10007, l10116, l67108863, l67108864, I_oth, I_J, J_oth, J_I, I_row, J_row, SI_row, SI_oth, SI_J, SJ_row, SJ_oth, SJ_I, upd_s, upd_n, updL_s, updL_n, ne_eq, not_false_eq_true, x1, x2, x3, r1, r2, lN_add, hb, pu_seJ, hup]
    rfl
  · unfold X1_init_b33
    rw [tbl_z.resolve_right (by omega)]
    simp (disch := omega) only [gdn, gb0, gb1, ixn, nm1, nI_add, nI_mul, nsub, nI_ltI, nI_leI, nI_eq, eqNO, eqNO2, ltNO, NOlt, leNO, NOle, if_pos, if_neg, Option.bind_some, if_true, if_false, and_self, eq_self, l0, l1, l2, l3, l4, l5, l6, l7, l8, l9, l10, l11, l12, l13, l14, l15, l16, l17, l18, l19, l20, l24, l26, l30, l31, l32, l40, l41, l42, l43, l45, l47, l48, l57, l58, l59, l60, l61, l62, l63, l64, l97, l99, l100, l101, l102, l103, l104, l105, l106, l107, l108, l109, l110, l122, l160, l240, l255, l600, l1000, l3000, l10000, l10007, l10116, l67108863, l67108864]
def l_X1_init (l : List (Nat × Nat × Int32)) : List (Nat × Nat × Int32) := (95, 0, 1)::l
theorem i_X1_init (h : R0 l f4 f70 f72 J w) (hJ : J 96 = z64) : ok (X1_init w) (fun w' => ∃ J', R0 (l_X1_init l) f4 f70 f72 J' w' ∧ (∀ k, k ≠ 96 → J' k = J k) ∧ J' 96 = tbl 3721 z64) := by
  unfold X1_init
  refine r_pu 0 h rfl (by decide) (fun w h => ?_)
  have h95 := r_nz h (a := 95) (i := 0) (by decide) rfl
  have h95' : ∀ f, ¬ (seJ w 96 f).1 95 0 = 0 := fun f => h95
  have hlp := lp_for (b := X1_init_b15) (fun n => (nI n, seJ w 96 (tbl (61 * n) z64))) 61 (e := seJ w 96 (tbl 3721 z64)) (fun n hn => ?_) ?_ 0 (Nat.zero_le _)
  · obtain ⟨h1, h2, h3, h4, h5⟩ := h
    rw [seJ_same (show tbl (61 * 0) z64 = w.2 96 from by rw [h5, hJ]; funext j; exact if_neg (by omega))] at hlp
    rw [show ((0 : Int32), w) = (nI 0, w) from rfl, hlp]
    refine ok_i ⟨(seJ w 96 (tbl 3721 z64)).2, ⟨h1, h2, h3, h4, rfl⟩, fun k hk => ?_, SJ_row⟩
    rw [SJ_oth hk, h5]
  · unfold X1_init_b15
    have hup := tbl_up (m := 61 * n) (n := n) (k := 0) (z := z64) rfl (by omega)
    rw [bnm_0, show lN 1 = (1 : Int64) from rfl] at hup
    have hf := x1_in (w := w) (n := n) (by omega) h95
    simp only [gd_t (h95' _)]
    simp (disch := omega) only [gdn, gb0, gb1, ixn, nm1, nI_add, nI_mul, nsub, nI_ltI, nI_leI, nI_eq, eqNO, eqNO2, ltNO, NOlt, leNO, NOle, if_pos, if_neg, Option.bind_some, if_true, if_false, and_self, eq_self, l0, l1, l2, l3, l4, l5, l6, l7, l8, l9, l10, l11, l12, l13, l14, l15, l16, l17, l18, l19, l20, l24, l26, l30, l31, l32, l40, l41, l42, l43, l45, l47, l48, l57, l58, l59, l60, l61, l62, l63, l64, l97, l99, l100, l101, l102, l103, l104, l105, l106, l107, l108, l109, l110, l122, l160, l240, l255, l600, l1000, l3000, l10000, l10007, l10116, l67108863, l67108864, I_oth, I_J, J_oth, J_I, I_row, J_row, SI_row, SI_oth, SI_J, SJ_row, SJ_oth, SJ_I, upd_s, upd_n, updL_s, updL_n, ne_eq, not_false_eq_true, Nat.mul_comm n 61, pu_seJ, hup, hf]
  · unfold X1_init_b15
    simp (disch := omega) only [gdn, gb0, gb1, ixn, nm1, nI_add, nI_mul, nsub, nI_ltI, nI_leI, nI_eq, eqNO, eqNO2, ltNO, NOlt, leNO, NOle, if_pos, if_neg, Option.bind_some, if_true, if_false, and_self, eq_self, l0, l1, l2, l3, l4, l5, l6, l7, l8, l9, l10, l11, l12, l13, l14, l15, l16, l17, l18, l19, l20, l24, l26, l30, l31, l32, l40, l41, l42, l43, l45, l47, l48, l57, l58, l59, l60, l61, l62, l63, l64, l97, l99, l100, l101, l102, l103, l104, l105, l106, l107, l108, l109, l110, l122, l160, l240, l255, l600, l1000, l3000, l10000, l10007, l10116, l67108863, l67108864]
/-! the reader's words -/
def str0L : List Nat := [115,116,114,105,107,101,115,32,109,97,121,32,117,110,108,101,115,115,32,104,111,117,114,115,32,114,111,111,109,32,112,97,115,115,32,102,108,97,103,32,111,114,32,97,110,100,32,110,111,116,32,97,103,101,32,116,111,110,103,117,101,32,109,97,110,121,32,119,101,101,107,32,100,111,110,101,32,114,97,105,110,32,115,104,105,114,101,32]
def wdA : Nat → Nat × Nat
  | 0 => (0, 0)
  | i + 1 => if str0L.getD i 0 = 32 then ((wdA i).1 + 1, 0) else ((wdA i).1, (wdA i).2 * 32 + (str0L.getD i 0 - 96))
theorem wdA_f : ∀ i, i < 88 → (wdA i).1 < 17 ∧ (str0L.getD i 0 = 32 → (wdA i).2 = p5 (KW.getD (wdA i).1 [])) ∧ (¬ str0L.getD i 0 = 32 → 97 ≤ str0L.getD i 0 ∧ str0L.getD i 0 ≤ 122) := by decide +kernel
def j67 (n : Nat) : Nat → Int64 := fun j => if j < n then lN (p5 (KW.getD j [])) else 0
theorem up67 {n : Nat} : vp_updL (j67 n) n (lN (p5 (KW.getD n []))) = j67 (n + 1) := by
  funext j
  unfold vp_updL j67
  by_cases q : j = n
  · rw [if_pos q, if_pos (by omega), q]
  · rw [if_neg q]
    by_cases z : j < n
    · rw [if_pos z, if_pos (by omega)]
    · rw [if_neg z, if_neg (by omega)]
theorem str0_B : strB.getD 0 [] = str0L.map nI := by decide +kernel
theorem str0_N : strN.getD 0 0 = 88 := by decide +kernel
theorem str0_c : ∀ i, i < 88 → str0L.getD i 0 < 128 := by decide +kernel
def l_X6_init (l : List (Nat × Nat × Int32)) : List (Nat × Nat × Int32) := (65, 0, 1)::(65, 15, 1)::(65, 5, (-1 : Int32))::(65, 4, (-1 : Int32))::(65, 3, 1)::(65, 1, 1)::l
theorem i_X6_init (h : R0 l f4 f70 f72 J w) (hJ : J 67 = fun _ => 0) : ok (X6_init w) (fun w' => ∃ J', R0 (l_X6_init l) f4 f70 f72 J' w' ∧ (∀ k, k ≠ 67 → J' k = J k) ∧ J' 67 = j67 17) := by
  unfold X6_init
  refine r_pu 1 h rfl (by decide) (fun w h => ?_)
  refine r_pu 3 h rfl (by decide) (fun w h => ?_)
  refine r_pu 4 h rfl (by decide) (fun w h => ?_)
  refine r_pu 5 h rfl (by decide) (fun w h => ?_)
  refine r_pu 15 h rfl (by decide) (fun w h => ?_)
  refine r_pu 0 h rfl (by decide) (fun w h => ?_)
  have h65 := r_nz h (a := 65) (i := 3) (by decide) rfl
  have h65' : ∀ f, ¬ (seJ w 67 f).1 65 3 = 0 := fun f => h65
  have hlp := lp_for (b := X6_init_b51) (fun i => (nI (wdA i).1, lN (wdA i).2, nI i, seJ w 67 (j67 (wdA i).1))) 88 (e := seJ w 67 (j67 17)) (fun i hi => ?_) ?_ 0 (Nat.zero_le _)
  · obtain ⟨h1, h2, h3, h4, h5⟩ := h
    rw [seJ_same (show j67 (wdA 0).1 = w.2 67 from by rw [h5, hJ]; funext j; exact if_neg (by show ¬ j < 0; omega))] at hlp
    rw [show ((0 : Int32), (0 : Int64), (0 : Int32), w) = (nI (wdA 0).1, lN (wdA 0).2, nI 0, w) from rfl, hlp]
    refine ok_i ⟨(seJ w 67 (j67 17)).2, ⟨h1, h2, h3, h4, rfl⟩, fun k hk => ?_, SJ_row⟩
    rw [SJ_oth hk, h5]
  · obtain ⟨g1, g2, g3⟩ := wdA_f i hi
    have hch := char_e str0_B (by rw [str0_N]; rfl) (by decide) (i := i) (show i < str0L.length from hi) (str0_c i hi) (seJ w 67 (j67 (wdA i).1))
    have hlen := len_e str0_N (seJ w 67 (j67 (wdA i).1))
    have hc := str0_c i hi
    rw [show wdA (i + 1) = if str0L.getD i 0 = 32 then ((wdA i).1 + 1, 0) else ((wdA i).1, (wdA i).2 * 32 + (str0L.getD i 0 - 96)) from rfl]
    unfold X6_init_b51 X6_init_j108
    rw [hlen]
    simp only [gd_t (h65' _)]
    by_cases q : str0L.getD i 0 = 32
    · have hw := g2 q
      rw [if_pos q]
      rw [q] at hch
      simp (disch := omega) only [gdn, gb0, gb1, ixn, nm1, nI_add, nI_mul, nsub, nI_ltI, nI_leI, nI_eq, eqNO, eqNO2, ltNO, NOlt, leNO, NOle, if_pos, if_neg, Option.bind_some, if_true, if_false, and_self, eq_self, l0, l1, l2, l3, l4, l5, l6, l7, l8, l9, l10, l11, l12, l13, l14, l15, l16, l17, l18, l19, l20, l24, l26, l30, l31, l32, l40, l41, l42, l43, l45, l47, l48, l57, l58, l59, l60, l61, l62, l63, l64, l97, l99, l100, l101, l102, l103, l104, l105, l106, l107, l108, l109, l110, l122, l160, l240, l255, l600, l1000, l3000, l10000, l10007, l10116, l67108863, l67108864, I_oth, I_J, J_oth, J_I, I_row, J_row, SI_row, SI_oth, SI_J, SJ_row, SJ_oth, SJ_I, upd_s, upd_n, updL_s, updL_n, ne_eq, not_false_eq_true, hch, pu_seJ, hw, up67]
      rfl
    · obtain ⟨g4, g5⟩ := g3 q
      rw [if_neg q]
      have hpk := pack_e (x := nI (str0L.getD i 0)) (k := str0L.getD i 0) (v := (wdA i).2) rfl g4 g5 (seJ w 67 (j67 (wdA i).1))
      simp (disch := omega) only [gdn, gb0, gb1, ixn, nm1, nI_add, nI_mul, nsub, nI_ltI, nI_leI, nI_eq, eqNO, eqNO2, ltNO, NOlt, leNO, NOle, if_pos, if_neg, Option.bind_some, if_true, if_false, and_self, eq_self, l0, l1, l2, l3, l4, l5, l6, l7, l8, l9, l10, l11, l12, l13, l14, l15, l16, l17, l18, l19, l20, l24, l26, l30, l31, l32, l40, l41, l42, l43, l45, l47, l48, l57, l58, l59, l60, l61, l62, l63, l64, l97, l99, l100, l101, l102, l103, l104, l105, l106, l107, l108, l109, l110, l122, l160, l240, l255, l600, l1000, l3000, l10000, l10007, l10116, l67108863, l67108864, I_oth, I_J, J_oth, J_I, I_row, J_row, SI_row, SI_oth, SI_J, SJ_row, SJ_oth, SJ_I, upd_s, upd_n, updL_s, updL_n, ne_eq, not_false_eq_true, hch, q, hpk]
  · have hlen := len_e str0_N (seJ w 67 (j67 (wdA 88).1))
    unfold X6_init_b51
    rw [hlen]
    rw [if_pos (show nI 88 ≤ nI 88 by decide)]
    rw [show (wdA 88).1 = 17 from by decide +kernel]
end
def l_X11 : List (Nat × Nat × Int32) := ((0, 10, (0 : Int32))::(0, 9, 1)::(l_X1_init ((0, 8, 1)::(l_X7_init ((0, 7, 1)::(l_X5_init ((0, 6, 1)::(l_X10_init ((0, 5, 1)::(l_X3_init ((0, 4, 1)::(l_X6_init ((0, 3, 1)::(l_X0_init ((0, 2, 1)::(l_X4_init ((0, 1, 1)::(l_X2_init ((0, 0, 1)::(l_X9_init []))))))))))))))))))))
def zw : Wd := (fun _ _ => 0, fun _ _ => 0)
set_option maxRecDepth 20000 in
theorem i_X11 : ok (X11_init zw) (fun w => ∃ J, R0 l_X11 f4I (f70I 15) (f72I 15) J w ∧ (∀ k, k ≠ 67 → k ≠ 96 → J k = fun _ => 0) ∧ J 67 = j67 17 ∧ J 96 = tbl 3721 z64) := by
  have h : R0 [] (fun _ => 0) (fun _ => 0) (fun _ => 0) (fun _ _ => 0) zw := ⟨fun _ _ _ _ _ => rfl, rfl, rfl, rfl, rfl⟩
  unfold X11_init
  refine ok_bi (i_X9_init h) (fun w h => ?_)
  refine r_pu 0 h rfl (by decide) (fun w h => ?_)
  refine ok_bi (i_X2_init h) (fun w h => ?_)
  refine r_pu 1 h rfl (by decide) (fun w h => ?_)
  refine ok_bi (i_X4_init h) (fun w h => ?_)
  refine r_pu 2 h rfl (by decide) (fun w h => ?_)
  refine ok_bi (i_X0_init h) (fun w h => ?_)
  refine r_pu 3 h rfl (by decide) (fun w h => ?_)
  refine ok_gdt (r_nz h (by decide) rfl) ?_
  refine ok_bi (i_X6_init h rfl) (fun w hx => ?_)
  obtain ⟨J6, h, j6a, j6b⟩ := hx
  refine r_pu 4 h rfl (by decide) (fun w h => ?_)
  refine ok_bi (i_X3_init h) (fun w h => ?_)
  refine r_pu 5 h rfl (by decide) (fun w h => ?_)
  refine ok_gdt (r_nz h (by decide) rfl) ?_
  refine ok_gdt (r_nz h (by decide) rfl) ?_
  refine ok_gdt (r_nz h (by decide) rfl) ?_
  refine ok_gdt (r_nz h (by decide) rfl) ?_
  refine ok_bi (i_X10_init h) (fun w h => ?_)
  refine r_pu 6 h rfl (by decide) (fun w h => ?_)
  refine ok_bi (i_X5_init h) (fun w h => ?_)
  refine r_pu 7 h rfl (by decide) (fun w h => ?_)
  refine ok_bi (i_X7_init h) (fun w h => ?_)
  refine r_pu 8 h rfl (by decide) (fun w h => ?_)
  refine ok_bi (i_X1_init h (by rw [j6a 96 (by decide)]; rfl)) (fun w hx => ?_)
  obtain ⟨J1, h, j1a, j1b⟩ := hx
  refine r_pu 9 h rfl (by decide) (fun w h => ?_)
  refine r_pu 10 h rfl (by decide) (fun w h => ?_)
  refine ok_i ⟨J1, h, fun k k1 k2 => by rw [j1a k k2, j6a k k1], by rw [j1a 67 (by decide)]; exact j6b, j1b⟩
section
variable {l : List (Nat × Nat × Int32)} {f4 f70 f72 : Nat → Int32} {J : Nat → Nat → Int64} {w : Wd}
def l_X12 (l : List (Nat × Nat × Int32)) : List (Nat × Nat × Int32) := (97, 107, 1)::(97, 106, 1)::(97, 104, 1)::(97, 103, 1)::(97, 102, 1)::(97, 101, 1)::(97, 100, 1)::(97, 99, 1)::(97, 95, 1)::(97, 94, 1)::(97, 93, 1)::(97, 92, 1)::(97, 91, 1)::(97, 90, 1)::(97, 89, 1)::(97, 88, 1)::(97, 87, 1)::(97, 85, 1)::(97, 84, 1)::(97, 83, (4 : Int32))::(97, 82, 1)::(97, 81, 1)::(97, 80, 1)::(97, 79, 1)::(97, 78, 1)::(97, 77, 1)::(97, 76, 1)::(97, 75, 1)::(97, 74, 1)::(97, 73, 1)::(149, 14, (16384 : Int32))::(149, 13, (8192 : Int32))::(149, 12, (4096 : Int32))::(149, 11, (2048 : Int32))::(149, 10, (33555456 : Int32))::(149, 9, (16777728 : Int32))::(149, 8, (8388864 : Int32))::(149, 7, (4194432 : Int32))::(149, 6, (2097216 : Int32))::(149, 5, (1048608 : Int32))::(149, 4, (524304 : Int32))::(149, 3, (262152 : Int32))::(149, 2, (131076 : Int32))::(149, 1, (65538 : Int32))::(149, 0, (32769 : Int32))::(97, 72, 1)::(97, 71, 1)::(147, 14, (6 : Int32))::(147, 13, (6 : Int32))::(147, 12, (6 : Int32))::(147, 11, (6 : Int32))::(147, 10, (6 : Int32))::(147, 9, (6 : Int32))::(147, 8, (6 : Int32))::(147, 7, (6 : Int32))::(147, 6, (6 : Int32))::(147, 5, (6 : Int32))::(147, 4, (6 : Int32))::(147, 3, (6 : Int32))::(147, 2, (6 : Int32))::(147, 1, (6 : Int32))::(147, 0, (6 : Int32))::(97, 69, 1)::(97, 68, 1)::(97, 67, 1)::(97, 66, 1)::(97, 65, 1)::(97, 64, 1)::(97, 63, 1)::(97, 62, 1)::(97, 61, 1)::(97, 60, 1)::(97, 59, 1)::(97, 58, 1)::(97, 57, 1)::(97, 56, 1)::(97, 55, 1)::(97, 54, 1)::(97, 53, 1)::(97, 52, 1)::(97, 51, 1)::(97, 50, 1)::(97, 49, 1)::(97, 48, 1)::(97, 47, 1)::(97, 46, 1)::(97, 45, 1)::(97, 40, (-1 : Int32))::(97, 39, (-1 : Int32))::(97, 32, 1)::(97, 31, 1)::(97, 30, 1)::(97, 29, 1)::(97, 28, 1)::(97, 27, 1)::(97, 26, 1)::(97, 25, 1)::(97, 24, 1)::(97, 23, 1)::(97, 22, 1)::(97, 21, 1)::(97, 20, 1)::(97, 19, 1)::(97, 18, 1)::(97, 17, 1)::(97, 16, 1)::(97, 15, 1)::(97, 14, 1)::(97, 13, 1)::(97, 12, 1)::(97, 11, (59 : Int32))::(97, 3, 1)::(97, 2, 1)::(99, 3, (-1 : Int32))::(99, 2, (-1 : Int32))::(99, 1, (-1 : Int32))::(99, 0, (-1 : Int32))::(97, 1, 1)::l
set_option maxRecDepth 20000 in
set_option maxHeartbeats 4000000 in
theorem i_X12 (h : R0 l f4 f70 f72 J w) : ok (X12_init w) (R0 (l_X12 l) f4 f70 f72 J) := by
  unfold X12_init
  refine r_pu 1 h rfl (by decide) (fun w h => ?_)
  refine ok_gdt (in_nI (by decide) (by decide) : vp_in (nI 0) 4) ?_
  refine r_pu 0 h rfl (by decide) (fun w h => ?_)
  refine ok_gdt (in_nI (by decide) (by decide) : vp_in (nI 1) 4) ?_
  refine r_pu 1 h rfl (by decide) (fun w h => ?_)
  refine ok_gdt (in_nI (by decide) (by decide) : vp_in (nI 2) 4) ?_
  refine r_pu 2 h rfl (by decide) (fun w h => ?_)
  refine ok_gdt (in_nI (by decide) (by decide) : vp_in (nI 3) 4) ?_
  refine r_pu 3 h rfl (by decide) (fun w h => ?_)
  refine r_pu 2 h rfl (by decide) (fun w h => ?_)
  refine r_pu 3 h rfl (by decide) (fun w h => ?_)
  refine r_pu 11 h rfl (by decide) (fun w h => ?_)
  refine r_pu 12 h rfl (by decide) (fun w h => ?_)
  refine r_pu 13 h rfl (by decide) (fun w h => ?_)
  refine r_pu 14 h rfl (by decide) (fun w h => ?_)
  refine r_pu 15 h rfl (by decide) (fun w h => ?_)
  refine r_pu 16 h rfl (by decide) (fun w h => ?_)
  refine r_pu 17 h rfl (by decide) (fun w h => ?_)
  refine r_pu 18 h rfl (by decide) (fun w h => ?_)
  refine r_pu 19 h rfl (by decide) (fun w h => ?_)
  refine r_pu 20 h rfl (by decide) (fun w h => ?_)
  refine r_pu 21 h rfl (by decide) (fun w h => ?_)
  refine r_pu 22 h rfl (by decide) (fun w h => ?_)
  refine r_pu 23 h rfl (by decide) (fun w h => ?_)
  refine r_pu 24 h rfl (by decide) (fun w h => ?_)
  refine r_pu 25 h rfl (by decide) (fun w h => ?_)
  refine r_pu 26 h rfl (by decide) (fun w h => ?_)
  refine r_pu 27 h rfl (by decide) (fun w h => ?_)
  refine r_pu 28 h rfl (by decide) (fun w h => ?_)
  refine r_pu 29 h rfl (by decide) (fun w h => ?_)
  refine r_pu 30 h rfl (by decide) (fun w h => ?_)
  refine r_pu 31 h rfl (by decide) (fun w h => ?_)
  refine r_pu 32 h rfl (by decide) (fun w h => ?_)
  refine r_pu 39 h rfl (by decide) (fun w h => ?_)
  refine r_pu 40 h rfl (by decide) (fun w h => ?_)
  refine r_pu 45 h rfl (by decide) (fun w h => ?_)
  refine r_pu 46 h rfl (by decide) (fun w h => ?_)
  refine r_pu 47 h rfl (by decide) (fun w h => ?_)
  refine r_pu 48 h rfl (by decide) (fun w h => ?_)
  refine r_pu 49 h rfl (by decide) (fun w h => ?_)
  refine r_pu 50 h rfl (by decide) (fun w h => ?_)
  refine r_pu 51 h rfl (by decide) (fun w h => ?_)
  refine r_pu 52 h rfl (by decide) (fun w h => ?_)
  refine r_pu 53 h rfl (by decide) (fun w h => ?_)
  refine r_pu 54 h rfl (by decide) (fun w h => ?_)
  refine r_pu 55 h rfl (by decide) (fun w h => ?_)
  refine r_pu 56 h rfl (by decide) (fun w h => ?_)
  refine r_pu 57 h rfl (by decide) (fun w h => ?_)
  refine r_pu 58 h rfl (by decide) (fun w h => ?_)
  refine r_pu 59 h rfl (by decide) (fun w h => ?_)
  refine r_pu 60 h rfl (by decide) (fun w h => ?_)
  refine r_pu 61 h rfl (by decide) (fun w h => ?_)
  refine r_pu 62 h rfl (by decide) (fun w h => ?_)
  refine r_pu 63 h rfl (by decide) (fun w h => ?_)
  refine r_pu 64 h rfl (by decide) (fun w h => ?_)
  refine r_pu 65 h rfl (by decide) (fun w h => ?_)
  refine r_pu 66 h rfl (by decide) (fun w h => ?_)
  refine r_pu 67 h rfl (by decide) (fun w h => ?_)
  refine r_pu 68 h rfl (by decide) (fun w h => ?_)
  refine r_pu 69 h rfl (by decide) (fun w h => ?_)
  refine ok_gdt (in_nI (by decide) (by decide) : vp_in (nI 0) 15) ?_
  refine r_pu 0 h rfl (by decide) (fun w h => ?_)
  refine ok_gdt (in_nI (by decide) (by decide) : vp_in (nI 1) 15) ?_
  refine r_pu 1 h rfl (by decide) (fun w h => ?_)
  refine ok_gdt (in_nI (by decide) (by decide) : vp_in (nI 2) 15) ?_
  refine r_pu 2 h rfl (by decide) (fun w h => ?_)
  refine ok_gdt (in_nI (by decide) (by decide) : vp_in (nI 3) 15) ?_
  refine r_pu 3 h rfl (by decide) (fun w h => ?_)
  refine ok_gdt (in_nI (by decide) (by decide) : vp_in (nI 4) 15) ?_
  refine r_pu 4 h rfl (by decide) (fun w h => ?_)
  refine ok_gdt (in_nI (by decide) (by decide) : vp_in (nI 5) 15) ?_
  refine r_pu 5 h rfl (by decide) (fun w h => ?_)
  refine ok_gdt (in_nI (by decide) (by decide) : vp_in (nI 6) 15) ?_
  refine r_pu 6 h rfl (by decide) (fun w h => ?_)
  refine ok_gdt (in_nI (by decide) (by decide) : vp_in (nI 7) 15) ?_
  refine r_pu 7 h rfl (by decide) (fun w h => ?_)
  refine ok_gdt (in_nI (by decide) (by decide) : vp_in (nI 8) 15) ?_
  refine r_pu 8 h rfl (by decide) (fun w h => ?_)
  refine ok_gdt (in_nI (by decide) (by decide) : vp_in (nI 9) 15) ?_
  refine r_pu 9 h rfl (by decide) (fun w h => ?_)
  refine ok_gdt (in_nI (by decide) (by decide) : vp_in (nI 10) 15) ?_
  refine r_pu 10 h rfl (by decide) (fun w h => ?_)
  refine ok_gdt (in_nI (by decide) (by decide) : vp_in (nI 11) 15) ?_
  refine r_pu 11 h rfl (by decide) (fun w h => ?_)
  refine ok_gdt (in_nI (by decide) (by decide) : vp_in (nI 12) 15) ?_
  refine r_pu 12 h rfl (by decide) (fun w h => ?_)
  refine ok_gdt (in_nI (by decide) (by decide) : vp_in (nI 13) 15) ?_
  refine r_pu 13 h rfl (by decide) (fun w h => ?_)
  refine ok_gdt (in_nI (by decide) (by decide) : vp_in (nI 14) 15) ?_
  refine r_pu 14 h rfl (by decide) (fun w h => ?_)
  refine r_pu 71 h rfl (by decide) (fun w h => ?_)
  refine r_pu 72 h rfl (by decide) (fun w h => ?_)
  refine ok_gdt (in_nI (by decide) (by decide) : vp_in (nI 0) 15) ?_
  refine r_pu 0 h rfl (by decide) (fun w h => ?_)
  refine ok_gdt (in_nI (by decide) (by decide) : vp_in (nI 1) 15) ?_
  refine r_pu 1 h rfl (by decide) (fun w h => ?_)
  refine ok_gdt (in_nI (by decide) (by decide) : vp_in (nI 2) 15) ?_
  refine r_pu 2 h rfl (by decide) (fun w h => ?_)
  refine ok_gdt (in_nI (by decide) (by decide) : vp_in (nI 3) 15) ?_
  refine r_pu 3 h rfl (by decide) (fun w h => ?_)
  refine ok_gdt (in_nI (by decide) (by decide) : vp_in (nI 4) 15) ?_
  refine r_pu 4 h rfl (by decide) (fun w h => ?_)
  refine ok_gdt (in_nI (by decide) (by decide) : vp_in (nI 5) 15) ?_
  refine r_pu 5 h rfl (by decide) (fun w h => ?_)
  refine ok_gdt (in_nI (by decide) (by decide) : vp_in (nI 6) 15) ?_
  refine r_pu 6 h rfl (by decide) (fun w h => ?_)
  refine ok_gdt (in_nI (by decide) (by decide) : vp_in (nI 7) 15) ?_
  refine r_pu 7 h rfl (by decide) (fun w h => ?_)
  refine ok_gdt (in_nI (by decide) (by decide) : vp_in (nI 8) 15) ?_
  refine r_pu 8 h rfl (by decide) (fun w h => ?_)
  refine ok_gdt (in_nI (by decide) (by decide) : vp_in (nI 9) 15) ?_
  refine r_pu 9 h rfl (by decide) (fun w h => ?_)
  refine ok_gdt (in_nI (by decide) (by decide) : vp_in (nI 10) 15) ?_
  refine r_pu 10 h rfl (by decide) (fun w h => ?_)
  refine ok_gdt (in_nI (by decide) (by decide) : vp_in (nI 11) 15) ?_
  refine r_pu 11 h rfl (by decide) (fun w h => ?_)
  refine ok_gdt (in_nI (by decide) (by decide) : vp_in (nI 12) 15) ?_
  refine r_pu 12 h rfl (by decide) (fun w h => ?_)
  refine ok_gdt (in_nI (by decide) (by decide) : vp_in (nI 13) 15) ?_
  refine r_pu 13 h rfl (by decide) (fun w h => ?_)
  refine ok_gdt (in_nI (by decide) (by decide) : vp_in (nI 14) 15) ?_
  refine r_pu 14 h rfl (by decide) (fun w h => ?_)
  refine r_pu 73 h rfl (by decide) (fun w h => ?_)
  refine r_pu 74 h rfl (by decide) (fun w h => ?_)
  refine r_pu 75 h rfl (by decide) (fun w h => ?_)
  refine r_pu 76 h rfl (by decide) (fun w h => ?_)
  refine r_pu 77 h rfl (by decide) (fun w h => ?_)
  refine r_pu 78 h rfl (by decide) (fun w h => ?_)
  refine r_pu 79 h rfl (by decide) (fun w h => ?_)
  refine r_pu 80 h rfl (by decide) (fun w h => ?_)
  refine r_pu 81 h rfl (by decide) (fun w h => ?_)
  refine r_pu 82 h rfl (by decide) (fun w h => ?_)
  refine r_pu 83 h rfl (by decide) (fun w h => ?_)
  refine r_pu 84 h rfl (by decide) (fun w h => ?_)
  refine r_pu 85 h rfl (by decide) (fun w h => ?_)
  refine r_pu 87 h rfl (by decide) (fun w h => ?_)
  refine r_pu 88 h rfl (by decide) (fun w h => ?_)
  refine r_pu 89 h rfl (by decide) (fun w h => ?_)
  refine r_pu 90 h rfl (by decide) (fun w h => ?_)
  refine r_pu 91 h rfl (by decide) (fun w h => ?_)
  refine r_pu 92 h rfl (by decide) (fun w h => ?_)
  refine r_pu 93 h rfl (by decide) (fun w h => ?_)
  refine r_pu 94 h rfl (by decide) (fun w h => ?_)
  refine r_pu 95 h rfl (by decide) (fun w h => ?_)
  refine r_pu 99 h rfl (by decide) (fun w h => ?_)
  refine r_pu 100 h rfl (by decide) (fun w h => ?_)
  refine r_pu 101 h rfl (by decide) (fun w h => ?_)
  refine r_pu 102 h rfl (by decide) (fun w h => ?_)
  refine r_pu 103 h rfl (by decide) (fun w h => ?_)
  refine r_pu 104 h rfl (by decide) (fun w h => ?_)
  refine r_pu 106 h rfl (by decide) (fun w h => ?_)
  refine r_pu 107 h rfl (by decide) (fun w h => ?_)
  exact ok_i h
end
