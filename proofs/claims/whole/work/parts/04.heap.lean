theorem sh_lt {k t n : Nat} (hs : sh k = (t, n)) (ht : t ≠ 9) : k < 178 := by
  rcases Nat.lt_or_ge k 178 with h | h
  · exact h
  · have h1 : sh k = (9, 0) := by
      unfold sh
      rw [List.getD_eq_getElem?_getD, List.getElem?_eq_none (show shL.length ≤ k from h)]
      rfl
    rw [h1] at hs
    cases hs
    exact absurd rfl ht
theorem fk_lt {k j : Nat} (h : fk k j < 999999) : j < nf k := by
  unfold fk at h
  unfold nf
  rcases Nat.lt_or_ge j (rfL.getD k []).length with q | q
  · exact q
  · rw [List.getD_eq_getElem?_getD, List.getElem?_eq_none q] at h
    exact absurd h (by decide)
section JH
variable {κ : Kx} {own : String} {cc : ByteArray} {nL : Nat} {rt : Option FieldType} {rm : Room} {pc : Nat} {L : List (Nat × Value)} {st : List Value} {w : Wd} {α : Type} {P : α → Prop} {kk : Option α} {k n : Nat} {i : Int32}
theorem j_iald (hs : sh k = (0, n)) (hd : decode cc pc = .ok (.iaload, 1)) (h : ok (gd (vp_in i n) kk) P) (jn : ok kk P → J κ own cc nL rt rm (pc + 1) L (.int (w.1 k (ix i)) :: st) w) : J κ own cc nL rt rm pc L (.int i :: .ref (ad (gm κ) k) :: st) w := fun F ls H locs hl hG =>
  va_iald F.1 F.2.1 F.2.2.2.2.2.1.1 hG.1 k 0 (by rw [wl_at (sh_lt hs (by decide)), cell_I hs (by decide) (by decide) (by decide)]) rfl (ok_g h).1 hd (jn (ok_g h).2 F ls H locs hl hG)
theorem j_bald (hs : sh k = (1, n)) (hd : decode cc pc = .ok (.baload, 1)) (h : ok (gd (vp_in i n) kk) P) (jn : ok kk P → J κ own cc nL rt rm (pc + 1) L (.int (w.1 k (ix i)) :: st) w) : J κ own cc nL rt rm pc L (.int i :: .ref (ad (gm κ) k) :: st) w := fun F ls H locs hl hG =>
  va_bald F.1 F.2.1 F.2.2.2.2.2.1.1 hG.1 k 1 (by rw [wl_at (sh_lt hs (by decide)), cell_I hs (by decide) (by decide) (by decide)]) rfl (ok_g h).1 hd (jn (ok_g h).2 F ls H locs hl hG)
theorem j_zald (hs : sh k = (3, n)) (hd : decode cc pc = .ok (.baload, 1)) (h : ok (gd (vp_in i n) kk) P) (jn : ok kk P → J κ own cc nL rt rm (pc + 1) L (.int (w.1 k (ix i)) :: st) w) : J κ own cc nL rt rm pc L (.int i :: .ref (ad (gm κ) k) :: st) w := fun F ls H locs hl hG =>
  va_zald F.1 F.2.1 F.2.2.2.2.2.1.1 hG.1 k 3 (by rw [wl_at (sh_lt hs (by decide)), cell_I hs (by decide) (by decide) (by decide)]) rfl (ok_g h).1 hd (jn (ok_g h).2 F ls H locs hl hG)
theorem j_lald (hs : sh k = (2, n)) (hd : decode cc pc = .ok (.laload, 1)) (h : ok (gd (vp_in i n) kk) P) (jn : ok kk P → J κ own cc nL rt rm (pc + 1) L (.long (w.2 k (ix i)) :: st) w) : J κ own cc nL rt rm pc L (.int i :: .ref (ad (gm κ) k) :: st) w := fun F ls H locs hl hG =>
  va_lald F.1 F.2.1 F.2.2.2.2.2.1.1 hG.1 k 2 (by rw [wl_at (sh_lt hs (by decide)), cell_J hs]) rfl (ok_g h).1 hd (jn (ok_g h).2 F ls H locs hl hG)
theorem j_aald (hs : sh k = (4, n)) (hd : decode cc pc = .ok (.aaload, 1)) (h : ok (gd (vp_in i n) kk) P) (jn : ok kk P → J κ own cc nL rt rm (pc + 1) L (.ref (ad (gm κ) (stc (ix i))) :: st) w) : J κ own cc nL rt rm pc L (.int i :: .ref (ad (gm κ) k) :: st) w := fun F ls H locs hl hG =>
  va_aldq (f := fun i => some (ad (gm κ) (stc i))) F.1 F.2.1 F.2.2.2.2.2.1.1 hG.1 k 4 (by rw [wl_at (sh_lt hs (by decide)), cell_R hs]) rfl (ok_g h).1 hd (jn (ok_g h).2 F ls H locs hl hG)
theorem j_iast {x : Int32} (hs : sh k = (0, n)) (hd : decode cc pc = .ok (.iastore, 1)) (h : ok (gd (vp_in i n) kk) P) (jn : ok kk P → J κ own cc nL rt rm (pc + 1) L st (puI w k (ix i) x)) : J κ own cc nL rt rm pc L (.int x :: .int i :: .ref (ad (gm κ) k) :: st) w := fun F ls H locs hl hG =>
  va_iast F.1 F.2.1 F.2.2.2.2.2.1.1 hG.1 (wl_D F.2.2.2.2.2.1.2.2.1 w) hG.2 k 0 (by rw [wl_at (sh_lt hs (by decide)), cell_I hs (by decide) (by decide) (by decide)]) rfl (ok_g h).1 hd (fun H1 locs1 hP _ hS => by
    rw [wl_set (w' := puI w k (ix i) x) (sh_lt hs (by decide)) (fun j hj => cell_seI hj) (by rw [cell_I hs (by decide) (by decide) (by decide)]; simp only [puI, seI, up_eq])] at hP
    exact jn (ok_g h).2 F ls H1 locs1 hl ⟨hP, hS⟩)
theorem j_bast {x : Int32} (hs : sh k = (1, n)) (hd : decode cc pc = .ok (.bastore, 1)) (h : ok (gd (vp_in i n) kk) P) (jn : ok kk P → J κ own cc nL rt rm (pc + 1) L st (puI w k (ix i) (vp_nar .byte x))) : J κ own cc nL rt rm pc L (.int x :: .int i :: .ref (ad (gm κ) k) :: st) w := fun F ls H locs hl hG =>
  va_bast F.1 F.2.1 F.2.2.2.2.2.1.1 hG.1 (wl_D F.2.2.2.2.2.1.2.2.1 w) hG.2 k 1 (by rw [wl_at (sh_lt hs (by decide)), cell_I hs (by decide) (by decide) (by decide)]) rfl (ok_g h).1 hd (fun H1 locs1 hP _ hS => by
    rw [wl_set (w' := puI w k (ix i) (vp_nar .byte x)) (sh_lt hs (by decide)) (fun j hj => cell_seI hj) (by rw [cell_I hs (by decide) (by decide) (by decide)]; simp only [puI, seI, up_eq])] at hP
    exact jn (ok_g h).2 F ls H1 locs1 hl ⟨hP, hS⟩)
theorem j_zast {x : Int32} (hs : sh k = (3, n)) (hd : decode cc pc = .ok (.bastore, 1)) (h : ok (gd (vp_in i n) kk) P) (jn : ok kk P → J κ own cc nL rt rm (pc + 1) L st (puI w k (ix i) (vp_nar .boolean x))) : J κ own cc nL rt rm pc L (.int x :: .int i :: .ref (ad (gm κ) k) :: st) w := fun F ls H locs hl hG =>
  va_zast F.1 F.2.1 F.2.2.2.2.2.1.1 hG.1 (wl_D F.2.2.2.2.2.1.2.2.1 w) hG.2 k 3 (by rw [wl_at (sh_lt hs (by decide)), cell_I hs (by decide) (by decide) (by decide)]) rfl (ok_g h).1 hd (fun H1 locs1 hP _ hS => by
    rw [wl_set (w' := puI w k (ix i) (vp_nar .boolean x)) (sh_lt hs (by decide)) (fun j hj => cell_seI hj) (by rw [cell_I hs (by decide) (by decide) (by decide)]; simp only [puI, seI, up_eq])] at hP
    exact jn (ok_g h).2 F ls H1 locs1 hl ⟨hP, hS⟩)
theorem j_last {x : Int64} (hs : sh k = (2, n)) (hd : decode cc pc = .ok (.lastore, 1)) (h : ok (gd (vp_in i n) kk) P) (jn : ok kk P → J κ own cc nL rt rm (pc + 1) L st (puJ w k (ix i) x)) : J κ own cc nL rt rm pc L (.long x :: .int i :: .ref (ad (gm κ) k) :: st) w := fun F ls H locs hl hG =>
  va_last F.1 F.2.1 F.2.2.2.2.2.1.1 hG.1 (wl_D F.2.2.2.2.2.1.2.2.1 w) hG.2 k 2 (by rw [wl_at (sh_lt hs (by decide)), cell_J hs]) rfl (ok_g h).1 hd (fun H1 locs1 hP _ hS => by
    rw [wl_set (w' := puJ w k (ix i) x) (sh_lt hs (by decide)) (fun j hj => cell_seJ hj) (by rw [cell_J hs]; simp only [puJ, seJ, up_eq])] at hP
    exact jn (ok_g h).2 F ls H1 locs1 hl ⟨hP, hS⟩)
theorem j_alenI {t : Nat} {v : Int32} (hs : sh k = (t, n)) (ht : t = 0 ∨ t = 1 ∨ t = 3) (hv : Int32.ofNat n = v) (hd : decode cc pc = .ok (.arraylength, 1)) (jn : J κ own cc nL rt rm (pc + 1) L (.int v :: st) w) : J κ own cc nL rt rm pc L (.ref (ad (gm κ) k) :: st) w := fun F ls H locs hl hG => by
  have ha : (wl (gm κ) w)[k]? = some (ad (gm κ) k, .inl (cid (gm κ) t, n, .inl (w.1 k))) := by
    rw [wl_at (sh_lt hs (by rcases ht with rfl | rfl | rfl <;> decide)), cell_I hs (by rcases ht with rfl | rfl | rfl <;> decide) (by rcases ht with rfl | rfl | rfl <;> decide) (by rcases ht with rfl | rfl | rfl <;> decide)]
  rcases ht with rfl | rfl | rfl
  · exact va_alen F.1 F.2.1 F.2.2.2.2.2.1.1 hG.1 k 0 ha (ty := .int) rfl hv hd (jn F ls H locs hl hG)
  · exact va_alen F.1 F.2.1 F.2.2.2.2.2.1.1 hG.1 k 1 ha (ty := .byte) rfl hv hd (jn F ls H locs hl hG)
  · exact va_alen F.1 F.2.1 F.2.2.2.2.2.1.1 hG.1 k 3 ha (ty := .boolean) rfl hv hd (jn F ls H locs hl hG)
theorem j_alenJ {v : Int32} (hs : sh k = (2, n)) (hv : Int32.ofNat n = v) (hd : decode cc pc = .ok (.arraylength, 1)) (jn : J κ own cc nL rt rm (pc + 1) L (.int v :: st) w) : J κ own cc nL rt rm pc L (.ref (ad (gm κ) k) :: st) w := fun F ls H locs hl hG =>
  va_alen F.1 F.2.1 F.2.2.2.2.2.1.1 hG.1 k 2 (x := (n, .inr (.inl (w.2 k)))) (by rw [wl_at (sh_lt hs (by decide)), cell_J hs]) (ty := .long) rfl hv hd (jn F ls H locs hl hG)
/-- a field's link: own's pool entry idx is field j of class ci -/
def FLk (own : String) (idx ci j : Nat) : Prop := ∃ (C : String) (T : u_T) (N : Nat), cls[ci]? = some (C, T, N) ∧ j < N ∧ (∀ q ∈ u_ws C T N, q ∈ TG) ∧ (T j).1 = C ∧ (Cond.fieldLink own idx C (T j).2.1 (T j).2.2.1 ∈ TG ∨ ∃ host : String, Cond.fieldLinkNest own idx C (T j).2.1 (T j).2.2.1 host ∈ TN)
def FPk (own : String) (idx ci j : Nat) (ty : FieldType) : Prop := ∃ (C : String) (T : u_T) (N : Nat) (ty0 : Nat → FieldType), cls[ci]? = some (C, T, N) ∧ j < N ∧ (∀ q ∈ u_ws C T N, q ∈ TG) ∧ (T j).1 = C ∧ (Cond.fieldLink own idx C (T j).2.1 (T j).2.2.1 ∈ TG ∨ ∃ host : String, Cond.fieldLinkNest own idx C (T j).2.1 (T j).2.2.1 host ∈ TN) ∧ (∀ k, k < N → parseFieldDescriptor (T k).2.2.1 = some (ty0 k)) ∧ (∀ a, a < N → ∀ b, b < N → a ≠ b → (T a).2.1 ≠ (T b).2.1) ∧ (T j).2.2.2 = false ∧ parseFieldDescriptor (T j).2.2.1 = some ty
theorem fv_at {γ : Gm} {j : Nat} (hj : j < nf k) : ((List.range (nf k)).map (fv γ w k))[j]? = some (fv γ w k j) := by
  rw [List.getElem?_map, List.getElem?_range hj]
  rfl
theorem j_getV {idx ci j : Nat} (hF : FLk own idx ci j) (hs : sh k = (5, ci)) (hj : j < nf k) (hd : decode cc pc = .ok (.getfield idx, 3)) (jn : J κ own cc nL rt rm (pc + 3) L (fv (gm κ) w k j :: st) w) : J κ own cc nL rt rm pc L (.ref (ad (gm κ) k) :: st) w := fun F ls H locs hl hG => by
  obtain ⟨C, T, N, hc, hN, hin, hC, hl1⟩ := hF
  have he : (wl (gm κ) w)[k]? = some (ad (gm κ) k, .inr (ci, (List.range (nf k)).map (fv (gm κ) w k))) := by rw [wl_at (sh_lt hs (by decide)), cell_O hs]
  rcases hl1 with hl1 | ⟨host, hl1⟩
  · exact va_get F.1 F.2.1 F.2.2.2.2.1 hin F.2.2.2.1 F.2.2.2.2.2.1.1 hG.1 k he hc j hN (F.2.2.2.2.1 _ hl1) (fun x h => by rw [hC] at h; exact h) (fv_at hj) hd (jn F ls H locs hl hG)
  · exact va_getN F.1 F.2.1 F.2.2.2.2.1 hin F.2.2.2.1 F.2.2.2.2.2.1.1 hG.1 k he hc j hN (va_Nw.use rfl (F.2.2.2.2.2.1.2.1 _ hl1)) (fun x h => by rw [hC] at h; exact h) (fv_at hj) hd (jn F ls H locs hl hG)
theorem j_getI {idx ci j : Nat} (hF : FLk own idx ci j) (hs : sh k = (5, ci)) (hf : fk k j = 0) (hd : decode cc pc = .ok (.getfield idx, 3)) (jn : J κ own cc nL rt rm (pc + 3) L (.int (w.1 k j) :: st) w) : J κ own cc nL rt rm pc L (.ref (ad (gm κ) k) :: st) w := j_getV hF hs (fk_lt (by rw [hf]; decide)) hd (by rw [show fv (gm κ) w k j = .int (w.1 k j) from by unfold fv; rw [hf]; rfl]; exact jn)
theorem j_getJ {idx ci j : Nat} (hF : FLk own idx ci j) (hs : sh k = (5, ci)) (hf : fk k j = 1) (hd : decode cc pc = .ok (.getfield idx, 3)) (jn : J κ own cc nL rt rm (pc + 3) L (.long (w.2 k j) :: st) w) : J κ own cc nL rt rm pc L (.ref (ad (gm κ) k) :: st) w := j_getV hF hs (fk_lt (by rw [hf]; decide)) hd (by rw [show fv (gm κ) w k j = .long (w.2 k j) from by unfold fv; rw [hf]; rfl]; exact jn)
theorem j_getA {idx ci j : Nat} (t : Nat) (hF : FLk own idx ci j) (hs : sh k = (5, ci)) (hf : fk k j = t + 2) (ht : t + 2 < 999999) (hd : decode cc pc = .ok (.getfield idx, 3)) (jn : J κ own cc nL rt rm (pc + 3) L (.ref (ad (gm κ) t) :: st) w) : J κ own cc nL rt rm pc L (.ref (ad (gm κ) k) :: st) w := j_getV hF hs (fk_lt (by rw [hf]; exact ht)) hd (by rw [show fv (gm κ) w k j = .ref (ad (gm κ) t) from by unfold fv; rw [hf]; rfl]; exact jn)
theorem fv_set {γ : Gm} {w' : Wd} {j : Nat} {v : Value} (h1 : fv γ w' k j = v) (h2 : ∀ q, q ≠ j → fv γ w' k q = fv γ w k q) : (List.range (nf k)).map (fv γ w' k) = ((List.range (nf k)).map (fv γ w k)).set j v := by
  apply List.ext_getElem?
  intro q
  by_cases hq : j = q
  · subst hq
    by_cases hj : j < nf k
    · rw [fv_at hj, List.getElem?_set_self (by simp; exact hj), h1]
    · rw [List.getElem?_eq_none (by simp; omega), List.getElem?_eq_none (by simp; omega)]
  · rw [List.getElem?_set_ne hq]
    by_cases hj : q < nf k
    · rw [fv_at hj, fv_at hj, h2 q (fun z => hq z.symm)]
    · rw [List.getElem?_eq_none (by simp; omega), List.getElem?_eq_none (by simp; omega)]
theorem j_putV {idx ci j : Nat} {ty : FieldType} {v : Value} {w' : Wd} (hF : FPk own idx ci j ty) (hs : sh k = (5, ci)) (hj : j < nf k) (hn : narrow ty v = v) (hfit : fits ty v = true) (h0 : ∀ q, q ≠ k → cell (gm κ) w' q = cell (gm κ) w q) (h1 : fv (gm κ) w' k j = v) (h2 : ∀ q, q ≠ j → fv (gm κ) w' k q = fv (gm κ) w k q) (hd : decode cc pc = .ok (.putfield idx, 3)) (jn : J κ own cc nL rt rm (pc + 3) L st w') : J κ own cc nL rt rm pc L (v :: .ref (ad (gm κ) k) :: st) w := fun F ls H locs hl hG => by
  obtain ⟨C, T, N, ty0, hc, hN, hin, hC, hl1, hty, hnm, hfin, hpd⟩ := hF
  have he : (wl (gm κ) w)[k]? = some (ad (gm κ) k, .inr (ci, (List.range (nf k)).map (fv (gm κ) w k))) := by rw [wl_at (sh_lt hs (by decide)), cell_O hs]
  have hset := wl_set (γ := gm κ) (w := w) (w' := w') (x := .inr (ci, ((List.range (nf k)).map (fv (gm κ) w k)).set j v)) (sh_lt hs (by decide)) h0 (by rw [cell_O hs, fv_set h1 h2])
  rcases hl1 with hl1 | ⟨host, hl1⟩
  · exact va_put F.1 F.2.1 F.2.2.2.2.1 hin ty0 hty hnm F.2.2.2.1 F.2.2.2.2.2.1.1 hG.1 (wl_D F.2.2.2.2.2.1.2.2.1 w) hG.2 k he hc j hN (F.2.2.2.2.1 _ hl1) (fun x h => by rw [hC] at h; exact h) hfin hpd hn hfit (by simp; exact hj) hd (fun H1 locs1 hP _ hS => by
      rw [hset] at hP
      exact jn F ls H1 locs1 hl ⟨hP, hS⟩)
  · exact va_putN F.1 F.2.1 F.2.2.2.2.1 hin ty0 hty hnm F.2.2.2.1 F.2.2.2.2.2.1.1 hG.1 (wl_D F.2.2.2.2.2.1.2.2.1 w) hG.2 k he hc j hN (va_Nw.use rfl (F.2.2.2.2.2.1.2.1 _ hl1)) (fun x h => by rw [hC] at h; exact h) hfin hpd hn hfit (by simp; exact hj) hd (fun H1 locs1 hP _ hS => by
      rw [hset] at hP
      exact jn F ls H1 locs1 hl ⟨hP, hS⟩)
theorem fv_puI {γ : Gm} {j : Nat} {x : Int32} (hf : fk k j = 0) : fv γ (puI w k j x) k j = .int x := by
  unfold fv
  rw [hf]
  simp [fvN, puI, seI, up_eq, upd]
theorem fv_puI' {γ : Gm} {j q : Nat} {x : Int32} (hq : q ≠ j) : fv γ (puI w k j x) k q = fv γ w k q := by
  have e1 : (puI w k j x).1 k q = w.1 k q := by simp [puI, seI, up_eq, upd, hq]
  unfold fv fvN
  rw [e1]
  rfl
theorem fv_puJ {γ : Gm} {j : Nat} {x : Int64} (hf : fk k j = 1) : fv γ (puJ w k j x) k j = .long x := by
  unfold fv
  rw [hf]
  simp [fvN, puJ, seJ, up_eq, vp_updL]
theorem fv_puJ' {γ : Gm} {j q : Nat} {x : Int64} (hq : q ≠ j) : fv γ (puJ w k j x) k q = fv γ w k q := by
  have e1 : (puJ w k j x).2 k q = w.2 k q := by simp [puJ, seJ, up_eq, vp_updL, hq]
  unfold fv fvN
  rw [e1]
  rfl
theorem j_putI {idx ci j : Nat} {x : Int32} (hF : FPk own idx ci j .int) (hs : sh k = (5, ci)) (hf : fk k j = 0) (hd : decode cc pc = .ok (.putfield idx, 3)) (jn : J κ own cc nL rt rm (pc + 3) L st (puI w k j x)) : J κ own cc nL rt rm pc L (.int x :: .ref (ad (gm κ) k) :: st) w := j_putV hF hs (fk_lt (by rw [hf]; decide)) rfl rfl (fun q hq => cell_seI hq) (fv_puI hf) (fun q hq => fv_puI' hq) hd jn
theorem j_putJ {idx ci j : Nat} {x : Int64} (hF : FPk own idx ci j .long) (hs : sh k = (5, ci)) (hf : fk k j = 1) (hd : decode cc pc = .ok (.putfield idx, 3)) (jn : J κ own cc nL rt rm (pc + 3) L st (puJ w k j x)) : J κ own cc nL rt rm pc L (.long x :: .ref (ad (gm κ) k) :: st) w := j_putV hF hs (fk_lt (by rw [hf]; decide)) rfl rfl (fun q hq => cell_seJ hq) (fv_puJ hf) (fun q hq => fv_puJ' hq) hd jn
/-- a bound value, world -/
theorem j_lI {x : Int32} {f : Int32 → Option α} (h : ok ((some x).bind f) P) (jn : ∀ z, ok (f z) P → J κ own cc nL rt rm pc L (.int z :: st) w) : J κ own cc nL rt rm pc L (.int x :: st) w := jn x h
theorem j_lJ {x : Int64} {f : Int64 → Option α} (h : ok ((some x).bind f) P) (jn : ∀ z, ok (f z) P → J κ own cc nL rt rm pc L (.long z :: st) w) : J κ own cc nL rt rm pc L (.long x :: st) w := jn x h
theorem j_lW {f : Wd → Option α} (h : ok ((some w).bind f) P) (jn : ∀ z, ok (f z) P → J κ own cc nL rt rm pc L st z) : J κ own cc nL rt rm pc L st w := jn w h
end JH
/-! contracts -/
def PcG (γ : Gm) (A : Nat → Prop) (w : Wd) (U : State) : Prop := Ev γ A U U.heap ∧ (∀ q, U.heap.size ≤ q → A q) ∧ va_P γ.1 cls (wl γ w) U.heap
def QcG (γ : Gm) (A : Nat → Prop) (v : Option Value) (w' : Wd) : Array Value → State → Outcome → State → Prop := fun _ st o t => o = .returned v ∧ va_P γ.1 cls (wl γ w') t.heap ∧ va_F A st t
def MetG (l : Launch) (γ : Gm) (A : Nat → Prop) (y : MethodName) (cc : ByteArray) (nL : Nat) (rt : Option FieldType) (rm : Room) (av : List Value) (w : Wd) (v : Option Value) (w' : Wd) : Prop :=
  Met l y (.code y cc nL rt :: TG) rm (va_Pc av (PcG γ A w)) (QcG γ A v w') 0 0 A
theorem met_of {l : Launch} {γ : Gm} {A : Nat → Prop} {y : MethodName} {cc : ByteArray} {nL : Nat} {rt : Option FieldType} {rm : Room} {av : List Value} {w : Wd} {v : Option Value} {w' : Wd} (hy : plainName y.cls = true) (hav : (lg_sl av).length ≤ nL)
    (body : ∀ κ : Kx, kl κ = l → gm κ = γ → kA κ = A → kρ κ = (fun a b => a = v ∧ b = w') → J κ y.cls cc nL rt rm 0 (lv_args 0 av) [] w) : MetG l γ A y cc nL rt rm av w v w' := by
  refine Met.ofW (cc := cc) (maxL := nL) (ret := rt) hy rfl ?_
  intro p e s m args below meth c s₁ B hml hv
  obtain ⟨rfl, hE, hA, hP⟩ := hv
  have hx := B.exec
  have hb := B.bytes
  have hr := B.returns
  have hts := atoms_spec (ws := .code y cc nL rt :: TG) B.pre
  have hown : s.vm.findClass y.cls = some m.cls := findClass_of_methodNamed B.named
  have hlocks := B.notSynchronized
  have hl := lv_entry av (n := nL) hav
  rw [lg_entry_eq]
  generalize (lg_sl av ++ List.replicate (nL - (lg_sl av).length) Slot.unset).toArray = ls at hl ⊢
  refine body (p, l, e, s, m, av.toArray, below, meth, c, MQ below (QcG γ A v w') av.toArray s 0 0 A, γ, A, (fun a b => a = v ∧ b = w'), 0, 0) rfl rfl rfl rfl ⟨hx, hb, hml, hown, fun w hw => hts w (List.mem_cons_of_mem _ hw), hE, hA, ⟨Nat.zero_le _, Nat.zero_le _⟩, ?_, ?_, ?_, ?_⟩ ls s.heap [] hl ⟨hP, va_S.rf⟩
  · intro x w2 H locs pc ls ty hty hn hρ hG hd
    obtain ⟨rfl, rfl⟩ := hρ
    exact W.zret hx hb (hr.trans hty) hn (fun t ht hW => ⟨rfl, by rw [ht]; exact hG.1, hG.2.F ht⟩) hG.2.2.2 hd hlocks
  · intro x w2 H locs pc ls hty hρ hG hd
    obtain ⟨rfl, rfl⟩ := hρ
    exact W.lret hx hb (hr.trans hty) (fun t ht hW => ⟨rfl, by rw [ht]; exact hG.1, hG.2.F ht⟩) hG.2.2.2 hd hlocks
  · intro w2 H locs pc ls hty hρ hG hd
    obtain ⟨rfl, rfl⟩ := hρ
    exact W.vret hx hb (hr.trans hty) (fun t ht hW => ⟨rfl, by rw [ht]; exact hG.1, hG.2.F ht⟩) hG.2.2.2 hd hlocks
  · intro x w2 H locs pc ls n hty hρ hG hd
    obtain ⟨rfl, rfl⟩ := hρ
    exact W.aret hx hb (hr.trans hty) (Or.inl ⟨n, rfl⟩) (Or.inr ⟨x, rfl⟩) (fun t ht hW => ⟨rfl, by rw [ht]; exact hG.1, hG.2.F ht⟩) hG.2.2.2 hd hlocks
/-- what a call site needs of the tables -/
def CLk (own : String) (idx : Nat) (y : MethodName) (cc : ByteArray) (nL : Nat) (rt : Option FieldType) (n : Nat) : Prop :=
  (Cond.methodLink own idx y ∈ TG ∨ ∃ host : String, Cond.methodLinkNest own idx y host ∈ TN) ∧ Cond.code y cc nL rt ∈ TG ∧ Cond.initialized y.cls ∈ TG ∧ (y.cls ≠ "java/lang/invoke/MethodHandle" ∧ y.cls ≠ "java/lang/invoke/VarHandle" ∧ (parseMethodDescriptor y.desc).map (fun d => d.parameters.length) = some n)
theorem tg_good {ws : List Cond} (h : ∀ w ∈ ws, w ∈ TG) : GoodIn TG ws := fun w hw => ⟨h w hw, good_of_word (List.mem_filter.mp (h w hw)).2⟩
theorem pc_blind {γ : Gm} {A : Nat → Prop} {av : List Value} {w : Wd} : FrameBlind (va_Pc av (PcG γ A w)) := by
  intro a U g mk h
  obtain ⟨h0, h1, h2, h3⟩ := h
  exact ⟨h0, h1.calling, h2, h3⟩
section JC
variable {κ : Kx} {own : String} {cc : ByteArray} {nL : Nat} {rt : Option FieldType} {rm : Room} {pc : Nat} {L : List (Nat × Value)} {st : List Value} {w : Wd}
variable {y : MethodName} {yc : ByteArray} {yn : Nat} {yt : Option FieldType} {ym : Room} {idx n : Nat} {As : List Value} {v : Option Value} {w' : Wd} {k : Nat}
theorem j_goes {H : Heap} {locs : List Loc} {ls : Array Slot} {st0 st' : List Value} {a : Array Value} (F : Fx κ own cc nL rt rm) (hl : lv_has ls nL L) (hG : Gw κ w H locs) (hst : v.toList ++ st = st')
    (hr : va_Run (kp κ) (kl κ) (ke κ) rm (ks κ) (km κ) (ka κ) (kb κ) (kmeth κ) (kc κ) H locs (kce κ) (ksl κ) 0 0 (F0 (km κ) pc ls st0) st (QcG (gm κ) (kA κ) v w' a) (kA κ)) (jn : J κ own cc nL rt rm (pc + 3) L st' w') : WJ κ rm H locs (F0 (km κ) pc ls st0) := by
  intro T hT X
  obtain ⟨v1, st₀, t, T', L1, h0, X', hL, e1, e2, ⟨hv, hb, hz, hk⟩, stp⟩ := hr T hT X
  cases hv
  rw [h0] at hz hk
  have hS := hG.2
  obtain ⟨t2, a1, b1⟩ := jn F ls T'.heap (locs ++ L1) hl ⟨by rw [e1]; exact hb, Nat.le_trans hS.1 (by rw [e1]; exact hz), fun q h1 h2 => by rw [e1, hk q (Nat.lt_of_lt_of_le h1 hS.1) h2]; exact hS.2.1 q h1 h2, fun q hq => by
      rcases List.mem_append.mp hq with h | h
      · exact hS.2.2 q h
      · exact hL q h⟩ T' rfl X'
  rw [← hst] at a1
  exact ⟨t2, stp t2 a1, b1⟩
theorem j_callV (st' : List Value) {ci : Nat} {fs : u_T} {N : Nat} (hM : MetG (kl κ) (gm κ) (kA κ) y yc yn yt ym (.ref (ad (gm κ) k) :: As) w v w') (hC : CLk own idx y yc yn yt n) (hi : Cond.instanceMethod y ∈ TG) (hsel : Cond.selects y.cls y y ∈ TG) (hs : sh k = (5, ci)) (hc : cls[ci]? = some (y.cls, fs, N)) (hr1 : ym.cells = 0 ∧ ym.slots = 0) (hr2 : ym.frames + 1 ≤ rm.frames ∧ 8 + (yn + 11) + ym.locals ≤ rm.locals) (hn : As.length = n) (hst : v.toList ++ st = st') (hcat : (st.map fun v => v.category).sum ≤ 8) (hd : decode cc pc = .ok (.invokevirtual idx, 3)) (st0 : List Value) (hst0 : As.reverse ++ .ref (ad (gm κ) k) :: st = st0) (jn : J κ own cc nL rt rm (pc + 3) L st' w') : J κ own cc nL rt rm pc L st0 w := fun F ls H locs hl hG => by
  subst hst0
  obtain ⟨hl1, hcode, hini, hd1⟩ := hC
  have hgood : GoodIn TG (.code y yc yn yt :: TG) := tg_good (fun w hw => by
    rcases List.mem_cons.mp hw with rfl | h
    · exact hcode
    · exact h)
  have hp : PreV (ks κ) H y.cls (ad (gm κ) k) (va_Pc (.ref (ad (gm κ) k) :: As) (PcG (gm κ) (kA κ) w)) As := ⟨pc_blind, va_recv F.2.2.2.2.2.1.1 hG.1 (q := (y.cls, fs, N)) hc (q0 := k) (fs := (List.range (nf k)).map (fv (gm κ) w k)) (by rw [wl_at (sh_lt hs (by decide)), cell_O hs]), fun U hU hW => ⟨rfl, by rw [hU]; exact F.2.2.2.2.2.1.call hG.2 hW, fun q hq => F.2.2.2.2.2.2.1 q (by rw [hU] at hq; exact Nat.le_trans hG.2.1 hq), by rw [hU]; exact hG.1⟩⟩
  rcases hl1 with hl1 | ⟨host, hl1⟩
  · exact j_goes F hl hG hst (va_runV (Ts := TG) ⟨F.1, F.2.1, F.2.2.1, F.2.2.2.1, F.2.2.2.2.1⟩ hM ⟨callB_of n F.2.2.2.2.1 hgood rfl hr1.1 hr1.2 (F.2.2.2.2.1 _ hini) (F.2.2.2.2.1 _ hl1) hd1 hr2, F.2.2.2.2.1 _ hi, F.2.2.2.2.1 _ hsel⟩ hp rfl hn hl.1 rfl (lv_room hcat) hd F.2.2.2.2.2.2.2.1) jn
  · exact j_goes F hl hG hst (va_runVN (Ts := TG) ⟨F.1, F.2.1, F.2.2.1, F.2.2.2.1, F.2.2.2.2.1⟩ hM ⟨va_cnB n F.2.2.2.2.1 hgood rfl hr1.1 hr1.2 (F.2.2.2.2.2.1.2.1 _ hl1) (F.2.2.2.2.1 _ hini) hd1 hr2, F.2.2.2.2.1 _ hi, F.2.2.2.2.1 _ hsel⟩ hp rfl hn hl.1 rfl (lv_room hcat) hd F.2.2.2.2.2.2.2.1) jn
theorem j_callS (st' : List Value) (hM : MetG (kl κ) (gm κ) (kA κ) y yc yn yt ym As w v w') (hC : CLk own idx y yc yn yt n) (hi : Cond.static y ∈ TG) (hr1 : ym.cells = 0 ∧ ym.slots = 0) (hr2 : ym.frames + 1 ≤ rm.frames ∧ 8 + (yn + 11) + ym.locals ≤ rm.locals) (hn : As.length = n) (hst : v.toList ++ st = st') (hcat : (st.map fun v => v.category).sum ≤ 8) (hd : decode cc pc = .ok (.invokestatic idx, 3)) (st0 : List Value) (hst0 : As.reverse ++ st = st0) (jn : J κ own cc nL rt rm (pc + 3) L st' w') : J κ own cc nL rt rm pc L st0 w := fun F ls H locs hl hG => by
  subst hst0
  obtain ⟨hl1, hcode, hini, hd1⟩ := hC
  have hgood : GoodIn TG (.code y yc yn yt :: TG) := tg_good (fun w hw => by
    rcases List.mem_cons.mp hw with rfl | h
    · exact hcode
    · exact h)
  have hp : PreS (ks κ) H (va_Pc As (PcG (gm κ) (kA κ) w)) As := ⟨pc_blind, fun U hU hW => ⟨rfl, by rw [hU]; exact F.2.2.2.2.2.1.call hG.2 hW, fun q hq => F.2.2.2.2.2.2.1 q (by rw [hU] at hq; exact Nat.le_trans hG.2.1 hq), by rw [hU]; exact hG.1⟩⟩
  rcases hl1 with hl1 | ⟨host, hl1⟩
  · exact j_goes F hl hG hst (va_runS (Ts := TG) ⟨F.1, F.2.1, F.2.2.1, F.2.2.2.1, F.2.2.2.2.1⟩ hM ⟨callB_of n F.2.2.2.2.1 hgood rfl hr1.1 hr1.2 (F.2.2.2.2.1 _ hini) (F.2.2.2.2.1 _ hl1) hd1 hr2, F.2.2.2.2.1 _ hi⟩ hp rfl hn hl.1 rfl (lv_room hcat) hd F.2.2.2.2.2.2.2.1) jn
  · exact j_goes F hl hG hst (va_runSN (Ts := TG) ⟨F.1, F.2.1, F.2.2.1, F.2.2.2.1, F.2.2.2.2.1⟩ hM ⟨va_cnB n F.2.2.2.2.1 hgood rfl hr1.1 hr1.2 (F.2.2.2.2.2.1.2.1 _ hl1) (F.2.2.2.2.1 _ hini) hd1 hr2, F.2.2.2.2.1 _ hi, trivial⟩ hp rfl hn hl.1 rfl (lv_room hcat) hd F.2.2.2.2.2.2.2.1) jn
end JC
