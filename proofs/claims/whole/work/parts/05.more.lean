def rmk (f n : Nat) : Room := { frames := f, cells := 0, slots := 0, locals := n }
def PIw (κ : Kx) : Int32 × Wd → Prop := fun r => kρ κ (some (.int r.1)) r.2
def PI (κ : Kx) (w : Wd) : Int32 → Prop := fun r => kρ κ (some (.int r)) w
def PJw (κ : Kx) : Int64 × Wd → Prop := fun r => kρ κ (some (.long r.1)) r.2
def PJ (κ : Kx) (w : Wd) : Int64 → Prop := fun r => kρ κ (some (.long r)) w
def PVw (κ : Kx) : Wd → Prop := fun r => kρ κ none r
def PV (κ : Kx) (w : Wd) : Unit → Prop := fun _ => kρ κ none w
def PSw (κ : Kx) : Nat × Wd → Prop := fun r => kρ κ (some (.ref (ad (gm κ) (stc r.1)))) r.2
theorem pIw {κ : Kx} {q : Int32 × Wd} {v : Option Value} {w' : Wd} (h : kρ κ = fun a b => a = v ∧ b = w') (hv : some (.int q.1) = v) (hw : q.2 = w') : PIw κ q := by
  unfold PIw; rw [h]; exact ⟨hv, hw⟩
theorem pI {κ : Kx} {q : Int32} {w : Wd} {v : Option Value} {w' : Wd} (h : kρ κ = fun a b => a = v ∧ b = w') (hv : some (.int q) = v) (hw : w = w') : PI κ w q := by
  unfold PI; rw [h]; exact ⟨hv, hw⟩
theorem pJw {κ : Kx} {q : Int64 × Wd} {v : Option Value} {w' : Wd} (h : kρ κ = fun a b => a = v ∧ b = w') (hv : some (.long q.1) = v) (hw : q.2 = w') : PJw κ q := by
  unfold PJw; rw [h]; exact ⟨hv, hw⟩
theorem pJ {κ : Kx} {q : Int64} {w : Wd} {v : Option Value} {w' : Wd} (h : kρ κ = fun a b => a = v ∧ b = w') (hv : some (.long q) = v) (hw : w = w') : PJ κ w q := by
  unfold PJ; rw [h]; exact ⟨hv, hw⟩
theorem pVw {κ : Kx} {q : Wd} {v : Option Value} {w' : Wd} (h : kρ κ = fun a b => a = v ∧ b = w') (hv : none = v) (hw : q = w') : PVw κ q := by
  unfold PVw; rw [h]; exact ⟨hv, hw⟩
theorem pV {κ : Kx} {q : Unit} {w : Wd} {v : Option Value} {w' : Wd} (h : kρ κ = fun a b => a = v ∧ b = w') (hv : none = v) (hw : w = w') : PV κ w q := by
  unfold PV; rw [h]; exact ⟨hv, hw⟩
theorem pSw {κ : Kx} {q : Nat × Wd} {v : Option Value} {w' : Wd} (h : kρ κ = fun a b => a = v ∧ b = w') (hv : some (.ref (ad (gm κ) (stc q.1))) = v) (hw : q.2 = w') : PSw κ q := by
  unfold PSw; rw [h]; exact ⟨hv, hw⟩
theorem ok_bb {α β : Type} {o : Option α} {f : α → Option β} {P : β → Prop} (h : ok (o.bind f) P) : ok o (fun a => ok (f a) P) := ok_b h
theorem sel_l {S E : Type} {G : S → Prop} {P : E → Prop} {s : S} (h : ok (some (.inl s)) (sel G P)) : G s := by
  have h1 := ok_s h
  exact h1
theorem sel_r {S E : Type} {G : S → Prop} {P : E → Prop} {e : E} (h : ok (some (.inr e)) (sel G P)) : P e := by
  have h1 := ok_s h
  exact h1
theorem st_sh {i : Nat} (h : i < 4) : sh (stc i) = (5, 8) ∧ sh (stc i + 1) = (0, 100) ∧ sh (stc i + 2) = (3, 100) ∧ sh (stc i + 3) = (0, 100) ∧ sh (stc i + 4) = (0, 100) := by
  match i, h with
  | 0, _ => decide +kernel
  | 1, _ => decide +kernel
  | 2, _ => decide +kernel
  | 3, _ => decide +kernel
theorem st_fk {i : Nat} (h : i < 4) : fk (stc i) 0 = 0 ∧ fk (stc i) 1 = 0 ∧ fk (stc i) 2 = (stc i + 1) + 2 ∧ fk (stc i) 3 = (stc i + 2) + 2 ∧ fk (stc i) 4 = 0 ∧ fk (stc i) 5 = (stc i + 3) + 2 ∧ fk (stc i) 6 = 0 ∧ fk (stc i) 7 = (stc i + 4) + 2 ∧ fk (stc i) 8 = 0 ∧ fk (stc i) 9 = 0 ∧ fk (stc i) 10 = 0 := by
  match i, h with
  | 0, _ => decide +kernel
  | 1, _ => decide +kernel
  | 2, _ => decide +kernel
  | 3, _ => decide +kernel
theorem st_lt {i j : Nat} (h : i < 4) (hj : j ≤ 4) : stc i + j + 2 < 999999 := by
  unfold stc
  omega
section JM
variable {κ : Kx} {own : String} {cc : ByteArray} {nL : Nat} {rt : Option FieldType} {rm : Room} {pc : Nat} {L : List (Nat × Value)} {st : List Value} {w : Wd} {α : Type} {P : α → Prop} {kt kf kk : Option α} {x : Int32}
theorem j_cs (v : Int32) (h : ok (if x = v then kt else kf) P) (jt : ok kt P → J κ own cc nL rt rm pc L (.int v :: st) w) (jf : ¬ x = v → ok kf P → J κ own cc nL rt rm pc L (.int x :: st) w) : J κ own cc nL rt rm pc L (.int x :: st) w := by
  by_cases q : x = v
  · have h1 := ok_t h q
    rw [q]
    exact jt h1
  · exact jf q (ok_f h q)
theorem j_tab {lo hi dflt off : Int} {offs : Array Int} {len : Nat} (t : Nat) (hd : decode cc pc = .ok (.tableswitch dflt lo hi offs, len)) (h1 : ¬ x.toInt < lo) (h2 : ¬ hi < x.toInt) (ho : offs[(x.toInt - lo).toNat]? = some off) (ht : (pc : Int) + off = (t : Int)) (k : J κ own cc nL rt rm t L st w) : J κ own cc nL rt rm pc L (.int x :: st) w := fun F ls H locs hl hG => lv_tableIn F.1 F.2.1 hd h1 h2 ho ht (k F ls H locs hl hG)
theorem j_tabD {lo hi dflt : Int} {offs : Array Int} {len : Nat} (t : Nat) (hd : decode cc pc = .ok (.tableswitch dflt lo hi offs, len)) (h : x.toInt < lo ∨ hi < x.toInt) (ht : (pc : Int) + dflt = (t : Int)) (k : J κ own cc nL rt rm t L st w) : J κ own cc nL rt rm pc L (.int x :: st) w := fun F ls H locs hl hG => lv_tableOut F.1 F.2.1 hd h ht (k F ls H locs hl hG)
theorem j_lk {dflt off : Int} {ps : Array (Int × Int)} {len : Nat} (t : Nat) (hd : decode cc pc = .ok (.lookupswitch dflt ps, len)) (hp : (ps.toList.zip (ps.toList.drop 1)).all (fun (a, next) => a.1 < next.1) = true) (ho : Op.lookupswitch.offset ps.toList dflt x.toInt = off) (ht : (pc : Int) + off = (t : Int)) (k : J κ own cc nL rt rm t L st w) : J κ own cc nL rt rm pc L (.int x :: st) w := fun F ls H locs hl hG => lv_lookup F.1 F.2.1 hd hp ho ht (k F ls H locs hl hG)
theorem j_ldcS {i : Nat} {q : String × Nat × String} {idx : Nat} (hq : strs[i]? = some q) (ho : q.1 = own) (hidx : q.2.1 = idx) (hd : decode cc pc = .ok (.ldc idx, 2)) (k : J κ own cc nL rt rm (pc + 2) L (.ref (sK (gm κ) i) :: st) w) : J κ own cc nL rt rm pc L st w := fun F ls H locs hl hG => by
  subst ho
  subst hidx
  exact va_ldcS F.1 F.2.1 F.2.2.2.1 (F.2.2.2.2.2.1.2.2.2.2.1 i q hq) hd (k F ls H locs hl hG)
theorem j_ldcSw {i : Nat} {q : String × Nat × String} {idx : Nat} (hq : strs[i]? = some q) (ho : q.1 = own) (hidx : q.2.1 = idx) (hd : decode cc pc = .ok (.ldc_w idx, 3)) (k : J κ own cc nL rt rm (pc + 3) L (.ref (sK (gm κ) i) :: st) w) : J κ own cc nL rt rm pc L st w := fun F ls H locs hl hG => by
  subst ho
  subst hidx
  intro T hT X
  obtain ⟨t, a1, b1⟩ := k F ls H locs hl hG T hT X
  exact ⟨t, X.ldcStringW F.1 F.2.2.2.1 (text := q.2.2) (a := sK (gm κ) i) (F.2.2.2.2.2.1.2.2.2.2.1 i q hq).1 (F.2.2.2.2.2.1.2.2.2.2.1 i q hq).2 (g := F0 (km κ) pc ls st) rfl (by rw [F.2.1]; exact hd) t a1, b1⟩
theorem j_textV {i idx : Nat} (hi : i < 4) (hl1 : Cond.fieldLink own idx "java/lang/String" "value" "[B" ∈ TG) (hd : decode cc pc = .ok (.getfield idx, 3)) (k : J κ own cc nL rt rm (pc + 3) L (.ref (sV (gm κ) i) :: st) w) : J κ own cc nL rt rm pc L (.ref (sK (gm κ) i) :: st) w := fun F ls H locs hl hG =>
  vk_getf F.1 F.2.1 (F.2.2.2.2.2.1.2.2.2.1.1 i hi).2.2.1 hG.2 F.2.2.2.1 (F.2.2.2.2.1 _ hl1) (fun _ h => h) hd (k F ls H locs hl hG)
theorem j_textC {i idx : Nat} (hi : i < 4) (hl1 : Cond.fieldLink own idx "java/lang/String" "coder" "B" ∈ TG) (hd : decode cc pc = .ok (.getfield idx, 3)) (k : J κ own cc nL rt rm (pc + 3) L (.int 0 :: st) w) : J κ own cc nL rt rm pc L (.ref (sK (gm κ) i) :: st) w := fun F ls H locs hl hG =>
  vk_getf F.1 F.2.1 (F.2.2.2.2.2.1.2.2.2.1.1 i hi).2.1 hG.2 F.2.2.2.1 (F.2.2.2.2.1 _ hl1) (fun _ h => h) hd (k F ls H locs hl hG)
theorem j_gets {idx : Nat} (hl1 : Cond.fieldLink own idx "java/lang/String" "COMPACT_STRINGS" "Z" ∈ TG) (hd : decode cc pc = .ok (.getstatic idx, 3)) (k : J κ own cc nL rt rm (pc + 3) L (.int 1 :: st) w) : J κ own cc nL rt rm pc L st w := fun F ls H locs hl hG =>
  va_gets F.1 F.2.1 F.2.2.2.2.2.1.2.2.2.2.2.1 hG.2 F.2.2.2.1 (F.2.2.2.2.1 _ hl1) (fun _ h => h) hd (k F ls H locs hl hG)
theorem j_tb {i : Nat} (hi : i < 4) (hd : decode cc pc = .ok (.baload, 1)) (h : ok (gd (vp_in x (strN.getD i 0)) kk) P) (jn : ok kk P → J κ own cc nL rt rm (pc + 1) L (.int ((strB.getD i []).getD (ix x) 0) :: st) w) : J κ own cc nL rt rm pc L (.int x :: .ref (sV (gm κ) i) :: st) w := fun F ls H locs hl hG =>
  va_tb F.1 F.2.1 (F.2.2.2.2.2.1.2.2.2.1.1 i hi).2.2.2 hG.2 (ok_g h).1 rfl hd (jn (ok_g h).2 F ls H locs hl hG)
theorem j_tlen {i : Nat} (hi : i < 4) (hd : decode cc pc = .ok (.arraylength, 1)) (jn : J κ own cc nL rt rm (pc + 1) L (.int (Int32.ofNat (strN.getD i 0)) :: st) w) : J κ own cc nL rt rm pc L (.ref (sV (gm κ) i) :: st) w := fun F ls H locs hl hG =>
  va_tlen F.1 F.2.1 (F.2.2.2.2.2.1.2.2.2.1.1 i hi).2.2.2 hG.2 rfl hd (jn F ls H locs hl hG)
theorem j_callT {y : MethodName} {yc : ByteArray} {yn : Nat} {yt : Option FieldType} {ym : Room} {idx n : Nat} {As : List Value} {v : Option Value} {w' : Wd} {i : Nat} (st' : List Value) (hM : MetG (kl κ) (gm κ) (kA κ) y yc yn yt ym (.ref (sK (gm κ) i) :: As) w v w') (hC : CLk own idx y yc yn yt n) (hi : Cond.instanceMethod y ∈ TG) (hsel : Cond.selects y.cls y y ∈ TG) (hs : i < 4) (hc : y.cls = "java/lang/String") (hr1 : ym.cells = 0 ∧ ym.slots = 0) (hr2 : ym.frames + 1 ≤ rm.frames ∧ 8 + (yn + 11) + ym.locals ≤ rm.locals) (hn : As.length = n) (hst : v.toList ++ st = st') (hcat : (st.map fun v => v.category).sum ≤ 8) (hd : decode cc pc = .ok (.invokevirtual idx, 3)) (st0 : List Value) (hst0 : As.reverse ++ .ref (sK (gm κ) i) :: st = st0) (jn : J κ own cc nL rt rm (pc + 3) L st' w') : J κ own cc nL rt rm pc L st0 w := fun F ls H locs hl hG => by
  subst hst0
  obtain ⟨hl1, hcode, hini, hd1⟩ := hC
  have hgood : GoodIn TG (.code y yc yn yt :: TG) := tg_good (fun w hw => by
    rcases List.mem_cons.mp hw with rfl | h
    · exact hcode
    · exact h)
  have hp : PreV (ks κ) H y.cls (sK (gm κ) i) (va_Pc (.ref (sK (gm κ) i) :: As) (PcG (gm κ) (kA κ) w)) As := ⟨pc_blind, by rw [hc]; exact vk_recv F.2.2.2.2.2.1.2.2.2.1 hs hG.2, fun U hU hW => ⟨rfl, by rw [hU]; exact F.2.2.2.2.2.1.call hG.2 hW, fun q hq => F.2.2.2.2.2.2.1 q (by rw [hU] at hq; exact Nat.le_trans hG.2.1 hq), by rw [hU]; exact hG.1⟩⟩
  rcases hl1 with hl1 | ⟨host, hl1⟩
  · exact j_goes F hl hG hst (va_runV (Ts := TG) ⟨F.1, F.2.1, F.2.2.1, F.2.2.2.1, F.2.2.2.2.1⟩ hM ⟨callB_of n F.2.2.2.2.1 hgood rfl hr1.1 hr1.2 (F.2.2.2.2.1 _ hini) (F.2.2.2.2.1 _ hl1) hd1 hr2, F.2.2.2.2.1 _ hi, F.2.2.2.2.1 _ hsel⟩ hp rfl hn hl.1 rfl (lv_room hcat) hd F.2.2.2.2.2.2.2.1) jn
  · exact j_goes F hl hG hst (va_runVN (Ts := TG) ⟨F.1, F.2.1, F.2.2.1, F.2.2.2.1, F.2.2.2.2.1⟩ hM ⟨va_cnB n F.2.2.2.2.1 hgood rfl hr1.1 hr1.2 (F.2.2.2.2.2.1.2.1 _ hl1) (F.2.2.2.2.1 _ hini) hd1 hr2, F.2.2.2.2.1 _ hi, F.2.2.2.2.1 _ hsel⟩ hp rfl hn hl.1 rfl (lv_room hcat) hd F.2.2.2.2.2.2.2.1) jn
/-- arraycopy -/
def cpok (sp dp n : Int32) (n0 n1 : Nat) : Prop := ¬ sp < 0 ∧ ¬ dp < 0 ∧ ¬ n < 0 ∧ ix sp + ix n ≤ n0 ∧ ix dp + ix n ≤ n1
def fitB (f : Nat → Int32) (a n : Nat) : Prop := ∀ i, i < n → fits .byte (.int (f (a + i))) = true
def CPk (own : String) (idx : Nat) : Prop := Cond.methodLink own idx arraycopyName ∈ TG ∧ Cond.native arraycopyName ∈ TG ∧ Cond.static arraycopyName ∈ TG ∧ Cond.initialized "java/lang/System" ∈ TG
theorem j_copyJ {k0 k1 n0 n1 idx : Nat} {sp dp n : Int32} (hC : CPk own idx) (h0 : sh k0 = (2, n0)) (h1 : sh k1 = (2, n1)) (hf : 1 ≤ rm.frames) (hlo : (st.map fun v => v.category).sum + 18 ≤ rm.locals) (hd : decode cc pc = .ok (.invokestatic idx, 3)) (h : ok (gd (cpok sp dp n n0 n1) kk) P) (jn : ok kk P → J κ own cc nL rt rm (pc + 3) L st (seJ w k1 (va_cpy (w.2 k0) (w.2 k1) (ix sp) (ix dp) (ix n)))) : J κ own cc nL rt rm pc L (.int n :: .int dp :: .ref (ad (gm κ) k1) :: .int sp :: .ref (ad (gm κ) k0) :: st) w := fun F ls H locs hl hG => by
  obtain ⟨⟨q1, q2, q3, q4, q5⟩, hh⟩ := ok_g h
  refine va_copyl F.1 F.2.1 (F.2.2.1.trans hl.1.symm) F.2.2.2.1 (F.2.2.2.2.1 _ hC.1) (F.2.2.2.2.1 _ hC.2.1) (F.2.2.2.2.1 _ hC.2.2.1) (F.2.2.2.2.1 _ hC.2.2.2) F.2.2.2.2.2.1.1 hG.1 (wl_D F.2.2.2.2.2.1.2.2.1 w) hG.2 k0 k1 2 2 (by rw [wl_at (sh_lt h0 (by decide)), cell_J h0]) (by rw [wl_at (sh_lt h1 (by decide)), cell_J h1]) (ty := .long) rfl rfl rfl q1 q2 q3 q4 q5 (fun _ _ => rfl) hf hlo hd (fun H1 locs1 hP _ hS => ?_)
  rw [wl_set (w' := seJ w k1 (va_cpy (w.2 k0) (w.2 k1) (ix sp) (ix dp) (ix n))) (sh_lt h1 (by decide)) (fun j hj => cell_seJ hj) (by rw [cell_J h1]; simp only [seJ, up_eq])] at hP
  exact jn hh F ls H1 locs1 hl ⟨hP, hS⟩
theorem j_copyB {k0 k1 n0 n1 idx : Nat} {sp dp n : Int32} (hC : CPk own idx) (h0 : sh k0 = (1, n0)) (h1 : sh k1 = (1, n1)) (hf : 1 ≤ rm.frames) (hlo : (st.map fun v => v.category).sum + 18 ≤ rm.locals) (hd : decode cc pc = .ok (.invokestatic idx, 3)) (h : ok (gd (cpok sp dp n n0 n1 ∧ fitB (w.1 k0) (ix sp) (ix n)) kk) P) (jn : ok kk P → J κ own cc nL rt rm (pc + 3) L st (seI w k1 (va_cpy (w.1 k0) (w.1 k1) (ix sp) (ix dp) (ix n)))) : J κ own cc nL rt rm pc L (.int n :: .int dp :: .ref (ad (gm κ) k1) :: .int sp :: .ref (ad (gm κ) k0) :: st) w := fun F ls H locs hl hG => by
  obtain ⟨⟨⟨q1, q2, q3, q4, q5⟩, q6⟩, hh⟩ := ok_g h
  refine va_copyi F.1 F.2.1 (F.2.2.1.trans hl.1.symm) F.2.2.2.1 (F.2.2.2.2.1 _ hC.1) (F.2.2.2.2.1 _ hC.2.1) (F.2.2.2.2.1 _ hC.2.2.1) (F.2.2.2.2.1 _ hC.2.2.2) F.2.2.2.2.2.1.1 hG.1 (wl_D F.2.2.2.2.2.1.2.2.1 w) hG.2 k0 k1 1 1 (by rw [wl_at (sh_lt h0 (by decide)), cell_I h0 (by decide) (by decide) (by decide)]) (by rw [wl_at (sh_lt h1 (by decide)), cell_I h1 (by decide) (by decide) (by decide)]) (ty := .byte) rfl rfl rfl q1 q2 q3 q4 q5 q6 hf hlo hd (fun H1 locs1 hP _ hS => ?_)
  rw [wl_set (w' := seI w k1 (va_cpy (w.1 k0) (w.1 k1) (ix sp) (ix dp) (ix n))) (sh_lt h1 (by decide)) (fun j hj => cell_seI hj) (by rw [cell_I h1 (by decide) (by decide) (by decide)]; simp only [seI, up_eq])] at hP
  exact jn hh F ls H1 locs1 hl ⟨hP, hS⟩
end JM
/-! Math.max, Math.min -/
def mxI (x y : Int32) : Int32 := if x < y then y else x
def mnI (x y : Int32) : Int32 := if y < x then y else x
def mxJ (x y : Int64) : Int64 := if y < x then x else y
def mnJ (x y : Int64) : Int64 := if y < x then y else x
def MTmxI (own : String) (idx : Nat) : Prop := Cond.methodLink own idx Lib.Math.max.name ∈ TG ∧ Cond.static Lib.Math.max.name ∈ TG ∧ Cond.initialized "java/lang/Math" ∈ TG ∧ Cond.code Lib.Math.max.name Lib.Math.max.code 2 (some .int) ∈ TG
def MTmnI (own : String) (idx : Nat) : Prop := Cond.methodLink own idx Lib.Math.min.name ∈ TG ∧ Cond.static Lib.Math.min.name ∈ TG ∧ Cond.initialized "java/lang/Math" ∈ TG ∧ Cond.code Lib.Math.min.name Lib.Math.min.code 2 (some .int) ∈ TG
def MTmxJ (own : String) (idx : Nat) : Prop := Cond.methodLink own idx Lib.MathLoose.max_long.x ∈ TG ∧ Cond.static Lib.MathLoose.max_long.x ∈ TG ∧ Cond.initialized "java/lang/Math" ∈ TG ∧ Cond.code Lib.MathLoose.max_long.x Lib.MathLoose.max_long.code 4 (some .long) ∈ TG
def MTmnJ (own : String) (idx : Nat) : Prop := Cond.methodLink own idx Lib.MathLoose.min_long.x ∈ TG ∧ Cond.static Lib.MathLoose.min_long.x ∈ TG ∧ Cond.initialized "java/lang/Math" ∈ TG ∧ Cond.code Lib.MathLoose.min_long.x Lib.MathLoose.min_long.code 4 (some .long) ∈ TG
section JMM
variable {κ : Kx} {own : String} {cc : ByteArray} {nL : Nat} {rt : Option FieldType} {rm : Room} {pc : Nat} {L : List (Nat × Value)} {st : List Value} {w : Wd} {idx : Nat}
theorem j_mxI {x y : Int32} (hm : MTmxI own idx) (hf : 1 ≤ rm.frames) (hlo : (st.map fun v => v.category).sum + 13 ≤ rm.locals) (hd : decode cc pc = .ok (.invokestatic idx, 3)) (k : J κ own cc nL rt rm (pc + 3) L (.int (mxI x y) :: st) w) : J κ own cc nL rt rm pc L (.int y :: .int x :: st) w := fun F ls H locs hl hG =>
  va_mmax F.1 F.2.1 (F.2.2.1.trans hl.1.symm) F.2.2.2.1 (F.2.2.2.2.1 _ hm.1) (F.2.2.2.2.1 _ hm.2.1) (F.2.2.2.2.1 _ hm.2.2.1) (F.2.2.2.2.1 _ hm.2.2.2) hf hlo F.2.2.2.2.2.2.2.1.1 F.2.2.2.2.2.2.2.1.2 hd (k F ls H locs hl hG)
theorem j_mnI {x y : Int32} (hm : MTmnI own idx) (hf : 1 ≤ rm.frames) (hlo : (st.map fun v => v.category).sum + 13 ≤ rm.locals) (hd : decode cc pc = .ok (.invokestatic idx, 3)) (k : J κ own cc nL rt rm (pc + 3) L (.int (mnI x y) :: st) w) : J κ own cc nL rt rm pc L (.int y :: .int x :: st) w := fun F ls H locs hl hG =>
  va_mmin F.1 F.2.1 (F.2.2.1.trans hl.1.symm) F.2.2.2.1 (F.2.2.2.2.1 _ hm.1) (F.2.2.2.2.1 _ hm.2.1) (F.2.2.2.2.1 _ hm.2.2.1) (F.2.2.2.2.1 _ hm.2.2.2) hf hlo F.2.2.2.2.2.2.2.1.1 F.2.2.2.2.2.2.2.1.2 hd (k F ls H locs hl hG)
theorem j_mxJ {x y : Int64} (hm : MTmxJ own idx) (hf : 1 ≤ rm.frames) (hlo : (st.map fun v => v.category).sum + 15 ≤ rm.locals) (hd : decode cc pc = .ok (.invokestatic idx, 3)) (k : J κ own cc nL rt rm (pc + 3) L (.long (mxJ x y) :: st) w) : J κ own cc nL rt rm pc L (.long y :: .long x :: st) w := fun F ls H locs hl hG => by
  intro T hT X
  obtain ⟨vm', X', stp⟩ := X.mathMaxLH F.1 F.2.2.2.1 (F.2.2.2.2.1 _ hm.1) (F.2.2.2.2.1 _ hm.2.1) (F.2.2.2.2.1 _ hm.2.2.1) (F.2.2.2.2.1 _ hm.2.2.2) (g := F0 (km κ) pc ls (.long y :: .long x :: st)) rfl (hl.1.trans F.2.2.1.symm) (a := x) (b := y) (rest := st) rfl (by rw [F.2.1]; exact hd) hf (by simp [JFrame.monitorRoom]; exact hlo) F.2.2.2.2.2.2.2.1.1 F.2.2.2.2.2.2.2.1.2
  obtain ⟨t, a1, b1⟩ := k F ls H locs hl hG (T.setVm vm') hT X'
  exact ⟨t, stp t a1, b1⟩
theorem j_mnJ {x y : Int64} (hm : MTmnJ own idx) (hf : 1 ≤ rm.frames) (hlo : (st.map fun v => v.category).sum + 15 ≤ rm.locals) (hd : decode cc pc = .ok (.invokestatic idx, 3)) (k : J κ own cc nL rt rm (pc + 3) L (.long (mnJ x y) :: st) w) : J κ own cc nL rt rm pc L (.long y :: .long x :: st) w := fun F ls H locs hl hG => by
  intro T hT X
  obtain ⟨vm', X', stp⟩ := X.mathMinLH F.1 F.2.2.2.1 (F.2.2.2.2.1 _ hm.1) (F.2.2.2.2.1 _ hm.2.1) (F.2.2.2.2.1 _ hm.2.2.1) (F.2.2.2.2.1 _ hm.2.2.2) (g := F0 (km κ) pc ls (.long y :: .long x :: st)) rfl (hl.1.trans F.2.2.1.symm) (a := x) (b := y) (rest := st) rfl (by rw [F.2.1]; exact hd) hf (by simp [JFrame.monitorRoom]; exact hlo) F.2.2.2.2.2.2.2.1.1 F.2.2.2.2.2.2.2.1.2
  obtain ⟨t, a1, b1⟩ := k F ls H locs hl hG (T.setVm vm') hT X'
  exact ⟨t, stp t a1, b1⟩
end JMM
