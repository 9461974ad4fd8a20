theorem dJ3_checkIndex_8e157_0 : decode cJ3_checkIndex_8e157 0 = .ok (.iload_n 0, 1) := by decide +kernel
theorem dJ3_checkIndex_8e157_1 : decode cJ3_checkIndex_8e157 1 = .ok (.ifCond .lt 8, 3) := by decide +kernel
theorem dJ3_checkIndex_8e157_4 : decode cJ3_checkIndex_8e157 4 = .ok (.iload_n 0, 1) := by decide +kernel
theorem dJ3_checkIndex_8e157_5 : decode cJ3_checkIndex_8e157 5 = .ok (.iload_n 1, 1) := by decide +kernel
theorem dJ3_checkIndex_8e157_6 : decode cJ3_checkIndex_8e157 6 = .ok (.if_icmp .lt 10, 3) := by decide +kernel
theorem dJ3_checkIndex_8e157_9 : decode cJ3_checkIndex_8e157 9 = .ok (.aload_n 2, 1) := by decide +kernel
theorem dJ3_checkIndex_8e157_10 : decode cJ3_checkIndex_8e157 10 = .ok (.iload_n 0, 1) := by decide +kernel
theorem dJ3_checkIndex_8e157_11 : decode cJ3_checkIndex_8e157 11 = .ok (.iload_n 1, 1) := by decide +kernel
theorem dJ3_checkIndex_8e157_12 : decode cJ3_checkIndex_8e157 12 = .ok (.invokestatic 95, 3) := by decide +kernel
theorem dJ3_checkIndex_8e157_15 : decode cJ3_checkIndex_8e157 15 = .ok (.athrow, 1) := by decide +kernel
theorem dJ3_checkIndex_8e157_16 : decode cJ3_checkIndex_8e157 16 = .ok (.iload_n 0, 1) := by decide +kernel
theorem dJ3_checkIndex_8e157_17 : decode cJ3_checkIndex_8e157 17 = .ok (.ireturn, 1) := by decide +kernel
theorem dJ0_checkIndex_df160_0 : decode cJ0_checkIndex_df160 0 = .ok (.iload_n 0, 1) := by decide +kernel
theorem dJ0_checkIndex_df160_1 : decode cJ0_checkIndex_df160 1 = .ok (.iload_n 1, 1) := by decide +kernel
theorem dJ0_checkIndex_df160_2 : decode cJ0_checkIndex_df160 2 = .ok (.getstatic 1053, 3) := by decide +kernel
theorem dJ0_checkIndex_df160_5 : decode cJ0_checkIndex_df160 5 = .ok (.invokestatic 1059, 3) := by decide +kernel
theorem dJ0_checkIndex_df160_8 : decode cJ0_checkIndex_df160 8 = .ok (.pop, 1) := by decide +kernel
theorem dJ0_checkIndex_df160_9 : decode cJ0_checkIndex_df160 9 = .ok (.return_, 1) := by decide +kernel
theorem fw_RJ0_fm : Cond.fieldLink RJ0 1053 "jdk/internal/util/Preconditions" "SIOOBE_FORMATTER" "Ljava/util/function/BiFunction;" ∈ TG := tg_2 99 rfl rfl
theorem j_getsF {κ : Kx} {cc : ByteArray} {nL : Nat} {rt : Option FieldType} {rm : Room} {pc : Nat} {L : List (Nat × Value)} {st : List Value} {w : Wd} (hd : decode cc pc = .ok (.getstatic 1053, 3)) (k : J κ RJ0 cc nL rt rm (pc + 3) L (va_rf (fm (gm κ)) :: st) w) : J κ RJ0 cc nL rt rm pc L st w := fun F ls H locs hl hG =>
  va_gets F.1 F.2.1 F.2.2.2.2.2.1.2.2.2.2.2.2 hG.2 F.2.2.2.1 (F.2.2.2.2.1 _ fw_RJ0_fm) (fun _ h => h) hd (k F ls H locs hl hG)
def J3_checkIndex_8e157 (a0 a1 : Int32) : Option Int32 := if a0 < 0 then none else if a0 < a1 then some a0 else none
theorem t_J3_checkIndex_8e157 {κ : Kx} (a0 a1 : Int32) (v : Value) (w : Wd) (h : ok (J3_checkIndex_8e157 a0 a1) (PI κ w)) : J κ RJ3 cJ3_checkIndex_8e157 3 (some .int) (rmk 0 0) 0 [(0, .int a0), (1, .int a1), (2, v)] [] w := by
  unfold J3_checkIndex_8e157 at h
  refine j_iload_n 0 dJ3_checkIndex_8e157_0 rfl rfl ?_
  refine j_if_lt 9 dJ3_checkIndex_8e157_1 (by decide) h (fun h => ?_) (fun h => ?_)
  · exact ok_n h
  refine j_iload_n 0 dJ3_checkIndex_8e157_4 rfl rfl ?_
  refine j_iload_n 1 dJ3_checkIndex_8e157_5 rfl rfl ?_
  refine j_ic_lt 16 dJ3_checkIndex_8e157_6 (by decide) h (fun h => ?_) (fun h => ?_)
  · refine j_iload_n 0 dJ3_checkIndex_8e157_16 rfl rfl ?_
    have h := ok_s h
    exact j_iret dJ3_checkIndex_8e157_17 rfl rfl h
  · exact ok_n h
theorem c_J3_n (l : Launch) (γ : Gm) (A : Nat → Prop) (a0 a1 : Int32) (w : Wd) (q : Int32) (e : J3_checkIndex_8e157 a0 a1 = some q) : MetG l γ A yJ3_checkIndex_8e157 cJ3_checkIndex_8e157 3 (some .int) (rmk 0 0) [.int a0, .int a1, .null] w (some (.int q)) w := by
  refine met_of pn_RJ3 (Nat.le_of_ble_eq_true rfl) ?_
  intro κ hl hγ hA hρ
  subst hl; subst hγ; subst hA
  exact t_J3_checkIndex_8e157 a0 a1 .null w ⟨q, e, pI hρ rfl rfl⟩
theorem c_J3_r (l : Launch) (γ : Gm) (A : Nat → Prop) (t : Nat) (a0 a1 : Int32) (w : Wd) (q : Int32) (e : J3_checkIndex_8e157 a0 a1 = some q) : MetG l γ A yJ3_checkIndex_8e157 cJ3_checkIndex_8e157 3 (some .int) (rmk 0 0) [.int a0, .int a1, .ref t] w (some (.int q)) w := by
  refine met_of pn_RJ3 (Nat.le_of_ble_eq_true rfl) ?_
  intro κ hl hγ hA hρ
  subst hl; subst hγ; subst hA
  exact t_J3_checkIndex_8e157 a0 a1 (.ref t) w ⟨q, e, pI hρ rfl rfl⟩
def J0_checkIndex_df160 (a0 a1 : Int32) (_ : Wd) : Option Unit := (J3_checkIndex_8e157 a0 a1).bind fun _ => some ()
theorem t_J0_checkIndex_df160 {κ : Kx} (a0 a1 : Int32) (w : Wd) (h : ok (J0_checkIndex_df160 a0 a1 w) (PV κ w)) : J κ RJ0 cJ0_checkIndex_df160 2 none (rmk 1 22) 0 [(0, .int a0), (1, .int a1)] [] w := by
  unfold J0_checkIndex_df160 at h
  obtain ⟨q, e, h⟩ := ok_b h
  refine j_iload_n 0 dJ0_checkIndex_df160_0 rfl rfl ?_
  refine j_iload_n 1 dJ0_checkIndex_df160_1 rfl rfl ?_
  refine j_getsF dJ0_checkIndex_df160_2 ?_
  have h := ok_s h
  have fin : J κ RJ0 cJ0_checkIndex_df160 2 none (rmk 1 22) 8 [(0, .int a0), (1, .int a1)] [.int q] w := by
    refine j_pop dJ0_checkIndex_df160_8 rfl ?_
    exact j_vret dJ0_checkIndex_df160_9 rfl h
  cases hf : fm (gm κ) with
  | none => exact j_callS (As := [.int a0, .int a1, .null]) (st := []) [.int q] (c_J3_n (kl κ) (gm κ) (kA κ) a0 a1 w q e) ck_RJ0_1059 st_J3_checkIndex_8e157 ⟨rfl, rfl⟩ ⟨by decide, by decide⟩ rfl rfl (Nat.le_of_ble_eq_true rfl) dJ0_checkIndex_df160_5 _ rfl fin
  | some t => exact j_callS (As := [.int a0, .int a1, .ref t]) (st := []) [.int q] (c_J3_r (kl κ) (gm κ) (kA κ) t a0 a1 w q e) ck_RJ0_1059 st_J3_checkIndex_8e157 ⟨rfl, rfl⟩ ⟨by decide, by decide⟩ rfl rfl (Nat.le_of_ble_eq_true rfl) dJ0_checkIndex_df160_5 _ rfl fin
theorem c_J0_checkIndex_df160 (l : Launch) (γ : Gm) (A : Nat → Prop) (a0 a1 : Int32) (w : Wd) (q : Unit) (e : J0_checkIndex_df160 a0 a1 w = some q) : MetG l γ A yJ0_checkIndex_df160 cJ0_checkIndex_df160 2 none (rmk 1 22) [.int a0, .int a1] w none w := by
  refine met_of pn_RJ0 (Nat.le_of_ble_eq_true rfl) ?_
  intro κ hl hγ hA hρ
  subst hl; subst hγ; subst hA
  exact t_J0_checkIndex_df160 a0 a1 w ⟨q, e, pV hρ rfl rfl⟩

