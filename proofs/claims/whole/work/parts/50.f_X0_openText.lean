theorem f_X0_openText (w : Wd) : okF (X0_openText   w) (fun q => Fr [] [(30, 14), (30, 15)] w q) := by
  have hF : Fr [] [(30, 14), (30, 15)] w w := Fr.rf
  unfold X0_openText
  refine pk_w (fun w1 hF => ?_) (hF.pfI (by decide))
  refine pk_w (fun w2 hF => ?_) (hF.pfI (by decide))
  exact pk_s hF
theorem f_X0_openRule (a1 : Int64) (w : Wd) : okF (X0_openRule  a1 w) (fun q => Fr [35, 36, 37, 38, 39, 40, 41] [(30, 14)] w q) := by
  have hF : Fr [35, 36, 37, 38, 39, 40, 41] [(30, 14)] w w := Fr.rf
  unfold X0_openRule
  refine pk_g (fun _ => ?_)
  refine pk_v (fun z1 => ?_)
  refine pk_g (fun _ => ?_)
  refine pk_w (fun w2 hF => ?_) (hF.puJ (by decide))
  refine pk_g (fun _ => ?_)
  refine pk_w (fun w3 hF => ?_) (hF.puJ (by decide))
  refine pk_g (fun _ => ?_)
  refine pk_w (fun w4 hF => ?_) (hF.puI (by decide))
  refine pk_g (fun _ => ?_)
  refine pk_w (fun w5 hF => ?_) (hF.puI (by decide))
  refine pk_g (fun _ => ?_)
  refine pk_w (fun w6 hF => ?_) (hF.puI (by decide))
  refine pk_g (fun _ => ?_)
  refine pk_w (fun w7 hF => ?_) (hF.puI (by decide))
  refine pk_g (fun _ => ?_)
  refine pk_w (fun w8 hF => ?_) (hF.puI (by decide))
  refine pk_w (fun w9 hF => ?_) (hF.pfI (by decide))
  exact pk_s hF
theorem f_X0_draftStrikes (a1 : Int64) (w : Wd) : okF (X0_draftStrikes  a1 w) (fun q => Fr [36] [] w q) := by
  have hF : Fr [36] [] w w := Fr.rf
  unfold X0_draftStrikes
  refine pk_v (fun q1 => ?_)
  refine pk_g (fun _ => ?_)
  refine pk_w (fun w3 hF => ?_) (hF.puJ (by decide))
  exact pk_s hF
theorem f_X0_draftDoes (a1 : Int32) (w : Wd) : okF (X0_draftDoes  a1 w) (fun q => Fr [37] [] w q) := by
  have hF : Fr [37] [] w w := Fr.rf
  unfold X0_draftDoes
  refine pk_v (fun q1 => ?_)
  refine pk_g (fun _ => ?_)
  refine pk_w (fun w3 hF => ?_) (hF.puI (by decide))
  exact pk_s hF
theorem f_X0_draftLimit (a1 : Int32) (w : Wd) : okF (X0_draftLimit  a1 w) (fun q => Fr [38] [] w q) := by
  have hF : Fr [38] [] w w := Fr.rf
  unfold X0_draftLimit
  refine pk_v (fun q1 => ?_)
  refine pk_g (fun _ => ?_)
  refine pk_w (fun w3 hF => ?_) (hF.puI (by decide))
  exact pk_s hF
theorem f_X0_draftUnless (w : Wd) : okF (X0_draftUnless   w) (fun q => Fr [40] [] w q) := by
  have hF : Fr [40] [] w w := Fr.rf
  unfold X0_draftUnless
  refine pk_v (fun q1 => ?_)
  refine pk_g (fun _ => ?_)
  refine pk_w (fun w3 hF => ?_) (hF.puI (by decide))
  exact pk_s hF
theorem f_X0_closeRule (w : Wd) : okF (X0_closeRule   w) (fun q => Fr [40, 41] [] w q) := by
  have hF : Fr [40, 41] [] w w := Fr.rf
  unfold X0_closeRule
  refine pk_v (fun q1 => ?_)
  refine pk_g (fun _ => ?_)
  refine pk_w (fun w3 hF => ?_) (hF.puI (by decide))
  refine pk_g (fun _ => ?_)
  refine pk_i (fun _ => ?_) (fun _ => ?_)
  · refine pk_g (fun _ => ?_)
    refine pk_w (fun w4 hF => ?_) (hF.puI (by decide))
    exact pk_s hF
  · exact pk_s hF
theorem f_X0_addCode (a1 : Int32) (w : Wd) : okF (X0_addCode  a1 w) (fun q => Fr [42] [(30, 15)] w q) := by
  have hF : Fr [42] [(30, 15)] w w := Fr.rf
  unfold X0_addCode
  refine pk_i (fun _ => ?_) (fun _ => ?_)
  · exact pk_s hF
  · refine pk_g (fun _ => ?_)
    refine pk_w (fun w1 hF => ?_) (hF.puI (by decide))
    refine pk_w (fun w2 hF => ?_) (hF.pfI (by decide))
    exact pk_s hF
theorem f_X0_keepText_b5 (w0 : Wd) (a1 : Int32) (a2 : Int32) (s : (Int32 × Wd)) (hF : Fr [31, 32, 33, 34] [(30, 0), (30, 13)] w0 s.2) : okF (lp (X0_keepText_b5  a1 a2) s) (fun e => Fr [31, 32, 33, 34] [(30, 0), (30, 13)] w0 e.2) := by
  refine pk_lp (I := fun s => Fr [31, 32, 33, 34] [(30, 0), (30, 13)] w0 s.2) (fun s hF => ?_) s hF
  unfold X0_keepText_b5
  refine pk_i (fun _ => ?_) (fun _ => ?_)
  · exact pk_s hF
  · refine pk_g (fun _ => ?_)
    refine pk_g (fun _ => ?_)
    refine pk_v (fun z1 => ?_)
    refine pk_i (fun _ => ?_) (fun _ => ?_)
    · exact pk_s hF
    · refine pk_g (fun _ => ?_)
      refine pk_g (fun _ => ?_)
      refine pk_w (fun w2 hF => ?_) (hF.puI (by decide))
      exact pk_s hF
theorem f_X0_keepText (a1 : Int32) (a2 : Int32) (w : Wd) : okF (X0_keepText  a1 a2 w) (fun q => Fr [31, 32, 33, 34] [(30, 0), (30, 13)] w q.2) := by
  have hF : Fr [31, 32, 33, 34] [(30, 0), (30, 13)] w w := Fr.rf
  unfold X0_keepText
  refine pk_c (f_X0_keepText_b5 w a1 a2 ((w.1 30 0), w) hF) (fun e3 hF => ?_)
  refine pk_g (fun _ => ?_)
  refine pk_w (fun w4 hF => ?_) (hF.puI (by decide))
  refine pk_g (fun _ => ?_)
  refine pk_w (fun w5 hF => ?_) (hF.puI (by decide))
  refine pk_g (fun _ => ?_)
  refine pk_w (fun w6 hF => ?_) (hF.puI (by decide))
  refine pk_g (fun _ => ?_)
  refine pk_g (fun _ => ?_)
  refine pk_w (fun w7 hF => ?_) (hF.puI (by decide))
  refine pk_w (fun w8 hF => ?_) (hF.pfI (by decide))
  refine pk_w (fun w9 hF => ?_) (hF.pfI (by decide))
  exact pk_s hF
theorem f_X8_strike_b2 (si : Nat) (hsi : si < 4) (w0 : Wd) (s : (Int32 × Wd)) (hF : Fr [45, 46, 47, 48, 49, 50, 51, 52, 53, 54, 55, 56, 57, 58, 59, 60, 61, 62, 63, 64] [] w0 s.2) : okF (lp (X8_strike_b2 si ) s) (fun e => Fr [45, 46, 47, 48, 49, 50, 51, 52, 53, 54, 55, 56, 57, 58, 59, 60, 61, 62, 63, 64] [] w0 e) := by
  refine pk_lp (I := fun s => Fr [45, 46, 47, 48, 49, 50, 51, 52, 53, 54, 55, 56, 57, 58, 59, 60, 61, 62, 63, 64] [] w0 s.2) (fun s hF => ?_) s hF
  unfold X8_strike_b2
  refine pk_i (fun _ => ?_) (fun _ => ?_)
  · exact pk_s hF
  · refine pk_g (fun _ => ?_)
    refine pk_g (fun _ => ?_)
    refine pk_v (fun z1 => ?_)
    refine pk_v (fun e2 => ?_)
    refine pk_g (fun _ => ?_)
    refine pk_w (fun w3 hF => ?_) (hF.puI (st_mem hsi 2 (by decide)))
    exact pk_s hF
theorem f_X8_strike (si : Nat) (hsi : si < 4) (w : Wd) : okF (X8_strike si  w) (fun q => Fr [45, 46, 47, 48, 49, 50, 51, 52, 53, 54, 55, 56, 57, 58, 59, 60, 61, 62, 63, 64] [] w q) := by
  have hF : Fr [45, 46, 47, 48, 49, 50, 51, 52, 53, 54, 55, 56, 57, 58, 59, 60, 61, 62, 63, 64] [] w w := Fr.rf
  unfold X8_strike
  refine pk_c (f_X8_strike_b2 si hsi w ((0 : Int32), w) hF) (fun e4 hF => ?_)
  exact pk_s hF
theorem f_X8_listen_j185 (si : Nat) (hsi : si < 4) (w0 : Wd) (a2 : Int32) (w : Wd) (hF : Fr [45, 46, 47, 48, 49, 50, 51, 52, 53, 54, 55, 56, 57, 58, 59, 60, 61, 62, 63, 64] [] w0 w) : okF (X8_listen_j185 si a2 w) (sel (fun s => Fr [45, 46, 47, 48, 49, 50, 51, 52, 53, 54, 55, 56, 57, 58, 59, 60, 61, 62, 63, 64] [] w0 s.2) (fun e => Fr [45, 46, 47, 48, 49, 50, 51, 52, 53, 54, 55, 56, 57, 58, 59, 60, 61, 62, 63, 64] [] w0 e)) := by
  unfold X8_listen_j185
  exact pk_s hF
theorem f_X8_listen_j63 (si : Nat) (hsi : si < 4) (w0 : Wd) (a2 : Int32) (a3 : Int32) (s0 : Int32) (w : Wd) (hF : Fr [45, 46, 47, 48, 49, 50, 51, 52, 53, 54, 55, 56, 57, 58, 59, 60, 61, 62, 63, 64] [] w0 w) : okF (X8_listen_j63 si a2 a3 s0 w) (sel (fun s => Fr [45, 46, 47, 48, 49, 50, 51, 52, 53, 54, 55, 56, 57, 58, 59, 60, 61, 62, 63, 64] [] w0 s.2) (fun e => Fr [45, 46, 47, 48, 49, 50, 51, 52, 53, 54, 55, 56, 57, 58, 59, 60, 61, 62, 63, 64] [] w0 e)) := by
  unfold X8_listen_j63
  refine pk_i (fun _ => ?_) (fun _ => ?_)
  · refine pk_g (fun _ => ?_)
    refine pk_w (fun w7 hF => ?_) (hF.puI (st_mem hsi 3 (by decide)))
    refine pk_w (fun w8 hF => ?_) (hF.puI (st_mem hsi 0 (by decide)))
    exact f_X8_listen_j185 si hsi w0 a2 w8 hF
  refine pk_i (fun _ => ?_) (fun _ => ?_)
  · exact f_X8_listen_j185 si hsi w0 a2 w hF
  refine pk_i (fun _ => ?_) (fun _ => ?_)
  · refine pk_g (fun _ => ?_)
    refine pk_w (fun w9 hF => ?_) (hF.puI (st_mem hsi 4 (by decide)))
    refine pk_w (fun w10 hF => ?_) (hF.puI (st_mem hsi 0 (by decide)))
    exact f_X8_listen_j185 si hsi w0 a2 w10 hF
  refine pk_i (fun _ => ?_) (fun _ => ?_)
  · refine pk_g (fun _ => ?_)
    refine pk_w (fun w11 hF => ?_) (hF.puI (st_mem hsi 0 (by decide)))
    exact f_X8_listen_j185 si hsi w0 a2 w11 hF
  refine pk_i (fun _ => ?_) (fun _ => ?_)
  · refine pk_g (fun _ => ?_)
    refine pk_w (fun w12 hF => ?_) (hF.puI (st_mem hsi 0 (by decide)))
    exact f_X8_listen_j185 si hsi w0 a2 w12 hF
  refine pk_i (fun _ => ?_) (fun _ => ?_)
  · refine pk_g (fun _ => ?_)
    refine pk_w (fun w13 hF => ?_) (hF.puI (st_mem hsi 0 (by decide)))
    exact f_X8_listen_j185 si hsi w0 a2 w13 hF
  exact f_X8_listen_j185 si hsi w0 a2 w hF
theorem f_X8_listen_b29 (si : Nat) (hsi : si < 4) (w0 : Wd) (s : (Int32 × Wd)) (hF : Fr [45, 46, 47, 48, 49, 50, 51, 52, 53, 54, 55, 56, 57, 58, 59, 60, 61, 62, 63, 64] [] w0 s.2) : okF (lp (X8_listen_b29 si ) s) (fun e => Fr [45, 46, 47, 48, 49, 50, 51, 52, 53, 54, 55, 56, 57, 58, 59, 60, 61, 62, 63, 64] [] w0 e) := by
  refine pk_lp (I := fun s => Fr [45, 46, 47, 48, 49, 50, 51, 52, 53, 54, 55, 56, 57, 58, 59, 60, 61, 62, 63, 64] [] w0 s.2) (fun s hF => ?_) s hF
  unfold X8_listen_b29
  refine pk_i (fun _ => ?_) (fun _ => ?_)
  · exact pk_s hF
  · refine pk_g (fun _ => ?_)
    refine pk_v (fun z6 => ?_)
    refine pk_g (fun _ => ?_)
    refine pk_i (fun _ => ?_) (fun _ => ?_)
    · refine pk_g (fun _ => ?_)
      exact f_X8_listen_j63 si hsi w0 s.1 z6 (s.2.1 37 (ix z6)) s.2 hF
    · exact f_X8_listen_j63 si hsi w0 s.1 z6 (0 : Int32) s.2 hF
theorem f_X8_listen (si : Nat) (hsi : si < 4) (w : Wd) : okF (X8_listen si  w) (fun q => Fr [45, 46, 47, 48, 49, 50, 51, 52, 53, 54, 55, 56, 57, 58, 59, 60, 61, 62, 63, 64] [] w q) := by
  have hF : Fr [45, 46, 47, 48, 49, 50, 51, 52, 53, 54, 55, 56, 57, 58, 59, 60, 61, 62, 63, 64] [] w w := Fr.rf
  unfold X8_listen
  refine pk_w (fun w1 hF => ?_) (hF.puI (st_mem hsi 0 (by decide)))
  refine pk_w (fun w2 hF => ?_) (hF.puI (st_mem hsi 0 (by decide)))
  refine pk_w (fun w3 hF => ?_) (hF.puI (st_mem hsi 0 (by decide)))
  refine pk_w (fun w4 hF => ?_) (hF.puI (st_mem hsi 0 (by decide)))
  refine pk_w (fun w5 hF => ?_) (hF.puI (st_mem hsi 0 (by decide)))
  refine pk_c (f_X8_listen_b29 si hsi w ((0 : Int32), w5) hF) (fun e14 hF => ?_)
  exact pk_s hF
theorem f_X8_gather_j96 (si : Nat) (hsi : si < 4) (w0 : Wd) (a2 : Int32) (a3 : Int32) (w : Wd) (hF : Fr [45, 46, 47, 48, 49, 50, 51, 52, 53, 54, 55, 56, 57, 58, 59, 60, 61, 62, 63, 64] [] w0 w) : okF (X8_gather_j96 si a2 a3 w) (sel (fun s => Fr [45, 46, 47, 48, 49, 50, 51, 52, 53, 54, 55, 56, 57, 58, 59, 60, 61, 62, 63, 64] [] w0 s.2) (fun e => Fr [45, 46, 47, 48, 49, 50, 51, 52, 53, 54, 55, 56, 57, 58, 59, 60, 61, 62, 63, 64] [] w0 e)) := by
  unfold X8_gather_j96
  exact pk_s hF
theorem f_X8_gather_b55 (si : Nat) (hsi : si < 4) (w0 : Wd) (a2 : Int32) (a3 : Int32) (a4 : Int32) (s : (Int32 × Wd)) (hF : Fr [45, 46, 47, 48, 49, 50, 51, 52, 53, 54, 55, 56, 57, 58, 59, 60, 61, 62, 63, 64] [] w0 s.2) : okF (lp (X8_gather_b55 si a2 a3 a4) s) (fun e => Fr [45, 46, 47, 48, 49, 50, 51, 52, 53, 54, 55, 56, 57, 58, 59, 60, 61, 62, 63, 64] [] w0 e) := by
  refine pk_lp (I := fun s => Fr [45, 46, 47, 48, 49, 50, 51, 52, 53, 54, 55, 56, 57, 58, 59, 60, 61, 62, 63, 64] [] w0 s.2) (fun s hF => ?_) s hF
  unfold X8_gather_b55
  refine pk_g (fun _ => ?_)
  refine pk_i (fun _ => ?_) (fun _ => ?_)
  · exact pk_s hF
  · refine pk_g (fun _ => ?_)
    refine pk_w (fun w4 hF => ?_) (hF.puI (st_mem hsi 1 (by decide)))
    refine pk_w (fun w5 hF => ?_) (hF.puI (st_mem hsi 0 (by decide)))
    exact pk_s hF
theorem f_X8_gather_b21 (si : Nat) (hsi : si < 4) (w0 : Wd) (a2 : Int32) (s : (Int32 × Wd)) (hF : Fr [45, 46, 47, 48, 49, 50, 51, 52, 53, 54, 55, 56, 57, 58, 59, 60, 61, 62, 63, 64] [] w0 s.2) : okF (lp (X8_gather_b21 si a2) s) (fun e => Fr [45, 46, 47, 48, 49, 50, 51, 52, 53, 54, 55, 56, 57, 58, 59, 60, 61, 62, 63, 64] [] w0 e) := by
  refine pk_lp (I := fun s => Fr [45, 46, 47, 48, 49, 50, 51, 52, 53, 54, 55, 56, 57, 58, 59, 60, 61, 62, 63, 64] [] w0 s.2) (fun s hF => ?_) s hF
  unfold X8_gather_b21
  refine pk_i (fun _ => ?_) (fun _ => ?_)
  · exact pk_s hF
  · refine pk_g (fun _ => ?_)
    refine pk_i (fun _ => ?_) (fun _ => ?_)
    · exact f_X8_gather_j96 si hsi w0 a2 s.1 s.2 hF
    · refine pk_g (fun _ => ?_)
      refine pk_v (fun z3 => ?_)
      refine pk_c (f_X8_gather_b55 si hsi w0 a2 s.1 (s.2.1 34 (ix s.1)) (z3, s.2) hF) (fun e6 hF => ?_)
      exact f_X8_gather_j96 si hsi w0 a2 s.1 e6 hF
theorem f_X8_gather (si : Nat) (hsi : si < 4) (a2 : Int32) (w : Wd) : okF (X8_gather si a2 w) (fun q => Fr [45, 46, 47, 48, 49, 50, 51, 52, 53, 54, 55, 56, 57, 58, 59, 60, 61, 62, 63, 64] [] w q) := by
  have hF : Fr [45, 46, 47, 48, 49, 50, 51, 52, 53, 54, 55, 56, 57, 58, 59, 60, 61, 62, 63, 64] [] w w := Fr.rf
  unfold X8_gather
  refine pk_i (fun _ => ?_) (fun _ => ?_)
  · exact pk_s hF
  · refine pk_w (fun w1 hF => ?_) (hF.puI (st_mem hsi 0 (by decide)))
    refine pk_w (fun w2 hF => ?_) (hF.puI (st_mem hsi 0 (by decide)))
    refine pk_c (f_X8_gather_b21 si hsi w a2 ((0 : Int32), w2) hF) (fun e7 hF => ?_)
    refine pk_c (f_X8_strike si hsi e7) (fun q8 hQ => ?_)
    have hF := hF.next hQ (by decide) (by decide)
    refine pk_c (f_X8_listen si hsi q8) (fun q10 hQ => ?_)
    have hF := hF.next hQ (by decide) (by decide)
    exact pk_s hF
theorem f_X0_standingIn (a1 : Int32) (a2 : Int32) (w : Wd) : okF (X0_standingIn  a1 a2 w) (fun q => Fr [45, 46, 47, 48, 49, 50, 51, 52, 53, 54, 55, 56, 57, 58, 59, 60, 61, 62, 63, 64] [] w q.2) := by
  have hF : Fr [45, 46, 47, 48, 49, 50, 51, 52, 53, 54, 55, 56, 57, 58, 59, 60, 61, 62, 63, 64] [] w w := Fr.rf
  unfold X0_standingIn
  refine pk_v (fun e2 => ?_)
  refine pk_g (fun _ => ?_)
  refine pk_g (fun h3 => ?_)
  refine pk_c (f_X8_gather (ix a1) h3 e2 w) (fun q4 hQ => ?_)
  have hF := hF.next hQ (by decide) (by decide)
  refine pk_g (fun _ => ?_)
  refine pk_g (fun h6 => ?_)
  exact pk_s hF
theorem f_X0_run_j143 (w0 : Wd) (a2 : Int32) (a4 : Int32) (a5 : Int32) (w : Wd) (hF : Fr [44] [] w0 w) : okF (X0_run_j143  a2 a4 a5 w) (sel (fun s => Fr [44] [] w0 s.2.2) (fun e => Fr [44] [] w0 e.2)) := by
  unfold X0_run_j143
  exact pk_s hF
theorem f_X0_run_j67 (w0 : Wd) (a2 : Int32) (a4 : Int32) (a5 : Int32) (s0 : Int64) (s1 : Int32) (w : Wd) (hF : Fr [44] [] w0 w) : okF (X0_run_j67  a2 a4 a5 s0 s1 w) (sel (fun s => Fr [44] [] w0 s.2.2) (fun e => Fr [44] [] w0 e.2)) := by
  unfold X0_run_j67
  refine pk_g (fun _ => ?_)
  refine pk_w (fun w7 hF => ?_) (hF.puJ (by decide))
  exact f_X0_run_j143  w0 a2 a4 a5 w7 hF
theorem f_X0_run_b6 (w0 : Wd) (a2 : Int32) (s : (Int32 × Int32 × Wd)) (hF : Fr [44] [] w0 s.2.2) : okF (lp (X0_run_b6  a2) s) (fun e => Fr [44] [] w0 e.2) := by
  refine pk_lp (I := fun s => Fr [44] [] w0 s.2.2) (fun s hF => ?_) s hF
  unfold X0_run_b6
  refine pk_i (fun _ => ?_) (fun _ => ?_)
  · exact pk_s hF
  · refine pk_g (fun _ => ?_)
    refine pk_i (fun _ => ?_) (fun _ => ?_)
    · refine pk_i (fun _ => ?_) (fun _ => ?_)
      · refine pk_i (fun _ => ?_) (fun _ => ?_)
        · exact f_X0_run_j143  w0 a2 s.1 s.2.1 s.2.2 hF
        · refine pk_g (fun _ => ?_)
          refine pk_g (fun _ => ?_)
          refine pk_w (fun w5 hF => ?_) (hF.puJ (by decide))
          exact f_X0_run_j143  w0 a2 s.1 s.2.1 w5 hF
      · refine pk_i (fun _ => ?_) (fun _ => ?_)
        · exact f_X0_run_j143  w0 a2 s.1 s.2.1 s.2.2 hF
        · refine pk_g (fun _ => ?_)
          refine pk_g (fun _ => ?_)
          refine pk_v (fun z1 => ?_)
          refine pk_v (fun q2 => ?_)
          refine pk_g (fun _ => ?_)
          refine pk_w (fun w4 hF => ?_) (hF.puJ (by decide))
          exact f_X0_run_j143  w0 a2 (s.1 + (-1 : Int32)) s.2.1 w4 hF
    · refine pk_i (fun _ => ?_) (fun _ => ?_)
      · exact f_X0_run_j143  w0 a2 s.1 s.2.1 s.2.2 hF
      · refine pk_i (fun _ => ?_) (fun _ => ?_)
        · refine pk_g (fun _ => ?_)
          refine pk_v (fun z6 => ?_)
          exact f_X0_run_j67  w0 a2 (s.1 + (1 : Int32)) s.2.1 z6 (s.1 + (1 : Int32)) s.2.2 hF
        · exact f_X0_run_j67  w0 a2 (s.1 + (1 : Int32)) s.2.1 (Int32.toInt64 (s.2.2.1 42 (ix s.2.1))) (s.1 + (1 : Int32)) s.2.2 hF
theorem f_X0_run (a1 : Int32) (a2 : Int32) (w : Wd) : okF (X0_run  a1 a2 w) (fun q => Fr [44] [] w q.2) := by
  have hF : Fr [44] [] w w := Fr.rf
  unfold X0_run
  refine pk_c (f_X0_run_b6 w a2 ((-1 : Int32), a1, w) hF) (fun e8 hF => ?_)
  refine pk_i (fun _ => ?_) (fun _ => ?_)
  · exact pk_s hF
  · refine pk_g (fun _ => ?_)
    exact pk_s hF
theorem f_X2_addPlace (a1 : Int32) (w : Wd) : okF (X2_addPlace  a1 w) (fun q => Fr [6] [(5, 0)] w q.2) := by
  have hF : Fr [6] [(5, 0)] w w := Fr.rf
  unfold X2_addPlace
  refine pk_g (fun _ => ?_)
  refine pk_w (fun w1 hF => ?_) (hF.puI (by decide))
  refine pk_w (fun w2 hF => ?_) (hF.pfI (by decide))
  exact pk_s hF
theorem f_X2_addWay (a1 : Int32) (a2 : Int32) (a3 : Int32) (a4 : Int32) (a5 : Int32) (w : Wd) : okF (X2_addWay  a1 a2 a3 a4 a5 w) (fun q => Fr [7, 8, 9, 10, 11] [(5, 2)] w q.2) := by
  have hF : Fr [7, 8, 9, 10, 11] [(5, 2)] w w := Fr.rf
  unfold X2_addWay
  refine pk_g (fun _ => ?_)
  refine pk_w (fun w1 hF => ?_) (hF.puI (by decide))
  refine pk_g (fun _ => ?_)
  refine pk_w (fun w2 hF => ?_) (hF.puI (by decide))
  refine pk_g (fun _ => ?_)
  refine pk_w (fun w3 hF => ?_) (hF.puI (by decide))
  refine pk_g (fun _ => ?_)
  refine pk_w (fun w4 hF => ?_) (hF.puI (by decide))
  refine pk_g (fun _ => ?_)
  refine pk_w (fun w5 hF => ?_) (hF.puI (by decide))
  refine pk_w (fun w6 hF => ?_) (hF.pfI (by decide))
  exact pk_s hF
theorem f_X2_addLearner (a1 : Int32) (a2 : Int32) (a3 : Int32) (w : Wd) : okF (X2_addLearner  a1 a2 a3 w) (fun q => Fr [12, 13, 14] [(5, 8)] w q.2) := by
  have hF : Fr [12, 13, 14] [(5, 8)] w w := Fr.rf
  unfold X2_addLearner
  refine pk_g (fun _ => ?_)
  refine pk_w (fun w1 hF => ?_) (hF.puI (by decide))
  refine pk_g (fun _ => ?_)
  refine pk_w (fun w2 hF => ?_) (hF.puI (by decide))
  refine pk_g (fun _ => ?_)
  refine pk_w (fun w3 hF => ?_) (hF.puI (by decide))
  refine pk_w (fun w4 hF => ?_) (hF.pfI (by decide))
  exact pk_s hF
theorem f_X2_addTeacher (a1 : Int32) (a2 : Int32) (w : Wd) : okF (X2_addTeacher  a1 a2 w) (fun q => Fr [15, 16] [(5, 12)] w q.2) := by
  have hF : Fr [15, 16] [(5, 12)] w w := Fr.rf
  unfold X2_addTeacher
  refine pk_g (fun _ => ?_)
  refine pk_w (fun w1 hF => ?_) (hF.puI (by decide))
  refine pk_g (fun _ => ?_)
  refine pk_w (fun w2 hF => ?_) (hF.puI (by decide))
  refine pk_w (fun w3 hF => ?_) (hF.pfI (by decide))
  exact pk_s hF
theorem f_X2_addLamp (a1 : Int32) (w : Wd) : okF (X2_addLamp  a1 w) (fun q => Fr [17] [(5, 15)] w q.2) := by
  have hF : Fr [17] [(5, 15)] w w := Fr.rf
  unfold X2_addLamp
  refine pk_g (fun _ => ?_)
  refine pk_w (fun w1 hF => ?_) (hF.puI (by decide))
  refine pk_w (fun w2 hF => ?_) (hF.pfI (by decide))
  exact pk_s hF
theorem f_J7_fill_53178_b5 (kv : Nat) (nv : Nat) (hkv : sh kv = (0, nv)) (w0 : Wd) (a1 : Int32) (a3 : Int32) (s : (Int32 × Wd)) (hF : Fr (kv :: []) [] w0 s.2) : okF (lp (J7_fill_53178_b5 kv nv a1 a3) s) (fun e => Fr (kv :: []) [] w0 e) := by
  refine pk_lp (I := fun s => Fr (kv :: []) [] w0 s.2) (fun s hF => ?_) s hF
  unfold J7_fill_53178_b5
  refine pk_i (fun _ => ?_) (fun _ => ?_)
  · exact pk_s hF
  · refine pk_g (fun _ => ?_)
    refine pk_w (fun w1 hF => ?_) (hF.puI (List.mem_cons_self))
    exact pk_s hF
theorem f_J7_fill_53178 (kv : Nat) (nv : Nat) (hkv : sh kv = (0, nv)) (a1 : Int32) (w : Wd) : okF (J7_fill_53178 kv nv a1 w) (fun q => Fr (kv :: []) [] w q) := by
  have hF : Fr (kv :: []) [] w w := Fr.rf
  unfold J7_fill_53178
  refine pk_c (f_J7_fill_53178_b5 kv nv hkv w a1 (Int32.ofNat nv) ((0 : Int32), w) hF) (fun e2 hF => ?_)
  exact pk_s hF
theorem f_X2_walk_j31 (w0 : Wd) (a1 : Int32) (a3 : Int32) (s0 : Int32) (w : Wd) (hF : Fr [18] [] w0 w) : okF (X2_walk_j31  a1 a3 s0 w) (fun q => Fr [18] [] w0 q.2) := by
  unfold X2_walk_j31
  refine pk_g (fun _ => ?_)
  refine pk_i (fun _ => ?_) (fun _ => ?_)
  · exact pk_s hF
  · refine pk_g (fun _ => ?_)
    refine pk_i (fun _ => ?_) (fun _ => ?_)
    · refine pk_g (fun _ => ?_)
      refine pk_w (fun w3 hF => ?_) (hF.puI (by decide))
      exact pk_s hF
    · exact pk_s hF
theorem f_X2_walk (a1 : Int32) (a2 : Int32) (a3 : Int32) (w : Wd) : okF (X2_walk  a1 a2 a3 w) (fun q => Fr [18] [] w q.2) := by
  have hF : Fr [18] [] w w := Fr.rf
  unfold X2_walk
  refine pk_g (fun _ => ?_)
  refine pk_v (fun q1 => ?_)
  refine pk_i (fun _ => ?_) (fun _ => ?_)
  · refine pk_g (fun _ => ?_)
    exact f_X2_walk_j31  w a1 a3 (w.1 18 (ix a2)) w hF
  · refine pk_g (fun _ => ?_)
    exact f_X2_walk_j31  w a1 a3 ((w.1 11 (ix a1)) + (1 : Int32)) w hF
theorem f_X2_travel_b37 (w0 : Wd) (a4 : Int32) (s : (Int32 × Int32 × Wd)) (hF : Fr [18] [] w0 s.2.2) : okF (lp (X2_travel_b37  a4) s) (fun e => Fr [18] [] w0 e.2) := by
  refine pk_lp (I := fun s => Fr [18] [] w0 s.2.2) (fun s hF => ?_) s hF
  unfold X2_travel_b37
  refine pk_i (fun _ => ?_) (fun _ => ?_)
  · exact pk_s hF
  · refine pk_g (fun _ => ?_)
    refine pk_g (fun _ => ?_)
    refine pk_c (f_X2_walk s.2.1 (s.2.2.1 7 (ix s.2.1)) (s.2.2.1 8 (ix s.2.1)) s.2.2) (fun q4 hQ => ?_)
    have hF := hF.next hQ (by decide) (by decide)
    refine pk_g (fun _ => ?_)
    refine pk_g (fun _ => ?_)
    refine pk_c (f_X2_walk s.2.1 (q4.2.1 8 (ix s.2.1)) (q4.2.1 7 (ix s.2.1)) q4.2) (fun q6 hQ => ?_)
    have hF := hF.next hQ (by decide) (by decide)
    refine pk_v (fun z8 => ?_)
    exact pk_s hF
theorem f_X2_travel_b21 (w0 : Wd) (s : (Int32 × Int32 × Wd)) (hF : Fr [18] [] w0 s.2.2) : okF (lp (X2_travel_b21  ) s) (fun e => Fr [18] [] w0 e) := by
  refine pk_lp (I := fun s => Fr [18] [] w0 s.2.2) (fun s hF => ?_) s hF
  unfold X2_travel_b21
  refine pk_i (fun _ => ?_) (fun _ => ?_)
  · exact pk_s hF
  · refine pk_i (fun _ => ?_) (fun _ => ?_)
    · exact pk_s hF
    · refine pk_c (f_X2_travel_b37 w0 s.2.1 ((0 : Int32), (0 : Int32), s.2.2) hF) (fun e9 hF => ?_)
      exact pk_s hF
theorem f_X2_travel (a1 : Int32) (a2 : Int32) (w : Wd) : okF (X2_travel  a1 a2 w) (fun q => Fr [18] [] w q) := by
  have hF : Fr [18] [] w w := Fr.rf
  unfold X2_travel
  refine pk_c (f_J7_fill_53178 18 16 sh_18 (60 : Int32) w) (fun q1 hQ => ?_)
  have hF := hF.next hQ (by decide) (by decide)
  refine pk_g (fun _ => ?_)
  refine pk_w (fun w3 hF => ?_) (hF.puI (by decide))
  refine pk_c (f_X2_travel_b21 w ((1 : Int32), (0 : Int32), w3) hF) (fun e10 hF => ?_)
  exact pk_s hF
theorem f_X3_set (a1 : Int32) (a2 : Int32) (a3 : Int32) (a4 : Int32) (w : Wd) : okF (X3_set  a1 a2 a3 a4 w) (fun q => Fr [70, 71, 72] [] w q) := by
  have hF : Fr [70, 71, 72] [] w w := Fr.rf
  unfold X3_set
  refine pk_g (fun _ => ?_)
  refine pk_w (fun w1 hF => ?_) (hF.puI (by decide))
  refine pk_g (fun _ => ?_)
  refine pk_w (fun w2 hF => ?_) (hF.puI (by decide))
  refine pk_g (fun _ => ?_)
  refine pk_w (fun w3 hF => ?_) (hF.puI (by decide))
  exact pk_s hF
theorem f_X3_learn_j119 (kv : Nat) (nv : Nat) (hkv : sh kv = (1, nv)) (w0 : Wd) (a2 : Int32) (a4 : Int32) (a5 : Int32) (a6 : Int32) (w : Wd) (hF : Fr (kv :: []) [] w0 w) : okF (X3_learn_j119 kv nv a2 a4 a5 a6 w) (sel (fun s => Fr (kv :: []) [] w0 s.2.2.2) (fun e => Fr (kv :: []) [] w0 e)) := by
  unfold X3_learn_j119
  exact pk_s hF
theorem f_X3_learn_b14 (kv : Nat) (nv : Nat) (hkv : sh kv = (1, nv)) (w0 : Wd) (a2 : Int32) (s : (Int32 × Int32 × Int32 × Wd)) (hF : Fr (kv :: []) [] w0 s.2.2.2) : okF (lp (X3_learn_b14 kv nv a2) s) (fun e => Fr (kv :: []) [] w0 e) := by
  refine pk_lp (I := fun s => Fr (kv :: []) [] w0 s.2.2.2) (fun s hF => ?_) s hF
  unfold X3_learn_b14
  refine pk_i (fun _ => ?_) (fun _ => ?_)
  · exact pk_s hF
  · refine pk_i (fun _ => ?_) (fun _ => ?_)
    · exact pk_s hF
    · refine pk_v (fun z3 => ?_)
      refine pk_i (fun _ => ?_) (fun _ => ?_)
      · refine pk_g (fun _ => ?_)
        refine pk_i (fun _ => ?_) (fun _ => ?_)
        · refine pk_g (fun _ => ?_)
          refine pk_g (fun _ => ?_)
          refine pk_v (fun z4 => ?_)
          refine pk_g (fun _ => ?_)
          refine pk_g (fun _ => ?_)
          refine pk_w (fun w5 hF => ?_) (hF.puI (List.mem_cons_self))
          refine pk_g (fun _ => ?_)
          refine pk_g (fun _ => ?_)
          refine pk_i (fun _ => ?_) (fun _ => ?_)
          · exact f_X3_learn_j119 kv nv hkv w0 a2 s.1 (s.2.1 - z4) s.2.2.1 w5 hF
          · exact f_X3_learn_j119 kv nv hkv w0 a2 (s.1 ||| z3) (s.2.1 - z4) s.2.2.1 w5 hF
        · exact f_X3_learn_j119 kv nv hkv w0 a2 s.1 s.2.1 s.2.2.1 s.2.2.2 hF
      · exact f_X3_learn_j119 kv nv hkv w0 a2 s.1 s.2.1 s.2.2.1 s.2.2.2 hF
theorem f_X3_learn (kv : Nat) (nv : Nat) (hkv : sh kv = (1, nv)) (a2 : Int32) (a3 : Int32) (w : Wd) : okF (X3_learn kv nv a2 a3 w) (fun q => Fr (kv :: []) [] w q) := by
  have hF : Fr (kv :: []) [] w w := Fr.rf
  unfold X3_learn
  refine pk_v (fun q1 => ?_)
  refine pk_c (f_X3_learn_b14 kv nv hkv w a2 (q1, a3, (0 : Int32), w) hF) (fun e6 hF => ?_)
  exact pk_s hF
theorem f_X3_forget (kv : Nat) (nv : Nat) (hkv : sh kv = (1, nv)) (a2 : Int32) (w : Wd) : okF (X3_forget kv nv a2 w) (fun q => Fr (kv :: []) [] w q) := by
  have hF : Fr (kv :: []) [] w w := Fr.rf
  unfold X3_forget
  refine pk_v (fun q1 => ?_)
  refine pk_v (fun e3 => ?_)
  rcases e3 with e4 | e6
  · refine pk_g (fun _ => ?_)
    refine pk_w (fun w5 hF => ?_) (hF.puI (List.mem_cons_self))
    exact pk_s hF
  · exact pk_s hF
theorem f_X4_add (a1 : Int32) (a2 : Int32) (a3 : Int32) (a4 : Int32) (a5 : Int32) (a6 : Int32) (w : Wd) : okF (X4_add  a1 a2 a3 a4 a5 a6 w) (fun q => Fr [20, 21, 22, 23, 24, 25] [(19, 0), (19, 8)] w q) := by
  have hF : Fr [20, 21, 22, 23, 24, 25] [(19, 0), (19, 8)] w w := Fr.rf
  unfold X4_add
  refine pk_g (fun _ => ?_)
  refine pk_w (fun w1 hF => ?_) (hF.puI (by decide))
  refine pk_g (fun _ => ?_)
  refine pk_w (fun w2 hF => ?_) (hF.puI (by decide))
  refine pk_g (fun _ => ?_)
  refine pk_w (fun w3 hF => ?_) (hF.puI (by decide))
  refine pk_g (fun _ => ?_)
  refine pk_w (fun w4 hF => ?_) (hF.puI (by decide))
  refine pk_g (fun _ => ?_)
  refine pk_w (fun w5 hF => ?_) (hF.puI (by decide))
  refine pk_g (fun _ => ?_)
  refine pk_w (fun w6 hF => ?_) (hF.puI (by decide))
  refine pk_w (fun w7 hF => ?_) (hF.pfI (by decide))
  refine pk_w (fun w8 hF => ?_) (hF.pfI (by decide))
  exact pk_s hF
theorem f_X4_lookFrom (a1 : Int32) (w : Wd) : okF (X4_lookFrom  a1 w) (fun q => Fr [] [(19, 7), (19, 8)] w q.2) := by
  have hF : Fr [] [(19, 7), (19, 8)] w w := Fr.rf
  unfold X4_lookFrom
  refine pk_v (fun e2 => ?_)
  refine pk_w (fun w3 hF => ?_) (hF.pfI (by decide))
  refine pk_w (fun w4 hF => ?_) (hF.pfI (by decide))
  exact pk_s hF
theorem f_X4_gatherAtLamps_j45 (w0 : Wd) (a1 : Int32) (w : Wd) (hF : Fr [28, 29] [] w0 w) : okF (X4_gatherAtLamps_j45  a1 w) (sel (fun s => Fr [28, 29] [] w0 s.2) (fun e => Fr [28, 29] [] w0 e)) := by
  unfold X4_gatherAtLamps_j45
  exact pk_s hF
theorem f_X4_gatherAtLamps_b19 (w0 : Wd) (s : (Int32 × Wd)) (hF : Fr [28, 29] [] w0 s.2) : okF (lp (X4_gatherAtLamps_b19  ) s) (fun e => Fr [28, 29] [] w0 e) := by
  refine pk_lp (I := fun s => Fr [28, 29] [] w0 s.2) (fun s hF => ?_) s hF
  unfold X4_gatherAtLamps_b19
  refine pk_i (fun _ => ?_) (fun _ => ?_)
  · exact pk_s hF
  · refine pk_g (fun _ => ?_)
    refine pk_i (fun _ => ?_) (fun _ => ?_)
    · exact f_X4_gatherAtLamps_j45  w0 s.1 s.2 hF
    · refine pk_g (fun _ => ?_)
      refine pk_g (fun _ => ?_)
      refine pk_w (fun w5 hF => ?_) (hF.puI (by decide))
      exact f_X4_gatherAtLamps_j45  w0 s.1 w5 hF
theorem f_X4_gatherAtLamps_j84 (w0 : Wd) (a1 : Int32) (w : Wd) (hF : Fr [28, 29] [] w0 w) : okF (X4_gatherAtLamps_j84  a1 w) (sel (fun s => Fr [28, 29] [] w0 s.2) (fun e => Fr [28, 29] [] w0 e)) := by
  unfold X4_gatherAtLamps_j84
  exact pk_s hF
theorem f_X4_gatherAtLamps_b53 (w0 : Wd) (s : (Int32 × Wd)) (hF : Fr [28, 29] [] w0 s.2) : okF (lp (X4_gatherAtLamps_b53  ) s) (fun e => Fr [28, 29] [] w0 e) := by
  refine pk_lp (I := fun s => Fr [28, 29] [] w0 s.2) (fun s hF => ?_) s hF
  unfold X4_gatherAtLamps_b53
  refine pk_i (fun _ => ?_) (fun _ => ?_)
  · exact pk_s hF
  · refine pk_g (fun _ => ?_)
    refine pk_i (fun _ => ?_) (fun _ => ?_)
    · exact f_X4_gatherAtLamps_j84  w0 s.1 s.2 hF
    · refine pk_g (fun _ => ?_)
      refine pk_g (fun _ => ?_)
      refine pk_g (fun _ => ?_)
      refine pk_w (fun w7 hF => ?_) (hF.puI (by decide))
      exact f_X4_gatherAtLamps_j84  w0 s.1 w7 hF
theorem f_X4_gatherAtLamps (w : Wd) : okF (X4_gatherAtLamps   w) (fun q => Fr [28, 29] [] w q) := by
  have hF : Fr [28, 29] [] w w := Fr.rf
  unfold X4_gatherAtLamps
  refine pk_c (f_J7_fill_53178 28 12 sh_28 (-1 : Int32) w) (fun q1 hQ => ?_)
  have hF := hF.next hQ (by decide) (by decide)
  refine pk_c (f_J7_fill_53178 29 12 sh_29 (0 : Int32) q1) (fun q3 hQ => ?_)
  have hF := hF.next hQ (by decide) (by decide)
  refine pk_c (f_X4_gatherAtLamps_b19 w ((19 : Int32), q3) hF) (fun e6 hF => ?_)
  refine pk_c (f_X4_gatherAtLamps_b53 w ((0 : Int32), e6) hF) (fun e8 hF => ?_)
  exact pk_s hF
theorem f_X4_callUp_j114 (w0 : Wd) (a1 : Int32) (a2 : Int32) (w : Wd) (hF : Fr [26, 27, 28, 29] [(19, 8)] w0 w) : okF (X4_callUp_j114  a1 a2 w) (sel (fun s => Fr [26, 27, 28, 29] [(19, 8)] w0 s.2) (fun e => Fr [26, 27, 28, 29] [(19, 8)] w0 e)) := by
  unfold X4_callUp_j114
  exact pk_s hF
theorem f_X4_callUp_j78 (w0 : Wd) (a1 : Int32) (a2 : Int32) (w : Wd) (hF : Fr [26, 27, 28, 29] [(19, 8)] w0 w) : okF (X4_callUp_j78  a1 a2 w) (sel (fun s => Fr [26, 27, 28, 29] [(19, 8)] w0 s.2) (fun e => Fr [26, 27, 28, 29] [(19, 8)] w0 e)) := by
  unfold X4_callUp_j78
  refine pk_v (fun q8 => ?_)
  refine pk_i (fun _ => ?_) (fun _ => ?_)
  · exact f_X4_callUp_j114  w0 a1 a2 w hF
  · refine pk_g (fun _ => ?_)
    refine pk_i (fun _ => ?_) (fun _ => ?_)
    · refine pk_g (fun _ => ?_)
      refine pk_g (fun _ => ?_)
      refine pk_g (fun _ => ?_)
      refine pk_w (fun w10 hF => ?_) (hF.puI (by decide))
      exact f_X4_callUp_j114  w0 a1 a2 w10 hF
    · exact f_X4_callUp_j114  w0 a1 a2 w hF
theorem f_X4_callUp_b32 (w0 : Wd) (a1 : Int32) (s : (Int32 × Wd)) (hF : Fr [26, 27, 28, 29] [(19, 8)] w0 s.2) : okF (lp (X4_callUp_b32  a1) s) (fun e => Fr [26, 27, 28, 29] [(19, 8)] w0 e) := by
  refine pk_lp (I := fun s => Fr [26, 27, 28, 29] [(19, 8)] w0 s.2) (fun s hF => ?_) s hF
  unfold X4_callUp_b32
  refine pk_i (fun _ => ?_) (fun _ => ?_)
  · exact pk_s hF
  · refine pk_v (fun q6 => ?_)
    refine pk_i (fun _ => ?_) (fun _ => ?_)
    · exact f_X4_callUp_j78  w0 a1 s.1 s.2 hF
    · refine pk_g (fun _ => ?_)
      refine pk_i (fun _ => ?_) (fun _ => ?_)
      · refine pk_g (fun _ => ?_)
        refine pk_g (fun _ => ?_)
        refine pk_g (fun _ => ?_)
        refine pk_w (fun w11 hF => ?_) (hF.puI (by decide))
        exact f_X4_callUp_j114  w0 a1 s.1 w11 hF
      · exact f_X4_callUp_j78  w0 a1 s.1 s.2 hF
theorem f_X4_callUp_j195 (w0 : Wd) (a1 : Int32) (a2 : Int32) (w : Wd) (hF : Fr [26, 27, 28, 29] [(19, 8)] w0 w) : okF (X4_callUp_j195  a1 a2 w) (sel (fun s => Fr [26, 27, 28, 29] [(19, 8)] w0 s.2) (fun e => Fr [26, 27, 28, 29] [(19, 8)] w0 e)) := by
  unfold X4_callUp_j195
  exact pk_s hF
theorem f_X4_callUp_j164 (w0 : Wd) (a1 : Int32) (a2 : Int32) (w : Wd) (hF : Fr [26, 27, 28, 29] [(19, 8)] w0 w) : okF (X4_callUp_j164  a1 a2 w) (sel (fun s => Fr [26, 27, 28, 29] [(19, 8)] w0 s.2) (fun e => Fr [26, 27, 28, 29] [(19, 8)] w0 e)) := by
  unfold X4_callUp_j164
  refine pk_v (fun q15 => ?_)
  refine pk_i (fun _ => ?_) (fun _ => ?_)
  · exact f_X4_callUp_j195  w0 a1 a2 w hF
  · refine pk_g (fun _ => ?_)
    refine pk_i (fun _ => ?_) (fun _ => ?_)
    · refine pk_g (fun _ => ?_)
      refine pk_g (fun _ => ?_)
      refine pk_w (fun w17 hF => ?_) (hF.puI (by decide))
      exact f_X4_callUp_j195  w0 a1 a2 w17 hF
    · exact f_X4_callUp_j195  w0 a1 a2 w hF
theorem f_X4_callUp_b122 (w0 : Wd) (a1 : Int32) (s : (Int32 × Wd)) (hF : Fr [26, 27, 28, 29] [(19, 8)] w0 s.2) : okF (lp (X4_callUp_b122  a1) s) (fun e => Fr [26, 27, 28, 29] [(19, 8)] w0 e) := by
  refine pk_lp (I := fun s => Fr [26, 27, 28, 29] [(19, 8)] w0 s.2) (fun s hF => ?_) s hF
  unfold X4_callUp_b122
  refine pk_i (fun _ => ?_) (fun _ => ?_)
  · exact pk_s hF
  · refine pk_v (fun q13 => ?_)
    refine pk_i (fun _ => ?_) (fun _ => ?_)
    · exact f_X4_callUp_j164  w0 a1 s.1 s.2 hF
    · refine pk_g (fun _ => ?_)
      refine pk_i (fun _ => ?_) (fun _ => ?_)
      · refine pk_g (fun _ => ?_)
        refine pk_g (fun _ => ?_)
        refine pk_w (fun w18 hF => ?_) (hF.puI (by decide))
        exact f_X4_callUp_j195  w0 a1 s.1 w18 hF
      · exact f_X4_callUp_j164  w0 a1 s.1 s.2 hF
theorem f_X4_callUp (a1 : Int32) (w : Wd) : okF (X4_callUp  a1 w) (fun q => Fr [26, 27, 28, 29] [(19, 8)] w q) := by
  have hF : Fr [26, 27, 28, 29] [(19, 8)] w w := Fr.rf
  unfold X4_callUp
  refine pk_i (fun _ => ?_) (fun _ => ?_)
  · exact pk_s hF
  · refine pk_w (fun w1 hF => ?_) (hF.pfI (by decide))
    refine pk_c (f_J7_fill_53178 26 20 sh_26 (-1 : Int32) w1) (fun q2 hQ => ?_)
    have hF := hF.next hQ (by decide) (by decide)
    refine pk_c (f_J7_fill_53178 27 40 sh_27 (-1 : Int32) q2) (fun q4 hQ => ?_)
    have hF := hF.next hQ (by decide) (by decide)
    refine pk_c (f_X4_callUp_b32 w a1 ((0 : Int32), q4) hF) (fun e12 hF => ?_)
    refine pk_c (f_X4_callUp_b122 w a1 ((0 : Int32), e12) hF) (fun e19 hF => ?_)
    refine pk_c (f_X4_gatherAtLamps e19) (fun q20 hQ => ?_)
    have hF := hF.next hQ (by decide) (by decide)
    exact pk_s hF
theorem f_X5_spell_b13 (kv : Nat) (nv : Nat) (hkv : sh kv = (0, nv)) (w0 : Wd) (a3 : Int32) (s : (Int64 × Int32 × Wd)) (hF : Fr (kv :: []) [] w0 s.2.2) : okF (lp (X5_spell_b13 kv nv a3) s) (fun e => Fr (kv :: []) [] w0 e) := by
  refine pk_lp (I := fun s => Fr (kv :: []) [] w0 s.2.2) (fun s hF => ?_) s hF
  unfold X5_spell_b13
  refine pk_i (fun _ => ?_) (fun _ => ?_)
  · exact pk_s hF
  · refine pk_g (fun _ => ?_)
    refine pk_w (fun w3 hF => ?_) (hF.puI (List.mem_cons_self))
    refine pk_v (fun z4 => ?_)
    exact pk_s hF
theorem f_X5_spell (kv : Nat) (nv : Nat) (hkv : sh kv = (0, nv)) (a0 : Int64) (w : Wd) : okF (X5_spell kv nv a0 w) (fun q => Fr (kv :: []) [] w q.2) := by
  have hF : Fr (kv :: []) [] w w := Fr.rf
  unfold X5_spell
  refine pk_v (fun q1 => ?_)
  refine pk_c (f_X5_spell_b13 kv nv hkv w q1 (a0, (q1 - (1 : Int32)), w) hF) (fun e5 hF => ?_)
  exact pk_s hF
theorem f_X5_measure_j82 (w0 : Wd) (a1 : Int32) (a2 : Int32) (a3 : Int32) (a4 : Int32) (a5 : Int32) (w : Wd) (hF : Fr [87] [] w0 w) : okF (X5_measure_j82  a1 a2 a3 a4 a5 w) (sel (fun s => Fr [87] [] w0 s.2) (fun e => Fr [87] [] w0 e)) := by
  unfold X5_measure_j82
  refine pk_g (fun _ => ?_)
  refine pk_w (fun w1 hF => ?_) (hF.puI (by decide))
  exact pk_s hF
theorem f_X5_measure_b9 (w0 : Wd) (a1 : Int32) (a2 : Int32) (a3 : Int32) (s : (Int32 × Wd)) (hF : Fr [87] [] w0 s.2) : okF (lp (X5_measure_b9  a1 a2 a3) s) (fun e => Fr [87] [] w0 e) := by
  refine pk_lp (I := fun s => Fr [87] [] w0 s.2) (fun s hF => ?_) s hF
  unfold X5_measure_b9
  refine pk_i (fun _ => ?_) (fun _ => ?_)
  · exact pk_s hF
  · refine pk_i (fun _ => ?_) (fun _ => ?_)
    · exact f_X5_measure_j82  w0 a1 a2 a3 s.1 (((a1 - a3) + a2) - s.1) s.2 hF
    · refine pk_i (fun _ => ?_) (fun _ => ?_)
      · exact f_X5_measure_j82  w0 a1 a2 a3 s.1 (((a1 - a3) + a2) - s.1) s.2 hF
      · refine pk_v (fun q2 => ?_)
        refine pk_v (fun q4 => ?_)
        refine pk_v (fun q6 => ?_)
        refine pk_v (fun q8 => ?_)
        refine pk_v (fun z10 => ?_)
        exact f_X5_measure_j82  w0 a1 a2 a3 s.1 z10 s.2 hF
theorem f_X5_measure_b2 (w0 : Wd) (a1 : Int32) (a2 : Int32) (s : (Int32 × Wd)) (hF : Fr [87] [] w0 s.2) : okF (lp (X5_measure_b2  a1 a2) s) (fun e => Fr [87] [] w0 e) := by
  refine pk_lp (I := fun s => Fr [87] [] w0 s.2) (fun s hF => ?_) s hF
  unfold X5_measure_b2
  refine pk_i (fun _ => ?_) (fun _ => ?_)
  · exact pk_s hF
  · refine pk_c (f_X5_measure_b9 w0 a1 a2 s.1 (a2, s.2) hF) (fun e11 hF => ?_)
    exact pk_s hF
theorem f_X5_measure (a1 : Int32) (a2 : Int32) (w : Wd) : okF (X5_measure  a1 a2 w) (fun q => Fr [87] [] w q) := by
  have hF : Fr [87] [] w w := Fr.rf
  unfold X5_measure
  refine pk_c (f_X5_measure_b2 w a1 a2 (a1, w) hF) (fun e12 hF => ?_)
  exact pk_s hF
theorem f_X5_slip (a1 : Int32) (w : Wd) : okF (X5_slip  a1 w) (fun q => Fr [83, 84] [] w q) := by
  have hF : Fr [83, 84] [] w w := Fr.rf
  unfold X5_slip
  refine pk_g (fun _ => ?_)
  refine pk_i (fun _ => ?_) (fun _ => ?_)
  · exact pk_s hF
  · refine pk_g (fun _ => ?_)
    refine pk_g (fun _ => ?_)
    refine pk_w (fun w1 hF => ?_) (hF.puI (by decide))
    refine pk_g (fun _ => ?_)
    refine pk_g (fun _ => ?_)
    refine pk_w (fun w2 hF => ?_) (hF.puI (by decide))
    exact pk_s hF
theorem f_X5_walk_j157 (w0 : Wd) (a1 : Int32) (a2 : Int32) (a3 : Int32) (a4 : Int32) (a5 : Int32) (w : Wd) (hF : Fr [83, 84] [] w0 w) : okF (X5_walk_j157  a1 a2 a3 a4 a5 w) (sel (fun s => Fr [83, 84] [] w0 s.2.2.2) (fun e => Fr [83, 84] [] w0 e)) := by
  unfold X5_walk_j157
  exact pk_s hF
theorem f_X5_walk_j137 (w0 : Wd) (a1 : Int32) (a2 : Int32) (a3 : Int32) (a4 : Int32) (a5 : Int32) (w : Wd) (hF : Fr [83, 84] [] w0 w) : okF (X5_walk_j137  a1 a2 a3 a4 a5 w) (sel (fun s => Fr [83, 84] [] w0 s.2.2.2) (fun e => Fr [83, 84] [] w0 e)) := by
  unfold X5_walk_j137
  refine pk_i (fun _ => ?_) (fun _ => ?_)
  · exact f_X5_walk_j157  w0 a1 a2 a3 a4 a5 w hF
  · refine pk_g (fun _ => ?_)
    refine pk_c (f_X5_slip (w.1 86 (ix a4)) w) (fun q3 hQ => ?_)
    have hF := hF.next hQ (by decide) (by decide)
    exact f_X5_walk_j157  w0 a1 a2 a3 (a4 + (1 : Int32)) a5 q3 hF
theorem f_X5_walk_j100 (w0 : Wd) (a1 : Int32) (a2 : Int32) (a3 : Int32) (a4 : Int32) (a5 : Int32) (a6 : Int32) (w : Wd) (hF : Fr [83, 84] [] w0 w) : okF (X5_walk_j100  a1 a2 a3 a4 a5 a6 w) (sel (fun s => Fr [83, 84] [] w0 s.2.2.2) (fun e => Fr [83, 84] [] w0 e)) := by
  unfold X5_walk_j100
  refine pk_i (fun _ => ?_) (fun _ => ?_)
  · exact f_X5_walk_j137  w0 a1 a2 a3 a4 a5 w hF
  · refine pk_v (fun q5 => ?_)
    refine pk_i (fun _ => ?_) (fun _ => ?_)
    · refine pk_g (fun _ => ?_)
      refine pk_c (f_X5_slip (w.1 85 (ix a3)) w) (fun q7 hQ => ?_)
      have hF := hF.next hQ (by decide) (by decide)
      exact f_X5_walk_j157  w0 a1 a2 (a3 + (1 : Int32)) a4 a5 q7 hF
    · exact f_X5_walk_j137  w0 a1 a2 a3 a4 a5 w hF
theorem f_X5_walk_j91 (w0 : Wd) (a1 : Int32) (a2 : Int32) (a3 : Int32) (a4 : Int32) (a5 : Int32) (w : Wd) (hF : Fr [83, 84] [] w0 w) : okF (X5_walk_j91  a1 a2 a3 a4 a5 w) (sel (fun s => Fr [83, 84] [] w0 s.2.2.2) (fun e => Fr [83, 84] [] w0 e)) := by
  unfold X5_walk_j91
  exact f_X5_walk_j157  w0 a1 a2 (a3 + (1 : Int32)) (a4 + (1 : Int32)) a5 w hF
theorem f_X5_walk_j26 (w0 : Wd) (a1 : Int32) (a2 : Int32) (a3 : Int32) (a4 : Int32) (a5 : Int32) (w : Wd) (hF : Fr [83, 84] [] w0 w) : okF (X5_walk_j26  a1 a2 a3 a4 a5 w) (sel (fun s => Fr [83, 84] [] w0 s.2.2.2) (fun e => Fr [83, 84] [] w0 e)) := by
  unfold X5_walk_j26
  refine pk_v (fun q1 => ?_)
  refine pk_i (fun _ => ?_) (fun _ => ?_)
  · exact f_X5_walk_j100  w0 a1 a2 a3 a4 a5 q1 w hF
  · refine pk_i (fun _ => ?_) (fun _ => ?_)
    · exact f_X5_walk_j100  w0 a1 a2 a3 a4 a5 q1 w hF
    · refine pk_v (fun q9 => ?_)
      refine pk_v (fun q11 => ?_)
      refine pk_i (fun _ => ?_) (fun _ => ?_)
      · refine pk_v (fun q13 => ?_)
        refine pk_i (fun _ => ?_) (fun _ => ?_)
        · refine pk_g (fun _ => ?_)
          refine pk_c (f_X5_slip (w.1 85 (ix a3)) w) (fun q15 hQ => ?_)
          have hF := hF.next hQ (by decide) (by decide)
          exact f_X5_walk_j91  w0 a1 a2 a3 a4 a5 q15 hF
        · exact f_X5_walk_j91  w0 a1 a2 a3 a4 a5 w hF
      · exact f_X5_walk_j100  w0 a1 a2 a3 a4 a5 q1 w hF
theorem f_X5_walk_b8 (w0 : Wd) (a1 : Int32) (a2 : Int32) (s : (Int32 × Int32 × Int32 × Wd)) (hF : Fr [83, 84] [] w0 s.2.2.2) : okF (lp (X5_walk_b8  a1 a2) s) (fun e => Fr [83, 84] [] w0 e) := by
  refine pk_lp (I := fun s => Fr [83, 84] [] w0 s.2.2.2) (fun s hF => ?_) s hF
  unfold X5_walk_b8
  refine pk_i (fun _ => ?_) (fun _ => ?_)
  · exact pk_s hF
  · refine pk_i (fun _ => ?_) (fun _ => ?_)
    · exact f_X5_walk_j26  w0 a1 a2 s.1 s.2.1 s.2.2.1 s.2.2.2 hF
    · refine pk_i (fun _ => ?_) (fun _ => ?_)
      · exact pk_s hF
      · exact f_X5_walk_j26  w0 a1 a2 s.1 s.2.1 s.2.2.1 s.2.2.2 hF
theorem f_X5_walk (a1 : Int32) (a2 : Int32) (w : Wd) : okF (X5_walk  a1 a2 w) (fun q => Fr [83, 84] [] w q) := by
  have hF : Fr [83, 84] [] w w := Fr.rf
  unfold X5_walk
  refine pk_c (f_X5_walk_b8 w a1 a2 ((0 : Int32), (0 : Int32), (0 : Int32), w) hF) (fun e17 hF => ?_)
  exact pk_s hF
theorem f_X5_add (a1 : Int32) (a2 : Int32) (a3 : Int64) (a5 : Int64) (w : Wd) : okF (X5_add  a1 a2 a3 a5 w) (fun q => Fr [81, 82, 83, 84, 85, 86, 87] [(80, 0)] w q.2) := by
  have hF : Fr [81, 82, 83, 84, 85, 86, 87] [(80, 0)] w w := Fr.rf
  unfold X5_add
  refine pk_c (f_X5_spell 85 8 sh_85 a3 w) (fun q1 hQ => ?_)
  have hF := hF.next hQ (by decide) (by decide)
  refine pk_c (f_X5_spell 86 8 sh_86 a5 q1.2) (fun q3 hQ => ?_)
  have hF := hF.next hQ (by decide) (by decide)
  refine pk_g (fun _ => ?_)
  refine pk_w (fun w5 hF => ?_) (hF.puI (by decide))
  refine pk_g (fun _ => ?_)
  refine pk_w (fun w6 hF => ?_) (hF.puI (by decide))
  refine pk_g (fun _ => ?_)
  refine pk_w (fun w7 hF => ?_) (hF.puI (by decide))
  refine pk_c (f_X5_measure q1.1 q3.1 w7) (fun q8 hQ => ?_)
  have hF := hF.next hQ (by decide) (by decide)
  refine pk_c (f_X5_walk q1.1 q3.1 q8) (fun q10 hQ => ?_)
  have hF := hF.next hQ (by decide) (by decide)
  refine pk_w (fun w12 hF => ?_) (hF.pfI (by decide))
  exact pk_s hF
theorem f_X6_append_b3 (w0 : Wd) (a1 : Int32) (s : (Int32 × Wd)) (hF : Fr [66] [(65, 2)] w0 s.2) : okF (lp (X6_append_b3  a1) s) (fun e => Fr [66] [(65, 2)] w0 e) := by
  refine pk_lp (I := fun s => Fr [66] [(65, 2)] w0 s.2) (fun s hF => ?_) s hF
  unfold X6_append_b3
  refine pk_i (fun _ => ?_) (fun _ => ?_)
  · exact pk_s hF
  · refine pk_i (fun _ => ?_) (fun _ => ?_)
    · exact pk_s hF
    · refine pk_g (fun _ => ?_)
      refine pk_w (fun w1 hF => ?_) (hF.puI (by decide))
      refine pk_w (fun w2 hF => ?_) (hF.pfI (by decide))
      exact pk_s hF
theorem f_X6_append (a1 : Int32) (w : Wd) : okF (X6_append  a1 w) (fun q => Fr [66] [(65, 2)] w q) := by
  have hF : Fr [66] [(65, 2)] w w := Fr.rf
  unfold X6_append
  refine pk_c (f_X6_append_b3 w a1 ((24 : Int32), w) hF) (fun e3 hF => ?_)
  exact pk_s hF
theorem f_X6_scanWord_b2 (w0 : Wd) (a1 : Int32) (s : (Int64 × Wd)) (hF : Fr [] [(65, 6), (65, 7), (65, 9)] w0 s.2) : okF (lp (X6_scanWord_b2  a1) s) (fun e => Fr [] [(65, 6), (65, 7), (65, 9)] w0 e.2) := by
  refine pk_lp (I := fun s => Fr [] [(65, 6), (65, 7), (65, 9)] w0 s.2) (fun s hF => ?_) s hF
  unfold X6_scanWord_b2
  refine pk_i (fun _ => ?_) (fun _ => ?_)
  · exact pk_s hF
  · refine pk_g (fun _ => ?_)
    refine pk_i (fun _ => ?_) (fun _ => ?_)
    · exact pk_s hF
    · refine pk_g (fun _ => ?_)
      refine pk_v (fun z1 => ?_)
      refine pk_w (fun w2 hF => ?_) (hF.pfI (by decide))
      exact pk_s hF
theorem f_X6_scanWord_j122 (w0 : Wd) (a2 : Int64) (a4 : Int32) (w : Wd) (hF : Fr [] [(65, 6), (65, 7), (65, 9)] w0 w) : okF (X6_scanWord_j122  a2 a4 w) (sel (fun s => Fr [] [(65, 6), (65, 7), (65, 9)] w0 s.2) (fun e => Fr [] [(65, 6), (65, 7), (65, 9)] w0 e)) := by
  unfold X6_scanWord_j122
  exact pk_s hF
theorem f_X6_scanWord_b83 (w0 : Wd) (a2 : Int64) (s : (Int32 × Wd)) (hF : Fr [] [(65, 6), (65, 7), (65, 9)] w0 s.2) : okF (lp (X6_scanWord_b83  a2) s) (fun e => Fr [] [(65, 6), (65, 7), (65, 9)] w0 e) := by
  refine pk_lp (I := fun s => Fr [] [(65, 6), (65, 7), (65, 9)] w0 s.2) (fun s hF => ?_) s hF
  unfold X6_scanWord_b83
  refine pk_i (fun _ => ?_) (fun _ => ?_)
  · exact pk_s hF
  · refine pk_i (fun _ => ?_) (fun _ => ?_)
    · refine pk_g (fun _ => ?_)
      refine pk_i (fun _ => ?_) (fun _ => ?_)
      · refine pk_w (fun w6 hF => ?_) (hF.pfI (by decide))
        exact f_X6_scanWord_j122  w0 a2 s.1 w6 hF
      · exact f_X6_scanWord_j122  w0 a2 s.1 s.2 hF
    · exact pk_s hF
theorem f_X6_scanWord_j77 (w0 : Wd) (a2 : Int64) (s0 : Int32) (w : Wd) (hF : Fr [] [(65, 6), (65, 7), (65, 9)] w0 w) : okF (X6_scanWord_j77  a2 s0 w) (fun q => Fr [] [(65, 6), (65, 7), (65, 9)] w0 q) := by
  unfold X6_scanWord_j77
  refine pk_w (fun w5 hF => ?_) (hF.pfI (by decide))
  refine pk_c (f_X6_scanWord_b83 w0 a2 ((0 : Int32), w5) hF) (fun e7 hF => ?_)
  exact pk_s hF
theorem f_X6_scanWord (a1 : Int32) (w : Wd) : okF (X6_scanWord  a1 w) (fun q => Fr [] [(65, 6), (65, 7), (65, 9)] w q) := by
  have hF : Fr [] [(65, 6), (65, 7), (65, 9)] w w := Fr.rf
  unfold X6_scanWord
  refine pk_c (f_X6_scanWord_b2 w a1 ((0 : Int64), w) hF) (fun e3 hF => ?_)
  refine pk_w (fun w4 hF => ?_) (hF.pfJ (by decide))
  refine pk_i (fun _ => ?_) (fun _ => ?_)
  · exact f_X6_scanWord_j77  w e3.1 (3 : Int32) w4 hF
  · exact f_X6_scanWord_j77  w e3.1 (4 : Int32) w4 hF
theorem f_X6_scanNumber_b2 (w0 : Wd) (a1 : Int32) (s : (Int32 × Wd)) (hF : Fr [] [(65, 6), (65, 7), (65, 10)] w0 s.2) : okF (lp (X6_scanNumber_b2  a1) s) (fun e => Fr [] [(65, 6), (65, 7), (65, 10)] w0 e.2) := by
  refine pk_lp (I := fun s => Fr [] [(65, 6), (65, 7), (65, 10)] w0 s.2) (fun s hF => ?_) s hF
  unfold X6_scanNumber_b2
  refine pk_i (fun _ => ?_) (fun _ => ?_)
  · exact pk_s hF
  · refine pk_g (fun _ => ?_)
    refine pk_i (fun _ => ?_) (fun _ => ?_)
    · exact pk_s hF
    · refine pk_g (fun _ => ?_)
      refine pk_v (fun z1 => ?_)
      refine pk_w (fun w2 hF => ?_) (hF.pfI (by decide))
      exact pk_s hF
theorem f_X6_scanNumber_j80 (w0 : Wd) (s0 : Int32) (w : Wd) (hF : Fr [] [(65, 6), (65, 7), (65, 10)] w0 w) : okF (X6_scanNumber_j80  s0 w) (fun q => Fr [] [(65, 6), (65, 7), (65, 10)] w0 q) := by
  unfold X6_scanNumber_j80
  refine pk_w (fun w5 hF => ?_) (hF.pfI (by decide))
  exact pk_s hF
theorem f_X6_scanNumber (a1 : Int32) (w : Wd) : okF (X6_scanNumber  a1 w) (fun q => Fr [] [(65, 6), (65, 7), (65, 10)] w q) := by
  have hF : Fr [] [(65, 6), (65, 7), (65, 10)] w w := Fr.rf
  unfold X6_scanNumber
  refine pk_c (f_X6_scanNumber_b2 w a1 ((0 : Int32), w) hF) (fun e3 hF => ?_)
  refine pk_w (fun w4 hF => ?_) (hF.pfI (by decide))
  refine pk_i (fun _ => ?_) (fun _ => ?_)
  · exact f_X6_scanNumber_j80  w (2 : Int32) w4 hF
  · exact f_X6_scanNumber_j80  w (0 : Int32) w4 hF
theorem f_X6_scan_j163 (w0 : Wd) (s0 : Int32) (w : Wd) (hF : Fr [] [(65, 6), (65, 7), (65, 8), (65, 9), (65, 10)] w0 w) : okF (X6_scan_j163  s0 w) (fun q => Fr [] [(65, 6), (65, 7), (65, 8), (65, 9), (65, 10)] w0 q) := by
  unfold X6_scan_j163
  refine pk_w (fun w2 hF => ?_) (hF.pfI (by decide))
  refine pk_w (fun w3 hF => ?_) (hF.pfI (by decide))
  exact pk_s hF
theorem f_X6_scan_j162 (w0 : Wd) (w : Wd) (hF : Fr [] [(65, 6), (65, 7), (65, 8), (65, 9), (65, 10)] w0 w) : okF (X6_scan_j162  w) (fun q => Fr [] [(65, 6), (65, 7), (65, 8), (65, 9), (65, 10)] w0 q) := by
  unfold X6_scan_j162
  exact f_X6_scan_j163  w0 (0 : Int32) w hF
theorem f_X6_scan_j36 (w0 : Wd) (a1 : Int32) (w : Wd) (hF : Fr [] [(65, 6), (65, 7), (65, 8), (65, 9), (65, 10)] w0 w) : okF (X6_scan_j36  a1 w) (sel (fun s => Fr [] [(65, 6), (65, 7), (65, 8), (65, 9), (65, 10)] w0 s) (fun e => Fr [] [(65, 6), (65, 7), (65, 8), (65, 9), (65, 10)] w0 e)) := by
  unfold X6_scan_j36
  refine pk_w (fun w12 hF => ?_) (hF.pfI (by decide))
  exact pk_s hF
theorem f_X6_scan_b0 (w0 : Wd) (a1 : Int32) (s : Wd) (hF : Fr [] [(65, 6), (65, 7), (65, 8), (65, 9), (65, 10)] w0 s) : okF (lp (X6_scan_b0  a1) s) (fun e => Fr [] [(65, 6), (65, 7), (65, 8), (65, 9), (65, 10)] w0 e) := by
  refine pk_lp (I := fun s => Fr [] [(65, 6), (65, 7), (65, 8), (65, 9), (65, 10)] w0 s) (fun s hF => ?_) s hF
  unfold X6_scan_b0
  refine pk_i (fun _ => ?_) (fun _ => ?_)
  · exact pk_s hF
  · refine pk_g (fun _ => ?_)
    refine pk_i (fun _ => ?_) (fun _ => ?_)
    · exact f_X6_scan_j36  w0 a1 s hF
    · refine pk_g (fun _ => ?_)
      refine pk_i (fun _ => ?_) (fun _ => ?_)
      · exact f_X6_scan_j36  w0 a1 s hF
      · exact pk_s hF
theorem f_X6_scan (a1 : Int32) (w : Wd) : okF (X6_scan  a1 w) (fun q => Fr [] [(65, 6), (65, 7), (65, 8), (65, 9), (65, 10)] w q) := by
  have hF : Fr [] [(65, 6), (65, 7), (65, 8), (65, 9), (65, 10)] w w := Fr.rf
  unfold X6_scan
  refine pk_i (fun _ => ?_) (fun _ => ?_)
  · refine pk_w (fun w1 hF => ?_) (hF.pfI (by decide))
    refine pk_i (fun _ => ?_) (fun _ => ?_)
    · refine pk_g (fun _ => ?_)
      refine pk_i (fun _ => ?_) (fun _ => ?_)
      · refine pk_g (fun _ => ?_)
        refine pk_i (fun _ => ?_) (fun _ => ?_)
        · refine pk_g (fun _ => ?_)
          refine pk_i (fun _ => ?_) (fun _ => ?_)
          · exact f_X6_scan_j162  w w1 hF
          · refine pk_g (fun _ => ?_)
            refine pk_v (fun q4 => ?_)
            refine pk_i (fun _ => ?_) (fun _ => ?_)
            · exact f_X6_scan_j162  w w1 hF
            · refine pk_g (fun _ => ?_)
              exact f_X6_scan_j163  w (w1.1 66 (ix (w1.1 65 6))) w1 hF
        · refine pk_c (f_X6_scanNumber a1 w1) (fun q6 hQ => ?_)
          have hF := hF.next hQ (by decide) (by decide)
          exact pk_s hF
      · refine pk_c (f_X6_scanWord a1 w1) (fun q8 hQ => ?_)
        have hF := hF.next hQ (by decide) (by decide)
        exact pk_s hF
    · refine pk_w (fun w10 hF => ?_) (hF.pfI (by decide))
      exact pk_s hF
  · refine pk_g (fun _ => ?_)
    refine pk_i (fun _ => ?_) (fun _ => ?_)
    · refine pk_w (fun w11 hF => ?_) (hF.pfI (by decide))
      refine pk_c (f_X6_scan_b0 w a1 w11 hF) (fun e13 hF => ?_)
      refine pk_w (fun w14 hF => ?_) (hF.pfI (by decide))
      refine pk_i (fun _ => ?_) (fun _ => ?_)
      · refine pk_g (fun _ => ?_)
        refine pk_i (fun _ => ?_) (fun _ => ?_)
        · refine pk_g (fun _ => ?_)
          refine pk_i (fun _ => ?_) (fun _ => ?_)
          · refine pk_g (fun _ => ?_)
            refine pk_i (fun _ => ?_) (fun _ => ?_)
            · exact f_X6_scan_j162  w w14 hF
            · refine pk_g (fun _ => ?_)
              refine pk_v (fun q15 => ?_)
              refine pk_i (fun _ => ?_) (fun _ => ?_)
              · exact f_X6_scan_j162  w w14 hF
              · refine pk_g (fun _ => ?_)
                exact f_X6_scan_j163  w (w14.1 66 (ix (w14.1 65 6))) w14 hF
          · refine pk_c (f_X6_scanNumber a1 w14) (fun q17 hQ => ?_)
            have hF := hF.next hQ (by decide) (by decide)
            exact pk_s hF
        · refine pk_c (f_X6_scanWord a1 w14) (fun q19 hQ => ?_)
          have hF := hF.next hQ (by decide) (by decide)
          exact pk_s hF
      · refine pk_w (fun w21 hF => ?_) (hF.pfI (by decide))
        exact pk_s hF
    · refine pk_g (fun _ => ?_)
      refine pk_i (fun _ => ?_) (fun _ => ?_)
      · refine pk_w (fun w30 hF => ?_) (hF.pfI (by decide))
        refine pk_c (f_X6_scan_b0 w a1 w30 hF) (fun e31 hF => ?_)
        refine pk_w (fun w32 hF => ?_) (hF.pfI (by decide))
        refine pk_i (fun _ => ?_) (fun _ => ?_)
        · refine pk_g (fun _ => ?_)
          refine pk_i (fun _ => ?_) (fun _ => ?_)
          · refine pk_g (fun _ => ?_)
            refine pk_i (fun _ => ?_) (fun _ => ?_)
            · refine pk_g (fun _ => ?_)
              refine pk_i (fun _ => ?_) (fun _ => ?_)
              · exact f_X6_scan_j162  w w32 hF
              · refine pk_g (fun _ => ?_)
                refine pk_v (fun q33 => ?_)
                refine pk_i (fun _ => ?_) (fun _ => ?_)
                · exact f_X6_scan_j162  w w32 hF
                · refine pk_g (fun _ => ?_)
                  exact f_X6_scan_j163  w (w32.1 66 (ix (w32.1 65 6))) w32 hF
            · refine pk_c (f_X6_scanNumber a1 w32) (fun q35 hQ => ?_)
              have hF := hF.next hQ (by decide) (by decide)
              exact pk_s hF
          · refine pk_c (f_X6_scanWord a1 w32) (fun q37 hQ => ?_)
            have hF := hF.next hQ (by decide) (by decide)
            exact pk_s hF
        · refine pk_w (fun w39 hF => ?_) (hF.pfI (by decide))
          exact pk_s hF
      · refine pk_w (fun w22 hF => ?_) (hF.pfI (by decide))
        refine pk_i (fun _ => ?_) (fun _ => ?_)
        · refine pk_g (fun _ => ?_)
          refine pk_i (fun _ => ?_) (fun _ => ?_)
          · refine pk_g (fun _ => ?_)
            refine pk_i (fun _ => ?_) (fun _ => ?_)
            · refine pk_g (fun _ => ?_)
              refine pk_i (fun _ => ?_) (fun _ => ?_)
              · exact f_X6_scan_j162  w w22 hF
              · refine pk_g (fun _ => ?_)
                refine pk_v (fun q23 => ?_)
                refine pk_i (fun _ => ?_) (fun _ => ?_)
                · exact f_X6_scan_j162  w w22 hF
                · refine pk_g (fun _ => ?_)
                  exact f_X6_scan_j163  w (w22.1 66 (ix (w22.1 65 6))) w22 hF
            · refine pk_c (f_X6_scanNumber a1 w22) (fun q25 hQ => ?_)
              have hF := hF.next hQ (by decide) (by decide)
              exact pk_s hF
          · refine pk_c (f_X6_scanWord a1 w22) (fun q27 hQ => ?_)
            have hF := hF.next hQ (by decide) (by decide)
            exact pk_s hF
        · refine pk_w (fun w29 hF => ?_) (hF.pfI (by decide))
          exact pk_s hF
theorem f_X6_goOn (a1 : Int32) (w : Wd) : okF (X6_goOn  a1 w) (fun q => Fr [] [(65, 11)] w q.2) := by
  have hF : Fr [] [(65, 11)] w w := Fr.rf
  unfold X6_goOn
  refine pk_w (fun w1 hF => ?_) (hF.pfI (by decide))
  exact pk_s hF
theorem f_X6_takeRule (w : Wd) : okF (X6_takeRule   w) (fun q => Fr [35, 36, 37, 38, 39, 40, 41] [(30, 14), (65, 11)] w q.2) := by
  have hF : Fr [35, 36, 37, 38, 39, 40, 41] [(30, 14), (65, 11)] w w := Fr.rf
  unfold X6_takeRule
  refine pk_i (fun _ => ?_) (fun _ => ?_)
  · exact pk_s hF
  · refine pk_i (fun _ => ?_) (fun _ => ?_)
    · refine pk_i (fun _ => ?_) (fun _ => ?_)
      · refine pk_v (fun q1 => ?_)
        refine pk_i (fun _ => ?_) (fun _ => ?_)
        · refine pk_c (f_X0_openRule (w.2 65 9) w) (fun q3 hQ => ?_)
          have hF := hF.next hQ (by decide) (by decide)
          refine pk_c (f_X6_goOn (1 : Int32) q3) (fun q5 hQ => ?_)
          have hF := hF.next hQ (by decide) (by decide)
          exact pk_s hF
        · exact pk_s hF
      · exact pk_s hF
    · exact pk_s hF
theorem f_X6_takeOnly (a1 : Int32) (a2 : Int32) (w : Wd) : okF (X6_takeOnly  a1 a2 w) (fun q => Fr [] [(65, 11)] w q.2) := by
  have hF : Fr [] [(65, 11)] w w := Fr.rf
  unfold X6_takeOnly
  refine pk_i (fun _ => ?_) (fun _ => ?_)
  · refine pk_c (f_X6_goOn a2 w) (fun q1 hQ => ?_)
    have hF := hF.next hQ (by decide) (by decide)
    exact pk_s hF
  · exact pk_s hF
theorem f_X6_takeStruckLabel (w : Wd) : okF (X6_takeStruckLabel   w) (fun q => Fr [36] [(65, 11)] w q.2) := by
  have hF : Fr [36] [(65, 11)] w w := Fr.rf
  unfold X6_takeStruckLabel
  refine pk_i (fun _ => ?_) (fun _ => ?_)
  · refine pk_c (f_X0_draftStrikes (w.2 65 9) w) (fun q1 hQ => ?_)
    have hF := hF.next hQ (by decide) (by decide)
    refine pk_c (f_X6_goOn (3 : Int32) q1) (fun q3 hQ => ?_)
    have hF := hF.next hQ (by decide) (by decide)
    exact pk_s hF
  · exact pk_s hF
theorem f_X6_openSum (a1 : Int32) (a2 : Int32) (w : Wd) : okF (X6_openSum  a1 a2 w) (fun q => Fr [] [(65, 11), (65, 12), (65, 14), (65, 16)] w q.2) := by
  have hF : Fr [] [(65, 11), (65, 12), (65, 14), (65, 16)] w w := Fr.rf
  unfold X6_openSum
  refine pk_w (fun w1 hF => ?_) (hF.pfI (by decide))
  refine pk_w (fun w2 hF => ?_) (hF.pfI (by decide))
  refine pk_w (fun w3 hF => ?_) (hF.pfI (by decide))
  refine pk_c (f_X6_goOn a2 w3) (fun q4 hQ => ?_)
  have hF := hF.next hQ (by decide) (by decide)
  exact pk_s hF
theorem f_X6_takeDoes_j76 (w0 : Wd) (w : Wd) (hF : Fr [37] [(65, 11), (65, 12), (65, 13), (65, 14), (65, 16)] w0 w) : okF (X6_takeDoes_j76  w) (fun q => Fr [37] [(65, 11), (65, 12), (65, 13), (65, 14), (65, 16)] w0 q.2) := by
  unfold X6_takeDoes_j76
  refine pk_c (f_X6_goOn (5 : Int32) w) (fun q8 hQ => ?_)
  have hF := hF.next hQ (by decide) (by decide)
  exact pk_s hF
theorem f_X6_takeDoes (w : Wd) : okF (X6_takeDoes   w) (fun q => Fr [37] [(65, 11), (65, 12), (65, 13), (65, 14), (65, 16)] w q.2) := by
  have hF : Fr [37] [(65, 11), (65, 12), (65, 13), (65, 14), (65, 16)] w w := Fr.rf
  unfold X6_takeDoes
  refine pk_w (fun w1 hF => ?_) (hF.pfI (by decide))
  refine pk_c (f_X0_draftDoes (w1.1 65 7) w1) (fun q2 hQ => ?_)
  have hF := hF.next hQ (by decide) (by decide)
  refine pk_i (fun _ => ?_) (fun _ => ?_)
  · refine pk_c (f_X6_openSum (1 : Int32) (7 : Int32) q2) (fun q4 hQ => ?_)
    have hF := hF.next hQ (by decide) (by decide)
    exact pk_s hF
  refine pk_i (fun _ => ?_) (fun _ => ?_)
  · exact pk_s hF
  refine pk_i (fun _ => ?_) (fun _ => ?_)
  · refine pk_c (f_X6_openSum (0 : Int32) (8 : Int32) q2) (fun q6 hQ => ?_)
    have hF := hF.next hQ (by decide) (by decide)
    exact pk_s hF
  refine pk_i (fun _ => ?_) (fun _ => ?_)
  · exact f_X6_takeDoes_j76  w q2 hF
  refine pk_i (fun _ => ?_) (fun _ => ?_)
  · exact f_X6_takeDoes_j76  w q2 hF
  refine pk_i (fun _ => ?_) (fun _ => ?_)
  · exact f_X6_takeDoes_j76  w q2 hF
  exact pk_s hF
theorem f_X6_takeLimit_j41 (w0 : Wd) (a1 : Int32) (s0 : Int32) (w : Wd) (hF : Fr [38] [(65, 11)] w0 w) : okF (X6_takeLimit_j41  a1 s0 w) (fun q => Fr [38] [(65, 11)] w0 q.2) := by
  unfold X6_takeLimit_j41
  refine pk_i (fun _ => ?_) (fun _ => ?_)
  · exact pk_s hF
  · refine pk_c (f_X0_draftLimit (w.1 65 10) w) (fun q1 hQ => ?_)
    have hF := hF.next hQ (by decide) (by decide)
    refine pk_c (f_X6_goOn (6 : Int32) q1) (fun q3 hQ => ?_)
    have hF := hF.next hQ (by decide) (by decide)
    exact pk_s hF
theorem f_X6_takeLimit_j24 (w0 : Wd) (s0 : Int32) (w : Wd) (hF : Fr [38] [(65, 11)] w0 w) : okF (X6_takeLimit_j24  s0 w) (fun q => Fr [38] [(65, 11)] w0 q.2) := by
  unfold X6_takeLimit_j24
  refine pk_i (fun _ => ?_) (fun _ => ?_)
  · exact f_X6_takeLimit_j41  w0 s0 (100 : Int32) w hF
  · exact f_X6_takeLimit_j41  w0 s0 (40 : Int32) w hF
theorem f_X6_takeLimit (w : Wd) : okF (X6_takeLimit   w) (fun q => Fr [38] [(65, 11)] w q.2) := by
  have hF : Fr [38] [(65, 11)] w w := Fr.rf
  unfold X6_takeLimit
  refine pk_i (fun _ => ?_) (fun _ => ?_)
  · refine pk_i (fun _ => ?_) (fun _ => ?_)
    · exact f_X6_takeLimit_j24  w (0 : Int32) w hF
    · exact f_X6_takeLimit_j24  w (1 : Int32) w hF
  · exact pk_s hF
theorem f_X6_await (a1 : Int32) (w : Wd) : okF (X6_await  a1 w) (fun q => Fr [68] [(65, 16)] w q) := by
  have hF : Fr [68] [(65, 16)] w w := Fr.rf
  unfold X6_await
  refine pk_i (fun _ => ?_) (fun _ => ?_)
  · exact pk_s hF
  · refine pk_g (fun _ => ?_)
    refine pk_w (fun w1 hF => ?_) (hF.puI (by decide))
    refine pk_w (fun w2 hF => ?_) (hF.pfI (by decide))
    exact pk_s hF
theorem f_X6_takeAtom (w : Wd) : okF (X6_takeAtom   w) (fun q => Fr [42, 68] [(30, 15), (65, 11), (65, 14), (65, 16)] w q.2) := by
  have hF : Fr [42, 68] [(30, 15), (65, 11), (65, 14), (65, 16)] w w := Fr.rf
  unfold X6_takeAtom
  refine pk_i (fun _ => ?_) (fun _ => ?_)
  · refine pk_i (fun _ => ?_) (fun _ => ?_)
    · refine pk_w (fun w9 hF => ?_) (hF.pfI (by decide))
      refine pk_c (f_X6_await (40 : Int32) w9) (fun q10 hQ => ?_)
      have hF := hF.next hQ (by decide) (by decide)
      refine pk_c (f_X6_goOn (8 : Int32) q10) (fun q12 hQ => ?_)
      have hF := hF.next hQ (by decide) (by decide)
      exact pk_s hF
    · exact pk_s hF
  · refine pk_i (fun _ => ?_) (fun _ => ?_)
    · refine pk_c (f_X0_addCode (w.1 65 10) w) (fun q5 hQ => ?_)
      have hF := hF.next hQ (by decide) (by decide)
      refine pk_c (f_X6_goOn (9 : Int32) q5) (fun q7 hQ => ?_)
      have hF := hF.next hQ (by decide) (by decide)
      exact pk_s hF
    · refine pk_i (fun _ => ?_) (fun _ => ?_)
      · exact pk_s hF
      · refine pk_c (f_X0_addCode (((10000 : Int32) + (w.1 65 7)) - (110 : Int32)) w) (fun q1 hQ => ?_)
        have hF := hF.next hQ (by decide) (by decide)
        refine pk_c (f_X6_goOn (9 : Int32) q1) (fun q3 hQ => ?_)
        have hF := hF.next hQ (by decide) (by decide)
        exact pk_s hF
theorem f_X6_takeOne (w : Wd) : okF (X6_takeOne   w) (fun q => Fr [42, 68] [(30, 15), (65, 11), (65, 14), (65, 16)] w q.2) := by
  have hF : Fr [42, 68] [(30, 15), (65, 11), (65, 14), (65, 16)] w w := Fr.rf
  unfold X6_takeOne
  refine pk_i (fun _ => ?_) (fun _ => ?_)
  · refine pk_c (f_X6_await (109 : Int32) w) (fun q3 hQ => ?_)
    have hF := hF.next hQ (by decide) (by decide)
    refine pk_c (f_X6_goOn (8 : Int32) q3) (fun q5 hQ => ?_)
    have hF := hF.next hQ (by decide) (by decide)
    exact pk_s hF
  · refine pk_c (f_X6_takeAtom w) (fun q1 hQ => ?_)
    have hF := hF.next hQ (by decide) (by decide)
    exact pk_s hF
theorem f_X6_release_b0 (w0 : Wd) (a1 : Int32) (s : Wd) (hF : Fr [42] [(30, 15), (65, 16)] w0 s) : okF (lp (X6_release_b0  a1) s) (fun e => Fr [42] [(30, 15), (65, 16)] w0 e) := by
  refine pk_lp (I := fun s => Fr [42] [(30, 15), (65, 16)] w0 s) (fun s hF => ?_) s hF
  unfold X6_release_b0
  refine pk_i (fun _ => ?_) (fun _ => ?_)
  · exact pk_s hF
  · refine pk_g (fun _ => ?_)
    refine pk_i (fun _ => ?_) (fun _ => ?_)
    · exact pk_s hF
    · refine pk_w (fun w4 hF => ?_) (hF.pfI (by decide))
      refine pk_g (fun _ => ?_)
      refine pk_c (f_X0_addCode ((10007 : Int32) + (w4.1 68 (ix (w4.1 65 16)))) w4) (fun q5 hQ => ?_)
      have hF := hF.next hQ (by decide) (by decide)
      exact pk_s hF
theorem f_X6_release (a1 : Int32) (w : Wd) : okF (X6_release  a1 w) (fun q => Fr [42] [(30, 15), (65, 16)] w q) := by
  have hF : Fr [42] [(30, 15), (65, 16)] w w := Fr.rf
  unfold X6_release
  refine pk_i (fun _ => ?_) (fun _ => ?_)
  · exact pk_s hF
  · refine pk_g (fun _ => ?_)
    refine pk_i (fun _ => ?_) (fun _ => ?_)
    · exact pk_s hF
    · refine pk_w (fun w1 hF => ?_) (hF.pfI (by decide))
      refine pk_g (fun _ => ?_)
      refine pk_c (f_X0_addCode ((10007 : Int32) + (w1.1 68 (ix (w1.1 65 16)))) w1) (fun q2 hQ => ?_)
      have hF := hF.next hQ (by decide) (by decide)
      refine pk_c (f_X6_release_b0 w a1 q2 hF) (fun e7 hF => ?_)
      exact pk_s hF
theorem f_X6_takeOperator (a1 : Int32) (a2 : Int32) (w : Wd) : okF (X6_takeOperator  a1 a2 w) (fun q => Fr [42, 68] [(30, 15), (65, 11), (65, 12), (65, 16)] w q.2) := by
  have hF : Fr [42, 68] [(30, 15), (65, 11), (65, 12), (65, 16)] w w := Fr.rf
  unfold X6_takeOperator
  refine pk_c (f_X6_release (X6_bindingOf (w.1 65 7) w) w) (fun q1 hQ => ?_)
  have hF := hF.next hQ (by decide) (by decide)
  refine pk_c (f_X6_await (q1.1 65 7) q1) (fun q3 hQ => ?_)
  have hF := hF.next hQ (by decide) (by decide)
  refine pk_w (fun w5 hF => ?_) (hF.pfI (by decide))
  refine pk_c (f_X6_goOn a2 w5) (fun q6 hQ => ?_)
  have hF := hF.next hQ (by decide) (by decide)
  exact pk_s hF
theorem f_X6_takeInSum_j54 (w0 : Wd) (w : Wd) (hF : Fr [42, 68] [(30, 15), (65, 11), (65, 12), (65, 14), (65, 16)] w0 w) : okF (X6_takeInSum_j54  w) (fun q => Fr [42, 68] [(30, 15), (65, 11), (65, 12), (65, 14), (65, 16)] w0 q.2) := by
  unfold X6_takeInSum_j54
  refine pk_w (fun w3 hF => ?_) (hF.pfI (by decide))
  exact pk_s hF
theorem f_X6_takeInSum (w : Wd) : okF (X6_takeInSum   w) (fun q => Fr [42, 68] [(30, 15), (65, 11), (65, 12), (65, 14), (65, 16)] w q.2) := by
  have hF : Fr [42, 68] [(30, 15), (65, 11), (65, 12), (65, 14), (65, 16)] w w := Fr.rf
  unfold X6_takeInSum
  refine pk_i (fun _ => ?_) (fun _ => ?_)
  · refine pk_i (fun _ => ?_) (fun _ => ?_)
    · refine pk_c (f_X6_release (1 : Int32) w) (fun q1 hQ => ?_)
      have hF := hF.next hQ (by decide) (by decide)
      refine pk_i (fun _ => ?_) (fun _ => ?_)
      · exact f_X6_takeInSum_j54  w q1 hF
      · refine pk_w (fun w4 hF => ?_) (hF.pfI (by decide))
        exact f_X6_takeInSum_j54  w w4 hF
    · exact pk_s hF
  · refine pk_c (f_X6_takeOperator (w.1 65 12) (8 : Int32) w) (fun q5 hQ => ?_)
    have hF := hF.next hQ (by decide) (by decide)
    exact pk_s hF
theorem f_X6_openUnless (w : Wd) : okF (X6_openUnless   w) (fun q => Fr [40, 42] [(30, 15), (65, 11), (65, 12), (65, 14), (65, 16)] w q.2) := by
  have hF : Fr [40, 42] [(30, 15), (65, 11), (65, 12), (65, 14), (65, 16)] w w := Fr.rf
  unfold X6_openUnless
  refine pk_c (f_X6_release (1 : Int32) w) (fun q1 hQ => ?_)
  have hF := hF.next hQ (by decide) (by decide)
  refine pk_c (f_X0_draftUnless q1) (fun q3 hQ => ?_)
  have hF := hF.next hQ (by decide) (by decide)
  refine pk_c (f_X6_openSum (1 : Int32) (7 : Int32) q3) (fun q5 hQ => ?_)
  have hF := hF.next hQ (by decide) (by decide)
  exact pk_s hF
theorem f_X6_closeRule (w : Wd) : okF (X6_closeRule   w) (fun q => Fr [40, 41, 42] [(30, 15), (65, 11), (65, 16)] w q.2) := by
  have hF : Fr [40, 41, 42] [(30, 15), (65, 11), (65, 16)] w w := Fr.rf
  unfold X6_closeRule
  refine pk_c (f_X6_release (1 : Int32) w) (fun q1 hQ => ?_)
  have hF := hF.next hQ (by decide) (by decide)
  refine pk_c (f_X0_closeRule q1) (fun q3 hQ => ?_)
  have hF := hF.next hQ (by decide) (by decide)
  refine pk_c (f_X6_goOn (0 : Int32) q3) (fun q5 hQ => ?_)
  have hF := hF.next hQ (by decide) (by decide)
  exact pk_s hF
theorem f_X6_takeBehindSum_j72 (w0 : Wd) (w : Wd) (hF : Fr [40, 41, 42, 68] [(30, 15), (65, 11), (65, 12), (65, 14), (65, 16)] w0 w) : okF (X6_takeBehindSum_j72  w) (fun q => Fr [40, 41, 42, 68] [(30, 15), (65, 11), (65, 12), (65, 14), (65, 16)] w0 q.2) := by
  unfold X6_takeBehindSum_j72
  refine pk_i (fun _ => ?_) (fun _ => ?_)
  · refine pk_c (f_X6_takeOperator (2 : Int32) (8 : Int32) w) (fun q3 hQ => ?_)
    have hF := hF.next hQ (by decide) (by decide)
    exact pk_s hF
  · exact pk_s hF
theorem f_X6_takeBehindSum_j92 (w0 : Wd) (w : Wd) (hF : Fr [40, 41, 42, 68] [(30, 15), (65, 11), (65, 12), (65, 14), (65, 16)] w0 w) : okF (X6_takeBehindSum_j92  w) (fun q => Fr [40, 41, 42, 68] [(30, 15), (65, 11), (65, 12), (65, 14), (65, 16)] w0 q.2) := by
  unfold X6_takeBehindSum_j92
  refine pk_i (fun _ => ?_) (fun _ => ?_)
  · refine pk_c (f_X6_takeOperator (1 : Int32) (7 : Int32) w) (fun q9 hQ => ?_)
    have hF := hF.next hQ (by decide) (by decide)
    exact pk_s hF
  · exact pk_s hF
theorem f_X6_takeBehindSum (w : Wd) : okF (X6_takeBehindSum   w) (fun q => Fr [40, 41, 42, 68] [(30, 15), (65, 11), (65, 12), (65, 14), (65, 16)] w q.2) := by
  have hF : Fr [40, 41, 42, 68] [(30, 15), (65, 11), (65, 12), (65, 14), (65, 16)] w w := Fr.rf
  unfold X6_takeBehindSum
  refine pk_i (fun _ => ?_) (fun _ => ?_)
  · refine pk_i (fun _ => ?_) (fun _ => ?_)
    · exact pk_s hF
    · refine pk_c (f_X6_closeRule w) (fun q1 hQ => ?_)
      have hF := hF.next hQ (by decide) (by decide)
      exact pk_s hF
  refine pk_i (fun _ => ?_) (fun _ => ?_)
  · exact f_X6_takeBehindSum_j72  w w hF
  refine pk_i (fun _ => ?_) (fun _ => ?_)
  · exact f_X6_takeBehindSum_j72  w w hF
  refine pk_i (fun _ => ?_) (fun _ => ?_)
  · exact f_X6_takeBehindSum_j72  w w hF
  refine pk_i (fun _ => ?_) (fun _ => ?_)
  · refine pk_i (fun _ => ?_) (fun _ => ?_)
    · exact pk_s hF
    · refine pk_v (fun q5 => ?_)
      refine pk_i (fun _ => ?_) (fun _ => ?_)
      · refine pk_c (f_X6_openUnless w) (fun q7 hQ => ?_)
        have hF := hF.next hQ (by decide) (by decide)
        exact pk_s hF
      · exact pk_s hF
  refine pk_i (fun _ => ?_) (fun _ => ?_)
  · exact f_X6_takeBehindSum_j92  w w hF
  refine pk_i (fun _ => ?_) (fun _ => ?_)
  · exact f_X6_takeBehindSum_j92  w w hF
  exact pk_s hF
theorem f_X6_take_j144 (w0 : Wd) (w : Wd) (hF : Fr [35, 36, 37, 38, 39, 40, 41, 42, 68] [(30, 14), (30, 15), (65, 11), (65, 12), (65, 13), (65, 14), (65, 16)] w0 w) : okF (X6_take_j144  w) (fun q => Fr [35, 36, 37, 38, 39, 40, 41, 42, 68] [(30, 14), (30, 15), (65, 11), (65, 12), (65, 13), (65, 14), (65, 16)] w0 q.2) := by
  unfold X6_take_j144
  refine pk_c (f_X6_takeInSum w) (fun q21 hQ => ?_)
  have hF := hF.next hQ (by decide) (by decide)
  exact pk_s hF
theorem f_X6_take (w : Wd) : okF (X6_take   w) (fun q => Fr [35, 36, 37, 38, 39, 40, 41, 42, 68] [(30, 14), (30, 15), (65, 11), (65, 12), (65, 13), (65, 14), (65, 16)] w q.2) := by
  have hF : Fr [35, 36, 37, 38, 39, 40, 41, 42, 68] [(30, 14), (30, 15), (65, 11), (65, 12), (65, 13), (65, 14), (65, 16)] w w := Fr.rf
  unfold X6_take
  refine pk_i (fun _ => ?_) (fun _ => ?_)
  · refine pk_c (f_X6_takeRule w) (fun q1 hQ => ?_)
    have hF := hF.next hQ (by decide) (by decide)
    exact pk_s hF
  refine pk_i (fun _ => ?_) (fun _ => ?_)
  · refine pk_i (fun _ => ?_) (fun _ => ?_)
    · refine pk_c (f_X6_goOn (2 : Int32) w) (fun q5 hQ => ?_)
      have hF := hF.next hQ (by decide) (by decide)
      exact pk_s hF
    · refine pk_c (f_X6_takeOnly (58 : Int32) (4 : Int32) w) (fun q3 hQ => ?_)
      have hF := hF.next hQ (by decide) (by decide)
      exact pk_s hF
  refine pk_i (fun _ => ?_) (fun _ => ?_)
  · refine pk_c (f_X6_takeStruckLabel w) (fun q7 hQ => ?_)
    have hF := hF.next hQ (by decide) (by decide)
    exact pk_s hF
  refine pk_i (fun _ => ?_) (fun _ => ?_)
  · refine pk_c (f_X6_takeOnly (58 : Int32) (4 : Int32) w) (fun q9 hQ => ?_)
    have hF := hF.next hQ (by decide) (by decide)
    exact pk_s hF
  refine pk_i (fun _ => ?_) (fun _ => ?_)
  · refine pk_c (f_X6_takeDoes w) (fun q11 hQ => ?_)
    have hF := hF.next hQ (by decide) (by decide)
    exact pk_s hF
  refine pk_i (fun _ => ?_) (fun _ => ?_)
  · refine pk_c (f_X6_takeLimit w) (fun q13 hQ => ?_)
    have hF := hF.next hQ (by decide) (by decide)
    exact pk_s hF
  refine pk_i (fun _ => ?_) (fun _ => ?_)
  · refine pk_c (f_X6_takeOnly (59 : Int32) (0 : Int32) w) (fun q15 hQ => ?_)
    have hF := hF.next hQ (by decide) (by decide)
    exact pk_s hF
  refine pk_i (fun _ => ?_) (fun _ => ?_)
  · refine pk_c (f_X6_takeOne w) (fun q17 hQ => ?_)
    have hF := hF.next hQ (by decide) (by decide)
    exact pk_s hF
  refine pk_i (fun _ => ?_) (fun _ => ?_)
  · refine pk_c (f_X6_takeAtom w) (fun q19 hQ => ?_)
    have hF := hF.next hQ (by decide) (by decide)
    exact pk_s hF
  refine pk_i (fun _ => ?_) (fun _ => ?_)
  · exact f_X6_take_j144  w w hF
  · refine pk_i (fun _ => ?_) (fun _ => ?_)
    · refine pk_c (f_X6_takeBehindSum w) (fun q23 hQ => ?_)
      have hF := hF.next hQ (by decide) (by decide)
      exact pk_s hF
    · exact f_X6_take_j144  w w hF
theorem f_X6_parse_j99 (w0 : Wd) (a1 : Int32) (a3 : Int32) (s0 : Int32) (w : Wd) (hF : Fr [35, 36, 37, 38, 39, 40, 41, 42, 68] [(30, 14), (30, 15), (65, 4), (65, 5), (65, 6), (65, 7), (65, 8), (65, 9), (65, 10), (65, 11), (65, 12), (65, 13), (65, 14), (65, 16)] w0 w) : okF (X6_parse_j99  a1 a3 s0 w) (sel (fun s => Fr [35, 36, 37, 38, 39, 40, 41, 42, 68] [(30, 14), (30, 15), (65, 4), (65, 5), (65, 6), (65, 7), (65, 8), (65, 9), (65, 10), (65, 11), (65, 12), (65, 13), (65, 14), (65, 16)] w0 s.2.2) (fun e => Fr [35, 36, 37, 38, 39, 40, 41, 42, 68] [(30, 14), (30, 15), (65, 4), (65, 5), (65, 6), (65, 7), (65, 8), (65, 9), (65, 10), (65, 11), (65, 12), (65, 13), (65, 14), (65, 16)] w0 e)) := by
  unfold X6_parse_j99
  exact pk_s hF
theorem f_X6_parse_j94 (w0 : Wd) (a1 : Int32) (a3 : Int32) (w : Wd) (hF : Fr [35, 36, 37, 38, 39, 40, 41, 42, 68] [(30, 14), (30, 15), (65, 4), (65, 5), (65, 6), (65, 7), (65, 8), (65, 9), (65, 10), (65, 11), (65, 12), (65, 13), (65, 14), (65, 16)] w0 w) : okF (X6_parse_j94  a1 a3 w) (sel (fun s => Fr [35, 36, 37, 38, 39, 40, 41, 42, 68] [(30, 14), (30, 15), (65, 4), (65, 5), (65, 6), (65, 7), (65, 8), (65, 9), (65, 10), (65, 11), (65, 12), (65, 13), (65, 14), (65, 16)] w0 s.2.2) (fun e => Fr [35, 36, 37, 38, 39, 40, 41, 42, 68] [(30, 14), (30, 15), (65, 4), (65, 5), (65, 6), (65, 7), (65, 8), (65, 9), (65, 10), (65, 11), (65, 12), (65, 13), (65, 14), (65, 16)] w0 e)) := by
  unfold X6_parse_j94
  exact f_X6_parse_j99  w0 a1 a3 (1 : Int32) w hF
theorem f_X6_parse_j81 (w0 : Wd) (a1 : Int32) (a3 : Int32) (a4 : Int32) (w : Wd) (hF : Fr [35, 36, 37, 38, 39, 40, 41, 42, 68] [(30, 14), (30, 15), (65, 4), (65, 5), (65, 6), (65, 7), (65, 8), (65, 9), (65, 10), (65, 11), (65, 12), (65, 13), (65, 14), (65, 16)] w0 w) : okF (X6_parse_j81  a1 a3 a4 w) (sel (fun s => Fr [35, 36, 37, 38, 39, 40, 41, 42, 68] [(30, 14), (30, 15), (65, 4), (65, 5), (65, 6), (65, 7), (65, 8), (65, 9), (65, 10), (65, 11), (65, 12), (65, 13), (65, 14), (65, 16)] w0 s.2.2) (fun e => Fr [35, 36, 37, 38, 39, 40, 41, 42, 68] [(30, 14), (30, 15), (65, 4), (65, 5), (65, 6), (65, 7), (65, 8), (65, 9), (65, 10), (65, 11), (65, 12), (65, 13), (65, 14), (65, 16)] w0 e)) := by
  unfold X6_parse_j81
  refine pk_i (fun _ => ?_) (fun _ => ?_)
  · refine pk_i (fun _ => ?_) (fun _ => ?_)
    · exact f_X6_parse_j94  w0 a1 a3 w hF
    · exact f_X6_parse_j99  w0 a1 a3 (0 : Int32) w hF
  · exact f_X6_parse_j94  w0 a1 a3 w hF
theorem f_X6_parse_j60 (w0 : Wd) (a1 : Int32) (a3 : Int32) (s0 : Int32) (w : Wd) (hF : Fr [35, 36, 37, 38, 39, 40, 41, 42, 68] [(30, 14), (30, 15), (65, 4), (65, 5), (65, 6), (65, 7), (65, 8), (65, 9), (65, 10), (65, 11), (65, 12), (65, 13), (65, 14), (65, 16)] w0 w) : okF (X6_parse_j60  a1 a3 s0 w) (sel (fun s => Fr [35, 36, 37, 38, 39, 40, 41, 42, 68] [(30, 14), (30, 15), (65, 4), (65, 5), (65, 6), (65, 7), (65, 8), (65, 9), (65, 10), (65, 11), (65, 12), (65, 13), (65, 14), (65, 16)] w0 s.2.2) (fun e => Fr [35, 36, 37, 38, 39, 40, 41, 42, 68] [(30, 14), (30, 15), (65, 4), (65, 5), (65, 6), (65, 7), (65, 8), (65, 9), (65, 10), (65, 11), (65, 12), (65, 13), (65, 14), (65, 16)] w0 e)) := by
  unfold X6_parse_j60
  refine pk_i (fun _ => ?_) (fun _ => ?_)
  · exact f_X6_parse_j81  w0 a1 a3 s0 w hF
  · refine pk_w (fun w11 hF => ?_) (hF.pfI (by decide))
    refine pk_w (fun w12 hF => ?_) (hF.pfI (by decide))
    exact f_X6_parse_j81  w0 a1 a3 s0 w12 hF
theorem f_X6_parse_b31 (w0 : Wd) (a1 : Int32) (s : (Int32 × Int32 × Wd)) (hF : Fr [35, 36, 37, 38, 39, 40, 41, 42, 68] [(30, 14), (30, 15), (65, 4), (65, 5), (65, 6), (65, 7), (65, 8), (65, 9), (65, 10), (65, 11), (65, 12), (65, 13), (65, 14), (65, 16)] w0 s.2.2) : okF (lp (X6_parse_b31  a1) s) (fun e => Fr [35, 36, 37, 38, 39, 40, 41, 42, 68] [(30, 14), (30, 15), (65, 4), (65, 5), (65, 6), (65, 7), (65, 8), (65, 9), (65, 10), (65, 11), (65, 12), (65, 13), (65, 14), (65, 16)] w0 e) := by
  refine pk_lp (I := fun s => Fr [35, 36, 37, 38, 39, 40, 41, 42, 68] [(30, 14), (30, 15), (65, 4), (65, 5), (65, 6), (65, 7), (65, 8), (65, 9), (65, 10), (65, 11), (65, 12), (65, 13), (65, 14), (65, 16)] w0 s.2.2) (fun s hF => ?_) s hF
  unfold X6_parse_b31
  refine pk_i (fun _ => ?_) (fun _ => ?_)
  · exact pk_s hF
  · refine pk_i (fun _ => ?_) (fun _ => ?_)
    · refine pk_c (f_X6_scan a1 s.2.2) (fun q7 hQ => ?_)
      have hF := hF.next hQ (by decide) (by decide)
      refine pk_i (fun _ => ?_) (fun _ => ?_)
      · exact f_X6_parse_j60  w0 a1 s.2.1 (1 : Int32) q7 hF
      · refine pk_c (f_X6_take q7) (fun q9 hQ => ?_)
        have hF := hF.next hQ (by decide) (by decide)
        exact f_X6_parse_j60  w0 a1 s.2.1 q9.1 q9.2 hF
    · exact pk_s hF
theorem f_X6_parse (a1 : Int32) (w : Wd) : okF (X6_parse  a1 w) (fun q => Fr [35, 36, 37, 38, 39, 40, 41, 42, 68] [(30, 14), (30, 15), (65, 4), (65, 5), (65, 6), (65, 7), (65, 8), (65, 9), (65, 10), (65, 11), (65, 12), (65, 13), (65, 14), (65, 16)] w q) := by
  have hF : Fr [35, 36, 37, 38, 39, 40, 41, 42, 68] [(30, 14), (30, 15), (65, 4), (65, 5), (65, 6), (65, 7), (65, 8), (65, 9), (65, 10), (65, 11), (65, 12), (65, 13), (65, 14), (65, 16)] w w := Fr.rf
  unfold X6_parse
  refine pk_c (f_X0_openText w) (fun q1 hQ => ?_)
  have hF := hF.next hQ (by decide) (by decide)
  refine pk_w (fun w3 hF => ?_) (hF.pfI (by decide))
  refine pk_w (fun w4 hF => ?_) (hF.pfI (by decide))
  refine pk_w (fun w5 hF => ?_) (hF.pfI (by decide))
  refine pk_w (fun w6 hF => ?_) (hF.pfI (by decide))
  refine pk_c (f_X6_parse_b31 w a1 ((0 : Int32), (0 : Int32), w6) hF) (fun e13 hF => ?_)
  exact pk_s hF
theorem f_X7_begin (a1 : Int32) (w : Wd) : okF (X7_begin  a1 w) (fun q => Fr [] [(88, 0)] w q) := by
  have hF : Fr [] [(88, 0)] w w := Fr.rf
  unfold X7_begin
  refine pk_w (fun w1 hF => ?_) (hF.pfI (by decide))
  exact pk_s hF
theorem f_X7_name (a1 : Int32) (a2 : Int32) (a3 : Int32) (w : Wd) : okF (X7_name  a1 a2 a3 w) (fun q => Fr [89, 90] [] w q) := by
  have hF : Fr [89, 90] [] w w := Fr.rf
  unfold X7_name
  refine pk_g (fun _ => ?_)
  refine pk_w (fun w1 hF => ?_) (hF.puI (by decide))
  refine pk_g (fun _ => ?_)
  refine pk_w (fun w2 hF => ?_) (hF.puI (by decide))
  exact pk_s hF
theorem f_X7_measure_j119 (w0 : Wd) (a3 : Int32) (a4 : Int32) (a5 : Int32) (s0 : Int32) (s1 : Int32) (w : Wd) (hF : Fr [18, 91] [] w0 w) : okF (X7_measure_j119  a3 a4 a5 s0 s1 w) (sel (fun s => Fr [18, 91] [] w0 s.2) (fun e => Fr [18, 91] [] w0 e)) := by
  unfold X7_measure_j119
  refine pk_g (fun _ => ?_)
  refine pk_w (fun w5 hF => ?_) (hF.puI (by decide))
  exact pk_s hF
theorem f_X7_measure_j92 (w0 : Wd) (a3 : Int32) (a4 : Int32) (a5 : Int32) (a6 : Int32) (s0 : Int32) (w : Wd) (hF : Fr [18, 91] [] w0 w) : okF (X7_measure_j92  a3 a4 a5 a6 s0 w) (sel (fun s => Fr [18, 91] [] w0 s.2) (fun e => Fr [18, 91] [] w0 e)) := by
  unfold X7_measure_j92
  refine pk_i (fun _ => ?_) (fun _ => ?_)
  · exact f_X7_measure_j119  w0 a3 a4 a5 (1000 : Int32) ((a5 * (7 : Int32)) + a4) w hF
  · exact f_X7_measure_j119  w0 a3 a4 a5 a6 ((a5 * (7 : Int32)) + a4) w hF
theorem f_X7_measure_j91 (w0 : Wd) (a3 : Int32) (a4 : Int32) (a5 : Int32) (a6 : Int32) (w : Wd) (hF : Fr [18, 91] [] w0 w) : okF (X7_measure_j91  a3 a4 a5 a6 w) (sel (fun s => Fr [18, 91] [] w0 s.2) (fun e => Fr [18, 91] [] w0 e)) := by
  unfold X7_measure_j91
  exact f_X7_measure_j92  w0 a3 a4 a5 a6 (0 : Int32) w hF
theorem f_X7_measure_b32 (w0 : Wd) (a3 : Int32) (a4 : Int32) (s : (Int32 × Wd)) (hF : Fr [18, 91] [] w0 s.2) : okF (lp (X7_measure_b32  a3 a4) s) (fun e => Fr [18, 91] [] w0 e) := by
  refine pk_lp (I := fun s => Fr [18, 91] [] w0 s.2) (fun s hF => ?_) s hF
  unfold X7_measure_b32
  refine pk_i (fun _ => ?_) (fun _ => ?_)
  · exact pk_s hF
  · refine pk_g (fun _ => ?_)
    refine pk_g (fun _ => ?_)
    refine pk_v (fun q3 => ?_)
    refine pk_i (fun _ => ?_) (fun _ => ?_)
    · exact f_X7_measure_j91  w0 a3 a4 s.1 q3 s.2 hF
    · refine pk_g (fun _ => ?_)
      refine pk_g (fun _ => ?_)
      refine pk_v (fun q6 => ?_)
      refine pk_i (fun _ => ?_) (fun _ => ?_)
      · exact f_X7_measure_j91  w0 a3 a4 s.1 q3 s.2 hF
      · exact f_X7_measure_j92  w0 a3 a4 s.1 q3 (1 : Int32) s.2 hF
theorem f_X7_measure_b3 (w0 : Wd) (a3 : Int32) (s : (Int32 × Wd)) (hF : Fr [18, 91] [] w0 s.2) : okF (lp (X7_measure_b3  a3) s) (fun e => Fr [18, 91] [] w0 e) := by
  refine pk_lp (I := fun s => Fr [18, 91] [] w0 s.2) (fun s hF => ?_) s hF
  unfold X7_measure_b3
  refine pk_i (fun _ => ?_) (fun _ => ?_)
  · exact pk_s hF
  · refine pk_g (fun _ => ?_)
    refine pk_g (fun _ => ?_)
    refine pk_c (f_X2_travel (s.2.1 16 (ix (s.2.1 90 (ix s.1)))) a3 s.2) (fun q1 hQ => ?_)
    have hF := hF.next hQ (by decide) (by decide)
    refine pk_c (f_X7_measure_b32 w0 a3 s.1 ((0 : Int32), q1) hF) (fun e8 hF => ?_)
    exact pk_s hF
theorem f_X7_measure (a3 : Int32) (w : Wd) : okF (X7_measure  a3 w) (fun q => Fr [18, 91] [] w q) := by
  have hF : Fr [18, 91] [] w w := Fr.rf
  unfold X7_measure
  refine pk_c (f_X7_measure_b3 w a3 ((0 : Int32), w) hF) (fun e9 hF => ?_)
  exact pk_s hF
theorem f_X7_keep_j155 (w0 : Wd) (a1 : Int32) (a2 : Int32) (a3 : Int32) (w : Wd) (hF : Fr [94] [(88, 6)] w0 w) : okF (X7_keep_j155  a1 a2 a3 w) (sel (fun s => Fr [94] [(88, 6)] w0 s.2.2) (fun e => Fr [94] [(88, 6)] w0 e)) := by
  unfold X7_keep_j155
  exact pk_s hF
theorem f_X7_keep_b4 (w0 : Wd) (a1 : Int32) (s : (Int32 × Int32 × Wd)) (hF : Fr [94] [(88, 6)] w0 s.2.2) : okF (lp (X7_keep_b4  a1) s) (fun e => Fr [94] [(88, 6)] w0 e) := by
  refine pk_lp (I := fun s => Fr [94] [(88, 6)] w0 s.2.2) (fun s hF => ?_) s hF
  unfold X7_keep_b4
  refine pk_i (fun _ => ?_) (fun _ => ?_)
  · exact pk_s hF
  · refine pk_v (fun e6 => ?_)
    refine pk_i (fun _ => ?_) (fun _ => ?_)
    · exact f_X7_keep_j155  w0 a1 s.1 s.2.1 s.2.2 hF
    · refine pk_g (fun _ => ?_)
      refine pk_g (fun _ => ?_)
      refine pk_w (fun w7 hF => ?_) (hF.puI (by decide))
      refine pk_v (fun z8 => ?_)
      exact f_X7_keep_j155  w0 a1 z8 s.2.1 w7 hF
theorem f_X7_keep (a1 : Int32) (w : Wd) : okF (X7_keep  a1 w) (fun q => Fr [94] [(88, 6)] w q) := by
  have hF : Fr [94] [(88, 6)] w w := Fr.rf
  unfold X7_keep
  refine pk_c (f_X7_keep_b4 w a1 (a1, (0 : Int32), w) hF) (fun e9 hF => ?_)
  refine pk_w (fun w10 hF => ?_) (hF.pfI (by decide))
  exact pk_s hF
theorem f_X7_choose_b25 (w0 : Wd) (a1 : Int32) (s : (Int32 × Wd)) (hF : Fr [92, 93, 94] [(88, 6)] w0 s.2) : okF (lp (X7_choose_b25  a1) s) (fun e => Fr [92, 93, 94] [(88, 6)] w0 e) := by
  refine pk_lp (I := fun s => Fr [92, 93, 94] [(88, 6)] w0 s.2) (fun s hF => ?_) s hF
  unfold X7_choose_b25
  refine pk_i (fun _ => ?_) (fun _ => ?_)
  · exact pk_s hF
  · refine pk_v (fun q4 => ?_)
    refine pk_g (fun _ => ?_)
    refine pk_w (fun w6 hF => ?_) (hF.puI (by decide))
    exact pk_s hF
theorem f_X7_choose_b63 (w0 : Wd) (a1 : Int32) (s : (Int32 × Wd)) (hF : Fr [92, 93, 94] [(88, 6)] w0 s.2) : okF (lp (X7_choose_b63  a1) s) (fun e => Fr [92, 93, 94] [(88, 6)] w0 e) := by
  refine pk_lp (I := fun s => Fr [92, 93, 94] [(88, 6)] w0 s.2) (fun s hF => ?_) s hF
  unfold X7_choose_b63
  refine pk_i (fun _ => ?_) (fun _ => ?_)
  · exact pk_s hF
  · refine pk_g (fun _ => ?_)
    refine pk_v (fun q8 => ?_)
    refine pk_g (fun _ => ?_)
    refine pk_w (fun w10 hF => ?_) (hF.puI (by decide))
    exact pk_s hF
theorem f_X7_choose (w : Wd) : okF (X7_choose   w) (fun q => Fr [92, 93, 94] [(88, 6)] w q.2) := by
  have hF : Fr [92, 93, 94] [(88, 6)] w w := Fr.rf
  unfold X7_choose
  refine pk_v (fun z1 => ?_)
  refine pk_g (fun _ => ?_)
  refine pk_w (fun w2 hF => ?_) (hF.puI (by decide))
  refine pk_g (fun _ => ?_)
  refine pk_w (fun w3 hF => ?_) (hF.puI (by decide))
  refine pk_c (f_X7_choose_b25 w z1 ((1 : Int32), w3) hF) (fun e7 hF => ?_)
  refine pk_g (fun _ => ?_)
  refine pk_i (fun _ => ?_) (fun _ => ?_)
  · refine pk_c (f_X7_choose_b63 w z1 ((1 : Int32), e7) hF) (fun e11 hF => ?_)
    refine pk_c (f_X7_keep z1 e11) (fun q12 hQ => ?_)
    have hF := hF.next hQ (by decide) (by decide)
    refine pk_g (fun _ => ?_)
    exact pk_s hF
  · exact pk_s hF
theorem f_X8_admits_j68 (si : Nat) (hsi : si < 4) (w0 : Wd) (a3 : Int32) (w : Wd) (hF : Fr [44] [] w0 w) : okF (X8_admits_j68 si a3 w) (sel (fun s => Fr [44] [] w0 s.2) (fun e => match e with | (.inl e) => Fr [44] [] w0 e | (.inr e) => Fr [44] [] w0 e)) := by
  unfold X8_admits_j68
  exact pk_s hF
theorem f_X8_admits_b2 (si : Nat) (hsi : si < 4) (w0 : Wd) (s : (Int32 × Wd)) (hF : Fr [44] [] w0 s.2) : okF (lp (X8_admits_b2 si ) s) (fun e => match e with | (.inl e) => Fr [44] [] w0 e | (.inr e) => Fr [44] [] w0 e) := by
  refine pk_lp (I := fun s => Fr [44] [] w0 s.2) (fun s hF => ?_) s hF
  unfold X8_admits_b2
  refine pk_i (fun _ => ?_) (fun _ => ?_)
  · exact pk_s hF
  · refine pk_g (fun _ => ?_)
    refine pk_v (fun z1 => ?_)
    refine pk_g (fun _ => ?_)
    refine pk_g (fun _ => ?_)
    refine pk_c (f_X0_run (s.2.1 39 (ix z1)) (s.2.1 40 (ix z1)) s.2) (fun q2 hQ => ?_)
    have hF := hF.next hQ (by decide) (by decide)
    refine pk_i (fun _ => ?_) (fun _ => ?_)
    · exact f_X8_admits_j68 si hsi w0 s.1 q2.2 hF
    · refine pk_g (fun _ => ?_)
      refine pk_g (fun _ => ?_)
      refine pk_c (f_X0_run (q2.2.1 40 (ix z1)) (q2.2.1 41 (ix z1)) q2.2) (fun q4 hQ => ?_)
      have hF := hF.next hQ (by decide) (by decide)
      refine pk_i (fun _ => ?_) (fun _ => ?_)
      · exact pk_s hF
      · exact f_X8_admits_j68 si hsi w0 s.1 q4.2 hF
theorem f_X8_admits (si : Nat) (hsi : si < 4) (w : Wd) : okF (X8_admits si  w) (fun q => Fr [44] [] w q.2) := by
  have hF : Fr [44] [] w w := Fr.rf
  unfold X8_admits
  refine pk_c (f_X8_admits_b2 si hsi w ((0 : Int32), w) hF) (fun e6 hF => ?_)
  rcases e6 with e7 | e8
  · exact pk_s hF
  · refine pk_i (fun _ => ?_) (fun _ => ?_)
    · exact pk_s hF
    · exact pk_s hF
theorem f_X8_hoursFor_j91 (si : Nat) (hsi : si < 4) (w0 : Wd) (a3 : Int32) (a4 : Int64) (a6 : Int32) (w : Wd) (hF : Fr [44] [] w0 w) : okF (X8_hoursFor_j91 si a3 a4 a6 w) (sel (fun s => Fr [44] [] w0 s.2.2.2) (fun e => Fr [44] [] w0 e.2.2)) := by
  unfold X8_hoursFor_j91
  exact pk_s hF
theorem f_X8_hoursFor_j87 (si : Nat) (hsi : si < 4) (w0 : Wd) (a6 : Int32) (s0 : Int64) (w : Wd) (hF : Fr [44] [] w0 w) : okF (X8_hoursFor_j87 si a6 s0 w) (sel (fun s => Fr [44] [] w0 s.2.2.2) (fun e => Fr [44] [] w0 e.2.2)) := by
  unfold X8_hoursFor_j87
  exact f_X8_hoursFor_j91 si hsi w0 (1 : Int32) s0 a6 w hF
theorem f_X8_hoursFor_b8 (si : Nat) (hsi : si < 4) (w0 : Wd) (s : (Int32 × Int64 × Int32 × Wd)) (hF : Fr [44] [] w0 s.2.2.2) : okF (lp (X8_hoursFor_b8 si ) s) (fun e => Fr [44] [] w0 e.2.2) := by
  refine pk_lp (I := fun s => Fr [44] [] w0 s.2.2.2) (fun s hF => ?_) s hF
  unfold X8_hoursFor_b8
  refine pk_i (fun _ => ?_) (fun _ => ?_)
  · exact pk_s hF
  · refine pk_g (fun _ => ?_)
    refine pk_v (fun z1 => ?_)
    refine pk_g (fun _ => ?_)
    refine pk_g (fun _ => ?_)
    refine pk_c (f_X0_run (s.2.2.2.1 40 (ix z1)) (s.2.2.2.1 41 (ix z1)) s.2.2.2) (fun q2 hQ => ?_)
    have hF := hF.next hQ (by decide) (by decide)
    refine pk_i (fun _ => ?_) (fun _ => ?_)
    · refine pk_g (fun _ => ?_)
      refine pk_g (fun _ => ?_)
      refine pk_c (f_X0_run (q2.2.1 39 (ix z1)) (q2.2.1 40 (ix z1)) q2.2) (fun q4 hQ => ?_)
      have hF := hF.next hQ (by decide) (by decide)
      refine pk_i (fun _ => ?_) (fun _ => ?_)
      · exact f_X8_hoursFor_j87 si hsi w0 s.2.2.1 q4.1 q4.2 hF
      · exact f_X8_hoursFor_j87 si hsi w0 s.2.2.1 (mxJ s.2.1 q4.1) q4.2 hF
    · exact f_X8_hoursFor_j91 si hsi w0 s.1 s.2.1 s.2.2.1 q2.2 hF
theorem f_X8_hoursFor (si : Nat) (hsi : si < 4) (w : Wd) : okF (X8_hoursFor si  w) (fun q => Fr [44] [] w q.2) := by
  have hF : Fr [44] [] w w := Fr.rf
  unfold X8_hoursFor
  refine pk_c (f_X8_hoursFor_b8 si hsi w ((0 : Int32), (0 : Int64), (0 : Int32), w) hF) (fun e6 hF => ?_)
  refine pk_i (fun _ => ?_) (fun _ => ?_)
  · exact pk_s hF
  · exact pk_s hF
theorem f_J7_fill_bad5a_b10 (kv : Nat) (nv : Nat) (hkv : sh kv = (2, nv)) (w0 : Wd) (a2 : Int32) (a3 : Int64) (s : (Int32 × Wd)) (hF : Fr (kv :: []) [] w0 s.2) : okF (lp (J7_fill_bad5a_b10 kv nv a2 a3) s) (fun e => Fr (kv :: []) [] w0 e) := by
  refine pk_lp (I := fun s => Fr (kv :: []) [] w0 s.2) (fun s hF => ?_) s hF
  unfold J7_fill_bad5a_b10
  refine pk_i (fun _ => ?_) (fun _ => ?_)
  · exact pk_s hF
  · refine pk_g (fun _ => ?_)
    refine pk_w (fun w3 hF => ?_) (hF.puJ (List.mem_cons_self))
    exact pk_s hF
theorem f_J7_fill_bad5a (kv : Nat) (nv : Nat) (hkv : sh kv = (2, nv)) (a1 : Int32) (a2 : Int32) (a3 : Int64) (w : Wd) : okF (J7_fill_bad5a kv nv a1 a2 a3 w) (fun q => Fr (kv :: []) [] w q) := by
  have hF : Fr (kv :: []) [] w w := Fr.rf
  unfold J7_fill_bad5a
  refine pk_v (fun q1 => ?_)
  refine pk_c (f_J7_fill_bad5a_b10 kv nv hkv w a2 a3 (a1, w) hF) (fun e4 hF => ?_)
  exact pk_s hF
theorem f_X9_lay (a1 : Int32) (a2 : Int32) (a3 : Int32) (w : Wd) : okF (X9_lay  a1 a2 a3 w) (fun q => Fr [2, 3, 4] [] w q) := by
  have hF : Fr [2, 3, 4] [] w w := Fr.rf
  unfold X9_lay
  refine pk_g (fun _ => ?_)
  refine pk_w (fun w1 hF => ?_) (hF.puI (by decide))
  refine pk_g (fun _ => ?_)
  refine pk_w (fun w2 hF => ?_) (hF.puI (by decide))
  refine pk_c (f_J7_fill_bad5a 2 240 sh_2 (a1 * (60 : Int32)) ((a1 * (60 : Int32)) + a3) (0 : Int64) w2) (fun q3 hQ => ?_)
  have hF := hF.next hQ (by decide) (by decide)
  exact pk_s hF
theorem f_X9_put (a1 : Int32) (a2 : Int32) (a3 : Int64) (w : Wd) : okF (X9_put  a1 a2 a3 w) (fun q => Fr [2] [] w q) := by
  have hF : Fr [2] [] w w := Fr.rf
  unfold X9_put
  refine pk_g (fun _ => ?_)
  refine pk_g (fun _ => ?_)
  refine pk_w (fun w1 hF => ?_) (hF.puJ (by decide))
  exact pk_s hF
theorem f_X9_carry (a1 : Int32) (a2 : Int32) (a3 : Int32) (a4 : Int32) (a5 : Int32) (w : Wd) : okF (X9_carry  a1 a2 a3 a4 a5 w) (fun q => Fr [2] [] w q) := by
  have hF : Fr [2] [] w w := Fr.rf
  unfold X9_carry
  refine pk_g (fun _ => ?_)
  refine pk_w (fun w1 hF => ?_) (hF.seJ (by decide))
  exact pk_s hF
theorem f_X10_relive (a1 : Int32) (w : Wd) : okF (X10_relive  a1 w) (fun q => Fr [] [(73, 4)] w q) := by
  have hF : Fr [] [(73, 4)] w w := Fr.rf
  unfold X10_relive
  refine pk_w (fun w1 hF => ?_) (hF.pfI (by decide))
  exact pk_s hF
theorem f_X10_gatherFacts_j140 (w0 : Wd) (a4 : Int32) (s0 : Int64) (s1 : Int32) (w : Wd) (hF : Fr [77] [] w0 w) : okF (X10_gatherFacts_j140  a4 s0 s1 w) (fun q => Fr [77] [] w0 q) := by
  unfold X10_gatherFacts_j140
  refine pk_g (fun _ => ?_)
  refine pk_w (fun w11 hF => ?_) (hF.puJ (by decide))
  refine pk_g (fun _ => ?_)
  refine pk_g (fun _ => ?_)
  refine pk_w (fun w12 hF => ?_) (hF.puJ (by decide))
  exact pk_s hF
theorem f_X10_gatherFacts_j116 (w0 : Wd) (a3 : Int32) (a4 : Int32) (s0 : Int64) (s1 : Int32) (w : Wd) (hF : Fr [77] [] w0 w) : okF (X10_gatherFacts_j116  a3 a4 s0 s1 w) (fun q => Fr [77] [] w0 q) := by
  unfold X10_gatherFacts_j116
  refine pk_g (fun _ => ?_)
  refine pk_w (fun w8 hF => ?_) (hF.puJ (by decide))
  refine pk_v (fun q9 => ?_)
  refine pk_i (fun _ => ?_) (fun _ => ?_)
  · exact f_X10_gatherFacts_j140  w0 a4 (0 : Int64) (5 : Int32) w8 hF
  · exact f_X10_gatherFacts_j140  w0 a4 (1 : Int64) (5 : Int32) w8 hF
theorem f_X10_gatherFacts (a1 : Int32) (a2 : Int32) (a3 : Int32) (w : Wd) : okF (X10_gatherFacts  a1 a2 a3 w) (fun q => Fr [77] [] w q) := by
  have hF : Fr [77] [] w w := Fr.rf
  unfold X10_gatherFacts
  refine pk_g (fun _ => ?_)
  refine pk_g (fun _ => ?_)
  refine pk_g (fun _ => ?_)
  refine pk_v (fun z1 => ?_)
  refine pk_g (fun _ => ?_)
  refine pk_g (fun _ => ?_)
  refine pk_w (fun w2 hF => ?_) (hF.puJ (by decide))
  refine pk_g (fun _ => ?_)
  refine pk_g (fun _ => ?_)
  refine pk_w (fun w3 hF => ?_) (hF.puJ (by decide))
  refine pk_g (fun _ => ?_)
  refine pk_g (fun _ => ?_)
  refine pk_w (fun w4 hF => ?_) (hF.puJ (by decide))
  refine pk_g (fun _ => ?_)
  refine pk_w (fun w5 hF => ?_) (hF.puJ (by decide))
  refine pk_i (fun _ => ?_) (fun _ => ?_)
  · exact f_X10_gatherFacts_j116  w a3 (w.1 17 (ix a2)) (0 : Int64) (4 : Int32) w5 hF
  · refine pk_v (fun q6 => ?_)
    exact f_X10_gatherFacts_j116  w a3 (w.1 17 (ix a2)) (Int32.toInt64 (J6_bitCount_0f7a4 q6 w5)) (4 : Int32) w5 hF
theorem f_X10_judge_j76 (w0 : Wd) (a3 : Int32) (a5 : Nat) (w : Wd) (ha5 : a5 < 4) (hF : Fr [44, 45, 46, 47, 48, 49, 50, 51, 52, 53, 54, 55, 56, 57, 58, 59, 60, 61, 62, 63, 64, 77, 78] [] w0 w) : okF (X10_judge_j76  a3 a5 w) (fun q => Fr [44, 45, 46, 47, 48, 49, 50, 51, 52, 53, 54, 55, 56, 57, 58, 59, 60, 61, 62, 63, 64, 77, 78] [] w0 q.2) := by
  unfold X10_judge_j76
  refine pk_c (f_X8_admits a5 ha5 w) (fun q5 hQ => ?_)
  have hF := hF.next hQ (by decide) (by decide)
  refine pk_i (fun _ => ?_) (fun _ => ?_)
  · exact pk_s hF
  · refine pk_g (fun _ => ?_)
    refine pk_i (fun _ => ?_) (fun _ => ?_)
    · refine pk_g (fun _ => ?_)
      refine pk_g (fun _ => ?_)
      refine pk_w (fun w7 hF => ?_) (hF.puI (by decide))
      refine pk_c (f_X8_hoursFor a5 ha5 w7) (fun q8 hQ => ?_)
      have hF := hF.next hQ (by decide) (by decide)
      exact pk_s hF
    · exact pk_s hF
theorem f_X10_judge (a1 : Int32) (a2 : Int32) (w : Wd) : okF (X10_judge  a1 a2 w) (fun q => Fr [44, 45, 46, 47, 48, 49, 50, 51, 52, 53, 54, 55, 56, 57, 58, 59, 60, 61, 62, 63, 64, 77, 78] [] w q.2) := by
  have hF : Fr [44, 45, 46, 47, 48, 49, 50, 51, 52, 53, 54, 55, 56, 57, 58, 59, 60, 61, 62, 63, 64, 77, 78] [] w w := Fr.rf
  unfold X10_judge
  refine pk_g (fun _ => ?_)
  refine pk_i (fun _ => ?_) (fun _ => ?_)
  · exact pk_s hF
  · refine pk_g (fun _ => ?_)
    refine pk_i (fun _ => ?_) (fun _ => ?_)
    · exact pk_s hF
    · refine pk_g (fun _ => ?_)
      refine pk_v (fun z1 => ?_)
      refine pk_g (fun _ => ?_)
      refine pk_c (f_X0_standingIn (w.1 6 (ix z1)) a2 w) (fun q2 hQ => ?_)
      have hF := hF.next hQ (by decide) (by decide)
      refine pk_g (fun h4 => ?_)
      refine pk_i (fun _ => ?_) (fun _ => ?_)
      · exact f_X10_judge_j76  w (w.1 27 (ix a1)) q2.1 q2.2 h4 hF
      · refine pk_c (f_X10_gatherFacts a1 (w.1 27 (ix a1)) a2 q2.2) (fun q10 hQ => ?_)
        have hF := hF.next hQ (by decide) (by decide)
        exact f_X10_judge_j76  w (w.1 27 (ix a1)) q2.1 q10 h4 hF
theorem f_J7_fill_eb02e_b10 (kv : Nat) (nv : Nat) (hkv : sh kv = (1, nv)) (w0 : Wd) (a2 : Int32) (a3 : Int32) (s : (Int32 × Wd)) (hF : Fr (kv :: []) [] w0 s.2) : okF (lp (J7_fill_eb02e_b10 kv nv a2 a3) s) (fun e => Fr (kv :: []) [] w0 e) := by
  refine pk_lp (I := fun s => Fr (kv :: []) [] w0 s.2) (fun s hF => ?_) s hF
  unfold J7_fill_eb02e_b10
  refine pk_i (fun _ => ?_) (fun _ => ?_)
  · exact pk_s hF
  · refine pk_g (fun _ => ?_)
    refine pk_w (fun w3 hF => ?_) (hF.puI (List.mem_cons_self))
    exact pk_s hF
theorem f_J7_fill_eb02e (kv : Nat) (nv : Nat) (hkv : sh kv = (1, nv)) (a1 : Int32) (a2 : Int32) (a3 : Int32) (w : Wd) : okF (J7_fill_eb02e kv nv a1 a2 a3 w) (fun q => Fr (kv :: []) [] w q) := by
  have hF : Fr (kv :: []) [] w w := Fr.rf
  unfold J7_fill_eb02e
  refine pk_v (fun q1 => ?_)
  refine pk_c (f_J7_fill_eb02e_b10 kv nv hkv w a2 a3 (a1, w) hF) (fun e4 hF => ?_)
  exact pk_s hF
theorem f_X10_live_j203 (w0 : Wd) (a1 : Int32) (a2 : Int32) (w : Wd) (hF : Fr [26, 27, 28, 29, 44, 45, 46, 47, 48, 49, 50, 51, 52, 53, 54, 55, 56, 57, 58, 59, 60, 61, 62, 63, 64, 74, 75, 76, 77, 78] [(19, 8)] w0 w) : okF (X10_live_j203  a1 a2 w) (sel (fun s => Fr [26, 27, 28, 29, 44, 45, 46, 47, 48, 49, 50, 51, 52, 53, 54, 55, 56, 57, 58, 59, 60, 61, 62, 63, 64, 74, 75, 76, 77, 78] [(19, 8)] w0 s.2) (fun e => Fr [26, 27, 28, 29, 44, 45, 46, 47, 48, 49, 50, 51, 52, 53, 54, 55, 56, 57, 58, 59, 60, 61, 62, 63, 64, 74, 75, 76, 77, 78] [(19, 8)] w0 e)) := by
  unfold X10_live_j203
  exact pk_s hF
theorem f_X10_live_j113 (w0 : Wd) (a1 : Int32) (a2 : Int32) (a3 : Int32) (a4 : Int32) (a5 : Int32) (a6 : Int32) (w : Wd) (hF : Fr [26, 27, 28, 29, 44, 45, 46, 47, 48, 49, 50, 51, 52, 53, 54, 55, 56, 57, 58, 59, 60, 61, 62, 63, 64, 74, 75, 76, 77, 78] [(19, 8)] w0 w) : okF (X10_live_j113  a1 a2 a3 a4 a5 a6 w) (sel (fun s => Fr [26, 27, 28, 29, 44, 45, 46, 47, 48, 49, 50, 51, 52, 53, 54, 55, 56, 57, 58, 59, 60, 61, 62, 63, 64, 74, 75, 76, 77, 78] [(19, 8)] w0 s.2) (fun e => Fr [26, 27, 28, 29, 44, 45, 46, 47, 48, 49, 50, 51, 52, 53, 54, 55, 56, 57, 58, 59, 60, 61, 62, 63, 64, 74, 75, 76, 77, 78] [(19, 8)] w0 e)) := by
  unfold X10_live_j113
  refine pk_g (fun _ => ?_)
  refine pk_w (fun w10 hF => ?_) (hF.puI (by decide))
  refine pk_i (fun _ => ?_) (fun _ => ?_)
  · refine pk_g (fun _ => ?_)
    refine pk_w (fun w11 hF => ?_) (hF.puI (by decide))
    refine pk_i (fun _ => ?_) (fun _ => ?_)
    · exact f_X10_live_j203  w0 a1 a2 w11 hF
    · refine pk_c (f_X3_forget 75 36000 sh_75 a5 w11) (fun q12 hQ => ?_)
      have hF := hF.next hQ (by decide) (by decide)
      exact f_X10_live_j203  w0 a1 a2 q12 hF
  · refine pk_g (fun _ => ?_)
    refine pk_v (fun q14 => ?_)
    refine pk_c (f_X3_learn 75 36000 sh_75 a5 q14 w10) (fun q16 hQ => ?_)
    have hF := hF.next hQ (by decide) (by decide)
    refine pk_g (fun _ => ?_)
    refine pk_w (fun w18 hF => ?_) (hF.puI (by decide))
    exact f_X10_live_j203  w0 a1 a2 w18 hF
theorem f_X10_live_b18 (w0 : Wd) (a1 : Int32) (s : (Int32 × Wd)) (hF : Fr [26, 27, 28, 29, 44, 45, 46, 47, 48, 49, 50, 51, 52, 53, 54, 55, 56, 57, 58, 59, 60, 61, 62, 63, 64, 74, 75, 76, 77, 78] [(19, 8)] w0 s.2) : okF (lp (X10_live_b18  a1) s) (fun e => Fr [26, 27, 28, 29, 44, 45, 46, 47, 48, 49, 50, 51, 52, 53, 54, 55, 56, 57, 58, 59, 60, 61, 62, 63, 64, 74, 75, 76, 77, 78] [(19, 8)] w0 e) := by
  refine pk_lp (I := fun s => Fr [26, 27, 28, 29, 44, 45, 46, 47, 48, 49, 50, 51, 52, 53, 54, 55, 56, 57, 58, 59, 60, 61, 62, 63, 64, 74, 75, 76, 77, 78] [(19, 8)] w0 s.2) (fun s hF => ?_) s hF
  unfold X10_live_b18
  refine pk_i (fun _ => ?_) (fun _ => ?_)
  · exact pk_s hF
  · refine pk_c (f_X10_judge s.1 a1 s.2) (fun q5 hQ => ?_)
    have hF := hF.next hQ (by decide) (by decide)
    refine pk_v (fun z7 => ?_)
    refine pk_i (fun _ => ?_) (fun _ => ?_)
    · refine pk_c (f_J7_fill_eb02e 75 36000 sh_75 z7 (z7 + (15 : Int32)) (0 : Int32) q5.2) (fun q19 hQ => ?_)
      have hF := hF.next hQ (by decide) (by decide)
      exact f_X10_live_j113  w0 a1 s.1 q5.1 (X10_cell s.1 a1 q5.2) z7 (0 : Int32) q19 hF
    · refine pk_v (fun z8 => ?_)
      refine pk_g (fun _ => ?_)
      refine pk_w (fun w9 hF => ?_) (hF.seI (by decide))
      refine pk_g (fun _ => ?_)
      exact f_X10_live_j113  w0 a1 s.1 q5.1 (X10_cell s.1 a1 q5.2) z7 (w9.1 76 (ix z8)) w9 hF
theorem f_X10_live (a1 : Int32) (w : Wd) : okF (X10_live  a1 w) (fun q => Fr [26, 27, 28, 29, 44, 45, 46, 47, 48, 49, 50, 51, 52, 53, 54, 55, 56, 57, 58, 59, 60, 61, 62, 63, 64, 74, 75, 76, 77, 78] [(19, 8)] w q) := by
  have hF : Fr [26, 27, 28, 29, 44, 45, 46, 47, 48, 49, 50, 51, 52, 53, 54, 55, 56, 57, 58, 59, 60, 61, 62, 63, 64, 74, 75, 76, 77, 78] [(19, 8)] w w := Fr.rf
  unfold X10_live
  refine pk_c (f_X4_callUp a1 w) (fun q1 hQ => ?_)
  have hF := hF.next hQ (by decide) (by decide)
  refine pk_c (f_J7_fill_53178 78 12 sh_78 (0 : Int32) q1) (fun q3 hQ => ?_)
  have hF := hF.next hQ (by decide) (by decide)
  refine pk_c (f_X10_live_b18 w a1 ((0 : Int32), q3) hF) (fun e21 hF => ?_)
  exact pk_s hF
theorem f_X10_reach_b5 (w0 : Wd) (a1 : Int32) (s : (Int32 × Wd)) (hF : Fr [26, 27, 28, 29, 44, 45, 46, 47, 48, 49, 50, 51, 52, 53, 54, 55, 56, 57, 58, 59, 60, 61, 62, 63, 64, 74, 75, 76, 77, 78] [(19, 8), (73, 4)] w0 s.2) : okF (lp (X10_reach_b5  a1) s) (fun e => Fr [26, 27, 28, 29, 44, 45, 46, 47, 48, 49, 50, 51, 52, 53, 54, 55, 56, 57, 58, 59, 60, 61, 62, 63, 64, 74, 75, 76, 77, 78] [(19, 8), (73, 4)] w0 e) := by
  refine pk_lp (I := fun s => Fr [26, 27, 28, 29, 44, 45, 46, 47, 48, 49, 50, 51, 52, 53, 54, 55, 56, 57, 58, 59, 60, 61, 62, 63, 64, 74, 75, 76, 77, 78] [(19, 8), (73, 4)] w0 s.2) (fun s hF => ?_) s hF
  unfold X10_reach_b5
  refine pk_i (fun _ => ?_) (fun _ => ?_)
  · exact pk_s hF
  · refine pk_c (f_X10_live s.1 s.2) (fun q1 hQ => ?_)
    have hF := hF.next hQ (by decide) (by decide)
    refine pk_w (fun w3 hF => ?_) (hF.pfI (by decide))
    exact pk_s hF
theorem f_X10_reach (a1 : Int32) (w : Wd) : okF (X10_reach  a1 w) (fun q => Fr [26, 27, 28, 29, 44, 45, 46, 47, 48, 49, 50, 51, 52, 53, 54, 55, 56, 57, 58, 59, 60, 61, 62, 63, 64, 74, 75, 76, 77, 78] [(19, 8), (73, 4)] w q) := by
  have hF : Fr [26, 27, 28, 29, 44, 45, 46, 47, 48, 49, 50, 51, 52, 53, 54, 55, 56, 57, 58, 59, 60, 61, 62, 63, 64, 74, 75, 76, 77, 78] [(19, 8), (73, 4)] w w := Fr.rf
  unfold X10_reach
  refine pk_c (f_X10_reach_b5 w a1 ((w.1 73 4), w) hF) (fun e4 hF => ?_)
  exact pk_s hF
theorem f_X10_foretell_j109 (w0 : Wd) (a3 : Int32) (a4 : Int32) (a6 : Int32) (a7 : Int32) (a8 : Int32) (w : Wd) (hF : Fr [79] [] w0 w) : okF (X10_foretell_j109  a3 a4 a6 a7 a8 w) (sel (fun s => Fr [79] [] w0 s.2.2) (fun e => Fr [79] [] w0 e)) := by
  unfold X10_foretell_j109
  exact pk_s hF
theorem f_X10_foretell_j106 (w0 : Wd) (a3 : Int32) (a4 : Int32) (a6 : Int32) (a7 : Int32) (a8 : Int32) (w : Wd) (hF : Fr [79] [] w0 w) : okF (X10_foretell_j106  a3 a4 a6 a7 a8 w) (sel (fun s => Fr [79] [] w0 s.2.2) (fun e => Fr [79] [] w0 e)) := by
  unfold X10_foretell_j106
  exact f_X10_foretell_j109  w0 a3 a4 a6 (a7 + (1 : Int32)) a8 w hF
theorem f_X10_foretell_b54 (w0 : Wd) (a3 : Int32) (a4 : Int32) (a6 : Int32) (s : (Int32 × Int32 × Wd)) (hF : Fr [79] [] w0 s.2.2) : okF (lp (X10_foretell_b54  a3 a4 a6) s) (fun e => Fr [79] [] w0 e) := by
  refine pk_lp (I := fun s => Fr [79] [] w0 s.2.2) (fun s hF => ?_) s hF
  unfold X10_foretell_b54
  refine pk_i (fun _ => ?_) (fun _ => ?_)
  · exact pk_s hF
  · refine pk_i (fun _ => ?_) (fun _ => ?_)
    · refine pk_i (fun _ => ?_) (fun _ => ?_)
      · exact f_X10_foretell_j106  w0 a3 a4 a6 s.1 s.2.1 s.2.2 hF
      · refine pk_c (f_X3_forget 79 15 sh_79 (0 : Int32) s.2.2) (fun q5 hQ => ?_)
        have hF := hF.next hQ (by decide) (by decide)
        exact f_X10_foretell_j106  w0 a3 a4 a6 s.1 s.2.1 q5 hF
    · refine pk_c (f_X3_learn 79 15 sh_79 (0 : Int32) a6 s.2.2) (fun q7 hQ => ?_)
      have hF := hF.next hQ (by decide) (by decide)
      exact f_X10_foretell_j109  w0 a3 a4 a6 s.1 s.2.1 q7 hF
theorem f_X10_foretell (a1 : Int32) (a2 : Int32) (a3 : Int32) (a4 : Int32) (w : Wd) : okF (X10_foretell  a1 a2 a3 a4 w) (fun q => Fr [79] [] w q.2) := by
  have hF : Fr [79] [] w w := Fr.rf
  unfold X10_foretell
  refine pk_g (fun _ => ?_)
  refine pk_w (fun w1 hF => ?_) (hF.seI (by decide))
  refine pk_g (fun _ => ?_)
  refine pk_v (fun q2 => ?_)
  refine pk_g (fun _ => ?_)
  refine pk_v (fun z4 => ?_)
  refine pk_c (f_X10_foretell_b54 w a3 a4 q2 (z4, (0 : Int32), w1) hF) (fun e9 hF => ?_)
  refine pk_v (fun q10 => ?_)
  exact pk_s hF
theorem f_X11_refuse (a1 : Int32) (w : Wd) : okF (X11_refuse  a1 w) (fun q => Fr [] [(0, 10)] w q.2) := by
  have hF : Fr [] [(0, 10)] w w := Fr.rf
  unfold X11_refuse
  refine pk_w (fun w1 hF => ?_) (hF.pfI (by decide))
  exact pk_s hF
theorem f_X11_agree (w : Wd) : okF (X11_agree   w) (fun q => Fr [] [(0, 10)] w q.2) := by
  have hF : Fr [] [(0, 10)] w w := Fr.rf
  unfold X11_agree
  refine pk_w (fun w1 hF => ?_) (hF.pfI (by decide))
  exact pk_s hF
theorem f_X11_tray_j26 (w0 : Wd) (w : Wd) (hF : Fr [2, 3, 4] [(0, 10)] w0 w) : okF (X11_tray_j26  w) (fun q => Fr [2, 3, 4] [(0, 10)] w0 q.2) := by
  unfold X11_tray_j26
  refine pk_c (f_X11_refuse (1 : Int32) w) (fun q1 hQ => ?_)
  have hF := hF.next hQ (by decide) (by decide)
  refine pk_g (fun _ => ?_)
  exact pk_s hF
theorem f_X11_tray (a1 : Int32) (a2 : Int32) (a3 : Int32) (w : Wd) : okF (X11_tray  a1 a2 a3 w) (fun q => Fr [2, 3, 4] [(0, 10)] w q.2) := by
  have hF : Fr [2, 3, 4] [(0, 10)] w w := Fr.rf
  unfold X11_tray
  refine pk_i (fun _ => ?_) (fun _ => ?_)
  · exact f_X11_tray_j26  w w hF
  · refine pk_i (fun _ => ?_) (fun _ => ?_)
    · exact f_X11_tray_j26  w w hF
    · refine pk_i (fun _ => ?_) (fun _ => ?_)
      · exact f_X11_tray_j26  w w hF
      · refine pk_c (f_X9_lay a1 a2 a3 w) (fun q3 hQ => ?_)
        have hF := hF.next hQ (by decide) (by decide)
        refine pk_c (f_X11_agree q3) (fun q5 hQ => ?_)
        have hF := hF.next hQ (by decide) (by decide)
        refine pk_g (fun _ => ?_)
        exact pk_s hF
theorem f_X11_write (a1 : Int32) (a2 : Int32) (a3 : Int64) (w : Wd) : okF (X11_write  a1 a2 a3 w) (fun q => Fr [2] [(0, 10)] w q.2) := by
  have hF : Fr [2] [(0, 10)] w w := Fr.rf
  unfold X11_write
  refine pk_v (fun q1 => ?_)
  refine pk_i (fun _ => ?_) (fun _ => ?_)
  · refine pk_c (f_X9_put a1 a2 a3 w) (fun q3 hQ => ?_)
    have hF := hF.next hQ (by decide) (by decide)
    refine pk_c (f_X11_agree q3) (fun q5 hQ => ?_)
    have hF := hF.next hQ (by decide) (by decide)
    refine pk_g (fun _ => ?_)
    exact pk_s hF
  · refine pk_c (f_X11_refuse q1 w) (fun q7 hQ => ?_)
    have hF := hF.next hQ (by decide) (by decide)
    refine pk_g (fun _ => ?_)
    exact pk_s hF
theorem f_X11_deny (a1 : Int32) (w : Wd) : okF (X11_deny  a1 w) (fun q => Fr [] [(0, 10)] w q.2) := by
  have hF : Fr [] [(0, 10)] w w := Fr.rf
  unfold X11_deny
  refine pk_w (fun w1 hF => ?_) (hF.pfI (by decide))
  exact pk_s hF
theorem f_X11_read (a1 : Int32) (a2 : Int32) (w : Wd) : okF (X11_read  a1 a2 w) (fun q => Fr [] [(0, 10)] w q.2) := by
  have hF : Fr [] [(0, 10)] w w := Fr.rf
  unfold X11_read
  refine pk_v (fun q1 => ?_)
  refine pk_i (fun _ => ?_) (fun _ => ?_)
  · refine pk_w (fun w3 hF => ?_) (hF.pfI (by decide))
    refine pk_v (fun q4 => ?_)
    exact pk_s hF
  · refine pk_c (f_X11_deny q1 w) (fun q6 hQ => ?_)
    have hF := hF.next hQ (by decide) (by decide)
    exact pk_s hF
theorem f_X11_pour_j28 (w0 : Wd) (w : Wd) (hF : Fr [2] [(0, 10)] w0 w) : okF (X11_pour_j28  w) (fun q => Fr [2] [(0, 10)] w0 q.2) := by
  unfold X11_pour_j28
  refine pk_c (f_X11_refuse (1 : Int32) w) (fun q1 hQ => ?_)
  have hF := hF.next hQ (by decide) (by decide)
  refine pk_g (fun _ => ?_)
  exact pk_s hF
theorem f_X11_pour_j56 (w0 : Wd) (w : Wd) (hF : Fr [2] [(0, 10)] w0 w) : okF (X11_pour_j56  w) (fun q => Fr [2] [(0, 10)] w0 q.2) := by
  unfold X11_pour_j56
  refine pk_c (f_X11_refuse (2 : Int32) w) (fun q5 hQ => ?_)
  have hF := hF.next hQ (by decide) (by decide)
  refine pk_g (fun _ => ?_)
  exact pk_s hF
theorem f_X11_pour_j110 (w0 : Wd) (w : Wd) (hF : Fr [2] [(0, 10)] w0 w) : okF (X11_pour_j110  w) (fun q => Fr [2] [(0, 10)] w0 q.2) := by
  unfold X11_pour_j110
  refine pk_c (f_X11_refuse (3 : Int32) w) (fun q13 hQ => ?_)
  have hF := hF.next hQ (by decide) (by decide)
  refine pk_g (fun _ => ?_)
  exact pk_s hF
theorem f_X11_pour (a1 : Int32) (a2 : Int32) (a3 : Int32) (a4 : Int32) (a5 : Int32) (w : Wd) : okF (X11_pour  a1 a2 a3 a4 a5 w) (fun q => Fr [2] [(0, 10)] w q.2) := by
  have hF : Fr [2] [(0, 10)] w w := Fr.rf
  unfold X11_pour
  refine pk_i (fun _ => ?_) (fun _ => ?_)
  · exact f_X11_pour_j28  w w hF
  · refine pk_i (fun _ => ?_) (fun _ => ?_)
    · exact f_X11_pour_j28  w w hF
    · refine pk_i (fun _ => ?_) (fun _ => ?_)
      · exact f_X11_pour_j28  w w hF
      · refine pk_i (fun _ => ?_) (fun _ => ?_)
        · exact f_X11_pour_j28  w w hF
        · refine pk_i (fun _ => ?_) (fun _ => ?_)
          · refine pk_v (fun q3 => ?_)
            refine pk_i (fun _ => ?_) (fun _ => ?_)
            · refine pk_v (fun q7 => ?_)
              refine pk_i (fun _ => ?_) (fun _ => ?_)
              · refine pk_v (fun q9 => ?_)
                refine pk_i (fun _ => ?_) (fun _ => ?_)
                · refine pk_c (f_X11_refuse (8 : Int32) w) (fun q21 hQ => ?_)
                  have hF := hF.next hQ (by decide) (by decide)
                  refine pk_g (fun _ => ?_)
                  exact pk_s hF
                · refine pk_v (fun q11 => ?_)
                  refine pk_i (fun _ => ?_) (fun _ => ?_)
                  · exact f_X11_pour_j110  w w hF
                  · refine pk_v (fun q15 => ?_)
                    refine pk_i (fun _ => ?_) (fun _ => ?_)
                    · exact f_X11_pour_j110  w w hF
                    · refine pk_c (f_X9_carry a1 a2 a3 a4 a5 w) (fun q17 hQ => ?_)
                      have hF := hF.next hQ (by decide) (by decide)
                      refine pk_c (f_X11_agree q17) (fun q19 hQ => ?_)
                      have hF := hF.next hQ (by decide) (by decide)
                      refine pk_g (fun _ => ?_)
                      exact pk_s hF
              · exact f_X11_pour_j56  w w hF
            · exact f_X11_pour_j56  w w hF
          · exact f_X11_pour_j28  w w hF
theorem f_X11_answer (a1 : Int32) (w : Wd) : okF (X11_answer  a1 w) (fun q => Fr [] [(0, 10)] w q.2) := by
  have hF : Fr [] [(0, 10)] w w := Fr.rf
  unfold X11_answer
  refine pk_w (fun w1 hF => ?_) (hF.pfI (by decide))
  exact pk_s hF
theorem f_X11_place (a1 : Int32) (w : Wd) : okF (X11_place  a1 w) (fun q => Fr [6] [(0, 10), (5, 0)] w q.2) := by
  have hF : Fr [6] [(0, 10), (5, 0)] w w := Fr.rf
  unfold X11_place
  refine pk_i (fun _ => ?_) (fun _ => ?_)
  · refine pk_c (f_X11_deny (1 : Int32) w) (fun q7 hQ => ?_)
    have hF := hF.next hQ (by decide) (by decide)
    exact pk_s hF
  · refine pk_i (fun _ => ?_) (fun _ => ?_)
    · refine pk_c (f_X2_addPlace a1 w) (fun q1 hQ => ?_)
      have hF := hF.next hQ (by decide) (by decide)
      refine pk_c (f_X11_answer q1.1 q1.2) (fun q3 hQ => ?_)
      have hF := hF.next hQ (by decide) (by decide)
      exact pk_s hF
    · refine pk_c (f_X11_deny (4 : Int32) w) (fun q5 hQ => ?_)
      have hF := hF.next hQ (by decide) (by decide)
      exact pk_s hF
theorem f_X11_way_j71 (w0 : Wd) (w : Wd) (hF : Fr [7, 8, 9, 10, 11] [(0, 10), (5, 2), (73, 4)] w0 w) : okF (X11_way_j71  w) (fun q => Fr [7, 8, 9, 10, 11] [(0, 10), (5, 2), (73, 4)] w0 q.2) := by
  unfold X11_way_j71
  refine pk_c (f_X11_deny (1 : Int32) w) (fun q1 hQ => ?_)
  have hF := hF.next hQ (by decide) (by decide)
  exact pk_s hF
theorem f_X11_way_j77 (w0 : Wd) (a1 : Int32) (a2 : Int32) (a3 : Int32) (a4 : Int32) (a5 : Int32) (w : Wd) (hF : Fr [7, 8, 9, 10, 11] [(0, 10), (5, 2), (73, 4)] w0 w) : okF (X11_way_j77  a1 a2 a3 a4 a5 w) (fun q => Fr [7, 8, 9, 10, 11] [(0, 10), (5, 2), (73, 4)] w0 q.2) := by
  unfold X11_way_j77
  refine pk_i (fun _ => ?_) (fun _ => ?_)
  · refine pk_v (fun q3 => ?_)
    refine pk_i (fun _ => ?_) (fun _ => ?_)
    · refine pk_c (f_X10_relive (0 : Int32) w) (fun q5 hQ => ?_)
      have hF := hF.next hQ (by decide) (by decide)
      refine pk_c (f_X2_addWay a1 a2 a3 a4 a5 q5) (fun q7 hQ => ?_)
      have hF := hF.next hQ (by decide) (by decide)
      refine pk_c (f_X11_answer q7.1 q7.2) (fun q9 hQ => ?_)
      have hF := hF.next hQ (by decide) (by decide)
      exact pk_s hF
    · refine pk_c (f_X11_deny (7 : Int32) w) (fun q11 hQ => ?_)
      have hF := hF.next hQ (by decide) (by decide)
      exact pk_s hF
  · refine pk_c (f_X11_deny (4 : Int32) w) (fun q13 hQ => ?_)
    have hF := hF.next hQ (by decide) (by decide)
    exact pk_s hF
theorem f_X11_way_j17 (w0 : Wd) (a1 : Int32) (a2 : Int32) (a3 : Int32) (a4 : Int32) (a5 : Int32) (s0 : Int32) (w : Wd) (hF : Fr [7, 8, 9, 10, 11] [(0, 10), (5, 2), (73, 4)] w0 w) : okF (X11_way_j17  a1 a2 a3 a4 a5 s0 w) (fun q => Fr [7, 8, 9, 10, 11] [(0, 10), (5, 2), (73, 4)] w0 q.2) := by
  unfold X11_way_j17
  refine pk_i (fun _ => ?_) (fun _ => ?_)
  · exact f_X11_way_j71  w0 w hF
  · refine pk_i (fun _ => ?_) (fun _ => ?_)
    · exact f_X11_way_j71  w0 w hF
    · refine pk_i (fun _ => ?_) (fun _ => ?_)
      · exact f_X11_way_j71  w0 w hF
      · refine pk_i (fun _ => ?_) (fun _ => ?_)
        · exact f_X11_way_j71  w0 w hF
        · refine pk_i (fun _ => ?_) (fun _ => ?_)
          · refine pk_i (fun _ => ?_) (fun _ => ?_)
            · exact f_X11_way_j71  w0 w hF
            · exact f_X11_way_j77  w0 a1 a2 a3 a4 a5 w hF
          · exact f_X11_way_j77  w0 a1 a2 a3 a4 a5 w hF
theorem f_X11_way_j16 (w0 : Wd) (a1 : Int32) (a2 : Int32) (a3 : Int32) (a4 : Int32) (a5 : Int32) (w : Wd) (hF : Fr [7, 8, 9, 10, 11] [(0, 10), (5, 2), (73, 4)] w0 w) : okF (X11_way_j16  a1 a2 a3 a4 a5 w) (fun q => Fr [7, 8, 9, 10, 11] [(0, 10), (5, 2), (73, 4)] w0 q.2) := by
  unfold X11_way_j16
  exact f_X11_way_j17  w0 a1 a2 a3 a4 a5 (0 : Int32) w hF
theorem f_X11_way (a1 : Int32) (a2 : Int32) (a3 : Int32) (a4 : Int32) (a5 : Int32) (w : Wd) : okF (X11_way  a1 a2 a3 a4 a5 w) (fun q => Fr [7, 8, 9, 10, 11] [(0, 10), (5, 2), (73, 4)] w q.2) := by
  have hF : Fr [7, 8, 9, 10, 11] [(0, 10), (5, 2), (73, 4)] w w := Fr.rf
  unfold X11_way
  refine pk_i (fun _ => ?_) (fun _ => ?_)
  · refine pk_i (fun _ => ?_) (fun _ => ?_)
    · exact f_X11_way_j17  w a1 a2 a3 a4 a5 (1 : Int32) w hF
    · exact f_X11_way_j16  w a1 a2 a3 a4 a5 w hF
  · exact f_X11_way_j16  w a1 a2 a3 a4 a5 w hF
theorem f_X11_answerOr (a1 : Int32) (a2 : Int32) (w : Wd) : okF (X11_answerOr  a1 a2 w) (fun q => Fr [] [(0, 10)] w q.2) := by
  have hF : Fr [] [(0, 10)] w w := Fr.rf
  unfold X11_answerOr
  refine pk_i (fun _ => ?_) (fun _ => ?_)
  · refine pk_c (f_X11_deny a1 w) (fun q3 hQ => ?_)
    have hF := hF.next hQ (by decide) (by decide)
    exact pk_s hF
  · refine pk_c (f_X11_answer a2 w) (fun q1 hQ => ?_)
    have hF := hF.next hQ (by decide) (by decide)
    exact pk_s hF
theorem f_X11_arrival_j29 (w0 : Wd) (w : Wd) (hF : Fr [18] [(0, 10)] w0 w) : okF (X11_arrival_j29  w) (fun q => Fr [18] [(0, 10)] w0 q.2) := by
  unfold X11_arrival_j29
  refine pk_c (f_X11_deny (1 : Int32) w) (fun q1 hQ => ?_)
  have hF := hF.next hQ (by decide) (by decide)
  exact pk_s hF
theorem f_X11_arrival (a1 : Int32) (a2 : Int32) (a3 : Int32) (w : Wd) : okF (X11_arrival  a1 a2 a3 w) (fun q => Fr [18] [(0, 10)] w q.2) := by
  have hF : Fr [18] [(0, 10)] w w := Fr.rf
  unfold X11_arrival
  refine pk_i (fun _ => ?_) (fun _ => ?_)
  · exact f_X11_arrival_j29  w w hF
  · refine pk_i (fun _ => ?_) (fun _ => ?_)
    · exact f_X11_arrival_j29  w w hF
    · refine pk_i (fun _ => ?_) (fun _ => ?_)
      · exact f_X11_arrival_j29  w w hF
      · refine pk_c (f_X2_travel a1 a3 w) (fun q3 hQ => ?_)
        have hF := hF.next hQ (by decide) (by decide)
        refine pk_v (fun q5 => ?_)
        refine pk_c (f_X11_answerOr (6 : Int32) q5 q3) (fun q7 hQ => ?_)
        have hF := hF.next hQ (by decide) (by decide)
        exact pk_s hF
theorem f_X11_learner_j30 (w0 : Wd) (w : Wd) (hF : Fr [12, 13, 14] [(0, 10), (5, 8), (73, 4)] w0 w) : okF (X11_learner_j30  w) (fun q => Fr [12, 13, 14] [(0, 10), (5, 8), (73, 4)] w0 q.2) := by
  unfold X11_learner_j30
  refine pk_c (f_X11_deny (1 : Int32) w) (fun q1 hQ => ?_)
  have hF := hF.next hQ (by decide) (by decide)
  exact pk_s hF
theorem f_X11_learner (a1 : Int32) (a2 : Int32) (a3 : Int32) (w : Wd) : okF (X11_learner  a1 a2 a3 w) (fun q => Fr [12, 13, 14] [(0, 10), (5, 8), (73, 4)] w q.2) := by
  have hF : Fr [12, 13, 14] [(0, 10), (5, 8), (73, 4)] w w := Fr.rf
  unfold X11_learner
  refine pk_i (fun _ => ?_) (fun _ => ?_)
  · exact f_X11_learner_j30  w w hF
  · refine pk_i (fun _ => ?_) (fun _ => ?_)
    · exact f_X11_learner_j30  w w hF
    · refine pk_i (fun _ => ?_) (fun _ => ?_)
      · exact f_X11_learner_j30  w w hF
      · refine pk_i (fun _ => ?_) (fun _ => ?_)
        · refine pk_c (f_X10_relive (0 : Int32) w) (fun q3 hQ => ?_)
          have hF := hF.next hQ (by decide) (by decide)
          refine pk_c (f_X2_addLearner a1 a2 a3 q3) (fun q5 hQ => ?_)
          have hF := hF.next hQ (by decide) (by decide)
          refine pk_c (f_X11_answer q5.1 q5.2) (fun q7 hQ => ?_)
          have hF := hF.next hQ (by decide) (by decide)
          exact pk_s hF
        · refine pk_c (f_X11_deny (4 : Int32) w) (fun q9 hQ => ?_)
          have hF := hF.next hQ (by decide) (by decide)
          exact pk_s hF
theorem f_X11_teacher_j21 (w0 : Wd) (w : Wd) (hF : Fr [15, 16] [(0, 10), (5, 12)] w0 w) : okF (X11_teacher_j21  w) (fun q => Fr [15, 16] [(0, 10), (5, 12)] w0 q.2) := by
  unfold X11_teacher_j21
  refine pk_c (f_X11_deny (1 : Int32) w) (fun q1 hQ => ?_)
  have hF := hF.next hQ (by decide) (by decide)
  exact pk_s hF
theorem f_X11_teacher (a1 : Int32) (a2 : Int32) (w : Wd) : okF (X11_teacher  a1 a2 w) (fun q => Fr [15, 16] [(0, 10), (5, 12)] w q.2) := by
  have hF : Fr [15, 16] [(0, 10), (5, 12)] w w := Fr.rf
  unfold X11_teacher
  refine pk_i (fun _ => ?_) (fun _ => ?_)
  · exact f_X11_teacher_j21  w w hF
  · refine pk_i (fun _ => ?_) (fun _ => ?_)
    · exact f_X11_teacher_j21  w w hF
    · refine pk_i (fun _ => ?_) (fun _ => ?_)
      · refine pk_c (f_X2_addTeacher a1 a2 w) (fun q3 hQ => ?_)
        have hF := hF.next hQ (by decide) (by decide)
        refine pk_c (f_X11_answer q3.1 q3.2) (fun q5 hQ => ?_)
        have hF := hF.next hQ (by decide) (by decide)
        exact pk_s hF
      · refine pk_c (f_X11_deny (4 : Int32) w) (fun q7 hQ => ?_)
        have hF := hF.next hQ (by decide) (by decide)
        exact pk_s hF
theorem f_X11_lamp (a1 : Int32) (w : Wd) : okF (X11_lamp  a1 w) (fun q => Fr [17] [(0, 10), (5, 15)] w q.2) := by
  have hF : Fr [17] [(0, 10), (5, 15)] w w := Fr.rf
  unfold X11_lamp
  refine pk_i (fun _ => ?_) (fun _ => ?_)
  · refine pk_c (f_X11_deny (1 : Int32) w) (fun q7 hQ => ?_)
    have hF := hF.next hQ (by decide) (by decide)
    exact pk_s hF
  · refine pk_i (fun _ => ?_) (fun _ => ?_)
    · refine pk_c (f_X2_addLamp a1 w) (fun q1 hQ => ?_)
      have hF := hF.next hQ (by decide) (by decide)
      refine pk_c (f_X11_answer q1.1 q1.2) (fun q3 hQ => ?_)
      have hF := hF.next hQ (by decide) (by decide)
      exact pk_s hF
    · refine pk_c (f_X11_deny (4 : Int32) w) (fun q5 hQ => ?_)
      have hF := hF.next hQ (by decide) (by decide)
      exact pk_s hF
theorem f_X11_note_j28 (w0 : Wd) (w : Wd) (hF : Fr [20, 21, 22, 23, 24, 25] [(0, 10), (19, 0), (19, 8), (73, 4)] w0 w) : okF (X11_note_j28  w) (fun q => Fr [20, 21, 22, 23, 24, 25] [(0, 10), (19, 0), (19, 8), (73, 4)] w0 q.2) := by
  unfold X11_note_j28
  refine pk_c (f_X11_refuse (1 : Int32) w) (fun q3 hQ => ?_)
  have hF := hF.next hQ (by decide) (by decide)
  refine pk_g (fun _ => ?_)
  exact pk_s hF
theorem f_X11_note_j108 (w0 : Wd) (w : Wd) (hF : Fr [20, 21, 22, 23, 24, 25] [(0, 10), (19, 0), (19, 8), (73, 4)] w0 w) : okF (X11_note_j108  w) (fun q => Fr [20, 21, 22, 23, 24, 25] [(0, 10), (19, 0), (19, 8), (73, 4)] w0 q.2) := by
  unfold X11_note_j108
  refine pk_c (f_X11_agree w) (fun q9 hQ => ?_)
  have hF := hF.next hQ (by decide) (by decide)
  refine pk_g (fun _ => ?_)
  exact pk_s hF
theorem f_X11_note (a1 : Int32) (a2 : Int32) (a3 : Int32) (a4 : Int32) (a5 : Int32) (a6 : Int32) (w : Wd) : okF (X11_note  a1 a2 a3 a4 a5 a6 w) (fun q => Fr [20, 21, 22, 23, 24, 25] [(0, 10), (19, 0), (19, 8), (73, 4)] w q.2) := by
  have hF : Fr [20, 21, 22, 23, 24, 25] [(0, 10), (19, 0), (19, 8), (73, 4)] w w := Fr.rf
  unfold X11_note
  refine pk_v (fun q1 => ?_)
  refine pk_i (fun _ => ?_) (fun _ => ?_)
  · exact f_X11_note_j28  w w hF
  · refine pk_i (fun _ => ?_) (fun _ => ?_)
    · exact f_X11_note_j28  w w hF
    · refine pk_i (fun _ => ?_) (fun _ => ?_)
      · exact f_X11_note_j28  w w hF
      · refine pk_i (fun _ => ?_) (fun _ => ?_)
        · refine pk_v (fun q5 => ?_)
          refine pk_i (fun _ => ?_) (fun _ => ?_)
          · refine pk_c (f_X4_add a1 a2 a3 a4 a5 a6 w) (fun q7 hQ => ?_)
            have hF := hF.next hQ (by decide) (by decide)
            refine pk_i (fun _ => ?_) (fun _ => ?_)
            · exact f_X11_note_j108  w q7 hF
            · refine pk_c (f_X10_relive a4 q7) (fun q11 hQ => ?_)
              have hF := hF.next hQ (by decide) (by decide)
              exact f_X11_note_j108  w q11 hF
          · refine pk_c (f_X11_refuse (5 : Int32) w) (fun q13 hQ => ?_)
            have hF := hF.next hQ (by decide) (by decide)
            refine pk_g (fun _ => ?_)
            exact pk_s hF
        · refine pk_c (f_X11_refuse (4 : Int32) w) (fun q15 hQ => ?_)
          have hF := hF.next hQ (by decide) (by decide)
          refine pk_g (fun _ => ?_)
          exact pk_s hF
theorem f_X11_asof (a1 : Int32) (w : Wd) : okF (X11_asof  a1 w) (fun q => Fr [] [(0, 10), (19, 7), (19, 8), (73, 4)] w q.2) := by
  have hF : Fr [] [(0, 10), (19, 7), (19, 8), (73, 4)] w w := Fr.rf
  unfold X11_asof
  refine pk_i (fun _ => ?_) (fun _ => ?_)
  · refine pk_c (f_X11_refuse (1 : Int32) w) (fun q7 hQ => ?_)
    have hF := hF.next hQ (by decide) (by decide)
    refine pk_g (fun _ => ?_)
    exact pk_s hF
  · refine pk_c (f_X4_lookFrom a1 w) (fun q1 hQ => ?_)
    have hF := hF.next hQ (by decide) (by decide)
    refine pk_c (f_X10_relive q1.1 q1.2) (fun q3 hQ => ?_)
    have hF := hF.next hQ (by decide) (by decide)
    refine pk_c (f_X11_agree q3) (fun q5 hQ => ?_)
    have hF := hF.next hQ (by decide) (by decide)
    refine pk_g (fun _ => ?_)
    exact pk_s hF
theorem f_X11_where_j45 (w0 : Wd) (w : Wd) (hF : Fr [26, 27, 28, 29] [(0, 10), (19, 8)] w0 w) : okF (X11_where_j45  w) (fun q => Fr [26, 27, 28, 29] [(0, 10), (19, 8)] w0 q.2) := by
  unfold X11_where_j45
  refine pk_c (f_X11_deny (1 : Int32) w) (fun q1 hQ => ?_)
  have hF := hF.next hQ (by decide) (by decide)
  exact pk_s hF
theorem f_X11_where_j87 (w0 : Wd) (s0 : Int32) (s1 : Int32) (w : Wd) (hF : Fr [26, 27, 28, 29] [(0, 10), (19, 8)] w0 w) : okF (X11_where_j87  s0 s1 w) (fun q => Fr [26, 27, 28, 29] [(0, 10), (19, 8)] w0 q.2) := by
  unfold X11_where_j87
  refine pk_c (f_X11_answerOr s1 s0 w) (fun q5 hQ => ?_)
  have hF := hF.next hQ (by decide) (by decide)
  exact pk_s hF
theorem f_X11_where_j51 (w0 : Wd) (a1 : Int32) (a2 : Int32) (a3 : Int32) (w : Wd) (hF : Fr [26, 27, 28, 29] [(0, 10), (19, 8)] w0 w) : okF (X11_where_j51  a1 a2 a3 w) (fun q => Fr [26, 27, 28, 29] [(0, 10), (19, 8)] w0 q.2) := by
  unfold X11_where_j51
  refine pk_c (f_X4_callUp a3 w) (fun q3 hQ => ?_)
  have hF := hF.next hQ (by decide) (by decide)
  refine pk_i (fun _ => ?_) (fun _ => ?_)
  · refine pk_g (fun _ => ?_)
    exact f_X11_where_j87  w0 (q3.1 26 (ix a2)) (6 : Int32) q3 hF
  · refine pk_g (fun _ => ?_)
    exact f_X11_where_j87  w0 (q3.1 27 (ix a2)) (6 : Int32) q3 hF
theorem f_X11_where (a1 : Int32) (a2 : Int32) (a3 : Int32) (w : Wd) : okF (X11_where  a1 a2 a3 w) (fun q => Fr [26, 27, 28, 29] [(0, 10), (19, 8)] w q.2) := by
  have hF : Fr [26, 27, 28, 29] [(0, 10), (19, 8)] w w := Fr.rf
  unfold X11_where
  refine pk_i (fun _ => ?_) (fun _ => ?_)
  · exact f_X11_where_j45  w w hF
  · refine pk_i (fun _ => ?_) (fun _ => ?_)
    · exact f_X11_where_j45  w w hF
    · refine pk_i (fun _ => ?_) (fun _ => ?_)
      · refine pk_i (fun _ => ?_) (fun _ => ?_)
        · exact f_X11_where_j45  w w hF
        · exact f_X11_where_j51  w a1 a2 a3 w hF
      · refine pk_i (fun _ => ?_) (fun _ => ?_)
        · exact f_X11_where_j45  w w hF
        · exact f_X11_where_j51  w a1 a2 a3 w hF
