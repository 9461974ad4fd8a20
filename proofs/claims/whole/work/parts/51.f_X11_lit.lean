theorem f_X11_lit_j18 (w0 : Wd) (w : Wd) (hF : Fr [26, 27, 28, 29] [(0, 10), (19, 8)] w0 w) : okF (X11_lit_j18  w) (fun q => Fr [26, 27, 28, 29] [(0, 10), (19, 8)] w0 q.2) := by
  unfold X11_lit_j18
  refine pk_c (f_X11_deny (1 : Int32) w) (fun q1 hQ => ?_)
  have hF := hF.next hQ (by decide) (by decide)
  exact pk_s hF
theorem f_X11_lit (a1 : Int32) (a2 : Int32) (w : Wd) : okF (X11_lit  a1 a2 w) (fun q => Fr [26, 27, 28, 29] [(0, 10), (19, 8)] w q.2) := by
  have hF : Fr [26, 27, 28, 29] [(0, 10), (19, 8)] w w := Fr.rf
  unfold X11_lit
  refine pk_i (fun _ => ?_) (fun _ => ?_)
  · exact f_X11_lit_j18  w w hF
  · refine pk_i (fun _ => ?_) (fun _ => ?_)
    · exact f_X11_lit_j18  w w hF
    · refine pk_c (f_X4_callUp a2 w) (fun q3 hQ => ?_)
      have hF := hF.next hQ (by decide) (by decide)
      refine pk_g (fun _ => ?_)
      refine pk_c (f_X11_answerOr (6 : Int32) (q3.1 28 (ix a1)) q3) (fun q5 hQ => ?_)
      have hF := hF.next hQ (by decide) (by decide)
      exact pk_s hF
theorem f_X11_feed (a1 : Int32) (a2 : Int32) (a3 : Int32) (a4 : Int32) (a5 : Int32) (w : Wd) : okF (X11_feed  a1 a2 a3 a4 a5 w) (fun q => Fr [66] [(65, 2)] w q.2) := by
  have hF : Fr [66] [(65, 2)] w w := Fr.rf
  unfold X11_feed
  refine pk_i (fun _ => ?_) (fun _ => ?_)
  · exact pk_s hF
  · refine pk_c (f_X6_append a1 w) (fun q1 hQ => ?_)
    have hF := hF.next hQ (by decide) (by decide)
    refine pk_c (f_X6_append a2 q1) (fun q3 hQ => ?_)
    have hF := hF.next hQ (by decide) (by decide)
    refine pk_c (f_X6_append a3 q3) (fun q5 hQ => ?_)
    have hF := hF.next hQ (by decide) (by decide)
    refine pk_c (f_X6_append a4 q5) (fun q7 hQ => ?_)
    have hF := hF.next hQ (by decide) (by decide)
    refine pk_c (f_X6_append a5 q7) (fun q9 hQ => ?_)
    have hF := hF.next hQ (by decide) (by decide)
    exact pk_s hF
theorem f_X11_orders_j32 (w0 : Wd) (w : Wd) (hF : Fr [31, 32, 33, 34, 35, 36, 37, 38, 39, 40, 41, 42, 68] [(0, 10), (30, 0), (30, 13), (30, 14), (30, 15), (65, 2), (65, 4), (65, 5), (65, 6), (65, 7), (65, 8), (65, 9), (65, 10), (65, 11), (65, 12), (65, 13), (65, 14), (65, 16), (73, 4)] w0 w) : okF (X11_orders_j32  w) (fun q => Fr [31, 32, 33, 34, 35, 36, 37, 38, 39, 40, 41, 42, 68] [(0, 10), (30, 0), (30, 13), (30, 14), (30, 15), (65, 2), (65, 4), (65, 5), (65, 6), (65, 7), (65, 8), (65, 9), (65, 10), (65, 11), (65, 12), (65, 13), (65, 14), (65, 16), (73, 4)] w0 q.2) := by
  unfold X11_orders_j32
  refine pk_c (f_X11_deny (1 : Int32) w) (fun q1 hQ => ?_)
  have hF := hF.next hQ (by decide) (by decide)
  exact pk_s hF
theorem f_X11_orders (a1 : Int32) (a2 : Int32) (a3 : Int32) (w : Wd) : okF (X11_orders  a1 a2 a3 w) (fun q => Fr [31, 32, 33, 34, 35, 36, 37, 38, 39, 40, 41, 42, 68] [(0, 10), (30, 0), (30, 13), (30, 14), (30, 15), (65, 2), (65, 4), (65, 5), (65, 6), (65, 7), (65, 8), (65, 9), (65, 10), (65, 11), (65, 12), (65, 13), (65, 14), (65, 16), (73, 4)] w q.2) := by
  have hF : Fr [31, 32, 33, 34, 35, 36, 37, 38, 39, 40, 41, 42, 68] [(0, 10), (30, 0), (30, 13), (30, 14), (30, 15), (65, 2), (65, 4), (65, 5), (65, 6), (65, 7), (65, 8), (65, 9), (65, 10), (65, 11), (65, 12), (65, 13), (65, 14), (65, 16), (73, 4)] w w := Fr.rf
  unfold X11_orders
  refine pk_i (fun _ => ?_) (fun _ => ?_)
  · exact f_X11_orders_j32  w w hF
  · refine pk_i (fun _ => ?_) (fun _ => ?_)
    · exact f_X11_orders_j32  w w hF
    · refine pk_i (fun _ => ?_) (fun _ => ?_)
      · exact f_X11_orders_j32  w w hF
      · refine pk_i (fun _ => ?_) (fun _ => ?_)
        · refine pk_c (f_X6_parse a1 w) (fun q3 hQ => ?_)
          have hF := hF.next hQ (by decide) (by decide)
          refine pk_w (fun w5 hF => ?_) (hF.pfI (by decide))
          refine pk_i (fun _ => ?_) (fun _ => ?_)
          · refine pk_c (f_X10_relive a2 w5) (fun q6 hQ => ?_)
            have hF := hF.next hQ (by decide) (by decide)
            refine pk_c (f_X0_keepText a2 a3 q6) (fun q8 hQ => ?_)
            have hF := hF.next hQ (by decide) (by decide)
            refine pk_c (f_X11_answer q8.1 q8.2) (fun q10 hQ => ?_)
            have hF := hF.next hQ (by decide) (by decide)
            exact pk_s hF
          · refine pk_c (f_X11_deny (9 : Int32) w5) (fun q12 hQ => ?_)
            have hF := hF.next hQ (by decide) (by decide)
            exact pk_s hF
        · refine pk_c (f_X11_deny (4 : Int32) w) (fun q14 hQ => ?_)
          have hF := hF.next hQ (by decide) (by decide)
          exact pk_s hF
theorem f_X11_rules_j23 (w0 : Wd) (w : Wd) (hF : Fr [45, 46, 47, 48, 49, 50, 51, 52, 53, 54, 55, 56, 57, 58, 59, 60, 61, 62, 63, 64] [(0, 10)] w0 w) : okF (X11_rules_j23  w) (fun q => Fr [45, 46, 47, 48, 49, 50, 51, 52, 53, 54, 55, 56, 57, 58, 59, 60, 61, 62, 63, 64] [(0, 10)] w0 q.2) := by
  unfold X11_rules_j23
  refine pk_c (f_X11_deny (1 : Int32) w) (fun q1 hQ => ?_)
  have hF := hF.next hQ (by decide) (by decide)
  exact pk_s hF
theorem f_X11_rules (a1 : Int32) (a2 : Int32) (a3 : Int32) (w : Wd) : okF (X11_rules  a1 a2 a3 w) (fun q => Fr [45, 46, 47, 48, 49, 50, 51, 52, 53, 54, 55, 56, 57, 58, 59, 60, 61, 62, 63, 64] [(0, 10)] w q.2) := by
  have hF : Fr [45, 46, 47, 48, 49, 50, 51, 52, 53, 54, 55, 56, 57, 58, 59, 60, 61, 62, 63, 64] [(0, 10)] w w := Fr.rf
  unfold X11_rules
  refine pk_i (fun _ => ?_) (fun _ => ?_)
  · exact f_X11_rules_j23  w w hF
  · refine pk_i (fun _ => ?_) (fun _ => ?_)
    · exact f_X11_rules_j23  w w hF
    · refine pk_i (fun _ => ?_) (fun _ => ?_)
      · exact f_X11_rules_j23  w w hF
      · refine pk_c (f_X0_standingIn a1 a2 w) (fun q3 hQ => ?_)
        have hF := hF.next hQ (by decide) (by decide)
        refine pk_g (fun h5 => ?_)
        refine pk_i (fun _ => ?_) (fun _ => ?_)
        · refine pk_c (f_X11_answer (q3.2.1 (stc q3.1) 1) q3.2) (fun q6 hQ => ?_)
          have hF := hF.next hQ (by decide) (by decide)
          exact pk_s hF
        refine pk_i (fun _ => ?_) (fun _ => ?_)
        · refine pk_c (f_X11_answer (q3.2.1 (stc q3.1) 8) q3.2) (fun q8 hQ => ?_)
          have hF := hF.next hQ (by decide) (by decide)
          exact pk_s hF
        refine pk_i (fun _ => ?_) (fun _ => ?_)
        · refine pk_c (f_X11_answer (q3.2.1 (stc q3.1) 9) q3.2) (fun q10 hQ => ?_)
          have hF := hF.next hQ (by decide) (by decide)
          exact pk_s hF
        refine pk_c (f_X11_answer (q3.2.1 (stc q3.1) 10) q3.2) (fun q12 hQ => ?_)
        have hF := hF.next hQ (by decide) (by decide)
        exact pk_s hF
theorem f_X11_answerWhether_j10 (w0 : Wd) (s0 : Int32) (w : Wd) (hF : Fr [] [(0, 10)] w0 w) : okF (X11_answerWhether_j10  s0 w) (fun q => Fr [] [(0, 10)] w0 q.2) := by
  unfold X11_answerWhether_j10
  refine pk_c (f_X11_answer s0 w) (fun q1 hQ => ?_)
  have hF := hF.next hQ (by decide) (by decide)
  exact pk_s hF
theorem f_X11_answerWhether (a1 : Int32) (w : Wd) : okF (X11_answerWhether  a1 w) (fun q => Fr [] [(0, 10)] w q.2) := by
  have hF : Fr [] [(0, 10)] w w := Fr.rf
  unfold X11_answerWhether
  refine pk_i (fun _ => ?_) (fun _ => ?_)
  · exact f_X11_answerWhether_j10  w (0 : Int32) w hF
  · exact f_X11_answerWhether_j10  w (1 : Int32) w hF
theorem f_X11_struck_j14 (w0 : Wd) (w : Wd) (hF : Fr [45, 46, 47, 48, 49, 50, 51, 52, 53, 54, 55, 56, 57, 58, 59, 60, 61, 62, 63, 64] [(0, 10)] w0 w) : okF (X11_struck_j14  w) (fun q => Fr [45, 46, 47, 48, 49, 50, 51, 52, 53, 54, 55, 56, 57, 58, 59, 60, 61, 62, 63, 64] [(0, 10)] w0 q.2) := by
  unfold X11_struck_j14
  refine pk_c (f_X11_deny (1 : Int32) w) (fun q1 hQ => ?_)
  have hF := hF.next hQ (by decide) (by decide)
  exact pk_s hF
theorem f_X11_struck (a1 : Int32) (a2 : Int32) (a3 : Int32) (w : Wd) : okF (X11_struck  a1 a2 a3 w) (fun q => Fr [45, 46, 47, 48, 49, 50, 51, 52, 53, 54, 55, 56, 57, 58, 59, 60, 61, 62, 63, 64] [(0, 10)] w q.2) := by
  have hF : Fr [45, 46, 47, 48, 49, 50, 51, 52, 53, 54, 55, 56, 57, 58, 59, 60, 61, 62, 63, 64] [(0, 10)] w w := Fr.rf
  unfold X11_struck
  refine pk_i (fun _ => ?_) (fun _ => ?_)
  · exact f_X11_struck_j14  w w hF
  · refine pk_i (fun _ => ?_) (fun _ => ?_)
    · exact f_X11_struck_j14  w w hF
    · refine pk_c (f_X0_standingIn a1 a2 w) (fun q3 hQ => ?_)
      have hF := hF.next hQ (by decide) (by decide)
      refine pk_g (fun h5 => ?_)
      refine pk_i (fun _ => ?_) (fun _ => ?_)
      · refine pk_c (f_X11_deny (1 : Int32) q3.2) (fun q8 hQ => ?_)
        have hF := hF.next hQ (by decide) (by decide)
        exact pk_s hF
      · refine pk_g (fun _ => ?_)
        refine pk_c (f_X11_answerWhether (q3.2.1 (stc q3.1 + 2) (ix a3)) q3.2) (fun q6 hQ => ?_)
        have hF := hF.next hQ (by decide) (by decide)
        exact pk_s hF
theorem f_X11_taught_j27 (w0 : Wd) (w : Wd) (hF : Fr [26, 27, 28, 29, 44, 45, 46, 47, 48, 49, 50, 51, 52, 53, 54, 55, 56, 57, 58, 59, 60, 61, 62, 63, 64, 74, 75, 76, 77, 78] [(0, 10), (19, 8), (73, 4)] w0 w) : okF (X11_taught_j27  w) (fun q => Fr [26, 27, 28, 29, 44, 45, 46, 47, 48, 49, 50, 51, 52, 53, 54, 55, 56, 57, 58, 59, 60, 61, 62, 63, 64, 74, 75, 76, 77, 78] [(0, 10), (19, 8), (73, 4)] w0 q.2) := by
  unfold X11_taught_j27
  refine pk_c (f_X11_deny (1 : Int32) w) (fun q1 hQ => ?_)
  have hF := hF.next hQ (by decide) (by decide)
  exact pk_s hF
theorem f_X11_taught_j93 (w0 : Wd) (s0 : Int32) (w : Wd) (hF : Fr [26, 27, 28, 29, 44, 45, 46, 47, 48, 49, 50, 51, 52, 53, 54, 55, 56, 57, 58, 59, 60, 61, 62, 63, 64, 74, 75, 76, 77, 78] [(0, 10), (19, 8), (73, 4)] w0 w) : okF (X11_taught_j93  s0 w) (fun q => Fr [26, 27, 28, 29, 44, 45, 46, 47, 48, 49, 50, 51, 52, 53, 54, 55, 56, 57, 58, 59, 60, 61, 62, 63, 64, 74, 75, 76, 77, 78] [(0, 10), (19, 8), (73, 4)] w0 q.2) := by
  unfold X11_taught_j93
  refine pk_c (f_X11_answerWhether s0 w) (fun q13 hQ => ?_)
  have hF := hF.next hQ (by decide) (by decide)
  exact pk_s hF
theorem f_X11_taught_j75 (w0 : Wd) (a3 : Int32) (a4 : Int32) (s0 : Int32) (w : Wd) (hF : Fr [26, 27, 28, 29, 44, 45, 46, 47, 48, 49, 50, 51, 52, 53, 54, 55, 56, 57, 58, 59, 60, 61, 62, 63, 64, 74, 75, 76, 77, 78] [(0, 10), (19, 8), (73, 4)] w0 w) : okF (X11_taught_j75  a3 a4 s0 w) (fun q => Fr [26, 27, 28, 29, 44, 45, 46, 47, 48, 49, 50, 51, 52, 53, 54, 55, 56, 57, 58, 59, 60, 61, 62, 63, 64, 74, 75, 76, 77, 78] [(0, 10), (19, 8), (73, 4)] w0 q.2) := by
  unfold X11_taught_j75
  refine pk_i (fun _ => ?_) (fun _ => ?_)
  · refine pk_i (fun _ => ?_) (fun _ => ?_)
    · exact f_X11_taught_j93  w0 (0 : Int32) w hF
    · exact f_X11_taught_j93  w0 (1 : Int32) w hF
  · refine pk_i (fun _ => ?_) (fun _ => ?_)
    · refine pk_c (f_X11_answerWhether s0 w) (fun q11 hQ => ?_)
      have hF := hF.next hQ (by decide) (by decide)
      exact pk_s hF
    · refine pk_i (fun _ => ?_) (fun _ => ?_)
      · refine pk_c (f_X11_deny (6 : Int32) w) (fun q7 hQ => ?_)
        have hF := hF.next hQ (by decide) (by decide)
        exact pk_s hF
      · refine pk_c (f_X11_answer (a4 - (3 : Int32)) w) (fun q9 hQ => ?_)
        have hF := hF.next hQ (by decide) (by decide)
        exact pk_s hF
theorem f_X11_taught (a1 : Int32) (a2 : Int32) (a3 : Int32) (w : Wd) : okF (X11_taught  a1 a2 a3 w) (fun q => Fr [26, 27, 28, 29, 44, 45, 46, 47, 48, 49, 50, 51, 52, 53, 54, 55, 56, 57, 58, 59, 60, 61, 62, 63, 64, 74, 75, 76, 77, 78] [(0, 10), (19, 8), (73, 4)] w q.2) := by
  have hF : Fr [26, 27, 28, 29, 44, 45, 46, 47, 48, 49, 50, 51, 52, 53, 54, 55, 56, 57, 58, 59, 60, 61, 62, 63, 64, 74, 75, 76, 77, 78] [(0, 10), (19, 8), (73, 4)] w w := Fr.rf
  unfold X11_taught
  refine pk_i (fun _ => ?_) (fun _ => ?_)
  · exact f_X11_taught_j27  w w hF
  · refine pk_i (fun _ => ?_) (fun _ => ?_)
    · exact f_X11_taught_j27  w w hF
    · refine pk_i (fun _ => ?_) (fun _ => ?_)
      · exact f_X11_taught_j27  w w hF
      · refine pk_c (f_X10_reach a2 w) (fun q3 hQ => ?_)
        have hF := hF.next hQ (by decide) (by decide)
        refine pk_v (fun q5 => ?_)
        refine pk_i (fun _ => ?_) (fun _ => ?_)
        · refine pk_c (f_X11_deny (6 : Int32) q3) (fun q15 hQ => ?_)
          have hF := hF.next hQ (by decide) (by decide)
          exact pk_s hF
        · refine pk_i (fun _ => ?_) (fun _ => ?_)
          · exact f_X11_taught_j75  w a3 q5 (0 : Int32) q3 hF
          · exact f_X11_taught_j75  w a3 q5 (1 : Int32) q3 hF
theorem f_X11_lesson_j42 (w0 : Wd) (w : Wd) (hF : Fr [70, 71, 72] [(0, 10), (73, 4)] w0 w) : okF (X11_lesson_j42  w) (fun q => Fr [70, 71, 72] [(0, 10), (73, 4)] w0 q.2) := by
  unfold X11_lesson_j42
  refine pk_c (f_X11_refuse (1 : Int32) w) (fun q1 hQ => ?_)
  have hF := hF.next hQ (by decide) (by decide)
  refine pk_g (fun _ => ?_)
  exact pk_s hF
theorem f_X11_lesson (a1 : Int32) (a2 : Int32) (a3 : Int32) (a4 : Int32) (w : Wd) : okF (X11_lesson  a1 a2 a3 a4 w) (fun q => Fr [70, 71, 72] [(0, 10), (73, 4)] w q.2) := by
  have hF : Fr [70, 71, 72] [(0, 10), (73, 4)] w w := Fr.rf
  unfold X11_lesson
  refine pk_i (fun _ => ?_) (fun _ => ?_)
  · exact f_X11_lesson_j42  w w hF
  · refine pk_i (fun _ => ?_) (fun _ => ?_)
    · exact f_X11_lesson_j42  w w hF
    · refine pk_i (fun _ => ?_) (fun _ => ?_)
      · exact f_X11_lesson_j42  w w hF
      · refine pk_i (fun _ => ?_) (fun _ => ?_)
        · exact f_X11_lesson_j42  w w hF
        · refine pk_c (f_X3_set a1 a2 a3 a4 w) (fun q3 hQ => ?_)
          have hF := hF.next hQ (by decide) (by decide)
          refine pk_c (f_X10_relive (0 : Int32) q3) (fun q5 hQ => ?_)
          have hF := hF.next hQ (by decide) (by decide)
          refine pk_c (f_X11_agree q5) (fun q7 hQ => ?_)
          have hF := hF.next hQ (by decide) (by decide)
          refine pk_g (fun _ => ?_)
          exact pk_s hF
theorem f_X11_fade (a1 : Int32) (w : Wd) : okF (X11_fade  a1 w) (fun q => Fr [] [(0, 10), (69, 3), (73, 4)] w q.2) := by
  have hF : Fr [] [(0, 10), (69, 3), (73, 4)] w w := Fr.rf
  unfold X11_fade
  refine pk_i (fun _ => ?_) (fun _ => ?_)
  · refine pk_c (f_X11_refuse (1 : Int32) w) (fun q6 hQ => ?_)
    have hF := hF.next hQ (by decide) (by decide)
    refine pk_g (fun _ => ?_)
    exact pk_s hF
  · refine pk_w (fun w1 hF => ?_) (hF.pfI (by decide))
    refine pk_c (f_X10_relive (0 : Int32) w1) (fun q2 hQ => ?_)
    have hF := hF.next hQ (by decide) (by decide)
    refine pk_c (f_X11_agree q2) (fun q4 hQ => ?_)
    have hF := hF.next hQ (by decide) (by decide)
    refine pk_g (fun _ => ?_)
    exact pk_s hF
theorem f_X11_knows_j18 (w0 : Wd) (w : Wd) (hF : Fr [26, 27, 28, 29, 44, 45, 46, 47, 48, 49, 50, 51, 52, 53, 54, 55, 56, 57, 58, 59, 60, 61, 62, 63, 64, 74, 75, 76, 77, 78] [(0, 10), (19, 8), (73, 4)] w0 w) : okF (X11_knows_j18  w) (fun q => Fr [26, 27, 28, 29, 44, 45, 46, 47, 48, 49, 50, 51, 52, 53, 54, 55, 56, 57, 58, 59, 60, 61, 62, 63, 64, 74, 75, 76, 77, 78] [(0, 10), (19, 8), (73, 4)] w0 q.2) := by
  unfold X11_knows_j18
  refine pk_c (f_X11_deny (1 : Int32) w) (fun q1 hQ => ?_)
  have hF := hF.next hQ (by decide) (by decide)
  exact pk_s hF
theorem f_X11_knows (a1 : Int32) (a2 : Int32) (w : Wd) : okF (X11_knows  a1 a2 w) (fun q => Fr [26, 27, 28, 29, 44, 45, 46, 47, 48, 49, 50, 51, 52, 53, 54, 55, 56, 57, 58, 59, 60, 61, 62, 63, 64, 74, 75, 76, 77, 78] [(0, 10), (19, 8), (73, 4)] w q.2) := by
  have hF : Fr [26, 27, 28, 29, 44, 45, 46, 47, 48, 49, 50, 51, 52, 53, 54, 55, 56, 57, 58, 59, 60, 61, 62, 63, 64, 74, 75, 76, 77, 78] [(0, 10), (19, 8), (73, 4)] w w := Fr.rf
  unfold X11_knows
  refine pk_i (fun _ => ?_) (fun _ => ?_)
  · exact f_X11_knows_j18  w w hF
  · refine pk_i (fun _ => ?_) (fun _ => ?_)
    · exact f_X11_knows_j18  w w hF
    · refine pk_c (f_X10_reach a2 w) (fun q3 hQ => ?_)
      have hF := hF.next hQ (by decide) (by decide)
      refine pk_v (fun q5 => ?_)
      refine pk_c (f_X11_answer q5 q3) (fun q7 hQ => ?_)
      have hF := hF.next hQ (by decide) (by decide)
      exact pk_s hF
theorem f_X11_hours_j25 (w0 : Wd) (w : Wd) (hF : Fr [26, 27, 28, 29, 44, 45, 46, 47, 48, 49, 50, 51, 52, 53, 54, 55, 56, 57, 58, 59, 60, 61, 62, 63, 64, 74, 75, 76, 77, 78] [(0, 10), (19, 8), (73, 4)] w0 w) : okF (X11_hours_j25  w) (fun q => Fr [26, 27, 28, 29, 44, 45, 46, 47, 48, 49, 50, 51, 52, 53, 54, 55, 56, 57, 58, 59, 60, 61, 62, 63, 64, 74, 75, 76, 77, 78] [(0, 10), (19, 8), (73, 4)] w0 q.2) := by
  unfold X11_hours_j25
  refine pk_c (f_X11_deny (1 : Int32) w) (fun q1 hQ => ?_)
  have hF := hF.next hQ (by decide) (by decide)
  exact pk_s hF
theorem f_X11_hours (a1 : Int32) (a2 : Int32) (a3 : Int32) (w : Wd) : okF (X11_hours  a1 a2 a3 w) (fun q => Fr [26, 27, 28, 29, 44, 45, 46, 47, 48, 49, 50, 51, 52, 53, 54, 55, 56, 57, 58, 59, 60, 61, 62, 63, 64, 74, 75, 76, 77, 78] [(0, 10), (19, 8), (73, 4)] w q.2) := by
  have hF : Fr [26, 27, 28, 29, 44, 45, 46, 47, 48, 49, 50, 51, 52, 53, 54, 55, 56, 57, 58, 59, 60, 61, 62, 63, 64, 74, 75, 76, 77, 78] [(0, 10), (19, 8), (73, 4)] w w := Fr.rf
  unfold X11_hours
  refine pk_i (fun _ => ?_) (fun _ => ?_)
  · exact f_X11_hours_j25  w w hF
  · refine pk_i (fun _ => ?_) (fun _ => ?_)
    · exact f_X11_hours_j25  w w hF
    · refine pk_i (fun _ => ?_) (fun _ => ?_)
      · exact f_X11_hours_j25  w w hF
      · refine pk_c (f_X10_reach a3 w) (fun q3 hQ => ?_)
        have hF := hF.next hQ (by decide) (by decide)
        refine pk_v (fun q5 => ?_)
        refine pk_c (f_X11_answer q5 q3) (fun q7 hQ => ?_)
        have hF := hF.next hQ (by decide) (by decide)
        exact pk_s hF
theorem f_X11_gap_j18 (w0 : Wd) (w : Wd) (hF : Fr [26, 27, 28, 29, 44, 45, 46, 47, 48, 49, 50, 51, 52, 53, 54, 55, 56, 57, 58, 59, 60, 61, 62, 63, 64, 74, 75, 76, 77, 78] [(0, 10), (19, 8), (73, 4)] w0 w) : okF (X11_gap_j18  w) (fun q => Fr [26, 27, 28, 29, 44, 45, 46, 47, 48, 49, 50, 51, 52, 53, 54, 55, 56, 57, 58, 59, 60, 61, 62, 63, 64, 74, 75, 76, 77, 78] [(0, 10), (19, 8), (73, 4)] w0 q.2) := by
  unfold X11_gap_j18
  refine pk_c (f_X11_deny (1 : Int32) w) (fun q1 hQ => ?_)
  have hF := hF.next hQ (by decide) (by decide)
  exact pk_s hF
theorem f_X11_gap (a1 : Int32) (a2 : Int32) (w : Wd) : okF (X11_gap  a1 a2 w) (fun q => Fr [26, 27, 28, 29, 44, 45, 46, 47, 48, 49, 50, 51, 52, 53, 54, 55, 56, 57, 58, 59, 60, 61, 62, 63, 64, 74, 75, 76, 77, 78] [(0, 10), (19, 8), (73, 4)] w q.2) := by
  have hF : Fr [26, 27, 28, 29, 44, 45, 46, 47, 48, 49, 50, 51, 52, 53, 54, 55, 56, 57, 58, 59, 60, 61, 62, 63, 64, 74, 75, 76, 77, 78] [(0, 10), (19, 8), (73, 4)] w w := Fr.rf
  unfold X11_gap
  refine pk_i (fun _ => ?_) (fun _ => ?_)
  · exact f_X11_gap_j18  w w hF
  · refine pk_i (fun _ => ?_) (fun _ => ?_)
    · exact f_X11_gap_j18  w w hF
    · refine pk_c (f_X10_reach a2 w) (fun q3 hQ => ?_)
      have hF := hF.next hQ (by decide) (by decide)
      refine pk_v (fun q5 => ?_)
      refine pk_c (f_X11_answer q5 q3) (fun q7 hQ => ?_)
      have hF := hF.next hQ (by decide) (by decide)
      exact pk_s hF
theorem f_X11_foretold_j39 (w0 : Wd) (w : Wd) (hF : Fr [26, 27, 28, 29, 44, 45, 46, 47, 48, 49, 50, 51, 52, 53, 54, 55, 56, 57, 58, 59, 60, 61, 62, 63, 64, 74, 75, 76, 77, 78, 79] [(0, 10), (19, 8), (73, 4)] w0 w) : okF (X11_foretold_j39  w) (fun q => Fr [26, 27, 28, 29, 44, 45, 46, 47, 48, 49, 50, 51, 52, 53, 54, 55, 56, 57, 58, 59, 60, 61, 62, 63, 64, 74, 75, 76, 77, 78, 79] [(0, 10), (19, 8), (73, 4)] w0 q.2) := by
  unfold X11_foretold_j39
  refine pk_c (f_X11_deny (1 : Int32) w) (fun q1 hQ => ?_)
  have hF := hF.next hQ (by decide) (by decide)
  exact pk_s hF
theorem f_X11_foretold (a1 : Int32) (a2 : Int32) (a3 : Int32) (a4 : Int32) (w : Wd) : okF (X11_foretold  a1 a2 a3 a4 w) (fun q => Fr [26, 27, 28, 29, 44, 45, 46, 47, 48, 49, 50, 51, 52, 53, 54, 55, 56, 57, 58, 59, 60, 61, 62, 63, 64, 74, 75, 76, 77, 78, 79] [(0, 10), (19, 8), (73, 4)] w q.2) := by
  have hF : Fr [26, 27, 28, 29, 44, 45, 46, 47, 48, 49, 50, 51, 52, 53, 54, 55, 56, 57, 58, 59, 60, 61, 62, 63, 64, 74, 75, 76, 77, 78, 79] [(0, 10), (19, 8), (73, 4)] w w := Fr.rf
  unfold X11_foretold
  refine pk_i (fun _ => ?_) (fun _ => ?_)
  · exact f_X11_foretold_j39  w w hF
  · refine pk_i (fun _ => ?_) (fun _ => ?_)
    · exact f_X11_foretold_j39  w w hF
    · refine pk_i (fun _ => ?_) (fun _ => ?_)
      · exact f_X11_foretold_j39  w w hF
      · refine pk_i (fun _ => ?_) (fun _ => ?_)
        · exact f_X11_foretold_j39  w w hF
        · refine pk_c (f_X10_reach a2 w) (fun q3 hQ => ?_)
          have hF := hF.next hQ (by decide) (by decide)
          refine pk_c (f_X10_foretell a1 a2 a3 a4 q3) (fun q5 hQ => ?_)
          have hF := hF.next hQ (by decide) (by decide)
          refine pk_c (f_X11_answer q5.1 q5.2) (fun q7 hQ => ?_)
          have hF := hF.next hQ (by decide) (by decide)
          exact pk_s hF
theorem f_X11_proof_j33 (w0 : Wd) (w : Wd) (hF : Fr [81, 82, 83, 84, 85, 86, 87] [(0, 10), (80, 0)] w0 w) : okF (X11_proof_j33  w) (fun q => Fr [81, 82, 83, 84, 85, 86, 87] [(0, 10), (80, 0)] w0 q.2) := by
  unfold X11_proof_j33
  refine pk_c (f_X11_deny (1 : Int32) w) (fun q1 hQ => ?_)
  have hF := hF.next hQ (by decide) (by decide)
  exact pk_s hF
theorem f_X11_proof (a1 : Int32) (a2 : Int32) (a3 : Int64) (a5 : Int64) (w : Wd) : okF (X11_proof  a1 a2 a3 a5 w) (fun q => Fr [81, 82, 83, 84, 85, 86, 87] [(0, 10), (80, 0)] w q.2) := by
  have hF : Fr [81, 82, 83, 84, 85, 86, 87] [(0, 10), (80, 0)] w w := Fr.rf
  unfold X11_proof
  refine pk_i (fun _ => ?_) (fun _ => ?_)
  · exact f_X11_proof_j33  w w hF
  · refine pk_i (fun _ => ?_) (fun _ => ?_)
    · exact f_X11_proof_j33  w w hF
    · refine pk_v (fun q3 => ?_)
      refine pk_i (fun _ => ?_) (fun _ => ?_)
      · exact f_X11_proof_j33  w w hF
      · refine pk_v (fun q5 => ?_)
        refine pk_i (fun _ => ?_) (fun _ => ?_)
        · exact f_X11_proof_j33  w w hF
        · refine pk_i (fun _ => ?_) (fun _ => ?_)
          · refine pk_c (f_X5_add a1 a2 a3 a5 w) (fun q7 hQ => ?_)
            have hF := hF.next hQ (by decide) (by decide)
            refine pk_c (f_X11_answer q7.1 q7.2) (fun q9 hQ => ?_)
            have hF := hF.next hQ (by decide) (by decide)
            exact pk_s hF
          · refine pk_c (f_X11_deny (4 : Int32) w) (fun q11 hQ => ?_)
            have hF := hF.next hQ (by decide) (by decide)
            exact pk_s hF
theorem f_X11_isPassed (a1 : Int32) (w : Wd) : okF (X11_isPassed  a1 w) (fun q => Fr [45, 46, 47, 48, 49, 50, 51, 52, 53, 54, 55, 56, 57, 58, 59, 60, 61, 62, 63, 64] [] w q.2) := by
  have hF : Fr [45, 46, 47, 48, 49, 50, 51, 52, 53, 54, 55, 56, 57, 58, 59, 60, 61, 62, 63, 64] [] w w := Fr.rf
  unfold X11_isPassed
  refine pk_g (fun _ => ?_)
  refine pk_g (fun _ => ?_)
  refine pk_v (fun z1 => ?_)
  refine pk_g (fun _ => ?_)
  refine pk_g (fun _ => ?_)
  refine pk_g (fun _ => ?_)
  refine pk_c (f_X0_standingIn (w.1 6 (ix z1)) (w.1 82 (ix a1)) w) (fun q2 hQ => ?_)
  have hF := hF.next hQ (by decide) (by decide)
  refine pk_g (fun h4 => ?_)
  refine pk_i (fun _ => ?_) (fun _ => ?_)
  · exact pk_s hF
  · exact pk_s hF
theorem f_X11_slips_j20 (w0 : Wd) (w : Wd) (hF : Fr [26, 27, 28, 29, 44, 45, 46, 47, 48, 49, 50, 51, 52, 53, 54, 55, 56, 57, 58, 59, 60, 61, 62, 63, 64, 74, 75, 76, 77, 78] [(0, 10), (19, 8), (73, 4)] w0 w) : okF (X11_slips_j20  w) (fun q => Fr [26, 27, 28, 29, 44, 45, 46, 47, 48, 49, 50, 51, 52, 53, 54, 55, 56, 57, 58, 59, 60, 61, 62, 63, 64, 74, 75, 76, 77, 78] [(0, 10), (19, 8), (73, 4)] w0 q.2) := by
  unfold X11_slips_j20
  refine pk_c (f_X11_deny (1 : Int32) w) (fun q1 hQ => ?_)
  have hF := hF.next hQ (by decide) (by decide)
  exact pk_s hF
theorem f_X11_slips_j54 (w0 : Wd) (a1 : Int32) (a2 : Int32) (w : Wd) (hF : Fr [26, 27, 28, 29, 44, 45, 46, 47, 48, 49, 50, 51, 52, 53, 54, 55, 56, 57, 58, 59, 60, 61, 62, 63, 64, 74, 75, 76, 77, 78] [(0, 10), (19, 8), (73, 4)] w0 w) : okF (X11_slips_j54  a1 a2 w) (fun q => Fr [26, 27, 28, 29, 44, 45, 46, 47, 48, 49, 50, 51, 52, 53, 54, 55, 56, 57, 58, 59, 60, 61, 62, 63, 64, 74, 75, 76, 77, 78] [(0, 10), (19, 8), (73, 4)] w0 q.2) := by
  unfold X11_slips_j54
  refine pk_i (fun _ => ?_) (fun _ => ?_)
  · refine pk_g (fun _ => ?_)
    refine pk_c (f_X11_answer (w.1 83 (ix a1)) w) (fun q5 hQ => ?_)
    have hF := hF.next hQ (by decide) (by decide)
    exact pk_s hF
  refine pk_i (fun _ => ?_) (fun _ => ?_)
  · refine pk_v (fun q7 => ?_)
    refine pk_c (f_X11_answer q7 w) (fun q9 hQ => ?_)
    have hF := hF.next hQ (by decide) (by decide)
    exact pk_s hF
  refine pk_i (fun _ => ?_) (fun _ => ?_)
  · refine pk_g (fun _ => ?_)
    refine pk_v (fun q11 => ?_)
    refine pk_c (f_X11_answer ((w.1 83 (ix a1)) - q11) w) (fun q13 hQ => ?_)
    have hF := hF.next hQ (by decide) (by decide)
    exact pk_s hF
  refine pk_c (f_X11_isPassed a1 w) (fun q15 hQ => ?_)
  have hF := hF.next hQ (by decide) (by decide)
  refine pk_c (f_X11_answerWhether q15.1 q15.2) (fun q17 hQ => ?_)
  have hF := hF.next hQ (by decide) (by decide)
  exact pk_s hF
theorem f_X11_slips_j36 (w0 : Wd) (a1 : Int32) (a2 : Int32) (w : Wd) (hF : Fr [26, 27, 28, 29, 44, 45, 46, 47, 48, 49, 50, 51, 52, 53, 54, 55, 56, 57, 58, 59, 60, 61, 62, 63, 64, 74, 75, 76, 77, 78] [(0, 10), (19, 8), (73, 4)] w0 w) : okF (X11_slips_j36  a1 a2 w) (fun q => Fr [26, 27, 28, 29, 44, 45, 46, 47, 48, 49, 50, 51, 52, 53, 54, 55, 56, 57, 58, 59, 60, 61, 62, 63, 64, 74, 75, 76, 77, 78] [(0, 10), (19, 8), (73, 4)] w0 q.2) := by
  unfold X11_slips_j36
  refine pk_g (fun _ => ?_)
  refine pk_c (f_X10_reach ((w.1 82 (ix a1)) - (1 : Int32)) w) (fun q3 hQ => ?_)
  have hF := hF.next hQ (by decide) (by decide)
  exact f_X11_slips_j54  w0 a1 a2 q3 hF
theorem f_X11_slips (a1 : Int32) (a2 : Int32) (w : Wd) : okF (X11_slips  a1 a2 w) (fun q => Fr [26, 27, 28, 29, 44, 45, 46, 47, 48, 49, 50, 51, 52, 53, 54, 55, 56, 57, 58, 59, 60, 61, 62, 63, 64, 74, 75, 76, 77, 78] [(0, 10), (19, 8), (73, 4)] w q.2) := by
  have hF : Fr [26, 27, 28, 29, 44, 45, 46, 47, 48, 49, 50, 51, 52, 53, 54, 55, 56, 57, 58, 59, 60, 61, 62, 63, 64, 74, 75, 76, 77, 78] [(0, 10), (19, 8), (73, 4)] w w := Fr.rf
  unfold X11_slips
  refine pk_i (fun _ => ?_) (fun _ => ?_)
  · exact f_X11_slips_j20  w w hF
  · refine pk_i (fun _ => ?_) (fun _ => ?_)
    · exact f_X11_slips_j20  w w hF
    · refine pk_i (fun _ => ?_) (fun _ => ?_)
      · exact f_X11_slips_j36  w a1 a2 w hF
      · refine pk_i (fun _ => ?_) (fun _ => ?_)
        · exact f_X11_slips_j36  w a1 a2 w hF
        · exact f_X11_slips_j54  w a1 a2 w hF
theorem f_X11_owed_j18 (w0 : Wd) (w : Wd) (hF : Fr [26, 27, 28, 29, 44, 45, 46, 47, 48, 49, 50, 51, 52, 53, 54, 55, 56, 57, 58, 59, 60, 61, 62, 63, 64, 74, 75, 76, 77, 78] [(0, 10), (19, 8), (73, 4)] w0 w) : okF (X11_owed_j18  w) (fun q => Fr [26, 27, 28, 29, 44, 45, 46, 47, 48, 49, 50, 51, 52, 53, 54, 55, 56, 57, 58, 59, 60, 61, 62, 63, 64, 74, 75, 76, 77, 78] [(0, 10), (19, 8), (73, 4)] w0 q.2) := by
  unfold X11_owed_j18
  refine pk_c (f_X11_deny (1 : Int32) w) (fun q1 hQ => ?_)
  have hF := hF.next hQ (by decide) (by decide)
  exact pk_s hF
theorem f_X11_owed (a1 : Int32) (a2 : Int32) (w : Wd) : okF (X11_owed  a1 a2 w) (fun q => Fr [26, 27, 28, 29, 44, 45, 46, 47, 48, 49, 50, 51, 52, 53, 54, 55, 56, 57, 58, 59, 60, 61, 62, 63, 64, 74, 75, 76, 77, 78] [(0, 10), (19, 8), (73, 4)] w q.2) := by
  have hF : Fr [26, 27, 28, 29, 44, 45, 46, 47, 48, 49, 50, 51, 52, 53, 54, 55, 56, 57, 58, 59, 60, 61, 62, 63, 64, 74, 75, 76, 77, 78] [(0, 10), (19, 8), (73, 4)] w w := Fr.rf
  unfold X11_owed
  refine pk_i (fun _ => ?_) (fun _ => ?_)
  · exact f_X11_owed_j18  w w hF
  · refine pk_i (fun _ => ?_) (fun _ => ?_)
    · exact f_X11_owed_j18  w w hF
    · refine pk_g (fun _ => ?_)
      refine pk_c (f_X10_reach ((w.1 82 (ix a1)) - (1 : Int32)) w) (fun q3 hQ => ?_)
      have hF := hF.next hQ (by decide) (by decide)
      refine pk_v (fun q5 => ?_)
      refine pk_v (fun q7 => ?_)
      refine pk_c (f_X11_answer q7 q3) (fun q9 hQ => ?_)
      have hF := hF.next hQ (by decide) (by decide)
      exact pk_s hF
theorem f_X11_canRead (a1 : Int32) (a2 : Int32) (w : Wd) : okF (X11_canRead  a1 a2 w) (fun q => Fr [45, 46, 47, 48, 49, 50, 51, 52, 53, 54, 55, 56, 57, 58, 59, 60, 61, 62, 63, 64] [] w q.2) := by
  have hF : Fr [45, 46, 47, 48, 49, 50, 51, 52, 53, 54, 55, 56, 57, 58, 59, 60, 61, 62, 63, 64] [] w w := Fr.rf
  unfold X11_canRead
  refine pk_v (fun q1 => ?_)
  refine pk_i (fun _ => ?_) (fun _ => ?_)
  · exact pk_s hF
  · refine pk_c (f_X11_isPassed q1 w) (fun q3 hQ => ?_)
    have hF := hF.next hQ (by decide) (by decide)
    refine pk_i (fun _ => ?_) (fun _ => ?_)
    · exact pk_s hF
    · exact pk_s hF
theorem f_X11_reads_j18 (w0 : Wd) (w : Wd) (hF : Fr [45, 46, 47, 48, 49, 50, 51, 52, 53, 54, 55, 56, 57, 58, 59, 60, 61, 62, 63, 64] [(0, 10)] w0 w) : okF (X11_reads_j18  w) (fun q => Fr [45, 46, 47, 48, 49, 50, 51, 52, 53, 54, 55, 56, 57, 58, 59, 60, 61, 62, 63, 64] [(0, 10)] w0 q.2) := by
  unfold X11_reads_j18
  refine pk_c (f_X11_deny (1 : Int32) w) (fun q1 hQ => ?_)
  have hF := hF.next hQ (by decide) (by decide)
  exact pk_s hF
theorem f_X11_reads (a1 : Int32) (a2 : Int32) (w : Wd) : okF (X11_reads  a1 a2 w) (fun q => Fr [45, 46, 47, 48, 49, 50, 51, 52, 53, 54, 55, 56, 57, 58, 59, 60, 61, 62, 63, 64] [(0, 10)] w q.2) := by
  have hF : Fr [45, 46, 47, 48, 49, 50, 51, 52, 53, 54, 55, 56, 57, 58, 59, 60, 61, 62, 63, 64] [(0, 10)] w w := Fr.rf
  unfold X11_reads
  refine pk_i (fun _ => ?_) (fun _ => ?_)
  · exact f_X11_reads_j18  w w hF
  · refine pk_i (fun _ => ?_) (fun _ => ?_)
    · exact f_X11_reads_j18  w w hF
    · refine pk_c (f_X11_canRead a1 a2 w) (fun q3 hQ => ?_)
      have hF := hF.next hQ (by decide) (by decide)
      refine pk_c (f_X11_answerWhether q3.1 q3.2) (fun q5 hQ => ?_)
      have hF := hF.next hQ (by decide) (by decide)
      exact pk_s hF
theorem f_X11_flag_j18 (w0 : Wd) (w : Wd) (hF : Fr [45, 46, 47, 48, 49, 50, 51, 52, 53, 54, 55, 56, 57, 58, 59, 60, 61, 62, 63, 64] [(0, 10)] w0 w) : okF (X11_flag_j18  w) (fun q => Fr [45, 46, 47, 48, 49, 50, 51, 52, 53, 54, 55, 56, 57, 58, 59, 60, 61, 62, 63, 64] [(0, 10)] w0 q.2) := by
  unfold X11_flag_j18
  refine pk_c (f_X11_deny (1 : Int32) w) (fun q1 hQ => ?_)
  have hF := hF.next hQ (by decide) (by decide)
  exact pk_s hF
theorem f_X11_flag_j81 (w0 : Wd) (a1 : Int32) (a2 : Int32) (a3 : Int32) (a4 : Int32) (a5 : Int32) (w : Wd) (hF : Fr [45, 46, 47, 48, 49, 50, 51, 52, 53, 54, 55, 56, 57, 58, 59, 60, 61, 62, 63, 64] [(0, 10)] w0 w) : okF (X11_flag_j81  a1 a2 a3 a4 a5 w) (sel (fun s => Fr [45, 46, 47, 48, 49, 50, 51, 52, 53, 54, 55, 56, 57, 58, 59, 60, 61, 62, 63, 64] [(0, 10)] w0 s.2.2.2) (fun e => Fr [45, 46, 47, 48, 49, 50, 51, 52, 53, 54, 55, 56, 57, 58, 59, 60, 61, 62, 63, 64] [(0, 10)] w0 e.2.2)) := by
  unfold X11_flag_j81
  exact pk_s hF
theorem f_X11_flag_j78 (w0 : Wd) (a1 : Int32) (a2 : Int32) (a3 : Int32) (a5 : Int32) (s0 : Int32) (s1 : Int32) (w : Wd) (hF : Fr [45, 46, 47, 48, 49, 50, 51, 52, 53, 54, 55, 56, 57, 58, 59, 60, 61, 62, 63, 64] [(0, 10)] w0 w) : okF (X11_flag_j78  a1 a2 a3 a5 s0 s1 w) (sel (fun s => Fr [45, 46, 47, 48, 49, 50, 51, 52, 53, 54, 55, 56, 57, 58, 59, 60, 61, 62, 63, 64] [(0, 10)] w0 s.2.2.2) (fun e => Fr [45, 46, 47, 48, 49, 50, 51, 52, 53, 54, 55, 56, 57, 58, 59, 60, 61, 62, 63, 64] [(0, 10)] w0 e.2.2)) := by
  unfold X11_flag_j78
  exact f_X11_flag_j81  w0 a1 a2 a3 (s1 + s0) a5 w hF
theorem f_X11_flag_b32 (w0 : Wd) (a1 : Int32) (a2 : Int32) (s : (Int32 × Int32 × Int32 × Wd)) (hF : Fr [45, 46, 47, 48, 49, 50, 51, 52, 53, 54, 55, 56, 57, 58, 59, 60, 61, 62, 63, 64] [(0, 10)] w0 s.2.2.2) : okF (lp (X11_flag_b32  a1 a2) s) (fun e => Fr [45, 46, 47, 48, 49, 50, 51, 52, 53, 54, 55, 56, 57, 58, 59, 60, 61, 62, 63, 64] [(0, 10)] w0 e.2.2) := by
  refine pk_lp (I := fun s => Fr [45, 46, 47, 48, 49, 50, 51, 52, 53, 54, 55, 56, 57, 58, 59, 60, 61, 62, 63, 64] [(0, 10)] w0 s.2.2.2) (fun s hF => ?_) s hF
  unfold X11_flag_b32
  refine pk_i (fun _ => ?_) (fun _ => ?_)
  · exact pk_s hF
  · refine pk_g (fun _ => ?_)
    refine pk_i (fun _ => ?_) (fun _ => ?_)
    · refine pk_c (f_X11_canRead s.2.2.1 a2 s.2.2.2) (fun q3 hQ => ?_)
      have hF := hF.next hQ (by decide) (by decide)
      refine pk_i (fun _ => ?_) (fun _ => ?_)
      · exact f_X11_flag_j78  w0 a1 a2 (s.1 + (1 : Int32)) s.2.2.1 (0 : Int32) s.2.1 q3.2 hF
      · exact f_X11_flag_j78  w0 a1 a2 (s.1 + (1 : Int32)) s.2.2.1 (1 : Int32) s.2.1 q3.2 hF
    · exact f_X11_flag_j81  w0 a1 a2 s.1 s.2.1 s.2.2.1 s.2.2.2 hF
theorem f_X11_flag_j131 (w0 : Wd) (s0 : Int32) (w : Wd) (hF : Fr [45, 46, 47, 48, 49, 50, 51, 52, 53, 54, 55, 56, 57, 58, 59, 60, 61, 62, 63, 64] [(0, 10)] w0 w) : okF (X11_flag_j131  s0 w) (fun q => Fr [45, 46, 47, 48, 49, 50, 51, 52, 53, 54, 55, 56, 57, 58, 59, 60, 61, 62, 63, 64] [(0, 10)] w0 q.2) := by
  unfold X11_flag_j131
  refine pk_c (f_X11_answerWhether s0 w) (fun q9 hQ => ?_)
  have hF := hF.next hQ (by decide) (by decide)
  exact pk_s hF
theorem f_X11_flag_j130 (w0 : Wd) (w : Wd) (hF : Fr [45, 46, 47, 48, 49, 50, 51, 52, 53, 54, 55, 56, 57, 58, 59, 60, 61, 62, 63, 64] [(0, 10)] w0 w) : okF (X11_flag_j130  w) (fun q => Fr [45, 46, 47, 48, 49, 50, 51, 52, 53, 54, 55, 56, 57, 58, 59, 60, 61, 62, 63, 64] [(0, 10)] w0 q.2) := by
  unfold X11_flag_j130
  exact f_X11_flag_j131  w0 (0 : Int32) w hF
theorem f_X11_flag (a1 : Int32) (a2 : Int32) (w : Wd) : okF (X11_flag  a1 a2 w) (fun q => Fr [45, 46, 47, 48, 49, 50, 51, 52, 53, 54, 55, 56, 57, 58, 59, 60, 61, 62, 63, 64] [(0, 10)] w q.2) := by
  have hF : Fr [45, 46, 47, 48, 49, 50, 51, 52, 53, 54, 55, 56, 57, 58, 59, 60, 61, 62, 63, 64] [(0, 10)] w w := Fr.rf
  unfold X11_flag
  refine pk_i (fun _ => ?_) (fun _ => ?_)
  · exact f_X11_flag_j18  w w hF
  · refine pk_i (fun _ => ?_) (fun _ => ?_)
    · exact f_X11_flag_j18  w w hF
    · refine pk_c (f_X11_flag_b32 w a1 a2 ((0 : Int32), (0 : Int32), (0 : Int32), w) hF) (fun e5 hF => ?_)
      refine pk_g (fun _ => ?_)
      refine pk_c (f_X0_standingIn (e5.2.2.1 6 (ix a1)) a2 e5.2.2) (fun q6 hQ => ?_)
      have hF := hF.next hQ (by decide) (by decide)
      refine pk_g (fun h8 => ?_)
      refine pk_i (fun _ => ?_) (fun _ => ?_)
      · exact f_X11_flag_j130  w q6.2 hF
      · refine pk_i (fun _ => ?_) (fun _ => ?_)
        · exact f_X11_flag_j130  w q6.2 hF
        · exact f_X11_flag_j131  w (1 : Int32) q6.2 hF
theorem f_X11_send_j32 (w0 : Wd) (w : Wd) (hF : Fr [18, 26, 27, 28, 29, 89, 90, 91, 92, 93, 94] [(0, 10), (19, 8), (88, 0), (88, 6)] w0 w) : okF (X11_send_j32  w) (fun q => Fr [18, 26, 27, 28, 29, 89, 90, 91, 92, 93, 94] [(0, 10), (19, 8), (88, 0), (88, 6)] w0 q.2) := by
  unfold X11_send_j32
  refine pk_c (f_X11_deny (1 : Int32) w) (fun q1 hQ => ?_)
  have hF := hF.next hQ (by decide) (by decide)
  exact pk_s hF
theorem f_X11_send_j60 (w0 : Wd) (w : Wd) (hF : Fr [18, 26, 27, 28, 29, 89, 90, 91, 92, 93, 94] [(0, 10), (19, 8), (88, 0), (88, 6)] w0 w) : okF (X11_send_j60  w) (fun q => Fr [18, 26, 27, 28, 29, 89, 90, 91, 92, 93, 94] [(0, 10), (19, 8), (88, 0), (88, 6)] w0 q.2) := by
  unfold X11_send_j60
  refine pk_c (f_X11_deny (2 : Int32) w) (fun q5 hQ => ?_)
  have hF := hF.next hQ (by decide) (by decide)
  exact pk_s hF
theorem f_X11_send_j92 (w0 : Wd) (w : Wd) (hF : Fr [18, 26, 27, 28, 29, 89, 90, 91, 92, 93, 94] [(0, 10), (19, 8), (88, 0), (88, 6)] w0 w) : okF (X11_send_j92  w) (fun q => Fr [18, 26, 27, 28, 29, 89, 90, 91, 92, 93, 94] [(0, 10), (19, 8), (88, 0), (88, 6)] w0 q.2) := by
  unfold X11_send_j92
  refine pk_c (f_X11_deny (3 : Int32) w) (fun q11 hQ => ?_)
  have hF := hF.next hQ (by decide) (by decide)
  exact pk_s hF
theorem f_X11_send_j136 (w0 : Wd) (w : Wd) (hF : Fr [18, 26, 27, 28, 29, 89, 90, 91, 92, 93, 94] [(0, 10), (19, 8), (88, 0), (88, 6)] w0 w) : okF (X11_send_j136  w) (fun q => Fr [18, 26, 27, 28, 29, 89, 90, 91, 92, 93, 94] [(0, 10), (19, 8), (88, 0), (88, 6)] w0 q.2) := by
  unfold X11_send_j136
  refine pk_c (f_X11_deny (1 : Int32) w) (fun q17 hQ => ?_)
  have hF := hF.next hQ (by decide) (by decide)
  exact pk_s hF
theorem f_X11_send_b153 (w0 : Wd) (a1 : Int32) (a2 : Int32) (a3 : Int32) (a4 : Int32) (s : (Int32 × Wd)) (hF : Fr [18, 26, 27, 28, 29, 89, 90, 91, 92, 93, 94] [(0, 10), (19, 8), (88, 0), (88, 6)] w0 s.2) : okF (lp (X11_send_b153  a1 a2 a3 a4) s) (fun e => Fr [18, 26, 27, 28, 29, 89, 90, 91, 92, 93, 94] [(0, 10), (19, 8), (88, 0), (88, 6)] w0 e) := by
  refine pk_lp (I := fun s => Fr [18, 26, 27, 28, 29, 89, 90, 91, 92, 93, 94] [(0, 10), (19, 8), (88, 0), (88, 6)] w0 s.2) (fun s hF => ?_) s hF
  unfold X11_send_b153
  refine pk_i (fun _ => ?_) (fun _ => ?_)
  · exact pk_s hF
  · refine pk_v (fun q23 => ?_)
    refine pk_v (fun q25 => ?_)
    refine pk_c (f_X7_name s.1 (Int64.toInt32 q23) (Int64.toInt32 q25) s.2) (fun q27 hQ => ?_)
    have hF := hF.next hQ (by decide) (by decide)
    exact pk_s hF
theorem f_X11_send (a1 : Int32) (a2 : Int32) (a3 : Int32) (a4 : Int32) (w : Wd) : okF (X11_send  a1 a2 a3 a4 w) (fun q => Fr [18, 26, 27, 28, 29, 89, 90, 91, 92, 93, 94] [(0, 10), (19, 8), (88, 0), (88, 6)] w q.2) := by
  have hF : Fr [18, 26, 27, 28, 29, 89, 90, 91, 92, 93, 94] [(0, 10), (19, 8), (88, 0), (88, 6)] w w := Fr.rf
  unfold X11_send
  refine pk_i (fun _ => ?_) (fun _ => ?_)
  · exact f_X11_send_j32  w w hF
  · refine pk_i (fun _ => ?_) (fun _ => ?_)
    · exact f_X11_send_j32  w w hF
    · refine pk_i (fun _ => ?_) (fun _ => ?_)
      · exact f_X11_send_j32  w w hF
      · refine pk_i (fun _ => ?_) (fun _ => ?_)
        · exact f_X11_send_j32  w w hF
        · refine pk_v (fun q3 => ?_)
          refine pk_i (fun _ => ?_) (fun _ => ?_)
          · refine pk_v (fun q7 => ?_)
            refine pk_i (fun _ => ?_) (fun _ => ?_)
            · refine pk_v (fun q9 => ?_)
              refine pk_i (fun _ => ?_) (fun _ => ?_)
              · exact f_X11_send_j92  w w hF
              · refine pk_v (fun q13 => ?_)
                refine pk_i (fun _ => ?_) (fun _ => ?_)
                · exact f_X11_send_j92  w w hF
                · refine pk_v (fun q15 => ?_)
                  refine pk_i (fun _ => ?_) (fun _ => ?_)
                  · exact f_X11_send_j136  w w hF
                  · refine pk_v (fun q19 => ?_)
                    refine pk_i (fun _ => ?_) (fun _ => ?_)
                    · exact f_X11_send_j136  w w hF
                    · refine pk_c (f_X7_begin a3 w) (fun q21 hQ => ?_)
                      have hF := hF.next hQ (by decide) (by decide)
                      refine pk_c (f_X11_send_b153 w a1 a2 a3 a4 ((0 : Int32), q21) hF) (fun e29 hF => ?_)
                      refine pk_c (f_X4_callUp a4 e29) (fun q30 hQ => ?_)
                      have hF := hF.next hQ (by decide) (by decide)
                      refine pk_c (f_X7_measure a4 q30) (fun q32 hQ => ?_)
                      have hF := hF.next hQ (by decide) (by decide)
                      refine pk_c (f_X7_choose q32) (fun q34 hQ => ?_)
                      have hF := hF.next hQ (by decide) (by decide)
                      refine pk_c (f_X11_answerOr (6 : Int32) q34.1 q34.2) (fun q36 hQ => ?_)
                      have hF := hF.next hQ (by decide) (by decide)
                      exact pk_s hF
            · exact f_X11_send_j60  w w hF
          · exact f_X11_send_j60  w w hF
theorem f_X11_sent (a1 : Int32) (w : Wd) : okF (X11_sent  a1 w) (fun q => Fr [] [(0, 10)] w q.2) := by
  have hF : Fr [] [(0, 10)] w w := Fr.rf
  unfold X11_sent
  refine pk_i (fun _ => ?_) (fun _ => ?_)
  · refine pk_i (fun _ => ?_) (fun _ => ?_)
    · refine pk_g (fun _ => ?_)
      refine pk_c (f_X11_answer (w.1 94 (ix a1)) w) (fun q1 hQ => ?_)
      have hF := hF.next hQ (by decide) (by decide)
      exact pk_s hF
    · refine pk_c (f_X11_deny (6 : Int32) w) (fun q3 hQ => ?_)
      have hF := hF.next hQ (by decide) (by decide)
      exact pk_s hF
  · refine pk_c (f_X11_deny (1 : Int32) w) (fun q5 hQ => ?_)
    have hF := hF.next hQ (by decide) (by decide)
    exact pk_s hF
theorem f_X11_count_j38 (w0 : Wd) (w : Wd) (hF : Fr [] [(0, 10)] w0 w) : okF (X11_count_j38  w) (fun q => Fr [] [(0, 10)] w0 q.2) := by
  unfold X11_count_j38
  refine pk_c (f_X11_deny (1 : Int32) w) (fun q1 hQ => ?_)
  have hF := hF.next hQ (by decide) (by decide)
  exact pk_s hF
theorem f_X11_count_j73 (w0 : Wd) (s0 : Int32) (w : Wd) (hF : Fr [] [(0, 10)] w0 w) : okF (X11_count_j73  s0 w) (fun q => Fr [] [(0, 10)] w0 q.2) := by
  unfold X11_count_j73
  refine pk_c (f_X11_answer s0 w) (fun q5 hQ => ?_)
  have hF := hF.next hQ (by decide) (by decide)
  exact pk_s hF
theorem f_X11_count (a1 : Int32) (a2 : Int32) (a3 : Int32) (a4 : Int32) (w : Wd) : okF (X11_count  a1 a2 a3 a4 w) (fun q => Fr [] [(0, 10)] w q.2) := by
  have hF : Fr [] [(0, 10)] w w := Fr.rf
  unfold X11_count
  refine pk_i (fun _ => ?_) (fun _ => ?_)
  · exact f_X11_count_j38  w w hF
  · refine pk_i (fun _ => ?_) (fun _ => ?_)
    · exact f_X11_count_j38  w w hF
    · refine pk_i (fun _ => ?_) (fun _ => ?_)
      · exact f_X11_count_j38  w w hF
      · refine pk_i (fun _ => ?_) (fun _ => ?_)
        · exact f_X11_count_j38  w w hF
        · refine pk_i (fun _ => ?_) (fun _ => ?_)
          · refine pk_v (fun q7 => ?_)
            exact f_X11_count_j73  w q7 w hF
          · refine pk_v (fun q3 => ?_)
            exact f_X11_count_j73  w q3 w hF
theorem f_X11_hasSeat (a1 : Int32) (a2 : Int32) (w : Wd) : okF (X11_hasSeat  a1 a2 w) (fun q => Fr [45, 46, 47, 48, 49, 50, 51, 52, 53, 54, 55, 56, 57, 58, 59, 60, 61, 62, 63, 64] [] w q.2) := by
  have hF : Fr [45, 46, 47, 48, 49, 50, 51, 52, 53, 54, 55, 56, 57, 58, 59, 60, 61, 62, 63, 64] [] w w := Fr.rf
  unfold X11_hasSeat
  refine pk_g (fun _ => ?_)
  refine pk_g (fun _ => ?_)
  refine pk_v (fun z1 => ?_)
  refine pk_g (fun _ => ?_)
  refine pk_i (fun _ => ?_) (fun _ => ?_)
  · exact pk_s hF
  · refine pk_g (fun _ => ?_)
    refine pk_c (f_X0_standingIn z1 a2 w) (fun q2 hQ => ?_)
    have hF := hF.next hQ (by decide) (by decide)
    refine pk_g (fun h4 => ?_)
    refine pk_i (fun _ => ?_) (fun _ => ?_)
    · exact pk_s hF
    · exact pk_s hF
theorem f_X11_near_j18 (w0 : Wd) (w : Wd) (hF : Fr [18, 26, 27, 28, 29, 45, 46, 47, 48, 49, 50, 51, 52, 53, 54, 55, 56, 57, 58, 59, 60, 61, 62, 63, 64] [(0, 10), (19, 8)] w0 w) : okF (X11_near_j18  w) (fun q => Fr [18, 26, 27, 28, 29, 45, 46, 47, 48, 49, 50, 51, 52, 53, 54, 55, 56, 57, 58, 59, 60, 61, 62, 63, 64] [(0, 10), (19, 8)] w0 q.2) := by
  unfold X11_near_j18
  refine pk_c (f_X11_deny (1 : Int32) w) (fun q1 hQ => ?_)
  have hF := hF.next hQ (by decide) (by decide)
  exact pk_s hF
theorem f_X11_near_j139 (w0 : Wd) (a2 : Int32) (a3 : Int32) (a4 : Int32) (a5 : Int32) (w : Wd) (hF : Fr [18, 26, 27, 28, 29, 45, 46, 47, 48, 49, 50, 51, 52, 53, 54, 55, 56, 57, 58, 59, 60, 61, 62, 63, 64] [(0, 10), (19, 8)] w0 w) : okF (X11_near_j139  a2 a3 a4 a5 w) (sel (fun s => Fr [18, 26, 27, 28, 29, 45, 46, 47, 48, 49, 50, 51, 52, 53, 54, 55, 56, 57, 58, 59, 60, 61, 62, 63, 64] [(0, 10), (19, 8)] w0 s.2.2.2) (fun e => Fr [18, 26, 27, 28, 29, 45, 46, 47, 48, 49, 50, 51, 52, 53, 54, 55, 56, 57, 58, 59, 60, 61, 62, 63, 64] [(0, 10), (19, 8)] w0 e.2)) := by
  unfold X11_near_j139
  exact pk_s hF
theorem f_X11_near_b78 (w0 : Wd) (a2 : Int32) (s : (Int32 × Int32 × Int32 × Wd)) (hF : Fr [18, 26, 27, 28, 29, 45, 46, 47, 48, 49, 50, 51, 52, 53, 54, 55, 56, 57, 58, 59, 60, 61, 62, 63, 64] [(0, 10), (19, 8)] w0 s.2.2.2) : okF (lp (X11_near_b78  a2) s) (fun e => Fr [18, 26, 27, 28, 29, 45, 46, 47, 48, 49, 50, 51, 52, 53, 54, 55, 56, 57, 58, 59, 60, 61, 62, 63, 64] [(0, 10), (19, 8)] w0 e.2) := by
  refine pk_lp (I := fun s => Fr [18, 26, 27, 28, 29, 45, 46, 47, 48, 49, 50, 51, 52, 53, 54, 55, 56, 57, 58, 59, 60, 61, 62, 63, 64] [(0, 10), (19, 8)] w0 s.2.2.2) (fun s hF => ?_) s hF
  unfold X11_near_b78
  refine pk_i (fun _ => ?_) (fun _ => ?_)
  · exact pk_s hF
  · refine pk_g (fun _ => ?_)
    refine pk_v (fun q7 => ?_)
    refine pk_i (fun _ => ?_) (fun _ => ?_)
    · exact f_X11_near_j139  w0 a2 s.1 s.2.1 s.2.2.1 s.2.2.2 hF
    · refine pk_i (fun _ => ?_) (fun _ => ?_)
      · exact f_X11_near_j139  w0 a2 s.1 s.2.1 s.2.2.1 s.2.2.2 hF
      · refine pk_c (f_X11_hasSeat s.2.2.1 a2 s.2.2.2) (fun q9 hQ => ?_)
        have hF := hF.next hQ (by decide) (by decide)
        refine pk_i (fun _ => ?_) (fun _ => ?_)
        · exact f_X11_near_j139  w0 a2 s.1 s.2.1 s.2.2.1 q9.2 hF
        · exact f_X11_near_j139  w0 a2 s.2.2.1 q7 s.2.2.1 q9.2 hF
theorem f_X11_near (a1 : Int32) (a2 : Int32) (w : Wd) : okF (X11_near  a1 a2 w) (fun q => Fr [18, 26, 27, 28, 29, 45, 46, 47, 48, 49, 50, 51, 52, 53, 54, 55, 56, 57, 58, 59, 60, 61, 62, 63, 64] [(0, 10), (19, 8)] w q.2) := by
  have hF : Fr [18, 26, 27, 28, 29, 45, 46, 47, 48, 49, 50, 51, 52, 53, 54, 55, 56, 57, 58, 59, 60, 61, 62, 63, 64] [(0, 10), (19, 8)] w w := Fr.rf
  unfold X11_near
  refine pk_i (fun _ => ?_) (fun _ => ?_)
  · exact f_X11_near_j18  w w hF
  · refine pk_i (fun _ => ?_) (fun _ => ?_)
    · exact f_X11_near_j18  w w hF
    · refine pk_c (f_X4_callUp a2 w) (fun q3 hQ => ?_)
      have hF := hF.next hQ (by decide) (by decide)
      refine pk_g (fun _ => ?_)
      refine pk_i (fun _ => ?_) (fun _ => ?_)
      · refine pk_g (fun _ => ?_)
        refine pk_c (f_X2_travel (q3.1 17 (ix a1)) a2 q3) (fun q5 hQ => ?_)
        have hF := hF.next hQ (by decide) (by decide)
        refine pk_c (f_X11_near_b78 w a2 ((-1 : Int32), (60 : Int32), (0 : Int32), q5) hF) (fun e11 hF => ?_)
        refine pk_c (f_X11_answerOr (6 : Int32) e11.1 e11.2) (fun q12 hQ => ?_)
        have hF := hF.next hQ (by decide) (by decide)
        exact pk_s hF
      · refine pk_c (f_X11_deny (7 : Int32) q3) (fun q14 hQ => ?_)
        have hF := hF.next hQ (by decide) (by decide)
        exact pk_s hF
theorem f_X12_is (a1 : Int32) (w : Wd) : okF (X12_is  a1 w) (fun q => Fr [] [(97, 0)] w q.2) := by
  have hF : Fr [] [(97, 0)] w w := Fr.rf
  unfold X12_is
  refine pk_w (fun w1 hF => ?_) (hF.pfI (by decide))
  refine pk_i (fun _ => ?_) (fun _ => ?_)
  · exact pk_s hF
  · exact pk_s hF
theorem f_X12_refuse (a1 : Int32) (w : Wd) : okF (X12_refuse  a1 w) (fun q => Fr [] [(97, 0)] w q.2) := by
  have hF : Fr [] [(97, 0)] w w := Fr.rf
  unfold X12_refuse
  refine pk_w (fun w1 hF => ?_) (hF.pfI (by decide))
  exact pk_s hF
theorem f_X12_gives (a1 : Int32) (w : Wd) : okF (X12_gives  a1 w) (fun q => Fr [] [(97, 0)] w q.2) := by
  have hF : Fr [] [(97, 0)] w w := Fr.rf
  unfold X12_gives
  refine pk_w (fun w1 hF => ?_) (hF.pfI (by decide))
  exact pk_s hF
theorem f_X12_tray_j26 (w0 : Wd) (w : Wd) (hF : Fr [98, 99, 100] [(97, 0)] w0 w) : okF (X12_tray_j26  w) (fun q => Fr [98, 99, 100] [(97, 0)] w0 q.2) := by
  unfold X12_tray_j26
  refine pk_c (f_X12_is (1 : Int32) w) (fun q1 hQ => ?_)
  have hF := hF.next hQ (by decide) (by decide)
  refine pk_g (fun _ => ?_)
  exact pk_s hF
theorem f_X12_tray_b49 (w0 : Wd) (a1 : Int32) (a3 : Int32) (s : (Int32 × Wd)) (hF : Fr [98, 99, 100] [(97, 0)] w0 s.2) : okF (lp (X12_tray_b49  a1 a3) s) (fun e => Fr [98, 99, 100] [(97, 0)] w0 e) := by
  refine pk_lp (I := fun s => Fr [98, 99, 100] [(97, 0)] w0 s.2) (fun s hF => ?_) s hF
  unfold X12_tray_b49
  refine pk_i (fun _ => ?_) (fun _ => ?_)
  · exact pk_s hF
  · refine pk_g (fun _ => ?_)
    refine pk_w (fun w5 hF => ?_) (hF.puJ (by decide))
    exact pk_s hF
theorem f_X12_tray (a1 : Int32) (a2 : Int32) (a3 : Int32) (w : Wd) : okF (X12_tray  a1 a2 a3 w) (fun q => Fr [98, 99, 100] [(97, 0)] w q.2) := by
  have hF : Fr [98, 99, 100] [(97, 0)] w w := Fr.rf
  unfold X12_tray
  refine pk_i (fun _ => ?_) (fun _ => ?_)
  · exact f_X12_tray_j26  w w hF
  · refine pk_i (fun _ => ?_) (fun _ => ?_)
    · exact f_X12_tray_j26  w w hF
    · refine pk_i (fun _ => ?_) (fun _ => ?_)
      · exact f_X12_tray_j26  w w hF
      · refine pk_i (fun _ => ?_) (fun _ => ?_)
        · exact f_X12_tray_j26  w w hF
        · refine pk_i (fun _ => ?_) (fun _ => ?_)
          · refine pk_g (fun _ => ?_)
            refine pk_w (fun w3 hF => ?_) (hF.puI (by decide))
            refine pk_g (fun _ => ?_)
            refine pk_w (fun w4 hF => ?_) (hF.puI (by decide))
            refine pk_c (f_X12_tray_b49 w a1 a3 ((0 : Int32), w4) hF) (fun e6 hF => ?_)
            refine pk_c (f_X12_is (0 : Int32) e6) (fun q7 hQ => ?_)
            have hF := hF.next hQ (by decide) (by decide)
            refine pk_g (fun _ => ?_)
            exact pk_s hF
          · exact f_X12_tray_j26  w w hF
theorem f_X12_write_j34 (w0 : Wd) (a5 : Int32) (w : Wd) (hF : Fr [100] [(97, 0)] w0 w) : okF (X12_write_j34  a5 w) (fun q => Fr [100] [(97, 0)] w0 q.2) := by
  unfold X12_write_j34
  refine pk_c (f_X12_is a5 w) (fun q3 hQ => ?_)
  have hF := hF.next hQ (by decide) (by decide)
  refine pk_g (fun _ => ?_)
  exact pk_s hF
theorem f_X12_write (a1 : Int32) (a2 : Int32) (a3 : Int64) (w : Wd) : okF (X12_write  a1 a2 a3 w) (fun q => Fr [100] [(97, 0)] w q.2) := by
  have hF : Fr [100] [(97, 0)] w w := Fr.rf
  unfold X12_write
  refine pk_v (fun q1 => ?_)
  refine pk_i (fun _ => ?_) (fun _ => ?_)
  · refine pk_g (fun _ => ?_)
    refine pk_g (fun _ => ?_)
    refine pk_w (fun w5 hF => ?_) (hF.puJ (by decide))
    exact f_X12_write_j34  w q1 w5 hF
  · exact f_X12_write_j34  w q1 w hF
theorem f_X12_read (a1 : Int32) (a2 : Int32) (w : Wd) : okF (X12_read  a1 a2 w) (fun q => Fr [] [(97, 0)] w q.2) := by
  have hF : Fr [] [(97, 0)] w w := Fr.rf
  unfold X12_read
  refine pk_v (fun q1 => ?_)
  refine pk_w (fun w3 hF => ?_) (hF.pfI (by decide))
  refine pk_i (fun _ => ?_) (fun _ => ?_)
  · refine pk_g (fun _ => ?_)
    exact pk_s hF
  · exact pk_s hF
theorem f_X12_pour_j28 (w0 : Wd) (w : Wd) (hF : Fr [100] [(97, 0)] w0 w) : okF (X12_pour_j28  w) (fun q => Fr [100] [(97, 0)] w0 q.2) := by
  unfold X12_pour_j28
  refine pk_c (f_X12_is (1 : Int32) w) (fun q1 hQ => ?_)
  have hF := hF.next hQ (by decide) (by decide)
  refine pk_g (fun _ => ?_)
  exact pk_s hF
theorem f_X12_pour_j54 (w0 : Wd) (w : Wd) (hF : Fr [100] [(97, 0)] w0 w) : okF (X12_pour_j54  w) (fun q => Fr [100] [(97, 0)] w0 q.2) := by
  unfold X12_pour_j54
  refine pk_c (f_X12_is (2 : Int32) w) (fun q3 hQ => ?_)
  have hF := hF.next hQ (by decide) (by decide)
  refine pk_g (fun _ => ?_)
  exact pk_s hF
theorem f_X12_pour_j109 (w0 : Wd) (w : Wd) (hF : Fr [100] [(97, 0)] w0 w) : okF (X12_pour_j109  w) (fun q => Fr [100] [(97, 0)] w0 q.2) := by
  unfold X12_pour_j109
  refine pk_c (f_X12_is (3 : Int32) w) (fun q5 hQ => ?_)
  have hF := hF.next hQ (by decide) (by decide)
  refine pk_g (fun _ => ?_)
  exact pk_s hF
theorem f_X12_pour_j143 (w0 : Wd) (a1 : Int32) (a2 : Int32) (a3 : Int32) (a4 : Int32) (a5 : Int32) (a6 : Int32) (s0 : Int32) (w : Wd) (hF : Fr [100] [(97, 0)] w0 w) : okF (X12_pour_j143  a1 a2 a3 a4 a5 a6 s0 w) (sel (fun s => Fr [100] [(97, 0)] w0 s.2) (fun e => Fr [100] [(97, 0)] w0 e)) := by
  unfold X12_pour_j143
  refine pk_g (fun _ => ?_)
  refine pk_v (fun z7 => ?_)
  refine pk_g (fun _ => ?_)
  refine pk_w (fun w8 hF => ?_) (hF.puJ (by decide))
  exact pk_s hF
theorem f_X12_pour_b118 (w0 : Wd) (a1 : Int32) (a2 : Int32) (a3 : Int32) (a4 : Int32) (a5 : Int32) (s : (Int32 × Wd)) (hF : Fr [100] [(97, 0)] w0 s.2) : okF (lp (X12_pour_b118  a1 a2 a3 a4 a5) s) (fun e => Fr [100] [(97, 0)] w0 e) := by
  refine pk_lp (I := fun s => Fr [100] [(97, 0)] w0 s.2) (fun s hF => ?_) s hF
  unfold X12_pour_b118
  refine pk_i (fun _ => ?_) (fun _ => ?_)
  · exact pk_s hF
  · refine pk_i (fun _ => ?_) (fun _ => ?_)
    · exact f_X12_pour_j143  w0 a1 a2 a3 a4 a5 s.1 s.1 s.2 hF
    · exact f_X12_pour_j143  w0 a1 a2 a3 a4 a5 s.1 ((a5 - (1 : Int32)) - s.1) s.2 hF
theorem f_X12_pour (a1 : Int32) (a2 : Int32) (a3 : Int32) (a4 : Int32) (a5 : Int32) (w : Wd) : okF (X12_pour  a1 a2 a3 a4 a5 w) (fun q => Fr [100] [(97, 0)] w q.2) := by
  have hF : Fr [100] [(97, 0)] w w := Fr.rf
  unfold X12_pour
  refine pk_i (fun _ => ?_) (fun _ => ?_)
  · exact f_X12_pour_j28  w w hF
  · refine pk_i (fun _ => ?_) (fun _ => ?_)
    · exact f_X12_pour_j28  w w hF
    · refine pk_i (fun _ => ?_) (fun _ => ?_)
      · exact f_X12_pour_j28  w w hF
      · refine pk_i (fun _ => ?_) (fun _ => ?_)
        · exact f_X12_pour_j28  w w hF
        · refine pk_i (fun _ => ?_) (fun _ => ?_)
          · refine pk_g (fun _ => ?_)
            refine pk_i (fun _ => ?_) (fun _ => ?_)
            · exact f_X12_pour_j54  w w hF
            · refine pk_g (fun _ => ?_)
              refine pk_i (fun _ => ?_) (fun _ => ?_)
              · exact f_X12_pour_j54  w w hF
              · refine pk_g (fun _ => ?_)
                refine pk_g (fun _ => ?_)
                refine pk_i (fun _ => ?_) (fun _ => ?_)
                · refine pk_g (fun _ => ?_)
                  refine pk_i (fun _ => ?_) (fun _ => ?_)
                  · exact f_X12_pour_j109  w w hF
                  · refine pk_g (fun _ => ?_)
                    refine pk_i (fun _ => ?_) (fun _ => ?_)
                    · refine pk_c (f_X12_pour_b118 w a1 a2 a3 a4 a5 ((0 : Int32), w) hF) (fun e9 hF => ?_)
                      refine pk_c (f_X12_is (0 : Int32) e9) (fun q10 hQ => ?_)
                      have hF := hF.next hQ (by decide) (by decide)
                      refine pk_g (fun _ => ?_)
                      exact pk_s hF
                    · exact f_X12_pour_j109  w w hF
                · refine pk_c (f_X12_is (8 : Int32) w) (fun q12 hQ => ?_)
                  have hF := hF.next hQ (by decide) (by decide)
                  refine pk_g (fun _ => ?_)
                  exact pk_s hF
          · exact f_X12_pour_j28  w w hF
theorem f_X12_place (a1 : Int32) (w : Wd) : okF (X12_place  a1 w) (fun q => Fr [101] [(97, 0), (97, 4)] w q.2) := by
  have hF : Fr [101] [(97, 0), (97, 4)] w w := Fr.rf
  unfold X12_place
  refine pk_i (fun _ => ?_) (fun _ => ?_)
  · refine pk_c (f_X12_refuse (1 : Int32) w) (fun q7 hQ => ?_)
    have hF := hF.next hQ (by decide) (by decide)
    exact pk_s hF
  · refine pk_i (fun _ => ?_) (fun _ => ?_)
    · refine pk_c (f_X12_refuse (4 : Int32) w) (fun q5 hQ => ?_)
      have hF := hF.next hQ (by decide) (by decide)
      exact pk_s hF
    · refine pk_g (fun _ => ?_)
      refine pk_w (fun w1 hF => ?_) (hF.puI (by decide))
      refine pk_w (fun w2 hF => ?_) (hF.pfI (by decide))
      refine pk_c (f_X12_gives ((w2.1 97 4) - (1 : Int32)) w2) (fun q3 hQ => ?_)
      have hF := hF.next hQ (by decide) (by decide)
      exact pk_s hF
theorem f_X12_way_j79 (w0 : Wd) (w : Wd) (hF : Fr [102, 103, 104, 105, 106] [(97, 0), (97, 5)] w0 w) : okF (X12_way_j79  w) (fun q => Fr [102, 103, 104, 105, 106] [(97, 0), (97, 5)] w0 q.2) := by
  unfold X12_way_j79
  refine pk_c (f_X12_refuse (1 : Int32) w) (fun q1 hQ => ?_)
  have hF := hF.next hQ (by decide) (by decide)
  exact pk_s hF
theorem f_X12_way_j85 (w0 : Wd) (a1 : Int32) (a2 : Int32) (a3 : Int32) (a4 : Int32) (a5 : Int32) (w : Wd) (hF : Fr [102, 103, 104, 105, 106] [(97, 0), (97, 5)] w0 w) : okF (X12_way_j85  a1 a2 a3 a4 a5 w) (fun q => Fr [102, 103, 104, 105, 106] [(97, 0), (97, 5)] w0 q.2) := by
  unfold X12_way_j85
  refine pk_i (fun _ => ?_) (fun _ => ?_)
  · refine pk_c (f_X12_refuse (4 : Int32) w) (fun q16 hQ => ?_)
    have hF := hF.next hQ (by decide) (by decide)
    exact pk_s hF
  · refine pk_v (fun e3 => ?_)
    rcases e3 with e4 | e7
    · refine pk_c (f_X12_refuse (7 : Int32) w) (fun q5 hQ => ?_)
      have hF := hF.next hQ (by decide) (by decide)
      exact pk_s hF
    · refine pk_g (fun _ => ?_)
      refine pk_w (fun w8 hF => ?_) (hF.puI (by decide))
      refine pk_g (fun _ => ?_)
      refine pk_w (fun w9 hF => ?_) (hF.puI (by decide))
      refine pk_g (fun _ => ?_)
      refine pk_w (fun w10 hF => ?_) (hF.puI (by decide))
      refine pk_g (fun _ => ?_)
      refine pk_w (fun w11 hF => ?_) (hF.puI (by decide))
      refine pk_g (fun _ => ?_)
      refine pk_w (fun w12 hF => ?_) (hF.puI (by decide))
      refine pk_w (fun w13 hF => ?_) (hF.pfI (by decide))
      refine pk_c (f_X12_gives ((w13.1 97 5) - (1 : Int32)) w13) (fun q14 hQ => ?_)
      have hF := hF.next hQ (by decide) (by decide)
      exact pk_s hF
theorem f_X12_way_j17 (w0 : Wd) (a1 : Int32) (a2 : Int32) (a3 : Int32) (a4 : Int32) (a5 : Int32) (s0 : Int32) (w : Wd) (hF : Fr [102, 103, 104, 105, 106] [(97, 0), (97, 5)] w0 w) : okF (X12_way_j17  a1 a2 a3 a4 a5 s0 w) (fun q => Fr [102, 103, 104, 105, 106] [(97, 0), (97, 5)] w0 q.2) := by
  unfold X12_way_j17
  refine pk_i (fun _ => ?_) (fun _ => ?_)
  · exact f_X12_way_j79  w0 w hF
  · refine pk_i (fun _ => ?_) (fun _ => ?_)
    · exact f_X12_way_j79  w0 w hF
    · refine pk_i (fun _ => ?_) (fun _ => ?_)
      · exact f_X12_way_j79  w0 w hF
      · refine pk_i (fun _ => ?_) (fun _ => ?_)
        · exact f_X12_way_j79  w0 w hF
        · refine pk_i (fun _ => ?_) (fun _ => ?_)
          · exact f_X12_way_j79  w0 w hF
          · refine pk_i (fun _ => ?_) (fun _ => ?_)
            · refine pk_i (fun _ => ?_) (fun _ => ?_)
              · exact f_X12_way_j79  w0 w hF
              · refine pk_i (fun _ => ?_) (fun _ => ?_)
                · exact f_X12_way_j79  w0 w hF
                · refine pk_i (fun _ => ?_) (fun _ => ?_)
                  · exact f_X12_way_j85  w0 a1 a2 a3 a4 a5 w hF
                  · exact f_X12_way_j79  w0 w hF
            · exact f_X12_way_j85  w0 a1 a2 a3 a4 a5 w hF
theorem f_X12_way_j16 (w0 : Wd) (a1 : Int32) (a2 : Int32) (a3 : Int32) (a4 : Int32) (a5 : Int32) (w : Wd) (hF : Fr [102, 103, 104, 105, 106] [(97, 0), (97, 5)] w0 w) : okF (X12_way_j16  a1 a2 a3 a4 a5 w) (fun q => Fr [102, 103, 104, 105, 106] [(97, 0), (97, 5)] w0 q.2) := by
  unfold X12_way_j16
  exact f_X12_way_j17  w0 a1 a2 a3 a4 a5 (0 : Int32) w hF
theorem f_X12_way (a1 : Int32) (a2 : Int32) (a3 : Int32) (a4 : Int32) (a5 : Int32) (w : Wd) : okF (X12_way  a1 a2 a3 a4 a5 w) (fun q => Fr [102, 103, 104, 105, 106] [(97, 0), (97, 5)] w q.2) := by
  have hF : Fr [102, 103, 104, 105, 106] [(97, 0), (97, 5)] w w := Fr.rf
  unfold X12_way
  refine pk_i (fun _ => ?_) (fun _ => ?_)
  · refine pk_i (fun _ => ?_) (fun _ => ?_)
    · exact f_X12_way_j17  w a1 a2 a3 a4 a5 (1 : Int32) w hF
    · exact f_X12_way_j16  w a1 a2 a3 a4 a5 w hF
  · exact f_X12_way_j16  w a1 a2 a3 a4 a5 w hF
theorem f_X12_travel_j25 (w0 : Wd) (a1 : Int32) (a2 : Int32) (a3 : Int32) (s0 : Int32) (s1 : Int32) (w : Wd) (hF : Fr [107] [] w0 w) : okF (X12_travel_j25  a1 a2 a3 s0 s1 w) (sel (fun s => Fr [107] [] w0 s.2) (fun e => Fr [107] [] w0 e)) := by
  unfold X12_travel_j25
  refine pk_g (fun _ => ?_)
  refine pk_w (fun w1 hF => ?_) (hF.puI (by decide))
  exact pk_s hF
theorem f_X12_travel_b2 (w0 : Wd) (a1 : Int32) (a2 : Int32) (s : (Int32 × Wd)) (hF : Fr [107] [] w0 s.2) : okF (lp (X12_travel_b2  a1 a2) s) (fun e => Fr [107] [] w0 e) := by
  refine pk_lp (I := fun s => Fr [107] [] w0 s.2) (fun s hF => ?_) s hF
  unfold X12_travel_b2
  refine pk_i (fun _ => ?_) (fun _ => ?_)
  · exact pk_s hF
  · refine pk_i (fun _ => ?_) (fun _ => ?_)
    · exact f_X12_travel_j25  w0 a1 a2 s.1 a2 s.1 s.2 hF
    · exact f_X12_travel_j25  w0 a1 a2 s.1 (1000 : Int32) s.1 s.2 hF
theorem f_X12_travel_j199 (w0 : Wd) (a3 : Int32) (a4 : Int32) (a5 : Int32) (w : Wd) (hF : Fr [107] [] w0 w) : okF (X12_travel_j199  a3 a4 a5 w) (sel (fun s => Fr [107] [] w0 s.2.2) (fun e => Fr [107] [] w0 e.2)) := by
  unfold X12_travel_j199
  exact pk_s hF
theorem f_X12_travel_j107 (w0 : Wd) (a3 : Int32) (a4 : Int32) (a5 : Int32) (a6 : Int32) (s0 : Int32) (w : Wd) (hF : Fr [107] [] w0 w) : okF (X12_travel_j107  a3 a4 a5 a6 s0 w) (sel (fun s => Fr [107] [] w0 s.2.2) (fun e => Fr [107] [] w0 e.2)) := by
  unfold X12_travel_j107
  refine pk_g (fun _ => ?_)
  refine pk_v (fun e5 => ?_)
  refine pk_g (fun _ => ?_)
  refine pk_i (fun _ => ?_) (fun _ => ?_)
  · exact f_X12_travel_j199  w0 a3 a4 a5 w hF
  · refine pk_g (fun _ => ?_)
    refine pk_g (fun _ => ?_)
    refine pk_i (fun _ => ?_) (fun _ => ?_)
    · refine pk_g (fun _ => ?_)
      refine pk_g (fun _ => ?_)
      refine pk_w (fun w6 hF => ?_) (hF.puI (by decide))
      exact f_X12_travel_j199  w0 (1 : Int32) a4 a5 w6 hF
    · exact f_X12_travel_j199  w0 a3 a4 a5 w hF
theorem f_X12_travel_j83 (w0 : Wd) (a3 : Int32) (a4 : Int32) (a5 : Int32) (s0 : Int32) (w : Wd) (hF : Fr [107] [] w0 w) : okF (X12_travel_j83  a3 a4 a5 s0 w) (sel (fun s => Fr [107] [] w0 s.2.2) (fun e => Fr [107] [] w0 e.2)) := by
  unfold X12_travel_j83
  refine pk_i (fun _ => ?_) (fun _ => ?_)
  · refine pk_g (fun _ => ?_)
    exact f_X12_travel_j107  w0 a3 a4 a5 s0 (w.1 103 (ix a4)) w hF
  · refine pk_g (fun _ => ?_)
    exact f_X12_travel_j107  w0 a3 a4 a5 s0 (w.1 102 (ix a4)) w hF
theorem f_X12_travel_b55 (w0 : Wd) (a4 : Int32) (s : (Int32 × Int32 × Wd)) (hF : Fr [107] [] w0 s.2.2) : okF (lp (X12_travel_b55  a4) s) (fun e => Fr [107] [] w0 e.2) := by
  refine pk_lp (I := fun s => Fr [107] [] w0 s.2.2) (fun s hF => ?_) s hF
  unfold X12_travel_b55
  refine pk_i (fun _ => ?_) (fun _ => ?_)
  · exact pk_s hF
  · refine pk_i (fun _ => ?_) (fun _ => ?_)
    · refine pk_g (fun _ => ?_)
      exact f_X12_travel_j83  w0 s.1 a4 s.2.1 (s.2.2.1 102 (ix a4)) s.2.2 hF
    · refine pk_g (fun _ => ?_)
      exact f_X12_travel_j83  w0 s.1 a4 s.2.1 (s.2.2.1 103 (ix a4)) s.2.2 hF
theorem f_X12_travel_b43 (w0 : Wd) (s : (Int32 × Int32 × Wd)) (hF : Fr [107] [] w0 s.2.2) : okF (lp (X12_travel_b43  ) s) (fun e => Fr [107] [] w0 e.2) := by
  refine pk_lp (I := fun s => Fr [107] [] w0 s.2.2) (fun s hF => ?_) s hF
  unfold X12_travel_b43
  refine pk_i (fun _ => ?_) (fun _ => ?_)
  · exact pk_s hF
  · refine pk_c (f_X12_travel_b55 w0 s.2.1 (s.1, (0 : Int32), s.2.2) hF) (fun e7 hF => ?_)
    exact pk_s hF
theorem f_X12_travel_b34 (w0 : Wd) (s : (Int32 × Wd)) (hF : Fr [107] [] w0 s.2) : okF (lp (X12_travel_b34  ) s) (fun e => Fr [107] [] w0 e) := by
  refine pk_lp (I := fun s => Fr [107] [] w0 s.2) (fun s hF => ?_) s hF
  unfold X12_travel_b34
  refine pk_i (fun _ => ?_) (fun _ => ?_)
  · exact pk_s hF
  · refine pk_c (f_X12_travel_b43 w0 ((0 : Int32), (0 : Int32), s.2) hF) (fun e8 hF => ?_)
    exact pk_s hF
theorem f_X12_travel (a1 : Int32) (a2 : Int32) (w : Wd) : okF (X12_travel  a1 a2 w) (fun q => Fr [107] [] w q) := by
  have hF : Fr [107] [] w w := Fr.rf
  unfold X12_travel
  refine pk_c (f_X12_travel_b2 w a1 a2 ((0 : Int32), w) hF) (fun e2 hF => ?_)
  refine pk_c (f_X12_travel_b34 w ((1 : Int32), e2) hF) (fun e9 hF => ?_)
  exact pk_s hF
theorem f_X12_arrival_j23 (w0 : Wd) (w : Wd) (hF : Fr [107] [(97, 0)] w0 w) : okF (X12_arrival_j23  w) (fun q => Fr [107] [(97, 0)] w0 q.2) := by
  unfold X12_arrival_j23
  refine pk_c (f_X12_refuse (1 : Int32) w) (fun q1 hQ => ?_)
  have hF := hF.next hQ (by decide) (by decide)
  exact pk_s hF
theorem f_X12_arrival (a1 : Int32) (a2 : Int32) (a3 : Int32) (w : Wd) : okF (X12_arrival  a1 a2 a3 w) (fun q => Fr [107] [(97, 0)] w q.2) := by
  have hF : Fr [107] [(97, 0)] w w := Fr.rf
  unfold X12_arrival
  refine pk_i (fun _ => ?_) (fun _ => ?_)
  · exact f_X12_arrival_j23  w w hF
  · refine pk_i (fun _ => ?_) (fun _ => ?_)
    · exact f_X12_arrival_j23  w w hF
    · refine pk_i (fun _ => ?_) (fun _ => ?_)
      · exact f_X12_arrival_j23  w w hF
      · refine pk_c (f_X12_travel a1 a3 w) (fun q3 hQ => ?_)
        have hF := hF.next hQ (by decide) (by decide)
        refine pk_g (fun _ => ?_)
        refine pk_i (fun _ => ?_) (fun _ => ?_)
        · refine pk_c (f_X12_refuse (6 : Int32) q3) (fun q7 hQ => ?_)
          have hF := hF.next hQ (by decide) (by decide)
          exact pk_s hF
        · refine pk_g (fun _ => ?_)
          refine pk_c (f_X12_gives (q3.1 107 (ix a2)) q3) (fun q5 hQ => ?_)
          have hF := hF.next hQ (by decide) (by decide)
          exact pk_s hF
theorem f_X12_learner_j28 (w0 : Wd) (w : Wd) (hF : Fr [108, 109, 110] [(97, 0), (97, 6)] w0 w) : okF (X12_learner_j28  w) (fun q => Fr [108, 109, 110] [(97, 0), (97, 6)] w0 q.2) := by
  unfold X12_learner_j28
  refine pk_c (f_X12_refuse (1 : Int32) w) (fun q1 hQ => ?_)
  have hF := hF.next hQ (by decide) (by decide)
  exact pk_s hF
theorem f_X12_learner (a1 : Int32) (a2 : Int32) (a3 : Int32) (w : Wd) : okF (X12_learner  a1 a2 a3 w) (fun q => Fr [108, 109, 110] [(97, 0), (97, 6)] w q.2) := by
  have hF : Fr [108, 109, 110] [(97, 0), (97, 6)] w w := Fr.rf
  unfold X12_learner
  refine pk_i (fun _ => ?_) (fun _ => ?_)
  · exact f_X12_learner_j28  w w hF
  · refine pk_i (fun _ => ?_) (fun _ => ?_)
    · exact f_X12_learner_j28  w w hF
    · refine pk_i (fun _ => ?_) (fun _ => ?_)
      · exact f_X12_learner_j28  w w hF
      · refine pk_i (fun _ => ?_) (fun _ => ?_)
        · exact f_X12_learner_j28  w w hF
        · refine pk_i (fun _ => ?_) (fun _ => ?_)
          · refine pk_i (fun _ => ?_) (fun _ => ?_)
            · refine pk_c (f_X12_refuse (4 : Int32) w) (fun q9 hQ => ?_)
              have hF := hF.next hQ (by decide) (by decide)
              exact pk_s hF
            · refine pk_g (fun _ => ?_)
              refine pk_w (fun w3 hF => ?_) (hF.puI (by decide))
              refine pk_g (fun _ => ?_)
              refine pk_w (fun w4 hF => ?_) (hF.puI (by decide))
              refine pk_g (fun _ => ?_)
              refine pk_w (fun w5 hF => ?_) (hF.puI (by decide))
              refine pk_w (fun w6 hF => ?_) (hF.pfI (by decide))
              refine pk_c (f_X12_gives ((w6.1 97 6) - (1 : Int32)) w6) (fun q7 hQ => ?_)
              have hF := hF.next hQ (by decide) (by decide)
              exact pk_s hF
          · exact f_X12_learner_j28  w w hF
theorem f_X12_teacher_j19 (w0 : Wd) (w : Wd) (hF : Fr [111, 112] [(97, 0), (97, 7)] w0 w) : okF (X12_teacher_j19  w) (fun q => Fr [111, 112] [(97, 0), (97, 7)] w0 q.2) := by
  unfold X12_teacher_j19
  refine pk_c (f_X12_refuse (1 : Int32) w) (fun q1 hQ => ?_)
  have hF := hF.next hQ (by decide) (by decide)
  exact pk_s hF
theorem f_X12_teacher (a1 : Int32) (a2 : Int32) (w : Wd) : okF (X12_teacher  a1 a2 w) (fun q => Fr [111, 112] [(97, 0), (97, 7)] w q.2) := by
  have hF : Fr [111, 112] [(97, 0), (97, 7)] w w := Fr.rf
  unfold X12_teacher
  refine pk_i (fun _ => ?_) (fun _ => ?_)
  · exact f_X12_teacher_j19  w w hF
  · refine pk_i (fun _ => ?_) (fun _ => ?_)
    · exact f_X12_teacher_j19  w w hF
    · refine pk_i (fun _ => ?_) (fun _ => ?_)
      · exact f_X12_teacher_j19  w w hF
      · refine pk_i (fun _ => ?_) (fun _ => ?_)
        · refine pk_c (f_X12_refuse (4 : Int32) w) (fun q8 hQ => ?_)
          have hF := hF.next hQ (by decide) (by decide)
          exact pk_s hF
        · refine pk_g (fun _ => ?_)
          refine pk_w (fun w3 hF => ?_) (hF.puI (by decide))
          refine pk_g (fun _ => ?_)
          refine pk_w (fun w4 hF => ?_) (hF.puI (by decide))
          refine pk_w (fun w5 hF => ?_) (hF.pfI (by decide))
          refine pk_c (f_X12_gives ((w5.1 97 7) - (1 : Int32)) w5) (fun q6 hQ => ?_)
          have hF := hF.next hQ (by decide) (by decide)
          exact pk_s hF
theorem f_X12_lamp (a1 : Int32) (w : Wd) : okF (X12_lamp  a1 w) (fun q => Fr [113] [(97, 0), (97, 8)] w q.2) := by
  have hF : Fr [113] [(97, 0), (97, 8)] w w := Fr.rf
  unfold X12_lamp
  refine pk_i (fun _ => ?_) (fun _ => ?_)
  · refine pk_c (f_X12_refuse (1 : Int32) w) (fun q7 hQ => ?_)
    have hF := hF.next hQ (by decide) (by decide)
    exact pk_s hF
  · refine pk_i (fun _ => ?_) (fun _ => ?_)
    · refine pk_c (f_X12_refuse (4 : Int32) w) (fun q5 hQ => ?_)
      have hF := hF.next hQ (by decide) (by decide)
      exact pk_s hF
    · refine pk_g (fun _ => ?_)
      refine pk_w (fun w1 hF => ?_) (hF.puI (by decide))
      refine pk_w (fun w2 hF => ?_) (hF.pfI (by decide))
      refine pk_c (f_X12_gives ((w2.1 97 8) - (1 : Int32)) w2) (fun q3 hQ => ?_)
      have hF := hF.next hQ (by decide) (by decide)
      exact pk_s hF
theorem f_X12_note_j103 (w0 : Wd) (w : Wd) (hF : Fr [114, 115, 116, 117, 118, 119] [(97, 0), (97, 9), (97, 10)] w0 w) : okF (X12_note_j103  w) (fun q => Fr [114, 115, 116, 117, 118, 119] [(97, 0), (97, 9), (97, 10)] w0 q.2) := by
  unfold X12_note_j103
  refine pk_c (f_X12_is (1 : Int32) w) (fun q1 hQ => ?_)
  have hF := hF.next hQ (by decide) (by decide)
  refine pk_g (fun _ => ?_)
  exact pk_s hF
theorem f_X12_note_j51 (w0 : Wd) (a1 : Int32) (a2 : Int32) (a3 : Int32) (a4 : Int32) (a5 : Int32) (a6 : Int32) (a7 : Int32) (s0 : Int32) (w : Wd) (hF : Fr [114, 115, 116, 117, 118, 119] [(97, 0), (97, 9), (97, 10)] w0 w) : okF (X12_note_j51  a1 a2 a3 a4 a5 a6 a7 s0 w) (fun q => Fr [114, 115, 116, 117, 118, 119] [(97, 0), (97, 9), (97, 10)] w0 q.2) := by
  unfold X12_note_j51
  refine pk_i (fun _ => ?_) (fun _ => ?_)
  · exact f_X12_note_j103  w0 w hF
  · refine pk_i (fun _ => ?_) (fun _ => ?_)
    · exact f_X12_note_j103  w0 w hF
    · refine pk_i (fun _ => ?_) (fun _ => ?_)
      · exact f_X12_note_j103  w0 w hF
      · refine pk_i (fun _ => ?_) (fun _ => ?_)
        · exact f_X12_note_j103  w0 w hF
        · refine pk_i (fun _ => ?_) (fun _ => ?_)
          · exact f_X12_note_j103  w0 w hF
          · refine pk_i (fun _ => ?_) (fun _ => ?_)
            · exact f_X12_note_j103  w0 w hF
            · refine pk_i (fun _ => ?_) (fun _ => ?_)
              · exact f_X12_note_j103  w0 w hF
              · refine pk_i (fun _ => ?_) (fun _ => ?_)
                · exact f_X12_note_j103  w0 w hF
                · refine pk_i (fun _ => ?_) (fun _ => ?_)
                  · refine pk_c (f_X12_is (4 : Int32) w) (fun q15 hQ => ?_)
                    have hF := hF.next hQ (by decide) (by decide)
                    refine pk_g (fun _ => ?_)
                    exact pk_s hF
                  · refine pk_i (fun _ => ?_) (fun _ => ?_)
                    · refine pk_w (fun w3 hF => ?_) (hF.pfI (by decide))
                      refine pk_g (fun _ => ?_)
                      refine pk_w (fun w4 hF => ?_) (hF.puI (by decide))
                      refine pk_g (fun _ => ?_)
                      refine pk_w (fun w5 hF => ?_) (hF.puI (by decide))
                      refine pk_g (fun _ => ?_)
                      refine pk_w (fun w6 hF => ?_) (hF.puI (by decide))
                      refine pk_g (fun _ => ?_)
                      refine pk_w (fun w7 hF => ?_) (hF.puI (by decide))
                      refine pk_g (fun _ => ?_)
                      refine pk_w (fun w8 hF => ?_) (hF.puI (by decide))
                      refine pk_g (fun _ => ?_)
                      refine pk_w (fun w9 hF => ?_) (hF.puI (by decide))
                      refine pk_w (fun w10 hF => ?_) (hF.pfI (by decide))
                      refine pk_c (f_X12_is (0 : Int32) w10) (fun q11 hQ => ?_)
                      have hF := hF.next hQ (by decide) (by decide)
                      refine pk_g (fun _ => ?_)
                      exact pk_s hF
                    · refine pk_c (f_X12_is (5 : Int32) w) (fun q13 hQ => ?_)
                      have hF := hF.next hQ (by decide) (by decide)
                      refine pk_g (fun _ => ?_)
                      exact pk_s hF
theorem f_X12_note_j33 (w0 : Wd) (a1 : Int32) (a2 : Int32) (a3 : Int32) (a4 : Int32) (a5 : Int32) (a6 : Int32) (a7 : Int32) (w : Wd) (hF : Fr [114, 115, 116, 117, 118, 119] [(97, 0), (97, 9), (97, 10)] w0 w) : okF (X12_note_j33  a1 a2 a3 a4 a5 a6 a7 w) (fun q => Fr [114, 115, 116, 117, 118, 119] [(97, 0), (97, 9), (97, 10)] w0 q.2) := by
  unfold X12_note_j33
  exact f_X12_note_j51  w0 a1 a2 a3 a4 a5 a6 a7 (X12_isLamp a3 w) w hF
theorem f_X12_note_j22 (w0 : Wd) (a1 : Int32) (a2 : Int32) (a3 : Int32) (a4 : Int32) (a5 : Int32) (a6 : Int32) (s0 : Int32) (w : Wd) (hF : Fr [114, 115, 116, 117, 118, 119] [(97, 0), (97, 9), (97, 10)] w0 w) : okF (X12_note_j22  a1 a2 a3 a4 a5 a6 s0 w) (fun q => Fr [114, 115, 116, 117, 118, 119] [(97, 0), (97, 9), (97, 10)] w0 q.2) := by
  unfold X12_note_j22
  refine pk_i (fun _ => ?_) (fun _ => ?_)
  · exact f_X12_note_j33  w0 a1 a2 a3 a4 a5 a6 s0 w hF
  · refine pk_i (fun _ => ?_) (fun _ => ?_)
    · exact f_X12_note_j33  w0 a1 a2 a3 a4 a5 a6 s0 w hF
    · refine pk_i (fun _ => ?_) (fun _ => ?_)
      · exact f_X12_note_j51  w0 a1 a2 a3 a4 a5 a6 s0 (1 : Int32) w hF
      · exact f_X12_note_j51  w0 a1 a2 a3 a4 a5 a6 s0 (0 : Int32) w hF
theorem f_X12_note_j9 (w0 : Wd) (a1 : Int32) (a2 : Int32) (a3 : Int32) (a4 : Int32) (a5 : Int32) (a6 : Int32) (w : Wd) (hF : Fr [114, 115, 116, 117, 118, 119] [(97, 0), (97, 9), (97, 10)] w0 w) : okF (X12_note_j9  a1 a2 a3 a4 a5 a6 w) (fun q => Fr [114, 115, 116, 117, 118, 119] [(97, 0), (97, 9), (97, 10)] w0 q.2) := by
  unfold X12_note_j9
  exact f_X12_note_j22  w0 a1 a2 a3 a4 a5 a6 (X12_isTeacher a2 w) w hF
theorem f_X12_note (a1 : Int32) (a2 : Int32) (a3 : Int32) (a4 : Int32) (a5 : Int32) (a6 : Int32) (w : Wd) : okF (X12_note  a1 a2 a3 a4 a5 a6 w) (fun q => Fr [114, 115, 116, 117, 118, 119] [(97, 0), (97, 9), (97, 10)] w q.2) := by
  have hF : Fr [114, 115, 116, 117, 118, 119] [(97, 0), (97, 9), (97, 10)] w w := Fr.rf
  unfold X12_note
  refine pk_i (fun _ => ?_) (fun _ => ?_)
  · exact f_X12_note_j9  w a1 a2 a3 a4 a5 a6 w hF
  · refine pk_i (fun _ => ?_) (fun _ => ?_)
    · exact f_X12_note_j9  w a1 a2 a3 a4 a5 a6 w hF
    · exact f_X12_note_j22  w a1 a2 a3 a4 a5 a6 (X12_isLearner a2 w) w hF
theorem f_X12_asof (a1 : Int32) (w : Wd) : okF (X12_asof  a1 w) (fun q => Fr [] [(97, 0), (97, 11)] w q.2) := by
  have hF : Fr [] [(97, 0), (97, 11)] w w := Fr.rf
  unfold X12_asof
  refine pk_i (fun _ => ?_) (fun _ => ?_)
  · refine pk_c (f_X12_is (1 : Int32) w) (fun q4 hQ => ?_)
    have hF := hF.next hQ (by decide) (by decide)
    refine pk_g (fun _ => ?_)
    exact pk_s hF
  · refine pk_w (fun w1 hF => ?_) (hF.pfI (by decide))
    refine pk_c (f_X12_is (0 : Int32) w1) (fun q2 hQ => ?_)
    have hF := hF.next hQ (by decide) (by decide)
    refine pk_g (fun _ => ?_)
    exact pk_s hF
theorem f_X12_where_j39 (w0 : Wd) (w : Wd) (hF : Fr [] [(97, 0)] w0 w) : okF (X12_where_j39  w) (fun q => Fr [] [(97, 0)] w0 q.2) := by
  unfold X12_where_j39
  refine pk_c (f_X12_refuse (1 : Int32) w) (fun q1 hQ => ?_)
  have hF := hF.next hQ (by decide) (by decide)
  exact pk_s hF
theorem f_X12_where_j32 (w0 : Wd) (a1 : Int32) (a2 : Int32) (a3 : Int32) (w : Wd) (hF : Fr [] [(97, 0)] w0 w) : okF (X12_where_j32  a1 a2 a3 w) (fun q => Fr [] [(97, 0)] w0 q.2) := by
  unfold X12_where_j32
  refine pk_i (fun _ => ?_) (fun _ => ?_)
  · exact f_X12_where_j39  w0 w hF
  · refine pk_v (fun q3 => ?_)
    refine pk_i (fun _ => ?_) (fun _ => ?_)
    · refine pk_c (f_X12_refuse (6 : Int32) w) (fun q7 hQ => ?_)
      have hF := hF.next hQ (by decide) (by decide)
      exact pk_s hF
    · refine pk_c (f_X12_gives q3 w) (fun q5 hQ => ?_)
      have hF := hF.next hQ (by decide) (by decide)
      exact pk_s hF
theorem f_X12_where (a1 : Int32) (a2 : Int32) (a3 : Int32) (w : Wd) : okF (X12_where  a1 a2 a3 w) (fun q => Fr [] [(97, 0)] w q.2) := by
  have hF : Fr [] [(97, 0)] w w := Fr.rf
  unfold X12_where
  refine pk_i (fun _ => ?_) (fun _ => ?_)
  · exact f_X12_where_j39  w w hF
  · refine pk_i (fun _ => ?_) (fun _ => ?_)
    · exact f_X12_where_j39  w w hF
    · refine pk_i (fun _ => ?_) (fun _ => ?_)
      · refine pk_i (fun _ => ?_) (fun _ => ?_)
        · exact f_X12_where_j39  w w hF
        · exact f_X12_where_j32  w a1 a2 a3 w hF
      · refine pk_i (fun _ => ?_) (fun _ => ?_)
        · exact f_X12_where_j39  w w hF
        · exact f_X12_where_j32  w a1 a2 a3 w hF
theorem f_X12_lit_j15 (w0 : Wd) (w : Wd) (hF : Fr [] [(97, 0)] w0 w) : okF (X12_lit_j15  w) (fun q => Fr [] [(97, 0)] w0 q.2) := by
  unfold X12_lit_j15
  refine pk_c (f_X12_refuse (1 : Int32) w) (fun q1 hQ => ?_)
  have hF := hF.next hQ (by decide) (by decide)
  exact pk_s hF
theorem f_X12_lit (a1 : Int32) (a2 : Int32) (w : Wd) : okF (X12_lit  a1 a2 w) (fun q => Fr [] [(97, 0)] w q.2) := by
  have hF : Fr [] [(97, 0)] w w := Fr.rf
  unfold X12_lit
  refine pk_i (fun _ => ?_) (fun _ => ?_)
  · exact f_X12_lit_j15  w w hF
  · refine pk_i (fun _ => ?_) (fun _ => ?_)
    · exact f_X12_lit_j15  w w hF
    · refine pk_v (fun q3 => ?_)
      refine pk_i (fun _ => ?_) (fun _ => ?_)
      · refine pk_c (f_X12_refuse (6 : Int32) w) (fun q7 hQ => ?_)
        have hF := hF.next hQ (by decide) (by decide)
        exact pk_s hF
      · refine pk_c (f_X12_gives q3 w) (fun q5 hQ => ?_)
        have hF := hF.next hQ (by decide) (by decide)
        exact pk_s hF
theorem f_X12_four_b3 (w0 : Wd) (a1 : Int32) (s : (Int32 × Wd)) (hF : Fr [120] [(97, 33)] w0 s.2) : okF (lp (X12_four_b3  a1) s) (fun e => Fr [120] [(97, 33)] w0 e) := by
  refine pk_lp (I := fun s => Fr [120] [(97, 33)] w0 s.2) (fun s hF => ?_) s hF
  unfold X12_four_b3
  refine pk_i (fun _ => ?_) (fun _ => ?_)
  · exact pk_s hF
  · refine pk_g (fun _ => ?_)
    refine pk_w (fun w1 hF => ?_) (hF.puI (by decide))
    refine pk_w (fun w2 hF => ?_) (hF.pfI (by decide))
    exact pk_s hF
theorem f_X12_four (a1 : Int32) (w : Wd) : okF (X12_four  a1 w) (fun q => Fr [120] [(97, 33)] w q) := by
  have hF : Fr [120] [(97, 33)] w w := Fr.rf
  unfold X12_four
  refine pk_c (f_X12_four_b3 w a1 ((24 : Int32), w) hF) (fun e3 hF => ?_)
  exact pk_s hF
theorem f_X12_feed (a1 : Int32) (a2 : Int32) (a3 : Int32) (a4 : Int32) (a5 : Int32) (w : Wd) : okF (X12_feed  a1 a2 a3 a4 a5 w) (fun q => Fr [120] [(97, 33)] w q.2) := by
  have hF : Fr [120] [(97, 33)] w w := Fr.rf
  unfold X12_feed
  refine pk_i (fun _ => ?_) (fun _ => ?_)
  · refine pk_c (f_X12_four a1 w) (fun q1 hQ => ?_)
    have hF := hF.next hQ (by decide) (by decide)
    refine pk_c (f_X12_four a2 q1) (fun q3 hQ => ?_)
    have hF := hF.next hQ (by decide) (by decide)
    refine pk_c (f_X12_four a3 q3) (fun q5 hQ => ?_)
    have hF := hF.next hQ (by decide) (by decide)
    refine pk_c (f_X12_four a4 q5) (fun q7 hQ => ?_)
    have hF := hF.next hQ (by decide) (by decide)
    refine pk_c (f_X12_four a5 q7) (fun q9 hQ => ?_)
    have hF := hF.next hQ (by decide) (by decide)
    exact pk_s hF
  · exact pk_s hF
theorem f_X12_next_j26 (w0 : Wd) (w : Wd) (hF : Fr [] [(97, 35), (97, 36), (97, 37), (97, 38)] w0 w) : okF (X12_next_j26  w) (sel (fun s => Fr [] [(97, 35), (97, 36), (97, 37), (97, 38)] w0 s) (fun e => Fr [] [(97, 35), (97, 36), (97, 37), (97, 38)] w0 e)) := by
  unfold X12_next_j26
  refine pk_w (fun w6 hF => ?_) (hF.pfI (by decide))
  exact pk_s hF
theorem f_X12_next_b0 (w0 : Wd) (s : Wd) (hF : Fr [] [(97, 35), (97, 36), (97, 37), (97, 38)] w0 s) : okF (lp (X12_next_b0  ) s) (fun e => Fr [] [(97, 35), (97, 36), (97, 37), (97, 38)] w0 e) := by
  refine pk_lp (I := fun s => Fr [] [(97, 35), (97, 36), (97, 37), (97, 38)] w0 s) (fun s hF => ?_) s hF
  unfold X12_next_b0
  refine pk_v (fun q4 => ?_)
  refine pk_i (fun _ => ?_) (fun _ => ?_)
  · exact f_X12_next_j26  w0 s hF
  · refine pk_v (fun q7 => ?_)
    refine pk_i (fun _ => ?_) (fun _ => ?_)
    · exact f_X12_next_j26  w0 s hF
    · exact pk_s hF
theorem f_X12_next_j301 (w0 : Wd) (s0 : Int32) (w : Wd) (hF : Fr [] [(97, 35), (97, 36), (97, 37), (97, 38)] w0 w) : okF (X12_next_j301  s0 w) (fun q => Fr [] [(97, 35), (97, 36), (97, 37), (97, 38)] w0 q) := by
  unfold X12_next_j301
  refine pk_w (fun w15 hF => ?_) (hF.pfI (by decide))
  exact pk_s hF
theorem f_X12_next_j290 (w0 : Wd) (s0 : Int32) (w : Wd) (hF : Fr [] [(97, 35), (97, 36), (97, 37), (97, 38)] w0 w) : okF (X12_next_j290  s0 w) (fun q => Fr [] [(97, 35), (97, 36), (97, 37), (97, 38)] w0 q) := by
  unfold X12_next_j290
  refine pk_i (fun _ => ?_) (fun _ => ?_)
  · exact f_X12_next_j301  w0 (1 : Int32) w hF
  · exact f_X12_next_j301  w0 (4 : Int32) w hF
theorem f_X12_next_j285 (w0 : Wd) (w : Wd) (hF : Fr [] [(97, 35), (97, 36), (97, 37), (97, 38)] w0 w) : okF (X12_next_j285  w) (fun q => Fr [] [(97, 35), (97, 36), (97, 37), (97, 38)] w0 q) := by
  unfold X12_next_j285
  exact f_X12_next_j290  w0 (1 : Int32) w hF
theorem f_X12_next_b128 (w0 : Wd) (s : Wd) (hF : Fr [] [(97, 35), (97, 36), (97, 37), (97, 38)] w0 s) : okF (lp (X12_next_b128  ) s) (fun e => Fr [] [(97, 35), (97, 36), (97, 37), (97, 38)] w0 e) := by
  refine pk_lp (I := fun s => Fr [] [(97, 35), (97, 36), (97, 37), (97, 38)] w0 s) (fun s hF => ?_) s hF
  unfold X12_next_b128
  refine pk_v (fun q17 => ?_)
  refine pk_i (fun _ => ?_) (fun _ => ?_)
  · exact pk_s hF
  · refine pk_v (fun q19 => ?_)
    refine pk_w (fun w21 hF => ?_) (hF.pfI (by decide))
    refine pk_w (fun w22 hF => ?_) (hF.pfI (by decide))
    exact pk_s hF
theorem f_X12_next_j203 (w0 : Wd) (s0 : Int32) (w : Wd) (hF : Fr [] [(97, 35), (97, 36), (97, 37), (97, 38)] w0 w) : okF (X12_next_j203  s0 w) (fun q => Fr [] [(97, 35), (97, 36), (97, 37), (97, 38)] w0 q) := by
  unfold X12_next_j203
  refine pk_w (fun w24 hF => ?_) (hF.pfI (by decide))
  exact pk_s hF
theorem f_X12_next_b81 (w0 : Wd) (s : Wd) (hF : Fr [] [(97, 35), (97, 36), (97, 37), (97, 38)] w0 s) : okF (lp (X12_next_b81  ) s) (fun e => Fr [] [(97, 35), (97, 36), (97, 37), (97, 38)] w0 e) := by
  refine pk_lp (I := fun s => Fr [] [(97, 35), (97, 36), (97, 37), (97, 38)] w0 s) (fun s hF => ?_) s hF
  unfold X12_next_b81
  refine pk_v (fun q25 => ?_)
  refine pk_i (fun _ => ?_) (fun _ => ?_)
  · exact pk_s hF
  · refine pk_w (fun w27 hF => ?_) (hF.pfI (by decide))
    exact pk_s hF
theorem f_X12_next (w : Wd) : okF (X12_next   w) (fun q => Fr [] [(97, 35), (97, 36), (97, 37), (97, 38)] w q) := by
  have hF : Fr [] [(97, 35), (97, 36), (97, 37), (97, 38)] w w := Fr.rf
  unfold X12_next
  refine pk_v (fun q1 => ?_)
  refine pk_i (fun _ => ?_) (fun _ => ?_)
  · refine pk_w (fun w3 hF => ?_) (hF.pfI (by decide))
    refine pk_c (f_X12_next_b0 w w3 hF) (fun e9 hF => ?_)
    refine pk_w (fun w10 hF => ?_) (hF.pfI (by decide))
    refine pk_v (fun q11 => ?_)
    refine pk_w (fun w13 hF => ?_) (hF.pfI (by decide))
    refine pk_i (fun _ => ?_) (fun _ => ?_)
    · refine pk_w (fun w30 hF => ?_) (hF.pfI (by decide))
      exact pk_s hF
    · refine pk_i (fun _ => ?_) (fun _ => ?_)
      · refine pk_i (fun _ => ?_) (fun _ => ?_)
        · refine pk_w (fun w14 hF => ?_) (hF.pfI (by decide))
          refine pk_i (fun _ => ?_) (fun _ => ?_)
          · exact f_X12_next_j285  w w14 hF
          · refine pk_i (fun _ => ?_) (fun _ => ?_)
            · exact f_X12_next_j285  w w14 hF
            · refine pk_i (fun _ => ?_) (fun _ => ?_)
              · exact f_X12_next_j285  w w14 hF
              · refine pk_i (fun _ => ?_) (fun _ => ?_)
                · exact f_X12_next_j285  w w14 hF
                · refine pk_i (fun _ => ?_) (fun _ => ?_)
                  · exact f_X12_next_j285  w w14 hF
                  · refine pk_i (fun _ => ?_) (fun _ => ?_)
                    · exact f_X12_next_j285  w w14 hF
                    · refine pk_i (fun _ => ?_) (fun _ => ?_)
                      · exact f_X12_next_j285  w w14 hF
                      · refine pk_i (fun _ => ?_) (fun _ => ?_)
                        · exact f_X12_next_j285  w w14 hF
                        · refine pk_i (fun _ => ?_) (fun _ => ?_)
                          · exact f_X12_next_j285  w w14 hF
                          · refine pk_i (fun _ => ?_) (fun _ => ?_)
                            · exact f_X12_next_j285  w w14 hF
                            · refine pk_i (fun _ => ?_) (fun _ => ?_)
                              · exact f_X12_next_j285  w w14 hF
                              · exact f_X12_next_j290  w (0 : Int32) w14 hF
        · refine pk_w (fun w16 hF => ?_) (hF.pfI (by decide))
          refine pk_c (f_X12_next_b128 w w16 hF) (fun e23 hF => ?_)
          refine pk_i (fun _ => ?_) (fun _ => ?_)
          · exact f_X12_next_j203  w (3 : Int32) e23 hF
          · exact f_X12_next_j203  w (1 : Int32) e23 hF
      · refine pk_c (f_X12_next_b81 w w13 hF) (fun e28 hF => ?_)
        refine pk_w (fun w29 hF => ?_) (hF.pfI (by decide))
        exact pk_s hF
  · refine pk_v (fun q31 => ?_)
    refine pk_i (fun _ => ?_) (fun _ => ?_)
    · refine pk_w (fun w43 hF => ?_) (hF.pfI (by decide))
      refine pk_c (f_X12_next_b0 w w43 hF) (fun e44 hF => ?_)
      refine pk_w (fun w45 hF => ?_) (hF.pfI (by decide))
      refine pk_v (fun q46 => ?_)
      refine pk_w (fun w48 hF => ?_) (hF.pfI (by decide))
      refine pk_i (fun _ => ?_) (fun _ => ?_)
      · refine pk_w (fun w54 hF => ?_) (hF.pfI (by decide))
        exact pk_s hF
      · refine pk_i (fun _ => ?_) (fun _ => ?_)
        · refine pk_i (fun _ => ?_) (fun _ => ?_)
          · refine pk_w (fun w49 hF => ?_) (hF.pfI (by decide))
            refine pk_i (fun _ => ?_) (fun _ => ?_)
            · exact f_X12_next_j285  w w49 hF
            · refine pk_i (fun _ => ?_) (fun _ => ?_)
              · exact f_X12_next_j285  w w49 hF
              · refine pk_i (fun _ => ?_) (fun _ => ?_)
                · exact f_X12_next_j285  w w49 hF
                · refine pk_i (fun _ => ?_) (fun _ => ?_)
                  · exact f_X12_next_j285  w w49 hF
                  · refine pk_i (fun _ => ?_) (fun _ => ?_)
                    · exact f_X12_next_j285  w w49 hF
                    · refine pk_i (fun _ => ?_) (fun _ => ?_)
                      · exact f_X12_next_j285  w w49 hF
                      · refine pk_i (fun _ => ?_) (fun _ => ?_)
                        · exact f_X12_next_j285  w w49 hF
                        · refine pk_i (fun _ => ?_) (fun _ => ?_)
                          · exact f_X12_next_j285  w w49 hF
                          · refine pk_i (fun _ => ?_) (fun _ => ?_)
                            · exact f_X12_next_j285  w w49 hF
                            · refine pk_i (fun _ => ?_) (fun _ => ?_)
                              · exact f_X12_next_j285  w w49 hF
                              · refine pk_i (fun _ => ?_) (fun _ => ?_)
                                · exact f_X12_next_j285  w w49 hF
                                · exact f_X12_next_j290  w (0 : Int32) w49 hF
          · refine pk_w (fun w50 hF => ?_) (hF.pfI (by decide))
            refine pk_c (f_X12_next_b128 w w50 hF) (fun e51 hF => ?_)
            refine pk_i (fun _ => ?_) (fun _ => ?_)
            · exact f_X12_next_j203  w (3 : Int32) e51 hF
            · exact f_X12_next_j203  w (1 : Int32) e51 hF
        · refine pk_c (f_X12_next_b81 w w48 hF) (fun e52 hF => ?_)
          refine pk_w (fun w53 hF => ?_) (hF.pfI (by decide))
          exact pk_s hF
    · refine pk_w (fun w33 hF => ?_) (hF.pfI (by decide))
      refine pk_v (fun q34 => ?_)
      refine pk_w (fun w36 hF => ?_) (hF.pfI (by decide))
      refine pk_i (fun _ => ?_) (fun _ => ?_)
      · refine pk_w (fun w42 hF => ?_) (hF.pfI (by decide))
        exact pk_s hF
      · refine pk_i (fun _ => ?_) (fun _ => ?_)
        · refine pk_i (fun _ => ?_) (fun _ => ?_)
          · refine pk_w (fun w37 hF => ?_) (hF.pfI (by decide))
            refine pk_i (fun _ => ?_) (fun _ => ?_)
            · exact f_X12_next_j285  w w37 hF
            · refine pk_i (fun _ => ?_) (fun _ => ?_)
              · exact f_X12_next_j285  w w37 hF
              · refine pk_i (fun _ => ?_) (fun _ => ?_)
                · exact f_X12_next_j285  w w37 hF
                · refine pk_i (fun _ => ?_) (fun _ => ?_)
                  · exact f_X12_next_j285  w w37 hF
                  · refine pk_i (fun _ => ?_) (fun _ => ?_)
                    · exact f_X12_next_j285  w w37 hF
                    · refine pk_i (fun _ => ?_) (fun _ => ?_)
                      · exact f_X12_next_j285  w w37 hF
                      · refine pk_i (fun _ => ?_) (fun _ => ?_)
                        · exact f_X12_next_j285  w w37 hF
                        · refine pk_i (fun _ => ?_) (fun _ => ?_)
                          · exact f_X12_next_j285  w w37 hF
                          · refine pk_i (fun _ => ?_) (fun _ => ?_)
                            · exact f_X12_next_j285  w w37 hF
                            · refine pk_i (fun _ => ?_) (fun _ => ?_)
                              · exact f_X12_next_j285  w w37 hF
                              · refine pk_i (fun _ => ?_) (fun _ => ?_)
                                · exact f_X12_next_j285  w w37 hF
                                · exact f_X12_next_j290  w (0 : Int32) w37 hF
          · refine pk_w (fun w38 hF => ?_) (hF.pfI (by decide))
            refine pk_c (f_X12_next_b128 w w38 hF) (fun e39 hF => ?_)
            refine pk_i (fun _ => ?_) (fun _ => ?_)
            · exact f_X12_next_j203  w (3 : Int32) e39 hF
            · exact f_X12_next_j203  w (1 : Int32) e39 hF
        · refine pk_c (f_X12_next_b81 w w36 hF) (fun e40 hF => ?_)
          refine pk_w (fun w41 hF => ?_) (hF.pfI (by decide))
          exact pk_s hF
theorem f_X12_fails_j21 (w0 : Wd) (s0 : Int32) (w : Wd) (hF : Fr [] [(97, 40), (97, 41)] w0 w) : okF (X12_fails_j21  s0 w) (fun q => Fr [] [(97, 40), (97, 41)] w0 q.2) := by
  unfold X12_fails_j21
  refine pk_w (fun w1 hF => ?_) (hF.pfI (by decide))
  refine pk_w (fun w2 hF => ?_) (hF.pfI (by decide))
  exact pk_s hF
theorem f_X12_fails (a1 : Int32) (w : Wd) : okF (X12_fails  a1 w) (fun q => Fr [] [(97, 40), (97, 41)] w q.2) := by
  have hF : Fr [] [(97, 40), (97, 41)] w w := Fr.rf
  unfold X12_fails
  refine pk_i (fun _ => ?_) (fun _ => ?_)
  · refine pk_i (fun _ => ?_) (fun _ => ?_)
    · exact f_X12_fails_j21  w (1 : Int32) w hF
    · exact f_X12_fails_j21  w a1 w hF
  · exact pk_s hF
theorem f_X12_want (a1 : Int32) (w : Wd) : okF (X12_want  a1 w) (fun q => Fr [] [(97, 35), (97, 36), (97, 37), (97, 38), (97, 40), (97, 41)] w q.2) := by
  have hF : Fr [] [(97, 35), (97, 36), (97, 37), (97, 38), (97, 40), (97, 41)] w w := Fr.rf
  unfold X12_want
  refine pk_i (fun _ => ?_) (fun _ => ?_)
  · refine pk_c (f_X12_fails (2 : Int32) w) (fun q3 hQ => ?_)
    have hF := hF.next hQ (by decide) (by decide)
    refine pk_g (fun _ => ?_)
    exact pk_s hF
  · refine pk_c (f_X12_next w) (fun q1 hQ => ?_)
    have hF := hF.next hQ (by decide) (by decide)
    exact pk_s hF
theorem f_X12_puts (a1 : Int32) (a2 : Int32) (w : Wd) : okF (X12_puts  a1 a2 w) (fun q => Fr [140, 141] [(97, 43)] w q) := by
  have hF : Fr [140, 141] [(97, 43)] w w := Fr.rf
  unfold X12_puts
  refine pk_g (fun _ => ?_)
  refine pk_w (fun w1 hF => ?_) (hF.puI (by decide))
  refine pk_g (fun _ => ?_)
  refine pk_w (fun w2 hF => ?_) (hF.puI (by decide))
  refine pk_w (fun w3 hF => ?_) (hF.pfI (by decide))
  exact pk_s hF
theorem f_X12_sum_j182 (w0 : Wd) (a1 : Int32) (w : Wd) (hF : Fr [140, 141, 142, 143] [(97, 35), (97, 36), (97, 37), (97, 38), (97, 40), (97, 41), (97, 43)] w0 w) : okF (X12_sum_j182  a1 w) (sel (fun s => Fr [140, 141, 142, 143] [(97, 35), (97, 36), (97, 37), (97, 38), (97, 40), (97, 41), (97, 43)] w0 s.2.2) (fun e => match e with | (.inl e) => Fr [140, 141, 142, 143] [(97, 35), (97, 36), (97, 37), (97, 38), (97, 40), (97, 41), (97, 43)] w0 e | (.inr (.inl e)) => Fr [140, 141, 142, 143] [(97, 35), (97, 36), (97, 37), (97, 38), (97, 40), (97, 41), (97, 43)] w0 e | (.inr (.inr (.inl e))) => Fr [140, 141, 142, 143] [(97, 35), (97, 36), (97, 37), (97, 38), (97, 40), (97, 41), (97, 43)] w0 e | (.inr (.inr (.inr (.inl e)))) => Fr [140, 141, 142, 143] [(97, 35), (97, 36), (97, 37), (97, 38), (97, 40), (97, 41), (97, 43)] w0 e | (.inr (.inr (.inr (.inr e)))) => Fr [140, 141, 142, 143] [(97, 35), (97, 36), (97, 37), (97, 38), (97, 40), (97, 41), (97, 43)] w0 e)) := by
  unfold X12_sum_j182
  refine pk_g (fun _ => ?_)
  refine pk_w (fun w4 hF => ?_) (hF.puI (by decide))
  refine pk_c (f_X12_next w4) (fun q5 hQ => ?_)
  have hF := hF.next hQ (by decide) (by decide)
  exact pk_s hF
theorem f_X12_sum_j246 (w0 : Wd) (a1 : Int32) (w : Wd) (hF : Fr [140, 141, 142, 143] [(97, 35), (97, 36), (97, 37), (97, 38), (97, 40), (97, 41), (97, 43)] w0 w) : okF (X12_sum_j246  a1 w) (sel (fun s => Fr [140, 141, 142, 143] [(97, 35), (97, 36), (97, 37), (97, 38), (97, 40), (97, 41), (97, 43)] w0 s.2.2) (fun e => match e with | (.inl e) => Fr [140, 141, 142, 143] [(97, 35), (97, 36), (97, 37), (97, 38), (97, 40), (97, 41), (97, 43)] w0 e | (.inr (.inl e)) => Fr [140, 141, 142, 143] [(97, 35), (97, 36), (97, 37), (97, 38), (97, 40), (97, 41), (97, 43)] w0 e | (.inr (.inr (.inl e))) => Fr [140, 141, 142, 143] [(97, 35), (97, 36), (97, 37), (97, 38), (97, 40), (97, 41), (97, 43)] w0 e | (.inr (.inr (.inr (.inl e)))) => Fr [140, 141, 142, 143] [(97, 35), (97, 36), (97, 37), (97, 38), (97, 40), (97, 41), (97, 43)] w0 e | (.inr (.inr (.inr (.inr e)))) => Fr [140, 141, 142, 143] [(97, 35), (97, 36), (97, 37), (97, 38), (97, 40), (97, 41), (97, 43)] w0 e)) := by
  unfold X12_sum_j246
  refine pk_g (fun _ => ?_)
  refine pk_w (fun w8 hF => ?_) (hF.puI (by decide))
  refine pk_c (f_X12_next w8) (fun q9 hQ => ?_)
  have hF := hF.next hQ (by decide) (by decide)
  exact pk_s hF
theorem f_X12_sum_j221 (w0 : Wd) (a1 : Int32) (a2 : Int32) (w : Wd) (hF : Fr [140, 141, 142, 143] [(97, 35), (97, 36), (97, 37), (97, 38), (97, 40), (97, 41), (97, 43)] w0 w) : okF (X12_sum_j221  a1 a2 w) (sel (fun s => Fr [140, 141, 142, 143] [(97, 35), (97, 36), (97, 37), (97, 38), (97, 40), (97, 41), (97, 43)] w0 s.2.2) (fun e => match e with | (.inl e) => Fr [140, 141, 142, 143] [(97, 35), (97, 36), (97, 37), (97, 38), (97, 40), (97, 41), (97, 43)] w0 e | (.inr (.inl e)) => Fr [140, 141, 142, 143] [(97, 35), (97, 36), (97, 37), (97, 38), (97, 40), (97, 41), (97, 43)] w0 e | (.inr (.inr (.inl e))) => Fr [140, 141, 142, 143] [(97, 35), (97, 36), (97, 37), (97, 38), (97, 40), (97, 41), (97, 43)] w0 e | (.inr (.inr (.inr (.inl e)))) => Fr [140, 141, 142, 143] [(97, 35), (97, 36), (97, 37), (97, 38), (97, 40), (97, 41), (97, 43)] w0 e | (.inr (.inr (.inr (.inr e)))) => Fr [140, 141, 142, 143] [(97, 35), (97, 36), (97, 37), (97, 38), (97, 40), (97, 41), (97, 43)] w0 e)) := by
  unfold X12_sum_j221
  refine pk_g (fun _ => ?_)
  refine pk_w (fun w7 hF => ?_) (hF.puI (by decide))
  refine pk_i (fun _ => ?_) (fun _ => ?_)
  · refine pk_i (fun _ => ?_) (fun _ => ?_)
    · refine pk_i (fun _ => ?_) (fun _ => ?_)
      · exact pk_s hF
      · refine pk_c (f_X12_want (41 : Int32) w7) (fun q11 hQ => ?_)
        have hF := hF.next hQ (by decide) (by decide)
        refine pk_i (fun _ => ?_) (fun _ => ?_)
        · exact pk_s hF
        · exact pk_s hF
    · exact f_X12_sum_j246  w0 a1 w7 hF
  · exact f_X12_sum_j246  w0 a1 w7 hF
theorem f_X12_sum_j157 (w0 : Wd) (a1 : Int32) (a2 : Int32) (w : Wd) (hF : Fr [140, 141, 142, 143] [(97, 35), (97, 36), (97, 37), (97, 38), (97, 40), (97, 41), (97, 43)] w0 w) : okF (X12_sum_j157  a1 a2 w) (sel (fun s => Fr [140, 141, 142, 143] [(97, 35), (97, 36), (97, 37), (97, 38), (97, 40), (97, 41), (97, 43)] w0 s.2.2) (fun e => match e with | (.inl e) => Fr [140, 141, 142, 143] [(97, 35), (97, 36), (97, 37), (97, 38), (97, 40), (97, 41), (97, 43)] w0 e | (.inr (.inl e)) => Fr [140, 141, 142, 143] [(97, 35), (97, 36), (97, 37), (97, 38), (97, 40), (97, 41), (97, 43)] w0 e | (.inr (.inr (.inl e))) => Fr [140, 141, 142, 143] [(97, 35), (97, 36), (97, 37), (97, 38), (97, 40), (97, 41), (97, 43)] w0 e | (.inr (.inr (.inr (.inl e)))) => Fr [140, 141, 142, 143] [(97, 35), (97, 36), (97, 37), (97, 38), (97, 40), (97, 41), (97, 43)] w0 e | (.inr (.inr (.inr (.inr e)))) => Fr [140, 141, 142, 143] [(97, 35), (97, 36), (97, 37), (97, 38), (97, 40), (97, 41), (97, 43)] w0 e)) := by
  unfold X12_sum_j157
  refine pk_g (fun _ => ?_)
  refine pk_w (fun w3 hF => ?_) (hF.puI (by decide))
  refine pk_i (fun _ => ?_) (fun _ => ?_)
  · refine pk_i (fun _ => ?_) (fun _ => ?_)
    · refine pk_g (fun _ => ?_)
      refine pk_i (fun _ => ?_) (fun _ => ?_)
      · exact f_X12_sum_j221  w0 a1 a2 w3 hF
      · refine pk_g (fun _ => ?_)
        refine pk_c (f_X12_puts (w3.1 142 (ix a1)) (0 : Int32) w3) (fun q13 hQ => ?_)
        have hF := hF.next hQ (by decide) (by decide)
        exact f_X12_sum_j221  w0 a1 a2 q13 hF
    · exact f_X12_sum_j182  w0 a1 w3 hF
  · exact f_X12_sum_j182  w0 a1 w3 hF
theorem f_X12_sum_j74 (w0 : Wd) (a1 : Int32) (s0 : Int32) (s1 : Int32) (w : Wd) (hF : Fr [140, 141, 142, 143] [(97, 35), (97, 36), (97, 37), (97, 38), (97, 40), (97, 41), (97, 43)] w0 w) : okF (X12_sum_j74  a1 s0 s1 w) (sel (fun s => Fr [140, 141, 142, 143] [(97, 35), (97, 36), (97, 37), (97, 38), (97, 40), (97, 41), (97, 43)] w0 s.2.2) (fun e => match e with | (.inl e) => Fr [140, 141, 142, 143] [(97, 35), (97, 36), (97, 37), (97, 38), (97, 40), (97, 41), (97, 43)] w0 e | (.inr (.inl e)) => Fr [140, 141, 142, 143] [(97, 35), (97, 36), (97, 37), (97, 38), (97, 40), (97, 41), (97, 43)] w0 e | (.inr (.inr (.inl e))) => Fr [140, 141, 142, 143] [(97, 35), (97, 36), (97, 37), (97, 38), (97, 40), (97, 41), (97, 43)] w0 e | (.inr (.inr (.inr (.inl e)))) => Fr [140, 141, 142, 143] [(97, 35), (97, 36), (97, 37), (97, 38), (97, 40), (97, 41), (97, 43)] w0 e | (.inr (.inr (.inr (.inr e)))) => Fr [140, 141, 142, 143] [(97, 35), (97, 36), (97, 37), (97, 38), (97, 40), (97, 41), (97, 43)] w0 e)) := by
  unfold X12_sum_j74
  refine pk_c (f_X12_puts s1 s0 w) (fun q19 hQ => ?_)
  have hF := hF.next hQ (by decide) (by decide)
  refine pk_c (f_X12_next q19) (fun q21 hQ => ?_)
  have hF := hF.next hQ (by decide) (by decide)
  exact pk_s hF
theorem f_X12_sum_j61 (w0 : Wd) (a1 : Int32) (a3 : Int32) (s0 : Int32) (w : Wd) (hF : Fr [140, 141, 142, 143] [(97, 35), (97, 36), (97, 37), (97, 38), (97, 40), (97, 41), (97, 43)] w0 w) : okF (X12_sum_j61  a1 a3 s0 w) (sel (fun s => Fr [140, 141, 142, 143] [(97, 35), (97, 36), (97, 37), (97, 38), (97, 40), (97, 41), (97, 43)] w0 s.2.2) (fun e => match e with | (.inl e) => Fr [140, 141, 142, 143] [(97, 35), (97, 36), (97, 37), (97, 38), (97, 40), (97, 41), (97, 43)] w0 e | (.inr (.inl e)) => Fr [140, 141, 142, 143] [(97, 35), (97, 36), (97, 37), (97, 38), (97, 40), (97, 41), (97, 43)] w0 e | (.inr (.inr (.inl e))) => Fr [140, 141, 142, 143] [(97, 35), (97, 36), (97, 37), (97, 38), (97, 40), (97, 41), (97, 43)] w0 e | (.inr (.inr (.inr (.inl e)))) => Fr [140, 141, 142, 143] [(97, 35), (97, 36), (97, 37), (97, 38), (97, 40), (97, 41), (97, 43)] w0 e | (.inr (.inr (.inr (.inr e)))) => Fr [140, 141, 142, 143] [(97, 35), (97, 36), (97, 37), (97, 38), (97, 40), (97, 41), (97, 43)] w0 e)) := by
  unfold X12_sum_j61
  refine pk_i (fun _ => ?_) (fun _ => ?_)
  · exact f_X12_sum_j74  w0 a1 (w.1 97 38) s0 w hF
  · exact f_X12_sum_j74  w0 a1 a3 s0 w hF
theorem f_X12_sum_j50 (w0 : Wd) (a1 : Int32) (a3 : Int32) (w : Wd) (hF : Fr [140, 141, 142, 143] [(97, 35), (97, 36), (97, 37), (97, 38), (97, 40), (97, 41), (97, 43)] w0 w) : okF (X12_sum_j50  a1 a3 w) (sel (fun s => Fr [140, 141, 142, 143] [(97, 35), (97, 36), (97, 37), (97, 38), (97, 40), (97, 41), (97, 43)] w0 s.2.2) (fun e => match e with | (.inl e) => Fr [140, 141, 142, 143] [(97, 35), (97, 36), (97, 37), (97, 38), (97, 40), (97, 41), (97, 43)] w0 e | (.inr (.inl e)) => Fr [140, 141, 142, 143] [(97, 35), (97, 36), (97, 37), (97, 38), (97, 40), (97, 41), (97, 43)] w0 e | (.inr (.inr (.inl e))) => Fr [140, 141, 142, 143] [(97, 35), (97, 36), (97, 37), (97, 38), (97, 40), (97, 41), (97, 43)] w0 e | (.inr (.inr (.inr (.inl e)))) => Fr [140, 141, 142, 143] [(97, 35), (97, 36), (97, 37), (97, 38), (97, 40), (97, 41), (97, 43)] w0 e | (.inr (.inr (.inr (.inr e)))) => Fr [140, 141, 142, 143] [(97, 35), (97, 36), (97, 37), (97, 38), (97, 40), (97, 41), (97, 43)] w0 e)) := by
  unfold X12_sum_j50
  refine pk_i (fun _ => ?_) (fun _ => ?_)
  · exact f_X12_sum_j61  w0 a1 a3 (0 : Int32) w hF
  · exact f_X12_sum_j61  w0 a1 a3 (1 : Int32) w hF
theorem f_X12_sum_b18 (w0 : Wd) (s : (Int32 × Int32 × Wd)) (hF : Fr [140, 141, 142, 143] [(97, 35), (97, 36), (97, 37), (97, 38), (97, 40), (97, 41), (97, 43)] w0 s.2.2) : okF (lp (X12_sum_b18  ) s) (fun e => match e with | (.inl e) => Fr [140, 141, 142, 143] [(97, 35), (97, 36), (97, 37), (97, 38), (97, 40), (97, 41), (97, 43)] w0 e | (.inr (.inl e)) => Fr [140, 141, 142, 143] [(97, 35), (97, 36), (97, 37), (97, 38), (97, 40), (97, 41), (97, 43)] w0 e | (.inr (.inr (.inl e))) => Fr [140, 141, 142, 143] [(97, 35), (97, 36), (97, 37), (97, 38), (97, 40), (97, 41), (97, 43)] w0 e | (.inr (.inr (.inr (.inl e)))) => Fr [140, 141, 142, 143] [(97, 35), (97, 36), (97, 37), (97, 38), (97, 40), (97, 41), (97, 43)] w0 e | (.inr (.inr (.inr (.inr e)))) => Fr [140, 141, 142, 143] [(97, 35), (97, 36), (97, 37), (97, 38), (97, 40), (97, 41), (97, 43)] w0 e) := by
  refine pk_lp (I := fun s => Fr [140, 141, 142, 143] [(97, 35), (97, 36), (97, 37), (97, 38), (97, 40), (97, 41), (97, 43)] w0 s.2.2) (fun s hF => ?_) s hF
  unfold X12_sum_b18
  refine pk_i (fun _ => ?_) (fun _ => ?_)
  · refine pk_i (fun _ => ?_) (fun _ => ?_)
    · refine pk_g (fun _ => ?_)
      refine pk_i (fun _ => ?_) (fun _ => ?_)
      · exact f_X12_sum_j157  w0 s.1 s.2.1 s.2.2 hF
      · refine pk_g (fun _ => ?_)
        refine pk_c (f_X12_puts (s.2.2.1 143 (ix s.1)) (0 : Int32) s.2.2) (fun q15 hQ => ?_)
        have hF := hF.next hQ (by decide) (by decide)
        exact f_X12_sum_j157  w0 s.1 s.2.1 q15 hF
    · refine pk_v (fun q17 => ?_)
      refine pk_i (fun _ => ?_) (fun _ => ?_)
      · exact f_X12_sum_j50  w0 s.1 q17 s.2.2 hF
      · refine pk_i (fun _ => ?_) (fun _ => ?_)
        · refine pk_i (fun _ => ?_) (fun _ => ?_)
          · exact pk_s hF
          · refine pk_i (fun _ => ?_) (fun _ => ?_)
            · exact pk_s hF
            · refine pk_c (f_X12_next s.2.2) (fun q23 hQ => ?_)
              have hF := hF.next hQ (by decide) (by decide)
              refine pk_g (fun _ => ?_)
              refine pk_w (fun w25 hF => ?_) (hF.puI (by decide))
              refine pk_g (fun _ => ?_)
              refine pk_w (fun w26 hF => ?_) (hF.puI (by decide))
              exact pk_s hF
        · exact f_X12_sum_j50  w0 s.1 q17 s.2.2 hF
  · exact pk_s hF
theorem f_X12_sum (w : Wd) : okF (X12_sum   w) (fun q => Fr [140, 141, 142, 143] [(97, 35), (97, 36), (97, 37), (97, 38), (97, 40), (97, 41), (97, 43)] w q.2) := by
  have hF : Fr [140, 141, 142, 143] [(97, 35), (97, 36), (97, 37), (97, 38), (97, 40), (97, 41), (97, 43)] w w := Fr.rf
  unfold X12_sum
  refine pk_g (fun _ => ?_)
  refine pk_w (fun w1 hF => ?_) (hF.puI (by decide))
  refine pk_g (fun _ => ?_)
  refine pk_w (fun w2 hF => ?_) (hF.puI (by decide))
  refine pk_c (f_X12_sum_b18 w ((0 : Int32), (1 : Int32), w2) hF) (fun e27 hF => ?_)
  rcases e27 with e28 | e31 | e34 | e35 | e36
  · refine pk_c (f_X12_fails (2 : Int32) e28) (fun q29 hQ => ?_)
    have hF := hF.next hQ (by decide) (by decide)
    refine pk_g (fun _ => ?_)
    exact pk_s hF
  · refine pk_c (f_X12_fails (5 : Int32) e31) (fun q32 hQ => ?_)
    have hF := hF.next hQ (by decide) (by decide)
    refine pk_g (fun _ => ?_)
    exact pk_s hF
  · exact pk_s hF
  · exact pk_s hF
  · exact pk_s hF
theorem f_X12_one_j99 (w0 : Wd) (a2 : Int32) (w : Wd) (hF : Fr [134, 135, 136, 137, 138, 139, 140, 141, 142, 143] [(97, 35), (97, 36), (97, 37), (97, 38), (97, 40), (97, 41), (97, 43), (97, 44)] w0 w) : okF (X12_one_j99  a2 w) (fun q => Fr [134, 135, 136, 137, 138, 139, 140, 141, 142, 143] [(97, 35), (97, 36), (97, 37), (97, 38), (97, 40), (97, 41), (97, 43), (97, 44)] w0 q.2) := by
  unfold X12_one_j99
  refine pk_g (fun _ => ?_)
  refine pk_w (fun w9 hF => ?_) (hF.puI (by decide))
  refine pk_c (f_X12_next w9) (fun q10 hQ => ?_)
  have hF := hF.next hQ (by decide) (by decide)
  refine pk_c (f_X12_sum q10) (fun q12 hQ => ?_)
  have hF := hF.next hQ (by decide) (by decide)
  refine pk_i (fun _ => ?_) (fun _ => ?_)
  · exact pk_s hF
  · refine pk_g (fun _ => ?_)
    refine pk_w (fun w14 hF => ?_) (hF.puI (by decide))
    refine pk_w (fun w15 hF => ?_) (hF.pfI (by decide))
    exact pk_s hF
theorem f_X12_one_j37 (w0 : Wd) (a2 : Int32) (w : Wd) (hF : Fr [134, 135, 136, 137, 138, 139, 140, 141, 142, 143] [(97, 35), (97, 36), (97, 37), (97, 38), (97, 40), (97, 41), (97, 43), (97, 44)] w0 w) : okF (X12_one_j37  a2 w) (fun q => Fr [134, 135, 136, 137, 138, 139, 140, 141, 142, 143] [(97, 35), (97, 36), (97, 37), (97, 38), (97, 40), (97, 41), (97, 43), (97, 44)] w0 q.2) := by
  unfold X12_one_j37
  refine pk_g (fun _ => ?_)
  refine pk_w (fun w5 hF => ?_) (hF.puI (by decide))
  refine pk_c (f_X12_sum w5) (fun q6 hQ => ?_)
  have hF := hF.next hQ (by decide) (by decide)
  refine pk_i (fun _ => ?_) (fun _ => ?_)
  · exact pk_s hF
  · refine pk_g (fun _ => ?_)
    refine pk_w (fun w8 hF => ?_) (hF.puI (by decide))
    refine pk_i (fun _ => ?_) (fun _ => ?_)
    · refine pk_i (fun _ => ?_) (fun _ => ?_)
      · refine pk_i (fun _ => ?_) (fun _ => ?_)
        · refine pk_c (f_X12_fails (2 : Int32) w8) (fun q16 hQ => ?_)
          have hF := hF.next hQ (by decide) (by decide)
          refine pk_g (fun _ => ?_)
          exact pk_s hF
        · exact f_X12_one_j99  w0 a2 w8 hF
      · exact f_X12_one_j99  w0 a2 w8 hF
    · exact f_X12_one_j99  w0 a2 w8 hF
theorem f_X12_one (a1 : Int32) (w : Wd) : okF (X12_one  a1 w) (fun q => Fr [134, 135, 136, 137, 138, 139, 140, 141, 142, 143] [(97, 35), (97, 36), (97, 37), (97, 38), (97, 40), (97, 41), (97, 43), (97, 44)] w q.2) := by
  have hF : Fr [134, 135, 136, 137, 138, 139, 140, 141, 142, 143] [(97, 35), (97, 36), (97, 37), (97, 38), (97, 40), (97, 41), (97, 43), (97, 44)] w w := Fr.rf
  unfold X12_one
  refine pk_g (fun _ => ?_)
  refine pk_w (fun w1 hF => ?_) (hF.puI (by decide))
  refine pk_v (fun q2 => ?_)
  refine pk_g (fun _ => ?_)
  refine pk_w (fun w4 hF => ?_) (hF.puI (by decide))
  refine pk_g (fun _ => ?_)
  refine pk_i (fun _ => ?_) (fun _ => ?_)
  · exact f_X12_one_j37  w (w.1 97 44) w4 hF
  · refine pk_c (f_X12_next w4) (fun q18 hQ => ?_)
    have hF := hF.next hQ (by decide) (by decide)
    exact f_X12_one_j37  w (w.1 97 44) q18 hF
theorem f_X12_test_j28 (w0 : Wd) (w : Wd) (hF : Fr [134, 135, 136, 137, 138, 139, 140, 141, 142, 143] [(97, 35), (97, 36), (97, 37), (97, 38), (97, 40), (97, 41), (97, 43), (97, 44)] w0 w) : okF (X12_test_j28  w) (sel (fun s => Fr [134, 135, 136, 137, 138, 139, 140, 141, 142, 143] [(97, 35), (97, 36), (97, 37), (97, 38), (97, 40), (97, 41), (97, 43), (97, 44)] w0 s.2) (fun e => Fr [134, 135, 136, 137, 138, 139, 140, 141, 142, 143] [(97, 35), (97, 36), (97, 37), (97, 38), (97, 40), (97, 41), (97, 43), (97, 44)] w0 e.2)) := by
  unfold X12_test_j28
  refine pk_v (fun q5 => ?_)
  refine pk_c (f_X12_next w) (fun q7 hQ => ?_)
  have hF := hF.next hQ (by decide) (by decide)
  refine pk_c (f_X12_one q5 q7) (fun q9 hQ => ?_)
  have hF := hF.next hQ (by decide) (by decide)
  exact pk_s hF
theorem f_X12_test_b6 (w0 : Wd) (s : (Int32 × Wd)) (hF : Fr [134, 135, 136, 137, 138, 139, 140, 141, 142, 143] [(97, 35), (97, 36), (97, 37), (97, 38), (97, 40), (97, 41), (97, 43), (97, 44)] w0 s.2) : okF (lp (X12_test_b6  ) s) (fun e => Fr [134, 135, 136, 137, 138, 139, 140, 141, 142, 143] [(97, 35), (97, 36), (97, 37), (97, 38), (97, 40), (97, 41), (97, 43), (97, 44)] w0 e.2) := by
  refine pk_lp (I := fun s => Fr [134, 135, 136, 137, 138, 139, 140, 141, 142, 143] [(97, 35), (97, 36), (97, 37), (97, 38), (97, 40), (97, 41), (97, 43), (97, 44)] w0 s.2) (fun s hF => ?_) s hF
  unfold X12_test_b6
  refine pk_i (fun _ => ?_) (fun _ => ?_)
  · exact pk_s hF
  · refine pk_v (fun q3 => ?_)
    refine pk_i (fun _ => ?_) (fun _ => ?_)
    · refine pk_v (fun q11 => ?_)
      refine pk_i (fun _ => ?_) (fun _ => ?_)
      · exact pk_s hF
      · exact f_X12_test_j28  w0 s.2 hF
    · exact f_X12_test_j28  w0 s.2 hF
theorem f_X12_test (w : Wd) : okF (X12_test   w) (fun q => Fr [134, 135, 136, 137, 138, 139, 140, 141, 142, 143] [(97, 35), (97, 36), (97, 37), (97, 38), (97, 40), (97, 41), (97, 43), (97, 44)] w q.2) := by
  have hF : Fr [134, 135, 136, 137, 138, 139, 140, 141, 142, 143] [(97, 35), (97, 36), (97, 37), (97, 38), (97, 40), (97, 41), (97, 43), (97, 44)] w w := Fr.rf
  unfold X12_test
  refine pk_c (f_X12_one (1 : Int32) w) (fun q1 hQ => ?_)
  have hF := hF.next hQ (by decide) (by decide)
  refine pk_c (f_X12_test_b6 w (q1.1, q1.2) hF) (fun e13 hF => ?_)
  refine pk_g (fun _ => ?_)
  exact pk_s hF
theorem f_X12_numberIn_j30 (w0 : Wd) (w : Wd) (hF : Fr [126] [(97, 35), (97, 36), (97, 37), (97, 38), (97, 40), (97, 41)] w0 w) : okF (X12_numberIn_j30  w) (fun q => Fr [126] [(97, 35), (97, 36), (97, 37), (97, 38), (97, 40), (97, 41)] w0 q.2) := by
  unfold X12_numberIn_j30
  refine pk_c (f_X12_fails (6 : Int32) w) (fun q1 hQ => ?_)
  have hF := hF.next hQ (by decide) (by decide)
  refine pk_g (fun _ => ?_)
  exact pk_s hF
theorem f_X12_numberIn (a1 : Int32) (a2 : Int32) (a3 : Int32) (w : Wd) : okF (X12_numberIn  a1 a2 a3 w) (fun q => Fr [126] [(97, 35), (97, 36), (97, 37), (97, 38), (97, 40), (97, 41)] w q.2) := by
  have hF : Fr [126] [(97, 35), (97, 36), (97, 37), (97, 38), (97, 40), (97, 41)] w w := Fr.rf
  unfold X12_numberIn
  refine pk_i (fun _ => ?_) (fun _ => ?_)
  · refine pk_i (fun _ => ?_) (fun _ => ?_)
    · exact f_X12_numberIn_j30  w w hF
    · refine pk_i (fun _ => ?_) (fun _ => ?_)
      · refine pk_g (fun _ => ?_)
        refine pk_w (fun w3 hF => ?_) (hF.puI (by decide))
        refine pk_c (f_X12_next w3) (fun q4 hQ => ?_)
        have hF := hF.next hQ (by decide) (by decide)
        exact pk_s hF
      · exact f_X12_numberIn_j30  w w hF
  · refine pk_c (f_X12_fails (2 : Int32) w) (fun q6 hQ => ?_)
    have hF := hF.next hQ (by decide) (by decide)
    refine pk_g (fun _ => ?_)
    exact pk_s hF
theorem f_X12_says_j68 (w0 : Wd) (a1 : Int32) (w : Wd) (hF : Fr [127, 128, 129, 130, 131, 134, 135, 136, 137, 138, 139, 140, 141, 142, 143] [(97, 35), (97, 36), (97, 37), (97, 38), (97, 40), (97, 41), (97, 43), (97, 44)] w0 w) : okF (X12_says_j68  a1 w) (fun q => Fr [127, 128, 129, 130, 131, 134, 135, 136, 137, 138, 139, 140, 141, 142, 143] [(97, 35), (97, 36), (97, 37), (97, 38), (97, 40), (97, 41), (97, 43), (97, 44)] w0 q.2) := by
  unfold X12_says_j68
  refine pk_g (fun _ => ?_)
  refine pk_w (fun w4 hF => ?_) (hF.puI (by decide))
  refine pk_g (fun _ => ?_)
  refine pk_w (fun w5 hF => ?_) (hF.puI (by decide))
  refine pk_v (fun q6 => ?_)
  refine pk_i (fun _ => ?_) (fun _ => ?_)
  · exact pk_s hF
  · refine pk_c (f_X12_next w5) (fun q8 hQ => ?_)
    have hF := hF.next hQ (by decide) (by decide)
    refine pk_c (f_X12_test q8) (fun q10 hQ => ?_)
    have hF := hF.next hQ (by decide) (by decide)
    refine pk_i (fun _ => ?_) (fun _ => ?_)
    · exact pk_s hF
    · refine pk_g (fun _ => ?_)
      refine pk_w (fun w12 hF => ?_) (hF.puI (by decide))
      exact pk_s hF
theorem f_X12_says_j29 (w0 : Wd) (a1 : Int32) (w : Wd) (hF : Fr [127, 128, 129, 130, 131, 134, 135, 136, 137, 138, 139, 140, 141, 142, 143] [(97, 35), (97, 36), (97, 37), (97, 38), (97, 40), (97, 41), (97, 43), (97, 44)] w0 w) : okF (X12_says_j29  a1 w) (fun q => Fr [127, 128, 129, 130, 131, 134, 135, 136, 137, 138, 139, 140, 141, 142, 143] [(97, 35), (97, 36), (97, 37), (97, 38), (97, 40), (97, 41), (97, 43), (97, 44)] w0 q.2) := by
  unfold X12_says_j29
  refine pk_g (fun _ => ?_)
  refine pk_w (fun w2 hF => ?_) (hF.puI (by decide))
  refine pk_g (fun _ => ?_)
  refine pk_w (fun w3 hF => ?_) (hF.puI (by decide))
  refine pk_g (fun _ => ?_)
  refine pk_i (fun _ => ?_) (fun _ => ?_)
  · refine pk_c (f_X12_test w3) (fun q13 hQ => ?_)
    have hF := hF.next hQ (by decide) (by decide)
    refine pk_i (fun _ => ?_) (fun _ => ?_)
    · exact pk_s hF
    · exact f_X12_says_j68  w0 a1 q13.2 hF
  · exact f_X12_says_j68  w0 a1 w3 hF
theorem f_X12_says (a1 : Int32) (w : Wd) : okF (X12_says  a1 w) (fun q => Fr [127, 128, 129, 130, 131, 134, 135, 136, 137, 138, 139, 140, 141, 142, 143] [(97, 35), (97, 36), (97, 37), (97, 38), (97, 40), (97, 41), (97, 43), (97, 44)] w q.2) := by
  have hF : Fr [127, 128, 129, 130, 131, 134, 135, 136, 137, 138, 139, 140, 141, 142, 143] [(97, 35), (97, 36), (97, 37), (97, 38), (97, 40), (97, 41), (97, 43), (97, 44)] w w := Fr.rf
  unfold X12_says
  refine pk_g (fun _ => ?_)
  refine pk_w (fun w1 hF => ?_) (hF.puI (by decide))
  refine pk_g (fun _ => ?_)
  refine pk_i (fun _ => ?_) (fun _ => ?_)
  · refine pk_c (f_X12_sum w1) (fun q15 hQ => ?_)
    have hF := hF.next hQ (by decide) (by decide)
    refine pk_i (fun _ => ?_) (fun _ => ?_)
    · exact pk_s hF
    · exact f_X12_says_j29  w a1 q15.2 hF
  · exact f_X12_says_j29  w a1 w1 hF
theorem f_X12_rule_j205 (w0 : Wd) (w : Wd) (hF : Fr [124, 125, 126, 127, 128, 129, 130, 131, 132, 133, 134, 135, 136, 137, 138, 139, 140, 141, 142, 143] [(97, 35), (97, 36), (97, 37), (97, 38), (97, 40), (97, 41), (97, 43), (97, 44)] w0 w) : okF (X12_rule_j205  w) (fun q => Fr [124, 125, 126, 127, 128, 129, 130, 131, 132, 133, 134, 135, 136, 137, 138, 139, 140, 141, 142, 143] [(97, 35), (97, 36), (97, 37), (97, 38), (97, 40), (97, 41), (97, 43), (97, 44)] w0 q.2) := by
  unfold X12_rule_j205
  refine pk_c (f_X12_fails (2 : Int32) w) (fun q21 hQ => ?_)
  have hF := hF.next hQ (by decide) (by decide)
  refine pk_g (fun _ => ?_)
  exact pk_s hF
theorem f_X12_rule_j283 (w0 : Wd) (s0 : Int32) (w : Wd) (hF : Fr [124, 125, 126, 127, 128, 129, 130, 131, 132, 133, 134, 135, 136, 137, 138, 139, 140, 141, 142, 143] [(97, 35), (97, 36), (97, 37), (97, 38), (97, 40), (97, 41), (97, 43), (97, 44)] w0 w) : okF (X12_rule_j283  s0 w) (fun q => Fr [124, 125, 126, 127, 128, 129, 130, 131, 132, 133, 134, 135, 136, 137, 138, 139, 140, 141, 142, 143] [(97, 35), (97, 36), (97, 37), (97, 38), (97, 40), (97, 41), (97, 43), (97, 44)] w0 q.2) := by
  unfold X12_rule_j283
  refine pk_i (fun _ => ?_) (fun _ => ?_)
  · exact pk_s hF
  · refine pk_g (fun _ => ?_)
    refine pk_g (fun _ => ?_)
    refine pk_w (fun w27 hF => ?_) (hF.puI (by decide))
    refine pk_c (f_X12_want (59 : Int32) w27) (fun q28 hQ => ?_)
    have hF := hF.next hQ (by decide) (by decide)
    refine pk_g (fun _ => ?_)
    exact pk_s hF
theorem f_X12_rule_j161 (w0 : Wd) (a3 : Int32) (w : Wd) (hF : Fr [124, 125, 126, 127, 128, 129, 130, 131, 132, 133, 134, 135, 136, 137, 138, 139, 140, 141, 142, 143] [(97, 35), (97, 36), (97, 37), (97, 38), (97, 40), (97, 41), (97, 43), (97, 44)] w0 w) : okF (X12_rule_j161  a3 w) (fun q => Fr [124, 125, 126, 127, 128, 129, 130, 131, 132, 133, 134, 135, 136, 137, 138, 139, 140, 141, 142, 143] [(97, 35), (97, 36), (97, 37), (97, 38), (97, 40), (97, 41), (97, 43), (97, 44)] w0 q.2) := by
  unfold X12_rule_j161
  refine pk_c (f_X12_want (58 : Int32) w) (fun q16 hQ => ?_)
  have hF := hF.next hQ (by decide) (by decide)
  refine pk_i (fun _ => ?_) (fun _ => ?_)
  · exact pk_s hF
  · refine pk_v (fun q18 => ?_)
    refine pk_g (fun _ => ?_)
    refine pk_w (fun w20 hF => ?_) (hF.puI (by decide))
    refine pk_g (fun _ => ?_)
    refine pk_i (fun _ => ?_) (fun _ => ?_)
    · exact f_X12_rule_j205  w0 w20 hF
    · refine pk_g (fun _ => ?_)
      refine pk_i (fun _ => ?_) (fun _ => ?_)
      · refine pk_c (f_X12_next w20) (fun q23 hQ => ?_)
        have hF := hF.next hQ (by decide) (by decide)
        refine pk_g (fun _ => ?_)
        refine pk_i (fun _ => ?_) (fun _ => ?_)
        · refine pk_c (f_X12_numberIn a3 (1 : Int32) (40 : Int32) q23) (fun q34 hQ => ?_)
          have hF := hF.next hQ (by decide) (by decide)
          exact f_X12_rule_j283  w0 q34.1 q34.2 hF
        · refine pk_g (fun _ => ?_)
          refine pk_i (fun _ => ?_) (fun _ => ?_)
          · refine pk_c (f_X12_numberIn a3 (0 : Int32) (40 : Int32) q23) (fun q32 hQ => ?_)
            have hF := hF.next hQ (by decide) (by decide)
            exact f_X12_rule_j283  w0 q32.1 q32.2 hF
          · refine pk_g (fun _ => ?_)
            refine pk_i (fun _ => ?_) (fun _ => ?_)
            · refine pk_c (f_X12_numberIn a3 (1 : Int32) (100 : Int32) q23) (fun q30 hQ => ?_)
              have hF := hF.next hQ (by decide) (by decide)
              exact f_X12_rule_j283  w0 q30.1 q30.2 hF
            · refine pk_c (f_X12_says a3 q23) (fun q25 hQ => ?_)
              have hF := hF.next hQ (by decide) (by decide)
              exact f_X12_rule_j283  w0 q25.1 q25.2 hF
      · exact f_X12_rule_j205  w0 w20 hF
theorem f_X12_rule (w : Wd) : okF (X12_rule   w) (fun q => Fr [124, 125, 126, 127, 128, 129, 130, 131, 132, 133, 134, 135, 136, 137, 138, 139, 140, 141, 142, 143] [(97, 35), (97, 36), (97, 37), (97, 38), (97, 40), (97, 41), (97, 43), (97, 44)] w q.2) := by
  have hF : Fr [124, 125, 126, 127, 128, 129, 130, 131, 132, 133, 134, 135, 136, 137, 138, 139, 140, 141, 142, 143] [(97, 35), (97, 36), (97, 37), (97, 38), (97, 40), (97, 41), (97, 43), (97, 44)] w w := Fr.rf
  unfold X12_rule
  refine pk_v (fun q1 => ?_)
  refine pk_i (fun _ => ?_) (fun _ => ?_)
  · refine pk_c (f_X12_fails (2 : Int32) w) (fun q47 hQ => ?_)
    have hF := hF.next hQ (by decide) (by decide)
    refine pk_g (fun _ => ?_)
    exact pk_s hF
  · refine pk_g (fun _ => ?_)
    refine pk_i (fun _ => ?_) (fun _ => ?_)
    · refine pk_c (f_X12_fails (3 : Int32) w) (fun q45 hQ => ?_)
      have hF := hF.next hQ (by decide) (by decide)
      refine pk_g (fun _ => ?_)
      exact pk_s hF
    · refine pk_g (fun _ => ?_)
      refine pk_v (fun z3 => ?_)
      refine pk_v (fun z4 => ?_)
      refine pk_v (fun e5 => ?_)
      rcases e5 with e6 | e9
      · refine pk_c (f_X12_fails (4 : Int32) w) (fun q7 hQ => ?_)
        have hF := hF.next hQ (by decide) (by decide)
        refine pk_g (fun _ => ?_)
        exact pk_s hF
      · refine pk_g (fun _ => ?_)
        refine pk_w (fun w10 hF => ?_) (hF.puJ (by decide))
        refine pk_g (fun _ => ?_)
        refine pk_w (fun w11 hF => ?_) (hF.puJ (by decide))
        refine pk_c (f_X12_next w11) (fun q12 hQ => ?_)
        have hF := hF.next hQ (by decide) (by decide)
        refine pk_v (fun q14 => ?_)
        refine pk_i (fun _ => ?_) (fun _ => ?_)
        · exact f_X12_rule_j161  w z3 q12 hF
        · refine pk_c (f_X12_next q12) (fun q36 hQ => ?_)
          have hF := hF.next hQ (by decide) (by decide)
          refine pk_v (fun q38 => ?_)
          refine pk_g (fun _ => ?_)
          refine pk_w (fun w40 hF => ?_) (hF.puJ (by decide))
          refine pk_g (fun _ => ?_)
          refine pk_i (fun _ => ?_) (fun _ => ?_)
          · refine pk_c (f_X12_fails (2 : Int32) w40) (fun q43 hQ => ?_)
            have hF := hF.next hQ (by decide) (by decide)
            refine pk_g (fun _ => ?_)
            exact pk_s hF
          · refine pk_c (f_X12_next w40) (fun q41 hQ => ?_)
            have hF := hF.next hQ (by decide) (by decide)
            exact f_X12_rule_j161  w z3 q41 hF
