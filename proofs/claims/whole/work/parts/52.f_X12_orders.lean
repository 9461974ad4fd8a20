theorem f_X12_orders_j30 (w0 : Wd) (w : Wd) (hF : Fr [121, 122, 123, 124, 125, 126, 127, 128, 129, 130, 131, 132, 133, 134, 135, 136, 137, 138, 139, 140, 141, 142, 143] [(97, 0), (97, 33), (97, 34), (97, 35), (97, 36), (97, 37), (97, 38), (97, 39), (97, 40), (97, 41), (97, 42), (97, 43), (97, 44)] w0 w) : okF (X12_orders_j30  w) (fun q => Fr [121, 122, 123, 124, 125, 126, 127, 128, 129, 130, 131, 132, 133, 134, 135, 136, 137, 138, 139, 140, 141, 142, 143] [(97, 0), (97, 33), (97, 34), (97, 35), (97, 36), (97, 37), (97, 38), (97, 39), (97, 40), (97, 41), (97, 42), (97, 43), (97, 44)] w0 q.2) := by
  unfold X12_orders_j30
  refine pk_c (f_X12_refuse (1 : Int32) w) (fun q1 hQ => ?_)
  have hF := hF.next hQ (by decide) (by decide)
  exact pk_s hF
theorem f_X12_orders_b58 (w0 : Wd) (a1 : Int32) (a2 : Int32) (a3 : Int32) (s : (Int32 × Wd)) (hF : Fr [121, 122, 123, 124, 125, 126, 127, 128, 129, 130, 131, 132, 133, 134, 135, 136, 137, 138, 139, 140, 141, 142, 143] [(97, 0), (97, 33), (97, 34), (97, 35), (97, 36), (97, 37), (97, 38), (97, 39), (97, 40), (97, 41), (97, 42), (97, 43), (97, 44)] w0 s.2) : okF (lp (X12_orders_b58  a1 a2 a3) s) (fun e => Fr [121, 122, 123, 124, 125, 126, 127, 128, 129, 130, 131, 132, 133, 134, 135, 136, 137, 138, 139, 140, 141, 142, 143] [(97, 0), (97, 33), (97, 34), (97, 35), (97, 36), (97, 37), (97, 38), (97, 39), (97, 40), (97, 41), (97, 42), (97, 43), (97, 44)] w0 e) := by
  refine pk_lp (I := fun s => Fr [121, 122, 123, 124, 125, 126, 127, 128, 129, 130, 131, 132, 133, 134, 135, 136, 137, 138, 139, 140, 141, 142, 143] [(97, 0), (97, 33), (97, 34), (97, 35), (97, 36), (97, 37), (97, 38), (97, 39), (97, 40), (97, 41), (97, 42), (97, 43), (97, 44)] w0 s.2) (fun s hF => ?_) s hF
  unfold X12_orders_b58
  refine pk_i (fun _ => ?_) (fun _ => ?_)
  · exact pk_s hF
  · refine pk_g (fun _ => ?_)
    refine pk_g (fun _ => ?_)
    refine pk_w (fun w4 hF => ?_) (hF.puI (by decide))
    exact pk_s hF
theorem f_X12_orders_j168 (w0 : Wd) (a2 : Int32) (a3 : Int32) (a4 : Int32) (a5 : Int32) (s0 : Int32) (w : Wd) (hF : Fr [121, 122, 123, 124, 125, 126, 127, 128, 129, 130, 131, 132, 133, 134, 135, 136, 137, 138, 139, 140, 141, 142, 143] [(97, 0), (97, 33), (97, 34), (97, 35), (97, 36), (97, 37), (97, 38), (97, 39), (97, 40), (97, 41), (97, 42), (97, 43), (97, 44)] w0 w) : okF (X12_orders_j168  a2 a3 a4 a5 s0 w) (sel (fun s => Fr [121, 122, 123, 124, 125, 126, 127, 128, 129, 130, 131, 132, 133, 134, 135, 136, 137, 138, 139, 140, 141, 142, 143] [(97, 0), (97, 33), (97, 34), (97, 35), (97, 36), (97, 37), (97, 38), (97, 39), (97, 40), (97, 41), (97, 42), (97, 43), (97, 44)] w0 s.2) (fun e => Fr [121, 122, 123, 124, 125, 126, 127, 128, 129, 130, 131, 132, 133, 134, 135, 136, 137, 138, 139, 140, 141, 142, 143] [(97, 0), (97, 33), (97, 34), (97, 35), (97, 36), (97, 37), (97, 38), (97, 39), (97, 40), (97, 41), (97, 42), (97, 43), (97, 44)] w0 e)) := by
  unfold X12_orders_j168
  exact pk_s hF
theorem f_X12_orders_j167 (w0 : Wd) (a2 : Int32) (a3 : Int32) (a4 : Int32) (a5 : Int32) (w : Wd) (hF : Fr [121, 122, 123, 124, 125, 126, 127, 128, 129, 130, 131, 132, 133, 134, 135, 136, 137, 138, 139, 140, 141, 142, 143] [(97, 0), (97, 33), (97, 34), (97, 35), (97, 36), (97, 37), (97, 38), (97, 39), (97, 40), (97, 41), (97, 42), (97, 43), (97, 44)] w0 w) : okF (X12_orders_j167  a2 a3 a4 a5 w) (sel (fun s => Fr [121, 122, 123, 124, 125, 126, 127, 128, 129, 130, 131, 132, 133, 134, 135, 136, 137, 138, 139, 140, 141, 142, 143] [(97, 0), (97, 33), (97, 34), (97, 35), (97, 36), (97, 37), (97, 38), (97, 39), (97, 40), (97, 41), (97, 42), (97, 43), (97, 44)] w0 s.2) (fun e => Fr [121, 122, 123, 124, 125, 126, 127, 128, 129, 130, 131, 132, 133, 134, 135, 136, 137, 138, 139, 140, 141, 142, 143] [(97, 0), (97, 33), (97, 34), (97, 35), (97, 36), (97, 37), (97, 38), (97, 39), (97, 40), (97, 41), (97, 42), (97, 43), (97, 44)] w0 e)) := by
  unfold X12_orders_j167
  exact f_X12_orders_j168  w0 a2 a3 a4 a5 (0 : Int32) w hF
theorem f_X12_orders_b144 (w0 : Wd) (a2 : Int32) (a3 : Int32) (a4 : Int32) (a5 : Int32) (s : (Int32 × Wd)) (hF : Fr [121, 122, 123, 124, 125, 126, 127, 128, 129, 130, 131, 132, 133, 134, 135, 136, 137, 138, 139, 140, 141, 142, 143] [(97, 0), (97, 33), (97, 34), (97, 35), (97, 36), (97, 37), (97, 38), (97, 39), (97, 40), (97, 41), (97, 42), (97, 43), (97, 44)] w0 s.2) : okF (lp (X12_orders_b144  a2 a3 a4 a5) s) (fun e => Fr [121, 122, 123, 124, 125, 126, 127, 128, 129, 130, 131, 132, 133, 134, 135, 136, 137, 138, 139, 140, 141, 142, 143] [(97, 0), (97, 33), (97, 34), (97, 35), (97, 36), (97, 37), (97, 38), (97, 39), (97, 40), (97, 41), (97, 42), (97, 43), (97, 44)] w0 e) := by
  refine pk_lp (I := fun s => Fr [121, 122, 123, 124, 125, 126, 127, 128, 129, 130, 131, 132, 133, 134, 135, 136, 137, 138, 139, 140, 141, 142, 143] [(97, 0), (97, 33), (97, 34), (97, 35), (97, 36), (97, 37), (97, 38), (97, 39), (97, 40), (97, 41), (97, 42), (97, 43), (97, 44)] w0 s.2) (fun s hF => ?_) s hF
  unfold X12_orders_b144
  refine pk_i (fun _ => ?_) (fun _ => ?_)
  · exact pk_s hF
  · refine pk_c (f_X12_rule s.2) (fun q13 hQ => ?_)
    have hF := hF.next hQ (by decide) (by decide)
    refine pk_i (fun _ => ?_) (fun _ => ?_)
    · exact f_X12_orders_j167  w0 a2 a3 a4 a5 q13.2 hF
    · refine pk_i (fun _ => ?_) (fun _ => ?_)
      · exact f_X12_orders_j167  w0 a2 a3 a4 a5 q13.2 hF
      · exact f_X12_orders_j168  w0 a2 a3 a4 a5 (1 : Int32) q13.2 hF
theorem f_X12_orders_j142 (w0 : Wd) (a2 : Int32) (a3 : Int32) (a4 : Int32) (a5 : Int32) (s0 : Int32) (w : Wd) (hF : Fr [121, 122, 123, 124, 125, 126, 127, 128, 129, 130, 131, 132, 133, 134, 135, 136, 137, 138, 139, 140, 141, 142, 143] [(97, 0), (97, 33), (97, 34), (97, 35), (97, 36), (97, 37), (97, 38), (97, 39), (97, 40), (97, 41), (97, 42), (97, 43), (97, 44)] w0 w) : okF (X12_orders_j142  a2 a3 a4 a5 s0 w) (fun q => Fr [121, 122, 123, 124, 125, 126, 127, 128, 129, 130, 131, 132, 133, 134, 135, 136, 137, 138, 139, 140, 141, 142, 143] [(97, 0), (97, 33), (97, 34), (97, 35), (97, 36), (97, 37), (97, 38), (97, 39), (97, 40), (97, 41), (97, 42), (97, 43), (97, 44)] w0 q.2) := by
  unfold X12_orders_j142
  refine pk_c (f_X12_orders_b144 w0 a2 a3 a4 a5 (s0, w) hF) (fun e15 hF => ?_)
  refine pk_w (fun w16 hF => ?_) (hF.pfI (by decide))
  refine pk_i (fun _ => ?_) (fun _ => ?_)
  · refine pk_g (fun _ => ?_)
    refine pk_w (fun w17 hF => ?_) (hF.puI (by decide))
    refine pk_g (fun _ => ?_)
    refine pk_w (fun w18 hF => ?_) (hF.puI (by decide))
    refine pk_w (fun w19 hF => ?_) (hF.pfI (by decide))
    refine pk_g (fun _ => ?_)
    refine pk_v (fun z20 => ?_)
    refine pk_c (f_X12_gives z20 w19) (fun q21 hQ => ?_)
    have hF := hF.next hQ (by decide) (by decide)
    exact pk_s hF
  · refine pk_w (fun w23 hF => ?_) (hF.pfI (by decide))
    refine pk_w (fun w24 hF => ?_) (hF.pfI (by decide))
    refine pk_c (f_X12_refuse (9 : Int32) w24) (fun q25 hQ => ?_)
    have hF := hF.next hQ (by decide) (by decide)
    exact pk_s hF
theorem f_X12_orders (a1 : Int32) (a2 : Int32) (a3 : Int32) (w : Wd) : okF (X12_orders  a1 a2 a3 w) (fun q => Fr [121, 122, 123, 124, 125, 126, 127, 128, 129, 130, 131, 132, 133, 134, 135, 136, 137, 138, 139, 140, 141, 142, 143] [(97, 0), (97, 33), (97, 34), (97, 35), (97, 36), (97, 37), (97, 38), (97, 39), (97, 40), (97, 41), (97, 42), (97, 43), (97, 44)] w q.2) := by
  have hF : Fr [121, 122, 123, 124, 125, 126, 127, 128, 129, 130, 131, 132, 133, 134, 135, 136, 137, 138, 139, 140, 141, 142, 143] [(97, 0), (97, 33), (97, 34), (97, 35), (97, 36), (97, 37), (97, 38), (97, 39), (97, 40), (97, 41), (97, 42), (97, 43), (97, 44)] w w := Fr.rf
  unfold X12_orders
  refine pk_i (fun _ => ?_) (fun _ => ?_)
  · exact f_X12_orders_j30  w w hF
  · refine pk_i (fun _ => ?_) (fun _ => ?_)
    · exact f_X12_orders_j30  w w hF
    · refine pk_i (fun _ => ?_) (fun _ => ?_)
      · exact f_X12_orders_j30  w w hF
      · refine pk_i (fun _ => ?_) (fun _ => ?_)
        · exact f_X12_orders_j30  w w hF
        · refine pk_i (fun _ => ?_) (fun _ => ?_)
          · refine pk_i (fun _ => ?_) (fun _ => ?_)
            · refine pk_c (f_X12_refuse (4 : Int32) w) (fun q27 hQ => ?_)
              have hF := hF.next hQ (by decide) (by decide)
              exact pk_s hF
            · refine pk_w (fun w3 hF => ?_) (hF.pfI (by decide))
              refine pk_c (f_X12_orders_b58 w a1 a2 a3 ((0 : Int32), w3) hF) (fun e5 hF => ?_)
              refine pk_w (fun w6 hF => ?_) (hF.pfI (by decide))
              refine pk_w (fun w7 hF => ?_) (hF.pfI (by decide))
              refine pk_w (fun w8 hF => ?_) (hF.pfI (by decide))
              refine pk_w (fun w9 hF => ?_) (hF.pfI (by decide))
              refine pk_g (fun _ => ?_)
              refine pk_w (fun w10 hF => ?_) (hF.puI (by decide))
              refine pk_c (f_X12_next w10) (fun q11 hQ => ?_)
              have hF := hF.next hQ (by decide) (by decide)
              refine pk_i (fun _ => ?_) (fun _ => ?_)
              · exact f_X12_orders_j142  w a2 a3 (w10.1 97 43) (w10.1 97 44) (0 : Int32) q11 hF
              · exact f_X12_orders_j142  w a2 a3 (w10.1 97 43) (w10.1 97 44) (1 : Int32) q11 hF
          · exact f_X12_orders_j30  w w hF
theorem f_X12_stand_j108 (w0 : Wd) (a1 : Int32) (a2 : Int32) (a3 : Int32) (a4 : Int32) (w : Wd) (hF : Fr [144, 145, 146] [(97, 70)] w0 w) : okF (X12_stand_j108  a1 a2 a3 a4 w) (sel (fun s => Fr [144, 145, 146] [(97, 70)] w0 s.2.2) (fun e => Fr [144, 145, 146] [(97, 70)] w0 e.2)) := by
  unfold X12_stand_j108
  exact pk_s hF
theorem f_X12_stand_b45 (w0 : Wd) (a1 : Int32) (a2 : Int32) (a3 : Int32) (a4 : Int32) (s : (Int32 × Wd)) (hF : Fr [144, 145, 146] [(97, 70)] w0 s.2) : okF (lp (X12_stand_b45  a1 a2 a3 a4) s) (fun e => Fr [144, 145, 146] [(97, 70)] w0 e.2) := by
  refine pk_lp (I := fun s => Fr [144, 145, 146] [(97, 70)] w0 s.2) (fun s hF => ?_) s hF
  unfold X12_stand_b45
  refine pk_i (fun _ => ?_) (fun _ => ?_)
  · exact pk_s hF
  · refine pk_g (fun _ => ?_)
    refine pk_g (fun _ => ?_)
    refine pk_v (fun z1 => ?_)
    refine pk_g (fun _ => ?_)
    refine pk_i (fun _ => ?_) (fun _ => ?_)
    · exact pk_s hF
    · refine pk_g (fun _ => ?_)
      refine pk_g (fun _ => ?_)
      refine pk_w (fun w2 hF => ?_) (hF.puI (by decide))
      exact pk_s hF
theorem f_X12_stand_b5 (w0 : Wd) (a1 : Int32) (a2 : Int32) (s : (Int32 × Int32 × Wd)) (hF : Fr [144, 145, 146] [(97, 70)] w0 s.2.2) : okF (lp (X12_stand_b5  a1 a2) s) (fun e => Fr [144, 145, 146] [(97, 70)] w0 e.2) := by
  refine pk_lp (I := fun s => Fr [144, 145, 146] [(97, 70)] w0 s.2.2) (fun s hF => ?_) s hF
  unfold X12_stand_b5
  refine pk_i (fun _ => ?_) (fun _ => ?_)
  · exact pk_s hF
  · refine pk_g (fun _ => ?_)
    refine pk_i (fun _ => ?_) (fun _ => ?_)
    · exact f_X12_stand_j108  w0 a1 a2 s.1 s.2.1 s.2.2 hF
    · refine pk_g (fun _ => ?_)
      refine pk_i (fun _ => ?_) (fun _ => ?_)
      · exact f_X12_stand_j108  w0 a1 a2 s.1 s.2.1 s.2.2 hF
      · refine pk_c (f_X12_stand_b45 w0 a1 a2 s.1 s.2.1 (s.1, s.2.2) hF) (fun e3 hF => ?_)
        refine pk_g (fun _ => ?_)
        refine pk_w (fun w4 hF => ?_) (hF.puI (by decide))
        exact f_X12_stand_j108  w0 a1 a2 (s.1 + (1 : Int32)) s.2.1 w4 hF
theorem f_X12_stand_b140 (w0 : Wd) (a3 : Int32) (a4 : Int32) (s : (Int32 × Wd)) (hF : Fr [144, 145, 146] [(97, 70)] w0 s.2) : okF (lp (X12_stand_b140  a3 a4) s) (fun e => Fr [144, 145, 146] [(97, 70)] w0 e) := by
  refine pk_lp (I := fun s => Fr [144, 145, 146] [(97, 70)] w0 s.2) (fun s hF => ?_) s hF
  unfold X12_stand_b140
  refine pk_g (fun _ => ?_)
  refine pk_g (fun _ => ?_)
  refine pk_g (fun _ => ?_)
  refine pk_i (fun _ => ?_) (fun _ => ?_)
  · exact pk_s hF
  · refine pk_g (fun _ => ?_)
    refine pk_w (fun w8 hF => ?_) (hF.puI (by decide))
    refine pk_w (fun w9 hF => ?_) (hF.pfI (by decide))
    exact pk_s hF
theorem f_X12_stand_b122 (w0 : Wd) (a3 : Int32) (s : (Int32 × Wd)) (hF : Fr [144, 145, 146] [(97, 70)] w0 s.2) : okF (lp (X12_stand_b122  a3) s) (fun e => Fr [144, 145, 146] [(97, 70)] w0 e) := by
  refine pk_lp (I := fun s => Fr [144, 145, 146] [(97, 70)] w0 s.2) (fun s hF => ?_) s hF
  unfold X12_stand_b122
  refine pk_i (fun _ => ?_) (fun _ => ?_)
  · exact pk_s hF
  · refine pk_g (fun _ => ?_)
    refine pk_v (fun z7 => ?_)
    refine pk_c (f_X12_stand_b140 w0 a3 s.1 (z7, s.2) hF) (fun e10 hF => ?_)
    exact pk_s hF
theorem f_X12_stand_j285 (w0 : Wd) (a4 : Int32) (a5 : Int32) (s0 : Int32) (s1 : Int32) (w : Wd) (hF : Fr [144, 145, 146] [(97, 70)] w0 w) : okF (X12_stand_j285  a4 a5 s0 s1 w) (sel (fun s => Fr [144, 145, 146] [(97, 70)] w0 s.2) (fun e => Fr [144, 145, 146] [(97, 70)] w0 e)) := by
  unfold X12_stand_j285
  refine pk_g (fun _ => ?_)
  refine pk_w (fun w13 hF => ?_) (hF.puI (by decide))
  exact pk_s hF
theorem f_X12_stand_j280 (w0 : Wd) (a4 : Int32) (a5 : Int32) (s0 : Int32) (w : Wd) (hF : Fr [144, 145, 146] [(97, 70)] w0 w) : okF (X12_stand_j280  a4 a5 s0 w) (sel (fun s => Fr [144, 145, 146] [(97, 70)] w0 s.2) (fun e => Fr [144, 145, 146] [(97, 70)] w0 e)) := by
  unfold X12_stand_j280
  exact f_X12_stand_j285  w0 a4 a5 (1 : Int32) s0 w hF
theorem f_X12_stand_b227 (w0 : Wd) (a4 : Int32) (s : (Int32 × Wd)) (hF : Fr [144, 145, 146] [(97, 70)] w0 s.2) : okF (lp (X12_stand_b227  a4) s) (fun e => Fr [144, 145, 146] [(97, 70)] w0 e) := by
  refine pk_lp (I := fun s => Fr [144, 145, 146] [(97, 70)] w0 s.2) (fun s hF => ?_) s hF
  unfold X12_stand_b227
  refine pk_i (fun _ => ?_) (fun _ => ?_)
  · exact pk_s hF
  · refine pk_g (fun _ => ?_)
    refine pk_i (fun _ => ?_) (fun _ => ?_)
    · refine pk_g (fun _ => ?_)
      refine pk_g (fun _ => ?_)
      refine pk_g (fun _ => ?_)
      refine pk_g (fun _ => ?_)
      refine pk_i (fun _ => ?_) (fun _ => ?_)
      · exact f_X12_stand_j280  w0 a4 s.1 a4 s.2 hF
      · exact f_X12_stand_j285  w0 a4 s.1 (0 : Int32) a4 s.2 hF
    · exact f_X12_stand_j280  w0 a4 s.1 a4 s.2 hF
theorem f_X12_stand_b204 (w0 : Wd) (s : (Int32 × Wd)) (hF : Fr [144, 145, 146] [(97, 70)] w0 s.2) : okF (lp (X12_stand_b204  ) s) (fun e => Fr [144, 145, 146] [(97, 70)] w0 e) := by
  refine pk_lp (I := fun s => Fr [144, 145, 146] [(97, 70)] w0 s.2) (fun s hF => ?_) s hF
  unfold X12_stand_b204
  refine pk_i (fun _ => ?_) (fun _ => ?_)
  · exact pk_s hF
  · refine pk_g (fun _ => ?_)
    refine pk_w (fun w12 hF => ?_) (hF.puI (by decide))
    refine pk_c (f_X12_stand_b227 w0 s.1 ((s.1 + (1 : Int32)), w12) hF) (fun e14 hF => ?_)
    exact pk_s hF
theorem f_X12_stand (a1 : Int32) (a2 : Int32) (w : Wd) : okF (X12_stand  a1 a2 w) (fun q => Fr [144, 145, 146] [(97, 70)] w q) := by
  have hF : Fr [144, 145, 146] [(97, 70)] w w := Fr.rf
  unfold X12_stand
  refine pk_c (f_X12_stand_b5 w a1 a2 ((0 : Int32), (0 : Int32), w) hF) (fun e5 hF => ?_)
  refine pk_w (fun w6 hF => ?_) (hF.pfI (by decide))
  refine pk_c (f_X12_stand_b122 w e5.1 ((0 : Int32), w6) hF) (fun e11 hF => ?_)
  refine pk_c (f_X12_stand_b204 w ((0 : Int32), e11) hF) (fun e15 hF => ?_)
  exact pk_s hF
theorem f_X12_rules_j23 (w0 : Wd) (w : Wd) (hF : Fr [144, 145, 146] [(97, 0), (97, 70)] w0 w) : okF (X12_rules_j23  w) (fun q => Fr [144, 145, 146] [(97, 0), (97, 70)] w0 q.2) := by
  unfold X12_rules_j23
  refine pk_c (f_X12_refuse (1 : Int32) w) (fun q1 hQ => ?_)
  have hF := hF.next hQ (by decide) (by decide)
  exact pk_s hF
theorem f_X12_rules_j83 (w0 : Wd) (s0 : Int32) (w : Wd) (hF : Fr [144, 145, 146] [(97, 0), (97, 70)] w0 w) : okF (X12_rules_j83  s0 w) (fun q => Fr [144, 145, 146] [(97, 0), (97, 70)] w0 q.2) := by
  unfold X12_rules_j83
  refine pk_c (f_X12_gives s0 w) (fun q7 hQ => ?_)
  have hF := hF.next hQ (by decide) (by decide)
  exact pk_s hF
theorem f_X12_rules (a1 : Int32) (a2 : Int32) (a3 : Int32) (w : Wd) : okF (X12_rules  a1 a2 a3 w) (fun q => Fr [144, 145, 146] [(97, 0), (97, 70)] w q.2) := by
  have hF : Fr [144, 145, 146] [(97, 0), (97, 70)] w w := Fr.rf
  unfold X12_rules
  refine pk_i (fun _ => ?_) (fun _ => ?_)
  · exact f_X12_rules_j23  w w hF
  · refine pk_i (fun _ => ?_) (fun _ => ?_)
    · exact f_X12_rules_j23  w w hF
    · refine pk_i (fun _ => ?_) (fun _ => ?_)
      · exact f_X12_rules_j23  w w hF
      · refine pk_i (fun _ => ?_) (fun _ => ?_)
        · refine pk_c (f_X12_stand a1 a2 w) (fun q3 hQ => ?_)
          have hF := hF.next hQ (by decide) (by decide)
          refine pk_i (fun _ => ?_) (fun _ => ?_)
          · exact f_X12_rules_j83  w (q3.1 97 70) q3 hF
          · refine pk_i (fun _ => ?_) (fun _ => ?_)
            · refine pk_v (fun q11 => ?_)
              exact f_X12_rules_j83  w q11 q3 hF
            · refine pk_i (fun _ => ?_) (fun _ => ?_)
              · refine pk_v (fun q9 => ?_)
                exact f_X12_rules_j83  w q9 q3 hF
              · refine pk_v (fun q5 => ?_)
                exact f_X12_rules_j83  w q5 q3 hF
        · exact f_X12_rules_j23  w w hF
theorem f_X12_struck_j14 (w0 : Wd) (w : Wd) (hF : Fr [144, 145, 146] [(97, 0), (97, 70)] w0 w) : okF (X12_struck_j14  w) (fun q => Fr [144, 145, 146] [(97, 0), (97, 70)] w0 q.2) := by
  unfold X12_struck_j14
  refine pk_c (f_X12_refuse (1 : Int32) w) (fun q1 hQ => ?_)
  have hF := hF.next hQ (by decide) (by decide)
  exact pk_s hF
theorem f_X12_struck_j38 (w0 : Wd) (w : Wd) (hF : Fr [144, 145, 146] [(97, 0), (97, 70)] w0 w) : okF (X12_struck_j38  w) (fun q => Fr [144, 145, 146] [(97, 0), (97, 70)] w0 q.2) := by
  unfold X12_struck_j38
  refine pk_c (f_X12_refuse (1 : Int32) w) (fun q5 hQ => ?_)
  have hF := hF.next hQ (by decide) (by decide)
  exact pk_s hF
theorem f_X12_struck_j61 (w0 : Wd) (s0 : Int32) (w : Wd) (hF : Fr [144, 145, 146] [(97, 0), (97, 70)] w0 w) : okF (X12_struck_j61  s0 w) (fun q => Fr [144, 145, 146] [(97, 0), (97, 70)] w0 q.2) := by
  unfold X12_struck_j61
  refine pk_c (f_X12_gives s0 w) (fun q7 hQ => ?_)
  have hF := hF.next hQ (by decide) (by decide)
  exact pk_s hF
theorem f_X12_struck (a1 : Int32) (a2 : Int32) (a3 : Int32) (w : Wd) : okF (X12_struck  a1 a2 a3 w) (fun q => Fr [144, 145, 146] [(97, 0), (97, 70)] w q.2) := by
  have hF : Fr [144, 145, 146] [(97, 0), (97, 70)] w w := Fr.rf
  unfold X12_struck
  refine pk_i (fun _ => ?_) (fun _ => ?_)
  · exact f_X12_struck_j14  w w hF
  · refine pk_i (fun _ => ?_) (fun _ => ?_)
    · exact f_X12_struck_j14  w w hF
    · refine pk_c (f_X12_stand a1 a2 w) (fun q3 hQ => ?_)
      have hF := hF.next hQ (by decide) (by decide)
      refine pk_i (fun _ => ?_) (fun _ => ?_)
      · exact f_X12_struck_j38  w q3 hF
      · refine pk_i (fun _ => ?_) (fun _ => ?_)
        · refine pk_g (fun _ => ?_)
          refine pk_i (fun _ => ?_) (fun _ => ?_)
          · exact f_X12_struck_j61  w (0 : Int32) q3 hF
          · exact f_X12_struck_j61  w (1 : Int32) q3 hF
        · exact f_X12_struck_j38  w q3 hF
theorem f_X12_lesson_j45 (w0 : Wd) (w : Wd) (hF : Fr [147, 148, 149] [(97, 0)] w0 w) : okF (X12_lesson_j45  w) (fun q => Fr [147, 148, 149] [(97, 0)] w0 q.2) := by
  unfold X12_lesson_j45
  refine pk_c (f_X12_is (1 : Int32) w) (fun q1 hQ => ?_)
  have hF := hF.next hQ (by decide) (by decide)
  refine pk_g (fun _ => ?_)
  exact pk_s hF
theorem f_X12_lesson (a1 : Int32) (a2 : Int32) (a3 : Int32) (a4 : Int32) (w : Wd) : okF (X12_lesson  a1 a2 a3 a4 w) (fun q => Fr [147, 148, 149] [(97, 0)] w q.2) := by
  have hF : Fr [147, 148, 149] [(97, 0)] w w := Fr.rf
  unfold X12_lesson
  refine pk_i (fun _ => ?_) (fun _ => ?_)
  · exact f_X12_lesson_j45  w w hF
  · refine pk_i (fun _ => ?_) (fun _ => ?_)
    · exact f_X12_lesson_j45  w w hF
    · refine pk_i (fun _ => ?_) (fun _ => ?_)
      · exact f_X12_lesson_j45  w w hF
      · refine pk_i (fun _ => ?_) (fun _ => ?_)
        · exact f_X12_lesson_j45  w w hF
        · refine pk_i (fun _ => ?_) (fun _ => ?_)
          · exact f_X12_lesson_j45  w w hF
          · refine pk_i (fun _ => ?_) (fun _ => ?_)
            · exact f_X12_lesson_j45  w w hF
            · refine pk_i (fun _ => ?_) (fun _ => ?_)
              · exact f_X12_lesson_j45  w w hF
              · refine pk_i (fun _ => ?_) (fun _ => ?_)
                · refine pk_g (fun _ => ?_)
                  refine pk_w (fun w3 hF => ?_) (hF.puI (by decide))
                  refine pk_g (fun _ => ?_)
                  refine pk_w (fun w4 hF => ?_) (hF.puI (by decide))
                  refine pk_g (fun _ => ?_)
                  refine pk_w (fun w5 hF => ?_) (hF.puI (by decide))
                  refine pk_c (f_X12_is (0 : Int32) w5) (fun q6 hQ => ?_)
                  have hF := hF.next hQ (by decide) (by decide)
                  refine pk_g (fun _ => ?_)
                  exact pk_s hF
                · exact f_X12_lesson_j45  w w hF
theorem f_X12_fade_j11 (w0 : Wd) (w : Wd) (hF : Fr [] [(97, 0), (97, 83)] w0 w) : okF (X12_fade_j11  w) (fun q => Fr [] [(97, 0), (97, 83)] w0 q.2) := by
  unfold X12_fade_j11
  refine pk_c (f_X12_is (1 : Int32) w) (fun q1 hQ => ?_)
  have hF := hF.next hQ (by decide) (by decide)
  refine pk_g (fun _ => ?_)
  exact pk_s hF
theorem f_X12_fade (a1 : Int32) (w : Wd) : okF (X12_fade  a1 w) (fun q => Fr [] [(97, 0), (97, 83)] w q.2) := by
  have hF : Fr [] [(97, 0), (97, 83)] w w := Fr.rf
  unfold X12_fade
  refine pk_i (fun _ => ?_) (fun _ => ?_)
  · exact f_X12_fade_j11  w w hF
  · refine pk_i (fun _ => ?_) (fun _ => ?_)
    · refine pk_w (fun w3 hF => ?_) (hF.pfI (by decide))
      refine pk_c (f_X12_is (0 : Int32) w3) (fun q4 hQ => ?_)
      have hF := hF.next hQ (by decide) (by decide)
      refine pk_g (fun _ => ?_)
      exact pk_s hF
    · exact f_X12_fade_j11  w w hF
theorem f_X12_learns_b36 (w0 : Wd) (a1 : Int32) (s : (Int32 × Wd)) (hF : Fr [150] [] w0 s.2) : okF (lp (X12_learns_b36  a1) s) (fun e => match e with | (.inl e) => Fr [150] [] w0 e | (.inr e) => Fr [150] [] w0 e) := by
  refine pk_lp (I := fun s => Fr [150] [] w0 s.2) (fun s hF => ?_) s hF
  unfold X12_learns_b36
  refine pk_i (fun _ => ?_) (fun _ => ?_)
  · exact pk_s hF
  · refine pk_v (fun q1 => ?_)
    refine pk_v (fun e3 => ?_)
    refine pk_i (fun _ => ?_) (fun _ => ?_)
    · exact pk_s hF
    · refine pk_g (fun _ => ?_)
      refine pk_g (fun _ => ?_)
      refine pk_w (fun w4 hF => ?_) (hF.puI (by decide))
      exact pk_s hF
theorem f_X12_learns_j34 (w0 : Wd) (a1 : Int32) (s0 : Int32) (w : Wd) (hF : Fr [150] [] w0 w) : okF (X12_learns_j34  a1 s0 w) (fun q => Fr [150] [] w0 q) := by
  unfold X12_learns_j34
  refine pk_c (f_X12_learns_b36 w0 a1 (s0, w) hF) (fun e5 hF => ?_)
  rcases e5 with e6 | e7
  · exact pk_s hF
  · exact pk_s hF
theorem f_X12_learns (a1 : Int32) (a2 : Int32) (w : Wd) : okF (X12_learns  a1 a2 w) (fun q => Fr [150] [] w q) := by
  have hF : Fr [150] [] w w := Fr.rf
  unfold X12_learns
  refine pk_g (fun _ => ?_)
  refine pk_i (fun _ => ?_) (fun _ => ?_)
  · refine pk_i (fun _ => ?_) (fun _ => ?_)
    · refine pk_g (fun _ => ?_)
      exact f_X12_learns_j34  w a1 (a2 / (2 : Int32)) w hF
    · refine pk_g (fun _ => ?_)
      exact f_X12_learns_j34  w a1 ((a2 * (3 : Int32)) / (4 : Int32)) w hF
  · exact f_X12_learns_j34  w a1 a2 w hF
theorem f_X12_misses (a1 : Int32) (w : Wd) : okF (X12_misses  a1 w) (fun q => Fr [150, 151] [] w q) := by
  have hF : Fr [150, 151] [] w w := Fr.rf
  unfold X12_misses
  refine pk_g (fun _ => ?_)
  refine pk_g (fun _ => ?_)
  refine pk_w (fun w1 hF => ?_) (hF.puI (by decide))
  refine pk_g (fun _ => ?_)
  refine pk_i (fun _ => ?_) (fun _ => ?_)
  · refine pk_v (fun q2 => ?_)
    refine pk_v (fun e5 => ?_)
    rcases e5 with e6 | e8
    · refine pk_g (fun _ => ?_)
      refine pk_w (fun w7 hF => ?_) (hF.puI (by decide))
      exact pk_s hF
    · exact pk_s hF
  · exact pk_s hF
theorem f_X12_work_j158 (w0 : Wd) (a2 : Int32) (a3 : Int32) (a4 : Int32) (w : Wd) (hF : Fr [160] [] w0 w) : okF (X12_work_j158  a2 a3 a4 w) (sel (fun s => Fr [160] [] w0 s.2.2) (fun e => Fr [160] [] w0 e)) := by
  unfold X12_work_j158
  exact pk_s hF
theorem f_X12_work_j157 (w0 : Wd) (a2 : Int32) (a3 : Int32) (a4 : Int32) (s0 : Int64) (s1 : Int32) (w : Wd) (hF : Fr [160] [] w0 w) : okF (X12_work_j157  a2 a3 a4 s0 s1 w) (sel (fun s => Fr [160] [] w0 s.2.2) (fun e => Fr [160] [] w0 e)) := by
  unfold X12_work_j157
  refine pk_g (fun _ => ?_)
  refine pk_w (fun w3 hF => ?_) (hF.puJ (by decide))
  exact f_X12_work_j158  w0 a2 a3 a4 w3 hF
theorem f_X12_work_j59 (w0 : Wd) (a2 : Int32) (a3 : Int32) (a4 : Int32) (s0 : Int64) (s1 : Int32) (w : Wd) (hF : Fr [160] [] w0 w) : okF (X12_work_j59  a2 a3 a4 s0 s1 w) (sel (fun s => Fr [160] [] w0 s.2.2) (fun e => Fr [160] [] w0 e)) := by
  unfold X12_work_j59
  refine pk_g (fun _ => ?_)
  refine pk_w (fun w4 hF => ?_) (hF.puJ (by decide))
  exact f_X12_work_j158  w0 a2 (a3 + (1 : Int32)) a4 w4 hF
theorem f_X12_work_b5 (w0 : Wd) (a2 : Int32) (s : (Int32 × Int32 × Wd)) (hF : Fr [160] [] w0 s.2.2) : okF (lp (X12_work_b5  a2) s) (fun e => Fr [160] [] w0 e) := by
  refine pk_lp (I := fun s => Fr [160] [] w0 s.2.2) (fun s hF => ?_) s hF
  unfold X12_work_b5
  refine pk_i (fun _ => ?_) (fun _ => ?_)
  · exact pk_s hF
  · refine pk_g (fun _ => ?_)
    refine pk_i (fun _ => ?_) (fun _ => ?_)
    · refine pk_g (fun _ => ?_)
      refine pk_v (fun z1 => ?_)
      refine pk_g (fun _ => ?_)
      refine pk_v (fun z2 => ?_)
      refine pk_i (fun _ => ?_) (fun _ => ?_)
      · exact f_X12_work_j157  w0 a2 (s.1 + (-1 : Int32)) s.2.1 (z1 + z2) ((s.1 + (-1 : Int32)) - (1 : Int32)) s.2.2 hF
      · refine pk_i (fun _ => ?_) (fun _ => ?_)
        · exact f_X12_work_j157  w0 a2 (s.1 + (-1 : Int32)) s.2.1 (z1 - z2) ((s.1 + (-1 : Int32)) - (1 : Int32)) s.2.2 hF
        · refine pk_i (fun _ => ?_) (fun _ => ?_)
          · exact f_X12_work_j157  w0 a2 (s.1 + (-1 : Int32)) s.2.1 (z1 * z2) ((s.1 + (-1 : Int32)) - (1 : Int32)) s.2.2 hF
          · refine pk_i (fun _ => ?_) (fun _ => ?_)
            · exact f_X12_work_j157  w0 a2 (s.1 + (-1 : Int32)) s.2.1 (0 : Int64) ((s.1 + (-1 : Int32)) - (1 : Int32)) s.2.2 hF
            · refine pk_g (fun _ => ?_)
              exact f_X12_work_j157  w0 a2 (s.1 + (-1 : Int32)) s.2.1 (z1 / z2) ((s.1 + (-1 : Int32)) - (1 : Int32)) s.2.2 hF
    · refine pk_i (fun _ => ?_) (fun _ => ?_)
      · refine pk_g (fun _ => ?_)
        exact f_X12_work_j59  w0 a2 s.1 s.2.1 (Int32.toInt64 (s.2.2.1 141 (ix s.2.1))) s.1 s.2.2 hF
      · refine pk_g (fun _ => ?_)
        refine pk_g (fun _ => ?_)
        exact f_X12_work_j59  w0 a2 s.1 s.2.1 (s.2.2.2 159 (ix (s.2.2.1 141 (ix s.2.1)))) s.1 s.2.2 hF
theorem f_X12_work (a1 : Int32) (a2 : Int32) (w : Wd) : okF (X12_work  a1 a2 w) (fun q => Fr [160] [] w q.2) := by
  have hF : Fr [160] [] w w := Fr.rf
  unfold X12_work
  refine pk_c (f_X12_work_b5 w a2 ((0 : Int32), a1, w) hF) (fun e5 hF => ?_)
  refine pk_g (fun _ => ?_)
  exact pk_s hF
theorem f_X12_holds_j167 (w0 : Wd) (a1 : Int32) (a2 : Int32) (a4 : Int32) (s0 : Int32) (w : Wd) (hF : Fr [160] [] w0 w) : okF (X12_holds_j167  a1 a2 a4 s0 w) (sel (fun s => Fr [160] [] w0 s.2.2) (fun e => match e with | (.inl e) => Fr [160] [] w0 e | (.inr e) => Fr [160] [] w0 e.2)) := by
  unfold X12_holds_j167
  exact pk_s hF
theorem f_X12_holds_j166 (w0 : Wd) (a1 : Int32) (a2 : Int32) (a4 : Int32) (w : Wd) (hF : Fr [160] [] w0 w) : okF (X12_holds_j166  a1 a2 a4 w) (sel (fun s => Fr [160] [] w0 s.2.2) (fun e => match e with | (.inl e) => Fr [160] [] w0 e | (.inr e) => Fr [160] [] w0 e.2)) := by
  unfold X12_holds_j166
  exact f_X12_holds_j167  w0 a1 a2 a4 (0 : Int32) w hF
theorem f_X12_holds_j144 (w0 : Wd) (a1 : Int32) (a2 : Int32) (a3 : Int32) (a4 : Int32) (s0 : Int32) (w : Wd) (hF : Fr [160] [] w0 w) : okF (X12_holds_j144  a1 a2 a3 a4 s0 w) (sel (fun s => Fr [160] [] w0 s.2.2) (fun e => match e with | (.inl e) => Fr [160] [] w0 e | (.inr e) => Fr [160] [] w0 e.2)) := by
  unfold X12_holds_j144
  refine pk_i (fun _ => ?_) (fun _ => ?_)
  · exact f_X12_holds_j166  w0 a1 a2 a4 w hF
  · refine pk_g (fun _ => ?_)
    refine pk_i (fun _ => ?_) (fun _ => ?_)
    · exact f_X12_holds_j166  w0 a1 a2 a4 w hF
    · exact f_X12_holds_j167  w0 a1 a2 a4 (1 : Int32) w hF
theorem f_X12_holds_j35 (w0 : Wd) (a1 : Int32) (a2 : Int32) (a3 : Int32) (a4 : Int32) (w : Wd) (hF : Fr [160] [] w0 w) : okF (X12_holds_j35  a1 a2 a3 a4 w) (sel (fun s => Fr [160] [] w0 s.2.2) (fun e => match e with | (.inl e) => Fr [160] [] w0 e | (.inr e) => Fr [160] [] w0 e.2)) := by
  unfold X12_holds_j35
  refine pk_g (fun _ => ?_)
  refine pk_g (fun _ => ?_)
  refine pk_c (f_X12_work (w.1 134 (ix a4)) (w.1 135 (ix a4)) w) (fun q1 hQ => ?_)
  have hF := hF.next hQ (by decide) (by decide)
  refine pk_g (fun _ => ?_)
  refine pk_g (fun _ => ?_)
  refine pk_c (f_X12_work (q1.2.1 135 (ix a4)) (q1.2.1 136 (ix a4)) q1.2) (fun q3 hQ => ?_)
  have hF := hF.next hQ (by decide) (by decide)
  refine pk_g (fun _ => ?_)
  refine pk_i (fun _ => ?_) (fun _ => ?_)
  · refine pk_i (fun _ => ?_) (fun _ => ?_)
    · exact f_X12_holds_j144  w0 a1 a2 a3 a4 (0 : Int32) q3.2 hF
    · exact f_X12_holds_j144  w0 a1 a2 a3 a4 (1 : Int32) q3.2 hF
  · refine pk_g (fun _ => ?_)
    refine pk_i (fun _ => ?_) (fun _ => ?_)
    · refine pk_i (fun _ => ?_) (fun _ => ?_)
      · exact f_X12_holds_j144  w0 a1 a2 a3 a4 (0 : Int32) q3.2 hF
      · exact f_X12_holds_j144  w0 a1 a2 a3 a4 (1 : Int32) q3.2 hF
    · refine pk_i (fun _ => ?_) (fun _ => ?_)
      · exact f_X12_holds_j144  w0 a1 a2 a3 a4 (1 : Int32) q3.2 hF
      · exact f_X12_holds_j144  w0 a1 a2 a3 a4 (0 : Int32) q3.2 hF
theorem f_X12_holds_b5 (w0 : Wd) (a1 : Int32) (a2 : Int32) (s : (Int32 × Int32 × Wd)) (hF : Fr [160] [] w0 s.2.2) : okF (lp (X12_holds_b5  a1 a2) s) (fun e => match e with | (.inl e) => Fr [160] [] w0 e | (.inr e) => Fr [160] [] w0 e.2) := by
  refine pk_lp (I := fun s => Fr [160] [] w0 s.2.2) (fun s hF => ?_) s hF
  unfold X12_holds_b5
  refine pk_i (fun _ => ?_) (fun _ => ?_)
  · exact pk_s hF
  · refine pk_g (fun _ => ?_)
    refine pk_i (fun _ => ?_) (fun _ => ?_)
    · exact f_X12_holds_j35  w0 a1 a2 s.1 s.2.1 s.2.2 hF
    · refine pk_i (fun _ => ?_) (fun _ => ?_)
      · exact f_X12_holds_j35  w0 a1 a2 s.1 s.2.1 s.2.2 hF
      · refine pk_i (fun _ => ?_) (fun _ => ?_)
        · exact f_X12_holds_j35  w0 a1 a2 (1 : Int32) s.2.1 s.2.2 hF
        · exact pk_s hF
theorem f_X12_holds (a1 : Int32) (a2 : Int32) (w : Wd) : okF (X12_holds  a1 a2 w) (fun q => Fr [160] [] w q.2) := by
  have hF : Fr [160] [] w w := Fr.rf
  unfold X12_holds
  refine pk_c (f_X12_holds_b5 w a1 a2 ((1 : Int32), a1, w) hF) (fun e5 hF => ?_)
  rcases e5 with e6 | e7
  · exact pk_s hF
  · refine pk_g (fun _ => ?_)
    exact pk_s hF
theorem f_X12_isUnless (a1 : Int32) (w : Wd) : okF (X12_isUnless  a1 w) (fun q => Fr [160] [] w q.2) := by
  have hF : Fr [160] [] w w := Fr.rf
  unfold X12_isUnless
  refine pk_g (fun _ => ?_)
  refine pk_g (fun _ => ?_)
  refine pk_i (fun _ => ?_) (fun _ => ?_)
  · exact pk_s hF
  · refine pk_g (fun _ => ?_)
    refine pk_g (fun _ => ?_)
    refine pk_c (f_X12_holds (w.1 130 (ix a1)) (w.1 131 (ix a1)) w) (fun q1 hQ => ?_)
    have hF := hF.next hQ (by decide) (by decide)
    refine pk_i (fun _ => ?_) (fun _ => ?_)
    · exact pk_s hF
    · exact pk_s hF
theorem f_X12_asks_j302 (w0 : Wd) (a1 : Int32) (a5 : Int32) (a6 : Int32) (a7 : Int32) (a8 : Int64) (a10 : Int32) (w : Wd) (hF : Fr [144, 145, 146, 153, 157, 159, 160] [(97, 70)] w0 w) : okF (X12_asks_j302  a1 a5 a6 a7 a8 a10 w) (sel (fun s => Fr [144, 145, 146, 153, 157, 159, 160] [(97, 70)] w0 s.2.2.2.2.2) (fun e => Fr [144, 145, 146, 153, 157, 159, 160] [(97, 70)] w0 e.2.2.2.2)) := by
  unfold X12_asks_j302
  exact pk_s hF
theorem f_X12_asks_j297 (w0 : Wd) (a1 : Int32) (a5 : Int32) (a6 : Int32) (a10 : Int32) (s0 : Int64) (w : Wd) (hF : Fr [144, 145, 146, 153, 157, 159, 160] [(97, 70)] w0 w) : okF (X12_asks_j297  a1 a5 a6 a10 s0 w) (sel (fun s => Fr [144, 145, 146, 153, 157, 159, 160] [(97, 70)] w0 s.2.2.2.2.2) (fun e => Fr [144, 145, 146, 153, 157, 159, 160] [(97, 70)] w0 e.2.2.2.2)) := by
  unfold X12_asks_j297
  exact f_X12_asks_j302  w0 a1 a5 a6 (1 : Int32) s0 a10 w hF
theorem f_X12_asks_j240 (w0 : Wd) (a1 : Int32) (a5 : Int32) (a6 : Int32) (a7 : Int32) (a8 : Int64) (a10 : Int32) (a11 : Int32) (w : Wd) (hF : Fr [144, 145, 146, 153, 157, 159, 160] [(97, 70)] w0 w) : okF (X12_asks_j240  a1 a5 a6 a7 a8 a10 a11 w) (sel (fun s => Fr [144, 145, 146, 153, 157, 159, 160] [(97, 70)] w0 s.2.2.2.2.2) (fun e => Fr [144, 145, 146, 153, 157, 159, 160] [(97, 70)] w0 e.2.2.2.2)) := by
  unfold X12_asks_j240
  refine pk_g (fun _ => ?_)
  refine pk_i (fun _ => ?_) (fun _ => ?_)
  · refine pk_c (f_X12_isUnless a11 w) (fun q19 hQ => ?_)
    have hF := hF.next hQ (by decide) (by decide)
    refine pk_i (fun _ => ?_) (fun _ => ?_)
    · refine pk_g (fun _ => ?_)
      refine pk_g (fun _ => ?_)
      refine pk_c (f_X12_work (q19.2.1 127 (ix a11)) (q19.2.1 128 (ix a11)) q19.2) (fun q21 hQ => ?_)
      have hF := hF.next hQ (by decide) (by decide)
      refine pk_i (fun _ => ?_) (fun _ => ?_)
      · exact f_X12_asks_j297  w0 a1 a5 a6 a10 q21.1 q21.2 hF
      · exact f_X12_asks_j297  w0 a1 a5 a6 a10 (mxJ a8 q21.1) q21.2 hF
    · exact f_X12_asks_j302  w0 a1 a5 a6 a7 a8 a10 q19.2 hF
  · exact f_X12_asks_j302  w0 a1 a5 a6 a7 a8 a10 w hF
theorem f_X12_asks_j238 (w0 : Wd) (a1 : Int32) (a5 : Int32) (a7 : Int32) (a8 : Int64) (a10 : Int32) (a11 : Int32) (s0 : Int32) (w : Wd) (hF : Fr [144, 145, 146, 153, 157, 159, 160] [(97, 70)] w0 w) : okF (X12_asks_j238  a1 a5 a7 a8 a10 a11 s0 w) (sel (fun s => Fr [144, 145, 146, 153, 157, 159, 160] [(97, 70)] w0 s.2.2.2.2.2) (fun e => Fr [144, 145, 146, 153, 157, 159, 160] [(97, 70)] w0 e.2.2.2.2)) := by
  unfold X12_asks_j238
  exact f_X12_asks_j240  w0 a1 a5 s0 a7 a8 a10 a11 w hF
theorem f_X12_asks_j233 (w0 : Wd) (a1 : Int32) (a5 : Int32) (a7 : Int32) (a8 : Int64) (a10 : Int32) (a11 : Int32) (w : Wd) (hF : Fr [144, 145, 146, 153, 157, 159, 160] [(97, 70)] w0 w) : okF (X12_asks_j233  a1 a5 a7 a8 a10 a11 w) (sel (fun s => Fr [144, 145, 146, 153, 157, 159, 160] [(97, 70)] w0 s.2.2.2.2.2) (fun e => Fr [144, 145, 146, 153, 157, 159, 160] [(97, 70)] w0 e.2.2.2.2)) := by
  unfold X12_asks_j233
  exact f_X12_asks_j238  w0 a1 a5 a7 a8 a10 a11 (1 : Int32) w hF
theorem f_X12_asks_j237 (w0 : Wd) (a1 : Int32) (a5 : Int32) (a7 : Int32) (a8 : Int64) (a10 : Int32) (a11 : Int32) (w : Wd) (hF : Fr [144, 145, 146, 153, 157, 159, 160] [(97, 70)] w0 w) : okF (X12_asks_j237  a1 a5 a7 a8 a10 a11 w) (sel (fun s => Fr [144, 145, 146, 153, 157, 159, 160] [(97, 70)] w0 s.2.2.2.2.2) (fun e => Fr [144, 145, 146, 153, 157, 159, 160] [(97, 70)] w0 e.2.2.2.2)) := by
  unfold X12_asks_j237
  exact f_X12_asks_j238  w0 a1 a5 a7 a8 a10 a11 (0 : Int32) w hF
theorem f_X12_asks_b153 (w0 : Wd) (a1 : Int32) (s : (Int32 × Int32 × Int32 × Int64 × Int32 × Wd)) (hF : Fr [144, 145, 146, 153, 157, 159, 160] [(97, 70)] w0 s.2.2.2.2.2) : okF (lp (X12_asks_b153  a1) s) (fun e => Fr [144, 145, 146, 153, 157, 159, 160] [(97, 70)] w0 e.2.2.2.2) := by
  refine pk_lp (I := fun s => Fr [144, 145, 146, 153, 157, 159, 160] [(97, 70)] w0 s.2.2.2.2.2) (fun s hF => ?_) s hF
  unfold X12_asks_b153
  refine pk_i (fun _ => ?_) (fun _ => ?_)
  · exact pk_s hF
  · refine pk_g (fun _ => ?_)
    refine pk_v (fun z18 => ?_)
    refine pk_g (fun _ => ?_)
    refine pk_i (fun _ => ?_) (fun _ => ?_)
    · refine pk_g (fun _ => ?_)
      refine pk_i (fun _ => ?_) (fun _ => ?_)
      · refine pk_i (fun _ => ?_) (fun _ => ?_)
        · refine pk_g (fun _ => ?_)
          refine pk_g (fun _ => ?_)
          refine pk_c (f_X12_holds (s.2.2.2.2.2.1 129 (ix z18)) (s.2.2.2.2.2.1 130 (ix z18)) s.2.2.2.2.2) (fun q23 hQ => ?_)
          have hF := hF.next hQ (by decide) (by decide)
          refine pk_i (fun _ => ?_) (fun _ => ?_)
          · exact f_X12_asks_j237  w0 a1 (1 : Int32) s.2.2.1 s.2.2.2.1 s.2.2.2.2.1 z18 q23.2 hF
          · refine pk_c (f_X12_isUnless z18 q23.2) (fun q25 hQ => ?_)
            have hF := hF.next hQ (by decide) (by decide)
            refine pk_i (fun _ => ?_) (fun _ => ?_)
            · exact f_X12_asks_j233  w0 a1 (1 : Int32) s.2.2.1 s.2.2.2.1 s.2.2.2.2.1 z18 q25.2 hF
            · exact f_X12_asks_j237  w0 a1 (1 : Int32) s.2.2.1 s.2.2.2.1 s.2.2.2.2.1 z18 q25.2 hF
        · exact f_X12_asks_j233  w0 a1 (1 : Int32) s.2.2.1 s.2.2.2.1 s.2.2.2.2.1 z18 s.2.2.2.2.2 hF
      · exact f_X12_asks_j240  w0 a1 s.1 s.2.1 s.2.2.1 s.2.2.2.1 s.2.2.2.2.1 z18 s.2.2.2.2.2 hF
    · exact f_X12_asks_j302  w0 a1 s.1 s.2.1 s.2.2.1 s.2.2.2.1 s.2.2.2.2.1 s.2.2.2.2.2 hF
theorem f_X12_asks_j357 (w0 : Wd) (s0 : Int32) (s1 : Int32) (w : Wd) (hF : Fr [144, 145, 146, 153, 157, 159, 160] [(97, 70)] w0 w) : okF (X12_asks_j357  s0 s1 w) (fun q => Fr [144, 145, 146, 153, 157, 159, 160] [(97, 70)] w0 q) := by
  unfold X12_asks_j357
  refine pk_g (fun _ => ?_)
  refine pk_w (fun w29 hF => ?_) (hF.puI (by decide))
  exact pk_s hF
theorem f_X12_asks_j328 (w0 : Wd) (a1 : Int32) (a7 : Int32) (a8 : Int64) (s0 : Int32) (s1 : Int32) (w : Wd) (hF : Fr [144, 145, 146, 153, 157, 159, 160] [(97, 70)] w0 w) : okF (X12_asks_j328  a1 a7 a8 s0 s1 w) (fun q => Fr [144, 145, 146, 153, 157, 159, 160] [(97, 70)] w0 q) := by
  unfold X12_asks_j328
  refine pk_g (fun _ => ?_)
  refine pk_w (fun w28 hF => ?_) (hF.puI (by decide))
  refine pk_i (fun _ => ?_) (fun _ => ?_)
  · exact f_X12_asks_j357  w0 (6 : Int32) a1 w28 hF
  · exact f_X12_asks_j357  w0 (Int64.toInt32 (mxJ (0 : Int64) (mnJ (60 : Int64) a8))) a1 w28 hF
theorem f_X12_asks_j323 (w0 : Wd) (a1 : Int32) (a7 : Int32) (a8 : Int64) (s0 : Int32) (w : Wd) (hF : Fr [144, 145, 146, 153, 157, 159, 160] [(97, 70)] w0 w) : okF (X12_asks_j323  a1 a7 a8 s0 w) (fun q => Fr [144, 145, 146, 153, 157, 159, 160] [(97, 70)] w0 q) := by
  unfold X12_asks_j323
  exact f_X12_asks_j328  w0 a1 a7 a8 (1 : Int32) s0 w hF
theorem f_X12_asks_j127 (w0 : Wd) (a1 : Int32) (a4 : Int32) (s0 : Int64) (s1 : Int32) (w : Wd) (hF : Fr [144, 145, 146, 153, 157, 159, 160] [(97, 70)] w0 w) : okF (X12_asks_j127  a1 a4 s0 s1 w) (fun q => Fr [144, 145, 146, 153, 157, 159, 160] [(97, 70)] w0 q) := by
  unfold X12_asks_j127
  refine pk_g (fun _ => ?_)
  refine pk_w (fun w16 hF => ?_) (hF.puJ (by decide))
  refine pk_g (fun _ => ?_)
  refine pk_w (fun w17 hF => ?_) (hF.puJ (by decide))
  refine pk_c (f_X12_asks_b153 w0 a1 ((0 : Int32), (0 : Int32), (0 : Int32), (0 : Int64), (0 : Int32), w17) hF) (fun e27 hF => ?_)
  refine pk_i (fun _ => ?_) (fun _ => ?_)
  · refine pk_i (fun _ => ?_) (fun _ => ?_)
    · exact f_X12_asks_j323  w0 a1 e27.2.2.1 e27.2.2.2.1 a1 e27.2.2.2.2 hF
    · exact f_X12_asks_j328  w0 a1 e27.2.2.1 e27.2.2.2.1 (0 : Int32) a1 e27.2.2.2.2 hF
  · exact f_X12_asks_j323  w0 a1 e27.2.2.1 e27.2.2.2.1 a1 e27.2.2.2.2 hF
theorem f_X12_asks (a1 : Int32) (a2 : Int32) (w : Wd) : okF (X12_asks  a1 a2 w) (fun q => Fr [144, 145, 146, 153, 157, 159, 160] [(97, 70)] w q) := by
  have hF : Fr [144, 145, 146, 153, 157, 159, 160] [(97, 70)] w w := Fr.rf
  unfold X12_asks
  refine pk_g (fun _ => ?_)
  refine pk_g (fun _ => ?_)
  refine pk_g (fun _ => ?_)
  refine pk_v (fun z1 => ?_)
  refine pk_c (f_X12_stand z1 a2 w) (fun q2 hQ => ?_)
  have hF := hF.next hQ (by decide) (by decide)
  refine pk_g (fun _ => ?_)
  refine pk_g (fun _ => ?_)
  refine pk_w (fun w4 hF => ?_) (hF.puJ (by decide))
  refine pk_g (fun _ => ?_)
  refine pk_g (fun _ => ?_)
  refine pk_v (fun z5 => ?_)
  refine pk_g (fun _ => ?_)
  refine pk_g (fun _ => ?_)
  refine pk_w (fun w6 hF => ?_) (hF.puJ (by decide))
  refine pk_g (fun _ => ?_)
  refine pk_g (fun _ => ?_)
  refine pk_w (fun w7 hF => ?_) (hF.puJ (by decide))
  refine pk_g (fun _ => ?_)
  refine pk_w (fun w8 hF => ?_) (hF.puJ (by decide))
  refine pk_v (fun q9 => ?_)
  refine pk_v (fun q11 => ?_)
  refine pk_g (fun _ => ?_)
  refine pk_w (fun w13 hF => ?_) (hF.puJ (by decide))
  refine pk_g (fun _ => ?_)
  refine pk_v (fun q14 => ?_)
  refine pk_i (fun _ => ?_) (fun _ => ?_)
  · exact f_X12_asks_j127  w a1 z1 (0 : Int64) (5 : Int32) w13 hF
  · exact f_X12_asks_j127  w a1 z1 (1 : Int64) (5 : Int32) w13 hF
theorem f_X12_teach_b2 (w0 : Wd) (a1 : Int32) (s : (Int32 × Wd)) (hF : Fr [144, 145, 146, 152, 153, 154, 155, 156, 157, 158, 159, 160] [(97, 70)] w0 s.2) : okF (lp (X12_teach_b2  a1) s) (fun e => Fr [144, 145, 146, 152, 153, 154, 155, 156, 157, 158, 159, 160] [(97, 70)] w0 e) := by
  refine pk_lp (I := fun s => Fr [144, 145, 146, 152, 153, 154, 155, 156, 157, 158, 159, 160] [(97, 70)] w0 s.2) (fun s hF => ?_) s hF
  unfold X12_teach_b2
  refine pk_i (fun _ => ?_) (fun _ => ?_)
  · exact pk_s hF
  · refine pk_g (fun _ => ?_)
    refine pk_w (fun w1 hF => ?_) (hF.puI (by decide))
    refine pk_g (fun _ => ?_)
    refine pk_w (fun w2 hF => ?_) (hF.puI (by decide))
    refine pk_v (fun q3 => ?_)
    refine pk_g (fun _ => ?_)
    refine pk_w (fun w5 hF => ?_) (hF.puI (by decide))
    exact pk_s hF
theorem f_X12_teach_j90 (w0 : Wd) (a1 : Int32) (a2 : Int32) (w : Wd) (hF : Fr [144, 145, 146, 152, 153, 154, 155, 156, 157, 158, 159, 160] [(97, 70)] w0 w) : okF (X12_teach_j90  a1 a2 w) (sel (fun s => Fr [144, 145, 146, 152, 153, 154, 155, 156, 157, 158, 159, 160] [(97, 70)] w0 s.2) (fun e => Fr [144, 145, 146, 152, 153, 154, 155, 156, 157, 158, 159, 160] [(97, 70)] w0 e)) := by
  unfold X12_teach_j90
  exact pk_s hF
theorem f_X12_teach_b44 (w0 : Wd) (a1 : Int32) (s : (Int32 × Wd)) (hF : Fr [144, 145, 146, 152, 153, 154, 155, 156, 157, 158, 159, 160] [(97, 70)] w0 s.2) : okF (lp (X12_teach_b44  a1) s) (fun e => Fr [144, 145, 146, 152, 153, 154, 155, 156, 157, 158, 159, 160] [(97, 70)] w0 e) := by
  refine pk_lp (I := fun s => Fr [144, 145, 146, 152, 153, 154, 155, 156, 157, 158, 159, 160] [(97, 70)] w0 s.2) (fun s hF => ?_) s hF
  unfold X12_teach_b44
  refine pk_i (fun _ => ?_) (fun _ => ?_)
  · exact pk_s hF
  · refine pk_v (fun q7 => ?_)
    refine pk_g (fun _ => ?_)
    refine pk_w (fun w9 hF => ?_) (hF.puI (by decide))
    refine pk_g (fun _ => ?_)
    refine pk_i (fun _ => ?_) (fun _ => ?_)
    · exact f_X12_teach_j90  w0 a1 s.1 w9 hF
    · refine pk_g (fun _ => ?_)
      refine pk_g (fun _ => ?_)
      refine pk_g (fun _ => ?_)
      refine pk_w (fun w10 hF => ?_) (hF.puI (by decide))
      exact f_X12_teach_j90  w0 a1 s.1 w10 hF
theorem f_X12_teach_j209 (w0 : Wd) (a1 : Int32) (a2 : Int32) (w : Wd) (hF : Fr [144, 145, 146, 152, 153, 154, 155, 156, 157, 158, 159, 160] [(97, 70)] w0 w) : okF (X12_teach_j209  a1 a2 w) (sel (fun s => Fr [144, 145, 146, 152, 153, 154, 155, 156, 157, 158, 159, 160] [(97, 70)] w0 s.2) (fun e => Fr [144, 145, 146, 152, 153, 154, 155, 156, 157, 158, 159, 160] [(97, 70)] w0 e)) := by
  unfold X12_teach_j209
  exact pk_s hF
theorem f_X12_teach_b98 (w0 : Wd) (a1 : Int32) (s : (Int32 × Wd)) (hF : Fr [144, 145, 146, 152, 153, 154, 155, 156, 157, 158, 159, 160] [(97, 70)] w0 s.2) : okF (lp (X12_teach_b98  a1) s) (fun e => Fr [144, 145, 146, 152, 153, 154, 155, 156, 157, 158, 159, 160] [(97, 70)] w0 e) := by
  refine pk_lp (I := fun s => Fr [144, 145, 146, 152, 153, 154, 155, 156, 157, 158, 159, 160] [(97, 70)] w0 s.2) (fun s hF => ?_) s hF
  unfold X12_teach_b98
  refine pk_i (fun _ => ?_) (fun _ => ?_)
  · exact pk_s hF
  · refine pk_g (fun _ => ?_)
    refine pk_w (fun w12 hF => ?_) (hF.puI (by decide))
    refine pk_g (fun _ => ?_)
    refine pk_w (fun w13 hF => ?_) (hF.puI (by decide))
    refine pk_g (fun _ => ?_)
    refine pk_i (fun _ => ?_) (fun _ => ?_)
    · exact f_X12_teach_j209  w0 a1 s.1 w13 hF
    · refine pk_g (fun _ => ?_)
      refine pk_g (fun _ => ?_)
      refine pk_i (fun _ => ?_) (fun _ => ?_)
      · exact f_X12_teach_j209  w0 a1 s.1 w13 hF
      · refine pk_c (f_X12_asks s.1 a1 w13) (fun q14 hQ => ?_)
        have hF := hF.next hQ (by decide) (by decide)
        refine pk_g (fun _ => ?_)
        refine pk_i (fun _ => ?_) (fun _ => ?_)
        · exact f_X12_teach_j209  w0 a1 s.1 q14 hF
        · refine pk_g (fun _ => ?_)
          refine pk_g (fun _ => ?_)
          refine pk_v (fun q16 => ?_)
          refine pk_i (fun _ => ?_) (fun _ => ?_)
          · exact f_X12_teach_j209  w0 a1 s.1 q14 hF
          · refine pk_g (fun _ => ?_)
            refine pk_g (fun _ => ?_)
            refine pk_g (fun _ => ?_)
            refine pk_w (fun w18 hF => ?_) (hF.puI (by decide))
            refine pk_g (fun _ => ?_)
            refine pk_w (fun w19 hF => ?_) (hF.puI (by decide))
            exact f_X12_teach_j209  w0 a1 s.1 w19 hF
theorem f_X12_teach (a1 : Int32) (w : Wd) : okF (X12_teach  a1 w) (fun q => Fr [144, 145, 146, 152, 153, 154, 155, 156, 157, 158, 159, 160] [(97, 70)] w q) := by
  have hF : Fr [144, 145, 146, 152, 153, 154, 155, 156, 157, 158, 159, 160] [(97, 70)] w w := Fr.rf
  unfold X12_teach
  refine pk_c (f_X12_teach_b2 w a1 ((0 : Int32), w) hF) (fun e6 hF => ?_)
  refine pk_c (f_X12_teach_b44 w a1 ((0 : Int32), e6) hF) (fun e11 hF => ?_)
  refine pk_c (f_X12_teach_b98 w a1 ((0 : Int32), e11) hF) (fun e20 hF => ?_)
  exact pk_s hF
theorem f_X12_goAlong_b2 (w0 : Wd) (a1 : Int32) (s : (Int32 × Wd)) (hF : Fr [144, 145, 146, 150, 151, 152, 153, 154, 155, 156, 157, 158, 159, 160] [(97, 70)] w0 s.2) : okF (lp (X12_goAlong_b2  a1) s) (fun e => Fr [144, 145, 146, 150, 151, 152, 153, 154, 155, 156, 157, 158, 159, 160] [(97, 70)] w0 e) := by
  refine pk_lp (I := fun s => Fr [144, 145, 146, 150, 151, 152, 153, 154, 155, 156, 157, 158, 159, 160] [(97, 70)] w0 s.2) (fun s hF => ?_) s hF
  unfold X12_goAlong_b2
  refine pk_i (fun _ => ?_) (fun _ => ?_)
  · exact pk_s hF
  · refine pk_g (fun _ => ?_)
    refine pk_w (fun w1 hF => ?_) (hF.puI (by decide))
    exact pk_s hF
theorem f_X12_goAlong_b24 (w0 : Wd) (a1 : Int32) (s : (Int32 × Wd)) (hF : Fr [144, 145, 146, 150, 151, 152, 153, 154, 155, 156, 157, 158, 159, 160] [(97, 70)] w0 s.2) : okF (lp (X12_goAlong_b24  a1) s) (fun e => Fr [144, 145, 146, 150, 151, 152, 153, 154, 155, 156, 157, 158, 159, 160] [(97, 70)] w0 e) := by
  refine pk_lp (I := fun s => Fr [144, 145, 146, 150, 151, 152, 153, 154, 155, 156, 157, 158, 159, 160] [(97, 70)] w0 s.2) (fun s hF => ?_) s hF
  unfold X12_goAlong_b24
  refine pk_i (fun _ => ?_) (fun _ => ?_)
  · exact pk_s hF
  · refine pk_g (fun _ => ?_)
    refine pk_w (fun w3 hF => ?_) (hF.puI (by decide))
    exact pk_s hF
theorem f_X12_goAlong_j100 (w0 : Wd) (a1 : Int32) (a2 : Int32) (a3 : Int32) (w : Wd) (hF : Fr [144, 145, 146, 150, 151, 152, 153, 154, 155, 156, 157, 158, 159, 160] [(97, 70)] w0 w) : okF (X12_goAlong_j100  a1 a2 a3 w) (sel (fun s => Fr [144, 145, 146, 150, 151, 152, 153, 154, 155, 156, 157, 158, 159, 160] [(97, 70)] w0 s.2) (fun e => Fr [144, 145, 146, 150, 151, 152, 153, 154, 155, 156, 157, 158, 159, 160] [(97, 70)] w0 e)) := by
  unfold X12_goAlong_j100
  exact pk_s hF
theorem f_X12_goAlong_b57 (w0 : Wd) (a1 : Int32) (a2 : Int32) (s : (Int32 × Wd)) (hF : Fr [144, 145, 146, 150, 151, 152, 153, 154, 155, 156, 157, 158, 159, 160] [(97, 70)] w0 s.2) : okF (lp (X12_goAlong_b57  a1 a2) s) (fun e => Fr [144, 145, 146, 150, 151, 152, 153, 154, 155, 156, 157, 158, 159, 160] [(97, 70)] w0 e) := by
  refine pk_lp (I := fun s => Fr [144, 145, 146, 150, 151, 152, 153, 154, 155, 156, 157, 158, 159, 160] [(97, 70)] w0 s.2) (fun s hF => ?_) s hF
  unfold X12_goAlong_b57
  refine pk_i (fun _ => ?_) (fun _ => ?_)
  · exact pk_s hF
  · refine pk_g (fun _ => ?_)
    refine pk_i (fun _ => ?_) (fun _ => ?_)
    · refine pk_c (f_X12_misses s.1 s.2) (fun q7 hQ => ?_)
      have hF := hF.next hQ (by decide) (by decide)
      exact f_X12_goAlong_j100  w0 a1 a2 s.1 q7 hF
    · refine pk_g (fun _ => ?_)
      refine pk_w (fun w9 hF => ?_) (hF.puI (by decide))
      refine pk_g (fun _ => ?_)
      refine pk_c (f_X12_learns s.1 (w9.1 153 (ix s.1)) w9) (fun q10 hQ => ?_)
      have hF := hF.next hQ (by decide) (by decide)
      exact f_X12_goAlong_j100  w0 a1 a2 s.1 q10 hF
theorem f_X12_goAlong_b45 (w0 : Wd) (a1 : Int32) (s : (Int32 × Wd)) (hF : Fr [144, 145, 146, 150, 151, 152, 153, 154, 155, 156, 157, 158, 159, 160] [(97, 70)] w0 s.2) : okF (lp (X12_goAlong_b45  a1) s) (fun e => Fr [144, 145, 146, 150, 151, 152, 153, 154, 155, 156, 157, 158, 159, 160] [(97, 70)] w0 e) := by
  refine pk_lp (I := fun s => Fr [144, 145, 146, 150, 151, 152, 153, 154, 155, 156, 157, 158, 159, 160] [(97, 70)] w0 s.2) (fun s hF => ?_) s hF
  unfold X12_goAlong_b45
  refine pk_i (fun _ => ?_) (fun _ => ?_)
  · exact pk_s hF
  · refine pk_c (f_X12_teach s.1 s.2) (fun q5 hQ => ?_)
    have hF := hF.next hQ (by decide) (by decide)
    refine pk_c (f_X12_goAlong_b57 w0 a1 s.1 ((0 : Int32), q5) hF) (fun e12 hF => ?_)
    exact pk_s hF
theorem f_X12_goAlong (a1 : Int32) (w : Wd) : okF (X12_goAlong  a1 w) (fun q => Fr [144, 145, 146, 150, 151, 152, 153, 154, 155, 156, 157, 158, 159, 160] [(97, 70)] w q) := by
  have hF : Fr [144, 145, 146, 150, 151, 152, 153, 154, 155, 156, 157, 158, 159, 160] [(97, 70)] w w := Fr.rf
  unfold X12_goAlong
  refine pk_c (f_X12_goAlong_b2 w a1 ((0 : Int32), w) hF) (fun e2 hF => ?_)
  refine pk_c (f_X12_goAlong_b24 w a1 ((0 : Int32), e2) hF) (fun e4 hF => ?_)
  refine pk_c (f_X12_goAlong_b45 w a1 ((0 : Int32), e4) hF) (fun e13 hF => ?_)
  exact pk_s hF
theorem f_X12_taught_j24 (w0 : Wd) (w : Wd) (hF : Fr [144, 145, 146, 150, 151, 152, 153, 154, 155, 156, 157, 158, 159, 160] [(97, 0), (97, 70)] w0 w) : okF (X12_taught_j24  w) (fun q => Fr [144, 145, 146, 150, 151, 152, 153, 154, 155, 156, 157, 158, 159, 160] [(97, 0), (97, 70)] w0 q.2) := by
  unfold X12_taught_j24
  refine pk_c (f_X12_refuse (1 : Int32) w) (fun q1 hQ => ?_)
  have hF := hF.next hQ (by decide) (by decide)
  exact pk_s hF
theorem f_X12_taught_j81 (w0 : Wd) (w : Wd) (hF : Fr [144, 145, 146, 150, 151, 152, 153, 154, 155, 156, 157, 158, 159, 160] [(97, 0), (97, 70)] w0 w) : okF (X12_taught_j81  w) (fun q => Fr [144, 145, 146, 150, 151, 152, 153, 154, 155, 156, 157, 158, 159, 160] [(97, 0), (97, 70)] w0 q.2) := by
  unfold X12_taught_j81
  refine pk_c (f_X12_refuse (6 : Int32) w) (fun q7 hQ => ?_)
  have hF := hF.next hQ (by decide) (by decide)
  exact pk_s hF
theorem f_X12_taught_j138 (w0 : Wd) (s0 : Int32) (w : Wd) (hF : Fr [144, 145, 146, 150, 151, 152, 153, 154, 155, 156, 157, 158, 159, 160] [(97, 0), (97, 70)] w0 w) : okF (X12_taught_j138  s0 w) (fun q => Fr [144, 145, 146, 150, 151, 152, 153, 154, 155, 156, 157, 158, 159, 160] [(97, 0), (97, 70)] w0 q.2) := by
  unfold X12_taught_j138
  refine pk_c (f_X12_gives s0 w) (fun q9 hQ => ?_)
  have hF := hF.next hQ (by decide) (by decide)
  exact pk_s hF
theorem f_X12_taught_j88 (w0 : Wd) (a1 : Int32) (a3 : Int32) (w : Wd) (hF : Fr [144, 145, 146, 150, 151, 152, 153, 154, 155, 156, 157, 158, 159, 160] [(97, 0), (97, 70)] w0 w) : okF (X12_taught_j88  a1 a3 w) (fun q => Fr [144, 145, 146, 150, 151, 152, 153, 154, 155, 156, 157, 158, 159, 160] [(97, 0), (97, 70)] w0 q.2) := by
  unfold X12_taught_j88
  refine pk_i (fun _ => ?_) (fun _ => ?_)
  · refine pk_g (fun _ => ?_)
    refine pk_i (fun _ => ?_) (fun _ => ?_)
    · exact f_X12_taught_j138  w0 (0 : Int32) w hF
    · exact f_X12_taught_j138  w0 (1 : Int32) w hF
  · refine pk_i (fun _ => ?_) (fun _ => ?_)
    · refine pk_g (fun _ => ?_)
      refine pk_i (fun _ => ?_) (fun _ => ?_)
      · exact f_X12_taught_j138  w0 (0 : Int32) w hF
      · exact f_X12_taught_j138  w0 (1 : Int32) w hF
    · refine pk_g (fun _ => ?_)
      exact f_X12_taught_j138  w0 (w.1 153 (ix a1)) w hF
theorem f_X12_taught (a1 : Int32) (a2 : Int32) (a3 : Int32) (w : Wd) : okF (X12_taught  a1 a2 a3 w) (fun q => Fr [144, 145, 146, 150, 151, 152, 153, 154, 155, 156, 157, 158, 159, 160] [(97, 0), (97, 70)] w q.2) := by
  have hF : Fr [144, 145, 146, 150, 151, 152, 153, 154, 155, 156, 157, 158, 159, 160] [(97, 0), (97, 70)] w w := Fr.rf
  unfold X12_taught
  refine pk_i (fun _ => ?_) (fun _ => ?_)
  · exact f_X12_taught_j24  w w hF
  · refine pk_i (fun _ => ?_) (fun _ => ?_)
    · exact f_X12_taught_j24  w w hF
    · refine pk_i (fun _ => ?_) (fun _ => ?_)
      · exact f_X12_taught_j24  w w hF
      · refine pk_i (fun _ => ?_) (fun _ => ?_)
        · refine pk_c (f_X12_goAlong (a2 - (1 : Int32)) w) (fun q3 hQ => ?_)
          have hF := hF.next hQ (by decide) (by decide)
          refine pk_c (f_X12_teach a2 q3) (fun q5 hQ => ?_)
          have hF := hF.next hQ (by decide) (by decide)
          refine pk_g (fun _ => ?_)
          refine pk_i (fun _ => ?_) (fun _ => ?_)
          · exact f_X12_taught_j81  w q5 hF
          · refine pk_g (fun _ => ?_)
            refine pk_g (fun _ => ?_)
            refine pk_i (fun _ => ?_) (fun _ => ?_)
            · exact f_X12_taught_j81  w q5 hF
            · refine pk_i (fun _ => ?_) (fun _ => ?_)
              · refine pk_g (fun _ => ?_)
                refine pk_i (fun _ => ?_) (fun _ => ?_)
                · exact f_X12_taught_j81  w q5 hF
                · exact f_X12_taught_j88  w a1 a3 q5 hF
              · exact f_X12_taught_j88  w a1 a3 q5 hF
        · exact f_X12_taught_j24  w w hF
theorem f_X12_knows_j15 (w0 : Wd) (w : Wd) (hF : Fr [144, 145, 146, 150, 151, 152, 153, 154, 155, 156, 157, 158, 159, 160] [(97, 0), (97, 70)] w0 w) : okF (X12_knows_j15  w) (fun q => Fr [144, 145, 146, 150, 151, 152, 153, 154, 155, 156, 157, 158, 159, 160] [(97, 0), (97, 70)] w0 q.2) := by
  unfold X12_knows_j15
  refine pk_c (f_X12_refuse (1 : Int32) w) (fun q1 hQ => ?_)
  have hF := hF.next hQ (by decide) (by decide)
  exact pk_s hF
theorem f_X12_knows (a1 : Int32) (a2 : Int32) (w : Wd) : okF (X12_knows  a1 a2 w) (fun q => Fr [144, 145, 146, 150, 151, 152, 153, 154, 155, 156, 157, 158, 159, 160] [(97, 0), (97, 70)] w q.2) := by
  have hF : Fr [144, 145, 146, 150, 151, 152, 153, 154, 155, 156, 157, 158, 159, 160] [(97, 0), (97, 70)] w w := Fr.rf
  unfold X12_knows
  refine pk_i (fun _ => ?_) (fun _ => ?_)
  · exact f_X12_knows_j15  w w hF
  · refine pk_i (fun _ => ?_) (fun _ => ?_)
    · exact f_X12_knows_j15  w w hF
    · refine pk_c (f_X12_goAlong a2 w) (fun q3 hQ => ?_)
      have hF := hF.next hQ (by decide) (by decide)
      refine pk_v (fun q5 => ?_)
      refine pk_c (f_X12_gives q5 q3) (fun q7 hQ => ?_)
      have hF := hF.next hQ (by decide) (by decide)
      exact pk_s hF
theorem f_X12_hours_j25 (w0 : Wd) (w : Wd) (hF : Fr [144, 145, 146, 150, 151, 152, 153, 154, 155, 156, 157, 158, 159, 160] [(97, 0), (97, 70)] w0 w) : okF (X12_hours_j25  w) (fun q => Fr [144, 145, 146, 150, 151, 152, 153, 154, 155, 156, 157, 158, 159, 160] [(97, 0), (97, 70)] w0 q.2) := by
  unfold X12_hours_j25
  refine pk_c (f_X12_refuse (1 : Int32) w) (fun q1 hQ => ?_)
  have hF := hF.next hQ (by decide) (by decide)
  exact pk_s hF
theorem f_X12_hours (a1 : Int32) (a2 : Int32) (a3 : Int32) (w : Wd) : okF (X12_hours  a1 a2 a3 w) (fun q => Fr [144, 145, 146, 150, 151, 152, 153, 154, 155, 156, 157, 158, 159, 160] [(97, 0), (97, 70)] w q.2) := by
  have hF : Fr [144, 145, 146, 150, 151, 152, 153, 154, 155, 156, 157, 158, 159, 160] [(97, 0), (97, 70)] w w := Fr.rf
  unfold X12_hours
  refine pk_i (fun _ => ?_) (fun _ => ?_)
  · exact f_X12_hours_j25  w w hF
  · refine pk_i (fun _ => ?_) (fun _ => ?_)
    · exact f_X12_hours_j25  w w hF
    · refine pk_i (fun _ => ?_) (fun _ => ?_)
      · exact f_X12_hours_j25  w w hF
      · refine pk_i (fun _ => ?_) (fun _ => ?_)
        · exact f_X12_hours_j25  w w hF
        · refine pk_c (f_X12_goAlong a3 w) (fun q3 hQ => ?_)
          have hF := hF.next hQ (by decide) (by decide)
          refine pk_g (fun _ => ?_)
          refine pk_c (f_X12_gives (q3.1 150 (ix (((15 : Int32) * a1) + a2))) q3) (fun q5 hQ => ?_)
          have hF := hF.next hQ (by decide) (by decide)
          exact pk_s hF
theorem f_X12_gap_j15 (w0 : Wd) (w : Wd) (hF : Fr [144, 145, 146, 150, 151, 152, 153, 154, 155, 156, 157, 158, 159, 160] [(97, 0), (97, 70)] w0 w) : okF (X12_gap_j15  w) (fun q => Fr [144, 145, 146, 150, 151, 152, 153, 154, 155, 156, 157, 158, 159, 160] [(97, 0), (97, 70)] w0 q.2) := by
  unfold X12_gap_j15
  refine pk_c (f_X12_refuse (1 : Int32) w) (fun q1 hQ => ?_)
  have hF := hF.next hQ (by decide) (by decide)
  exact pk_s hF
theorem f_X12_gap (a1 : Int32) (a2 : Int32) (w : Wd) : okF (X12_gap  a1 a2 w) (fun q => Fr [144, 145, 146, 150, 151, 152, 153, 154, 155, 156, 157, 158, 159, 160] [(97, 0), (97, 70)] w q.2) := by
  have hF : Fr [144, 145, 146, 150, 151, 152, 153, 154, 155, 156, 157, 158, 159, 160] [(97, 0), (97, 70)] w w := Fr.rf
  unfold X12_gap
  refine pk_i (fun _ => ?_) (fun _ => ?_)
  · exact f_X12_gap_j15  w w hF
  · refine pk_i (fun _ => ?_) (fun _ => ?_)
    · exact f_X12_gap_j15  w w hF
    · refine pk_c (f_X12_goAlong a2 w) (fun q3 hQ => ?_)
      have hF := hF.next hQ (by decide) (by decide)
      refine pk_g (fun _ => ?_)
      refine pk_c (f_X12_gives (q3.1 151 (ix a1)) q3) (fun q5 hQ => ?_)
      have hF := hF.next hQ (by decide) (by decide)
      exact pk_s hF
theorem f_X12_foretold_j37 (w0 : Wd) (w : Wd) (hF : Fr [144, 145, 146, 150, 151, 152, 153, 154, 155, 156, 157, 158, 159, 160] [(97, 0), (97, 70)] w0 w) : okF (X12_foretold_j37  w) (fun q => Fr [144, 145, 146, 150, 151, 152, 153, 154, 155, 156, 157, 158, 159, 160] [(97, 0), (97, 70)] w0 q.2) := by
  unfold X12_foretold_j37
  refine pk_c (f_X12_refuse (1 : Int32) w) (fun q1 hQ => ?_)
  have hF := hF.next hQ (by decide) (by decide)
  exact pk_s hF
theorem f_X12_foretold_j84 (w0 : Wd) (a1 : Int32) (a3 : Int32) (a4 : Int32) (a5 : Int32) (w : Wd) (hF : Fr [144, 145, 146, 150, 151, 152, 153, 154, 155, 156, 157, 158, 159, 160] [(97, 0), (97, 70)] w0 w) : okF (X12_foretold_j84  a1 a3 a4 a5 w) (sel (fun s => Fr [144, 145, 146, 150, 151, 152, 153, 154, 155, 156, 157, 158, 159, 160] [(97, 0), (97, 70)] w0 s.2) (fun e => Fr [144, 145, 146, 150, 151, 152, 153, 154, 155, 156, 157, 158, 159, 160] [(97, 0), (97, 70)] w0 e)) := by
  unfold X12_foretold_j84
  exact pk_s hF
theorem f_X12_foretold_b51 (w0 : Wd) (a1 : Int32) (a3 : Int32) (a4 : Int32) (s : (Int32 × Wd)) (hF : Fr [144, 145, 146, 150, 151, 152, 153, 154, 155, 156, 157, 158, 159, 160] [(97, 0), (97, 70)] w0 s.2) : okF (lp (X12_foretold_b51  a1 a3 a4) s) (fun e => Fr [144, 145, 146, 150, 151, 152, 153, 154, 155, 156, 157, 158, 159, 160] [(97, 0), (97, 70)] w0 e) := by
  refine pk_lp (I := fun s => Fr [144, 145, 146, 150, 151, 152, 153, 154, 155, 156, 157, 158, 159, 160] [(97, 0), (97, 70)] w0 s.2) (fun s hF => ?_) s hF
  unfold X12_foretold_b51
  refine pk_i (fun _ => ?_) (fun _ => ?_)
  · exact pk_s hF
  · refine pk_i (fun _ => ?_) (fun _ => ?_)
    · refine pk_c (f_X12_misses a1 s.2) (fun q8 hQ => ?_)
      have hF := hF.next hQ (by decide) (by decide)
      exact f_X12_foretold_j84  w0 a1 a3 a4 s.1 q8 hF
    · refine pk_g (fun _ => ?_)
      refine pk_w (fun w5 hF => ?_) (hF.puI (by decide))
      refine pk_c (f_X12_learns a1 a4 w5) (fun q6 hQ => ?_)
      have hF := hF.next hQ (by decide) (by decide)
      exact f_X12_foretold_j84  w0 a1 a3 a4 s.1 q6 hF
theorem f_X12_foretold (a1 : Int32) (a2 : Int32) (a3 : Int32) (a4 : Int32) (w : Wd) : okF (X12_foretold  a1 a2 a3 a4 w) (fun q => Fr [144, 145, 146, 150, 151, 152, 153, 154, 155, 156, 157, 158, 159, 160] [(97, 0), (97, 70)] w q.2) := by
  have hF : Fr [144, 145, 146, 150, 151, 152, 153, 154, 155, 156, 157, 158, 159, 160] [(97, 0), (97, 70)] w w := Fr.rf
  unfold X12_foretold
  refine pk_i (fun _ => ?_) (fun _ => ?_)
  · exact f_X12_foretold_j37  w w hF
  · refine pk_i (fun _ => ?_) (fun _ => ?_)
    · exact f_X12_foretold_j37  w w hF
    · refine pk_i (fun _ => ?_) (fun _ => ?_)
      · exact f_X12_foretold_j37  w w hF
      · refine pk_i (fun _ => ?_) (fun _ => ?_)
        · exact f_X12_foretold_j37  w w hF
        · refine pk_i (fun _ => ?_) (fun _ => ?_)
          · exact f_X12_foretold_j37  w w hF
          · refine pk_i (fun _ => ?_) (fun _ => ?_)
            · refine pk_c (f_X12_goAlong a2 w) (fun q3 hQ => ?_)
              have hF := hF.next hQ (by decide) (by decide)
              refine pk_c (f_X12_foretold_b51 w a1 a3 a4 ((0 : Int32), q3) hF) (fun e10 hF => ?_)
              refine pk_v (fun q11 => ?_)
              refine pk_c (f_X12_gives q11 e10) (fun q13 hQ => ?_)
              have hF := hF.next hQ (by decide) (by decide)
              exact pk_s hF
            · exact f_X12_foretold_j37  w w hF
theorem f_X12_proof_j30 (w0 : Wd) (w : Wd) (hF : Fr [161, 162, 168, 169] [(97, 0), (97, 86)] w0 w) : okF (X12_proof_j30  w) (fun q => Fr [161, 162, 168, 169] [(97, 0), (97, 86)] w0 q.2) := by
  unfold X12_proof_j30
  refine pk_c (f_X12_refuse (1 : Int32) w) (fun q1 hQ => ?_)
  have hF := hF.next hQ (by decide) (by decide)
  exact pk_s hF
theorem f_X12_proof (a1 : Int32) (a2 : Int32) (a3 : Int64) (a5 : Int64) (w : Wd) : okF (X12_proof  a1 a2 a3 a5 w) (fun q => Fr [161, 162, 168, 169] [(97, 0), (97, 86)] w q.2) := by
  have hF : Fr [161, 162, 168, 169] [(97, 0), (97, 86)] w w := Fr.rf
  unfold X12_proof
  refine pk_i (fun _ => ?_) (fun _ => ?_)
  · exact f_X12_proof_j30  w w hF
  · refine pk_i (fun _ => ?_) (fun _ => ?_)
    · exact f_X12_proof_j30  w w hF
    · refine pk_v (fun q3 => ?_)
      refine pk_i (fun _ => ?_) (fun _ => ?_)
      · exact f_X12_proof_j30  w w hF
      · refine pk_v (fun q5 => ?_)
        refine pk_i (fun _ => ?_) (fun _ => ?_)
        · exact f_X12_proof_j30  w w hF
        · refine pk_i (fun _ => ?_) (fun _ => ?_)
          · refine pk_c (f_X12_refuse (4 : Int32) w) (fun q14 hQ => ?_)
            have hF := hF.next hQ (by decide) (by decide)
            exact pk_s hF
          · refine pk_g (fun _ => ?_)
            refine pk_w (fun w7 hF => ?_) (hF.puI (by decide))
            refine pk_g (fun _ => ?_)
            refine pk_w (fun w8 hF => ?_) (hF.puI (by decide))
            refine pk_g (fun _ => ?_)
            refine pk_w (fun w9 hF => ?_) (hF.puJ (by decide))
            refine pk_g (fun _ => ?_)
            refine pk_w (fun w10 hF => ?_) (hF.puJ (by decide))
            refine pk_w (fun w11 hF => ?_) (hF.pfI (by decide))
            refine pk_c (f_X12_gives ((w11.1 97 86) - (1 : Int32)) w11) (fun q12 hQ => ?_)
            have hF := hF.next hQ (by decide) (by decide)
            exact pk_s hF
theorem f_X12_spell_b27 (kv : Nat) (nv : Nat) (hkv : sh kv = (0, nv)) (w0 : Wd) (a0 : Int64) (a3 : Int32) (s : (Int32 × Wd)) (hF : Fr (kv :: []) [] w0 s.2) : okF (lp (X12_spell_b27 kv nv a0 a3) s) (fun e => Fr (kv :: []) [] w0 e) := by
  refine pk_lp (I := fun s => Fr (kv :: []) [] w0 s.2) (fun s hF => ?_) s hF
  unfold X12_spell_b27
  refine pk_i (fun _ => ?_) (fun _ => ?_)
  · exact pk_s hF
  · refine pk_g (fun _ => ?_)
    refine pk_w (fun w3 hF => ?_) (hF.puI (List.mem_cons_self))
    exact pk_s hF
theorem f_X12_spell (kv : Nat) (nv : Nat) (hkv : sh kv = (0, nv)) (a0 : Int64) (w : Wd) : okF (X12_spell kv nv a0 w) (fun q => Fr (kv :: []) [] w q.2) := by
  have hF : Fr (kv :: []) [] w w := Fr.rf
  unfold X12_spell
  refine pk_v (fun e2 => ?_)
  refine pk_c (f_X12_spell_b27 kv nv hkv w a0 e2 ((0 : Int32), w) hF) (fun e4 hF => ?_)
  exact pk_s hF
theorem f_X12_slips0 (a1 : Int32) (w : Wd) : okF (X12_slips0  a1 w) (fun q => Fr [166] [(97, 98)] w q) := by
  have hF : Fr [166] [(97, 98)] w w := Fr.rf
  unfold X12_slips0
  refine pk_g (fun _ => ?_)
  refine pk_w (fun w1 hF => ?_) (hF.puI (by decide))
  refine pk_w (fun w2 hF => ?_) (hF.pfI (by decide))
  exact pk_s hF
theorem f_X12_spellOut_j177 (w0 : Wd) (a2 : Int32) (a3 : Int32) (a4 : Int32) (w : Wd) (hF : Fr [163, 164, 165, 166] [(97, 96), (97, 97), (97, 98)] w0 w) : okF (X12_spellOut_j177  a2 a3 a4 w) (sel (fun s => Fr [163, 164, 165, 166] [(97, 96), (97, 97), (97, 98)] w0 s.2) (fun e => Fr [163, 164, 165, 166] [(97, 96), (97, 97), (97, 98)] w0 e)) := by
  unfold X12_spellOut_j177
  refine pk_g (fun _ => ?_)
  refine pk_w (fun w7 hF => ?_) (hF.puI (by decide))
  exact pk_s hF
theorem f_X12_spellOut_j147 (w0 : Wd) (a2 : Int32) (a3 : Int32) (a4 : Int32) (w : Wd) (hF : Fr [163, 164, 165, 166] [(97, 96), (97, 97), (97, 98)] w0 w) : okF (X12_spellOut_j147  a2 a3 a4 w) (sel (fun s => Fr [163, 164, 165, 166] [(97, 96), (97, 97), (97, 98)] w0 s.2) (fun e => Fr [163, 164, 165, 166] [(97, 96), (97, 97), (97, 98)] w0 e)) := by
  unfold X12_spellOut_j147
  refine pk_i (fun _ => ?_) (fun _ => ?_)
  · exact f_X12_spellOut_j177  w0 a2 a3 a4 w hF
  · refine pk_g (fun _ => ?_)
    refine pk_v (fun z8 => ?_)
    refine pk_v (fun z9 => ?_)
    exact f_X12_spellOut_j177  w0 a2 a3 z9 w hF
theorem f_X12_spellOut_j117 (w0 : Wd) (a2 : Int32) (a3 : Int32) (a4 : Int32) (w : Wd) (hF : Fr [163, 164, 165, 166] [(97, 96), (97, 97), (97, 98)] w0 w) : okF (X12_spellOut_j117  a2 a3 a4 w) (sel (fun s => Fr [163, 164, 165, 166] [(97, 96), (97, 97), (97, 98)] w0 s.2) (fun e => Fr [163, 164, 165, 166] [(97, 96), (97, 97), (97, 98)] w0 e)) := by
  unfold X12_spellOut_j117
  refine pk_i (fun _ => ?_) (fun _ => ?_)
  · exact f_X12_spellOut_j147  w0 a2 a3 a4 w hF
  · refine pk_g (fun _ => ?_)
    refine pk_v (fun z10 => ?_)
    refine pk_v (fun z11 => ?_)
    exact f_X12_spellOut_j147  w0 a2 a3 z11 w hF
theorem f_X12_spellOut_j75 (w0 : Wd) (a2 : Int32) (a3 : Int32) (s0 : Int32) (w : Wd) (hF : Fr [163, 164, 165, 166] [(97, 96), (97, 97), (97, 98)] w0 w) : okF (X12_spellOut_j75  a2 a3 s0 w) (sel (fun s => Fr [163, 164, 165, 166] [(97, 96), (97, 97), (97, 98)] w0 s.2) (fun e => Fr [163, 164, 165, 166] [(97, 96), (97, 97), (97, 98)] w0 e)) := by
  unfold X12_spellOut_j75
  refine pk_i (fun _ => ?_) (fun _ => ?_)
  · exact f_X12_spellOut_j117  w0 a2 a3 s0 w hF
  · refine pk_i (fun _ => ?_) (fun _ => ?_)
    · exact f_X12_spellOut_j117  w0 a2 a3 s0 w hF
    · refine pk_v (fun q12 => ?_)
      refine pk_g (fun _ => ?_)
      refine pk_v (fun z14 => ?_)
      exact f_X12_spellOut_j117  w0 a2 a3 (q12 + z14) w hF
theorem f_X12_spellOut_j72 (w0 : Wd) (a2 : Int32) (a3 : Int32) (w : Wd) (hF : Fr [163, 164, 165, 166] [(97, 96), (97, 97), (97, 98)] w0 w) : okF (X12_spellOut_j72  a2 a3 w) (sel (fun s => Fr [163, 164, 165, 166] [(97, 96), (97, 97), (97, 98)] w0 s.2) (fun e => Fr [163, 164, 165, 166] [(97, 96), (97, 97), (97, 98)] w0 e)) := by
  unfold X12_spellOut_j72
  exact f_X12_spellOut_j75  w0 a2 a3 (1000 : Int32) w hF
theorem f_X12_spellOut_b48 (w0 : Wd) (a2 : Int32) (s : (Int32 × Wd)) (hF : Fr [163, 164, 165, 166] [(97, 96), (97, 97), (97, 98)] w0 s.2) : okF (lp (X12_spellOut_b48  a2) s) (fun e => Fr [163, 164, 165, 166] [(97, 96), (97, 97), (97, 98)] w0 e) := by
  refine pk_lp (I := fun s => Fr [163, 164, 165, 166] [(97, 96), (97, 97), (97, 98)] w0 s.2) (fun s hF => ?_) s hF
  unfold X12_spellOut_b48
  refine pk_i (fun _ => ?_) (fun _ => ?_)
  · exact pk_s hF
  · refine pk_i (fun _ => ?_) (fun _ => ?_)
    · refine pk_i (fun _ => ?_) (fun _ => ?_)
      · exact f_X12_spellOut_j75  w0 a2 s.1 (0 : Int32) s.2 hF
      · exact f_X12_spellOut_j72  w0 a2 s.1 s.2 hF
    · exact f_X12_spellOut_j72  w0 a2 s.1 s.2 hF
theorem f_X12_spellOut_b39 (w0 : Wd) (s : (Int32 × Wd)) (hF : Fr [163, 164, 165, 166] [(97, 96), (97, 97), (97, 98)] w0 s.2) : okF (lp (X12_spellOut_b39  ) s) (fun e => Fr [163, 164, 165, 166] [(97, 96), (97, 97), (97, 98)] w0 e) := by
  refine pk_lp (I := fun s => Fr [163, 164, 165, 166] [(97, 96), (97, 97), (97, 98)] w0 s.2) (fun s hF => ?_) s hF
  unfold X12_spellOut_b39
  refine pk_i (fun _ => ?_) (fun _ => ?_)
  · exact pk_s hF
  · refine pk_c (f_X12_spellOut_b48 w0 s.1 ((s.2.1 97 97), s.2) hF) (fun e15 hF => ?_)
    exact pk_s hF
theorem f_X12_spellOut_j369 (w0 : Wd) (a2 : Int32) (a3 : Int32) (w : Wd) (hF : Fr [163, 164, 165, 166] [(97, 96), (97, 97), (97, 98)] w0 w) : okF (X12_spellOut_j369  a2 a3 w) (sel (fun s => Fr [163, 164, 165, 166] [(97, 96), (97, 97), (97, 98)] w0 s.2.2) (fun e => Fr [163, 164, 165, 166] [(97, 96), (97, 97), (97, 98)] w0 e)) := by
  unfold X12_spellOut_j369
  exact pk_s hF
theorem f_X12_spellOut_j356 (w0 : Wd) (a2 : Int32) (a3 : Int32) (w : Wd) (hF : Fr [163, 164, 165, 166] [(97, 96), (97, 97), (97, 98)] w0 w) : okF (X12_spellOut_j356  a2 a3 w) (sel (fun s => Fr [163, 164, 165, 166] [(97, 96), (97, 97), (97, 98)] w0 s.2.2) (fun e => Fr [163, 164, 165, 166] [(97, 96), (97, 97), (97, 98)] w0 e)) := by
  unfold X12_spellOut_j356
  refine pk_g (fun _ => ?_)
  refine pk_c (f_X12_slips0 (w.1 164 (ix a3)) w) (fun q19 hQ => ?_)
  have hF := hF.next hQ (by decide) (by decide)
  exact f_X12_spellOut_j369  w0 a2 (a3 + (1 : Int32)) q19 hF
theorem f_X12_spellOut_j312 (w0 : Wd) (a2 : Int32) (a3 : Int32) (a4 : Int32) (w : Wd) (hF : Fr [163, 164, 165, 166] [(97, 96), (97, 97), (97, 98)] w0 w) : okF (X12_spellOut_j312  a2 a3 a4 w) (sel (fun s => Fr [163, 164, 165, 166] [(97, 96), (97, 97), (97, 98)] w0 s.2.2) (fun e => Fr [163, 164, 165, 166] [(97, 96), (97, 97), (97, 98)] w0 e)) := by
  unfold X12_spellOut_j312
  refine pk_i (fun _ => ?_) (fun _ => ?_)
  · exact f_X12_spellOut_j356  w0 a2 a3 w hF
  · refine pk_g (fun _ => ?_)
    refine pk_v (fun z21 => ?_)
    refine pk_i (fun _ => ?_) (fun _ => ?_)
    · refine pk_g (fun _ => ?_)
      refine pk_c (f_X12_slips0 (w.1 163 (ix a2)) w) (fun q22 hQ => ?_)
      have hF := hF.next hQ (by decide) (by decide)
      exact f_X12_spellOut_j369  w0 (a2 + (1 : Int32)) a3 q22 hF
    · exact f_X12_spellOut_j356  w0 a2 a3 w hF
theorem f_X12_spellOut_j303 (w0 : Wd) (a2 : Int32) (a3 : Int32) (w : Wd) (hF : Fr [163, 164, 165, 166] [(97, 96), (97, 97), (97, 98)] w0 w) : okF (X12_spellOut_j303  a2 a3 w) (sel (fun s => Fr [163, 164, 165, 166] [(97, 96), (97, 97), (97, 98)] w0 s.2.2) (fun e => Fr [163, 164, 165, 166] [(97, 96), (97, 97), (97, 98)] w0 e)) := by
  unfold X12_spellOut_j303
  exact f_X12_spellOut_j369  w0 (a2 + (1 : Int32)) (a3 + (1 : Int32)) w hF
theorem f_X12_spellOut_j227 (w0 : Wd) (a2 : Int32) (a3 : Int32) (w : Wd) (hF : Fr [163, 164, 165, 166] [(97, 96), (97, 97), (97, 98)] w0 w) : okF (X12_spellOut_j227  a2 a3 w) (sel (fun s => Fr [163, 164, 165, 166] [(97, 96), (97, 97), (97, 98)] w0 s.2.2) (fun e => Fr [163, 164, 165, 166] [(97, 96), (97, 97), (97, 98)] w0 e)) := by
  unfold X12_spellOut_j227
  refine pk_g (fun _ => ?_)
  refine pk_v (fun z18 => ?_)
  refine pk_i (fun _ => ?_) (fun _ => ?_)
  · exact f_X12_spellOut_j312  w0 a2 a3 z18 w hF
  · refine pk_i (fun _ => ?_) (fun _ => ?_)
    · exact f_X12_spellOut_j312  w0 a2 a3 z18 w hF
    · refine pk_v (fun q24 => ?_)
      refine pk_g (fun _ => ?_)
      refine pk_v (fun z26 => ?_)
      refine pk_i (fun _ => ?_) (fun _ => ?_)
      · refine pk_v (fun q27 => ?_)
        refine pk_i (fun _ => ?_) (fun _ => ?_)
        · refine pk_g (fun _ => ?_)
          refine pk_c (f_X12_slips0 (w.1 163 (ix a2)) w) (fun q29 hQ => ?_)
          have hF := hF.next hQ (by decide) (by decide)
          exact f_X12_spellOut_j303  w0 a2 a3 q29 hF
        · exact f_X12_spellOut_j303  w0 a2 a3 w hF
      · exact f_X12_spellOut_j312  w0 a2 a3 z18 w hF
theorem f_X12_spellOut_b211 (w0 : Wd) (s : (Int32 × Int32 × Wd)) (hF : Fr [163, 164, 165, 166] [(97, 96), (97, 97), (97, 98)] w0 s.2.2) : okF (lp (X12_spellOut_b211  ) s) (fun e => Fr [163, 164, 165, 166] [(97, 96), (97, 97), (97, 98)] w0 e) := by
  refine pk_lp (I := fun s => Fr [163, 164, 165, 166] [(97, 96), (97, 97), (97, 98)] w0 s.2.2) (fun s hF => ?_) s hF
  unfold X12_spellOut_b211
  refine pk_i (fun _ => ?_) (fun _ => ?_)
  · exact f_X12_spellOut_j227  w0 s.1 s.2.1 s.2.2 hF
  · refine pk_i (fun _ => ?_) (fun _ => ?_)
    · exact pk_s hF
    · exact f_X12_spellOut_j227  w0 s.1 s.2.1 s.2.2 hF
theorem f_X12_spellOut (a1 : Int32) (w : Wd) : okF (X12_spellOut  a1 w) (fun q => Fr [163, 164, 165, 166] [(97, 96), (97, 97), (97, 98)] w q) := by
  have hF : Fr [163, 164, 165, 166] [(97, 96), (97, 97), (97, 98)] w w := Fr.rf
  unfold X12_spellOut
  refine pk_g (fun _ => ?_)
  refine pk_c (f_X12_spell 163 8 sh_163 (w.2 168 (ix a1)) w) (fun q1 hQ => ?_)
  have hF := hF.next hQ (by decide) (by decide)
  refine pk_w (fun w3 hF => ?_) (hF.pfI (by decide))
  refine pk_g (fun _ => ?_)
  refine pk_c (f_X12_spell 164 8 sh_164 (w3.2 169 (ix a1)) w3) (fun q4 hQ => ?_)
  have hF := hF.next hQ (by decide) (by decide)
  refine pk_w (fun w6 hF => ?_) (hF.pfI (by decide))
  refine pk_c (f_X12_spellOut_b39 w ((w6.1 97 96), w6) hF) (fun e16 hF => ?_)
  refine pk_w (fun w17 hF => ?_) (hF.pfI (by decide))
  refine pk_c (f_X12_spellOut_b211 w ((0 : Int32), (0 : Int32), w17) hF) (fun e31 hF => ?_)
  exact pk_s hF
theorem f_X12_owe_j112 (w0 : Wd) (a2 : Int32) (a3 : Int32) (s0 : Int32) (s1 : Int32) (w : Wd) (hF : Fr [144, 145, 146, 150, 151, 152, 153, 154, 155, 156, 157, 158, 159, 160, 163, 164, 165, 166, 167] [(97, 70), (97, 96), (97, 97), (97, 98)] w0 w) : okF (X12_owe_j112  a2 a3 s0 s1 w) (sel (fun s => Fr [144, 145, 146, 150, 151, 152, 153, 154, 155, 156, 157, 158, 159, 160, 163, 164, 165, 166, 167] [(97, 70), (97, 96), (97, 97), (97, 98)] w0 s.2) (fun e => Fr [144, 145, 146, 150, 151, 152, 153, 154, 155, 156, 157, 158, 159, 160, 163, 164, 165, 166, 167] [(97, 70), (97, 96), (97, 97), (97, 98)] w0 e)) := by
  unfold X12_owe_j112
  refine pk_g (fun _ => ?_)
  refine pk_w (fun w8 hF => ?_) (hF.puI (by decide))
  exact pk_s hF
theorem f_X12_owe_j106 (w0 : Wd) (a2 : Int32) (a3 : Int32) (s0 : Int32) (w : Wd) (hF : Fr [144, 145, 146, 150, 151, 152, 153, 154, 155, 156, 157, 158, 159, 160, 163, 164, 165, 166, 167] [(97, 70), (97, 96), (97, 97), (97, 98)] w0 w) : okF (X12_owe_j106  a2 a3 s0 w) (sel (fun s => Fr [144, 145, 146, 150, 151, 152, 153, 154, 155, 156, 157, 158, 159, 160, 163, 164, 165, 166, 167] [(97, 70), (97, 96), (97, 97), (97, 98)] w0 s.2) (fun e => Fr [144, 145, 146, 150, 151, 152, 153, 154, 155, 156, 157, 158, 159, 160, 163, 164, 165, 166, 167] [(97, 70), (97, 96), (97, 97), (97, 98)] w0 e)) := by
  unfold X12_owe_j106
  exact f_X12_owe_j112  w0 a2 a3 (-1 : Int32) s0 w hF
theorem f_X12_owe_b30 (w0 : Wd) (a2 : Int32) (s : (Int32 × Wd)) (hF : Fr [144, 145, 146, 150, 151, 152, 153, 154, 155, 156, 157, 158, 159, 160, 163, 164, 165, 166, 167] [(97, 70), (97, 96), (97, 97), (97, 98)] w0 s.2) : okF (lp (X12_owe_b30  a2) s) (fun e => Fr [144, 145, 146, 150, 151, 152, 153, 154, 155, 156, 157, 158, 159, 160, 163, 164, 165, 166, 167] [(97, 70), (97, 96), (97, 97), (97, 98)] w0 e) := by
  refine pk_lp (I := fun s => Fr [144, 145, 146, 150, 151, 152, 153, 154, 155, 156, 157, 158, 159, 160, 163, 164, 165, 166, 167] [(97, 70), (97, 96), (97, 97), (97, 98)] w0 s.2) (fun s hF => ?_) s hF
  unfold X12_owe_b30
  refine pk_i (fun _ => ?_) (fun _ => ?_)
  · exact pk_s hF
  · refine pk_v (fun e7 => ?_)
    refine pk_i (fun _ => ?_) (fun _ => ?_)
    · exact f_X12_owe_j106  w0 a2 s.1 s.1 s.2 hF
    · refine pk_i (fun _ => ?_) (fun _ => ?_)
      · exact f_X12_owe_j106  w0 a2 s.1 s.1 s.2 hF
      · exact f_X12_owe_j112  w0 a2 s.1 e7 s.1 s.2 hF
theorem f_X12_owe (a1 : Int32) (w : Wd) : okF (X12_owe  a1 w) (fun q => Fr [144, 145, 146, 150, 151, 152, 153, 154, 155, 156, 157, 158, 159, 160, 163, 164, 165, 166, 167] [(97, 70), (97, 96), (97, 97), (97, 98)] w q) := by
  have hF : Fr [144, 145, 146, 150, 151, 152, 153, 154, 155, 156, 157, 158, 159, 160, 163, 164, 165, 166, 167] [(97, 70), (97, 96), (97, 97), (97, 98)] w w := Fr.rf
  unfold X12_owe
  refine pk_c (f_X12_spellOut a1 w) (fun q1 hQ => ?_)
  have hF := hF.next hQ (by decide) (by decide)
  refine pk_g (fun _ => ?_)
  refine pk_c (f_X12_goAlong ((q1.1 162 (ix a1)) - (1 : Int32)) q1) (fun q3 hQ => ?_)
  have hF := hF.next hQ (by decide) (by decide)
  refine pk_g (fun _ => ?_)
  refine pk_v (fun q5 => ?_)
  refine pk_c (f_X12_owe_b30 w q5 ((0 : Int32), q3) hF) (fun e9 hF => ?_)
  exact pk_s hF
theorem f_X12_isPassed (a1 : Int32) (w : Wd) : okF (X12_isPassed  a1 w) (fun q => Fr [144, 145, 146, 163, 164, 165, 166] [(97, 70), (97, 96), (97, 97), (97, 98)] w q.2) := by
  have hF : Fr [144, 145, 146, 163, 164, 165, 166] [(97, 70), (97, 96), (97, 97), (97, 98)] w w := Fr.rf
  unfold X12_isPassed
  refine pk_c (f_X12_spellOut a1 w) (fun q1 hQ => ?_)
  have hF := hF.next hQ (by decide) (by decide)
  refine pk_g (fun _ => ?_)
  refine pk_g (fun _ => ?_)
  refine pk_g (fun _ => ?_)
  refine pk_v (fun z3 => ?_)
  refine pk_g (fun _ => ?_)
  refine pk_c (f_X12_stand z3 (q1.1 162 (ix a1)) q1) (fun q4 hQ => ?_)
  have hF := hF.next hQ (by decide) (by decide)
  refine pk_v (fun q6 => ?_)
  refine pk_i (fun _ => ?_) (fun _ => ?_)
  · exact pk_s hF
  · exact pk_s hF
theorem f_X12_slips_j17 (w0 : Wd) (w : Wd) (hF : Fr [144, 145, 146, 150, 151, 152, 153, 154, 155, 156, 157, 158, 159, 160, 163, 164, 165, 166, 167] [(97, 0), (97, 70), (97, 96), (97, 97), (97, 98)] w0 w) : okF (X12_slips_j17  w) (fun q => Fr [144, 145, 146, 150, 151, 152, 153, 154, 155, 156, 157, 158, 159, 160, 163, 164, 165, 166, 167] [(97, 0), (97, 70), (97, 96), (97, 97), (97, 98)] w0 q.2) := by
  unfold X12_slips_j17
  refine pk_c (f_X12_refuse (1 : Int32) w) (fun q1 hQ => ?_)
  have hF := hF.next hQ (by decide) (by decide)
  exact pk_s hF
theorem f_X12_slips_j117 (w0 : Wd) (s0 : Int32) (w : Wd) (hF : Fr [144, 145, 146, 150, 151, 152, 153, 154, 155, 156, 157, 158, 159, 160, 163, 164, 165, 166, 167] [(97, 0), (97, 70), (97, 96), (97, 97), (97, 98)] w0 w) : okF (X12_slips_j117  s0 w) (fun q => Fr [144, 145, 146, 150, 151, 152, 153, 154, 155, 156, 157, 158, 159, 160, 163, 164, 165, 166, 167] [(97, 0), (97, 70), (97, 96), (97, 97), (97, 98)] w0 q.2) := by
  unfold X12_slips_j117
  refine pk_c (f_X12_gives s0 w) (fun q6 hQ => ?_)
  have hF := hF.next hQ (by decide) (by decide)
  exact pk_s hF
theorem f_X12_slips_j42 (w0 : Wd) (s0 : Int32) (w : Wd) (hF : Fr [144, 145, 146, 150, 151, 152, 153, 154, 155, 156, 157, 158, 159, 160, 163, 164, 165, 166, 167] [(97, 0), (97, 70), (97, 96), (97, 97), (97, 98)] w0 w) : okF (X12_slips_j42  s0 w) (fun q => Fr [144, 145, 146, 150, 151, 152, 153, 154, 155, 156, 157, 158, 159, 160, 163, 164, 165, 166, 167] [(97, 0), (97, 70), (97, 96), (97, 97), (97, 98)] w0 q.2) := by
  unfold X12_slips_j42
  refine pk_c (f_X12_gives s0 w) (fun q10 hQ => ?_)
  have hF := hF.next hQ (by decide) (by decide)
  exact pk_s hF
theorem f_X12_slips (a1 : Int32) (a2 : Int32) (w : Wd) : okF (X12_slips  a1 a2 w) (fun q => Fr [144, 145, 146, 150, 151, 152, 153, 154, 155, 156, 157, 158, 159, 160, 163, 164, 165, 166, 167] [(97, 0), (97, 70), (97, 96), (97, 97), (97, 98)] w q.2) := by
  have hF : Fr [144, 145, 146, 150, 151, 152, 153, 154, 155, 156, 157, 158, 159, 160, 163, 164, 165, 166, 167] [(97, 0), (97, 70), (97, 96), (97, 97), (97, 98)] w w := Fr.rf
  unfold X12_slips
  refine pk_i (fun _ => ?_) (fun _ => ?_)
  · exact f_X12_slips_j17  w w hF
  · refine pk_i (fun _ => ?_) (fun _ => ?_)
    · exact f_X12_slips_j17  w w hF
    · refine pk_i (fun _ => ?_) (fun _ => ?_)
      · refine pk_i (fun _ => ?_) (fun _ => ?_)
        · refine pk_c (f_X12_isPassed a1 w) (fun q8 hQ => ?_)
          have hF := hF.next hQ (by decide) (by decide)
          refine pk_i (fun _ => ?_) (fun _ => ?_)
          · exact f_X12_slips_j42  w (0 : Int32) q8.2 hF
          · exact f_X12_slips_j42  w (1 : Int32) q8.2 hF
        · refine pk_c (f_X12_owe a1 w) (fun q3 hQ => ?_)
          have hF := hF.next hQ (by decide) (by decide)
          refine pk_v (fun e5 => ?_)
          refine pk_i (fun _ => ?_) (fun _ => ?_)
          · exact f_X12_slips_j117  w (q3.1 97 98) q3 hF
          · refine pk_i (fun _ => ?_) (fun _ => ?_)
            · exact f_X12_slips_j117  w e5 q3 hF
            · exact f_X12_slips_j117  w ((q3.1 97 98) - e5) q3 hF
      · exact f_X12_slips_j17  w w hF
theorem f_X12_owed_j18 (w0 : Wd) (w : Wd) (hF : Fr [144, 145, 146, 150, 151, 152, 153, 154, 155, 156, 157, 158, 159, 160, 163, 164, 165, 166, 167] [(97, 0), (97, 70), (97, 96), (97, 97), (97, 98)] w0 w) : okF (X12_owed_j18  w) (fun q => Fr [144, 145, 146, 150, 151, 152, 153, 154, 155, 156, 157, 158, 159, 160, 163, 164, 165, 166, 167] [(97, 0), (97, 70), (97, 96), (97, 97), (97, 98)] w0 q.2) := by
  unfold X12_owed_j18
  refine pk_c (f_X12_refuse (1 : Int32) w) (fun q1 hQ => ?_)
  have hF := hF.next hQ (by decide) (by decide)
  exact pk_s hF
theorem f_X12_owed (a1 : Int32) (a2 : Int32) (w : Wd) : okF (X12_owed  a1 a2 w) (fun q => Fr [144, 145, 146, 150, 151, 152, 153, 154, 155, 156, 157, 158, 159, 160, 163, 164, 165, 166, 167] [(97, 0), (97, 70), (97, 96), (97, 97), (97, 98)] w q.2) := by
  have hF : Fr [144, 145, 146, 150, 151, 152, 153, 154, 155, 156, 157, 158, 159, 160, 163, 164, 165, 166, 167] [(97, 0), (97, 70), (97, 96), (97, 97), (97, 98)] w w := Fr.rf
  unfold X12_owed
  refine pk_i (fun _ => ?_) (fun _ => ?_)
  · exact f_X12_owed_j18  w w hF
  · refine pk_i (fun _ => ?_) (fun _ => ?_)
    · exact f_X12_owed_j18  w w hF
    · refine pk_i (fun _ => ?_) (fun _ => ?_)
      · refine pk_c (f_X12_owe a1 w) (fun q3 hQ => ?_)
        have hF := hF.next hQ (by decide) (by decide)
        refine pk_v (fun e5 => ?_)
        refine pk_c (f_X12_gives e5 q3) (fun q6 hQ => ?_)
        have hF := hF.next hQ (by decide) (by decide)
        exact pk_s hF
      · exact f_X12_owed_j18  w w hF
theorem f_X12_doesRead (a1 : Int32) (a2 : Int32) (w : Wd) : okF (X12_doesRead  a1 a2 w) (fun q => Fr [144, 145, 146, 163, 164, 165, 166] [(97, 70), (97, 96), (97, 97), (97, 98)] w q.2) := by
  have hF : Fr [144, 145, 146, 163, 164, 165, 166] [(97, 70), (97, 96), (97, 97), (97, 98)] w w := Fr.rf
  unfold X12_doesRead
  refine pk_v (fun e1 => ?_)
  refine pk_i (fun _ => ?_) (fun _ => ?_)
  · exact pk_s hF
  · refine pk_c (f_X12_isPassed e1 w) (fun q2 hQ => ?_)
    have hF := hF.next hQ (by decide) (by decide)
    refine pk_i (fun _ => ?_) (fun _ => ?_)
    · exact pk_s hF
    · exact pk_s hF
theorem f_X12_reads_j36 (w0 : Wd) (w : Wd) (hF : Fr [144, 145, 146, 163, 164, 165, 166] [(97, 0), (97, 70), (97, 96), (97, 97), (97, 98)] w0 w) : okF (X12_reads_j36  w) (fun q => Fr [144, 145, 146, 163, 164, 165, 166] [(97, 0), (97, 70), (97, 96), (97, 97), (97, 98)] w0 q.2) := by
  unfold X12_reads_j36
  refine pk_c (f_X12_refuse (1 : Int32) w) (fun q1 hQ => ?_)
  have hF := hF.next hQ (by decide) (by decide)
  exact pk_s hF
theorem f_X12_reads_j30 (w0 : Wd) (s0 : Int32) (w : Wd) (hF : Fr [144, 145, 146, 163, 164, 165, 166] [(97, 0), (97, 70), (97, 96), (97, 97), (97, 98)] w0 w) : okF (X12_reads_j30  s0 w) (fun q => Fr [144, 145, 146, 163, 164, 165, 166] [(97, 0), (97, 70), (97, 96), (97, 97), (97, 98)] w0 q.2) := by
  unfold X12_reads_j30
  refine pk_c (f_X12_gives s0 w) (fun q5 hQ => ?_)
  have hF := hF.next hQ (by decide) (by decide)
  exact pk_s hF
theorem f_X12_reads (a1 : Int32) (a2 : Int32) (w : Wd) : okF (X12_reads  a1 a2 w) (fun q => Fr [144, 145, 146, 163, 164, 165, 166] [(97, 0), (97, 70), (97, 96), (97, 97), (97, 98)] w q.2) := by
  have hF : Fr [144, 145, 146, 163, 164, 165, 166] [(97, 0), (97, 70), (97, 96), (97, 97), (97, 98)] w w := Fr.rf
  unfold X12_reads
  refine pk_i (fun _ => ?_) (fun _ => ?_)
  · exact f_X12_reads_j36  w w hF
  · refine pk_i (fun _ => ?_) (fun _ => ?_)
    · exact f_X12_reads_j36  w w hF
    · refine pk_c (f_X12_doesRead a1 a2 w) (fun q3 hQ => ?_)
      have hF := hF.next hQ (by decide) (by decide)
      refine pk_i (fun _ => ?_) (fun _ => ?_)
      · exact f_X12_reads_j30  w (0 : Int32) q3.2 hF
      · exact f_X12_reads_j30  w (1 : Int32) q3.2 hF
theorem f_X12_flag_j15 (w0 : Wd) (w : Wd) (hF : Fr [144, 145, 146, 163, 164, 165, 166] [(97, 0), (97, 70), (97, 96), (97, 97), (97, 98)] w0 w) : okF (X12_flag_j15  w) (fun q => Fr [144, 145, 146, 163, 164, 165, 166] [(97, 0), (97, 70), (97, 96), (97, 97), (97, 98)] w0 q.2) := by
  unfold X12_flag_j15
  refine pk_c (f_X12_refuse (1 : Int32) w) (fun q1 hQ => ?_)
  have hF := hF.next hQ (by decide) (by decide)
  exact pk_s hF
theorem f_X12_flag_j75 (w0 : Wd) (a1 : Int32) (a2 : Int32) (a3 : Int32) (a4 : Int32) (a5 : Int32) (w : Wd) (hF : Fr [144, 145, 146, 163, 164, 165, 166] [(97, 0), (97, 70), (97, 96), (97, 97), (97, 98)] w0 w) : okF (X12_flag_j75  a1 a2 a3 a4 a5 w) (sel (fun s => Fr [144, 145, 146, 163, 164, 165, 166] [(97, 0), (97, 70), (97, 96), (97, 97), (97, 98)] w0 s.2.2.2) (fun e => Fr [144, 145, 146, 163, 164, 165, 166] [(97, 0), (97, 70), (97, 96), (97, 97), (97, 98)] w0 e.2.2)) := by
  unfold X12_flag_j75
  exact pk_s hF
theorem f_X12_flag_j72 (w0 : Wd) (a1 : Int32) (a2 : Int32) (a3 : Int32) (a5 : Int32) (s0 : Int32) (s1 : Int32) (w : Wd) (hF : Fr [144, 145, 146, 163, 164, 165, 166] [(97, 0), (97, 70), (97, 96), (97, 97), (97, 98)] w0 w) : okF (X12_flag_j72  a1 a2 a3 a5 s0 s1 w) (sel (fun s => Fr [144, 145, 146, 163, 164, 165, 166] [(97, 0), (97, 70), (97, 96), (97, 97), (97, 98)] w0 s.2.2.2) (fun e => Fr [144, 145, 146, 163, 164, 165, 166] [(97, 0), (97, 70), (97, 96), (97, 97), (97, 98)] w0 e.2.2)) := by
  unfold X12_flag_j72
  exact f_X12_flag_j75  w0 a1 a2 a3 (s1 + s0) a5 w hF
theorem f_X12_flag_b29 (w0 : Wd) (a1 : Int32) (a2 : Int32) (s : (Int32 × Int32 × Int32 × Wd)) (hF : Fr [144, 145, 146, 163, 164, 165, 166] [(97, 0), (97, 70), (97, 96), (97, 97), (97, 98)] w0 s.2.2.2) : okF (lp (X12_flag_b29  a1 a2) s) (fun e => Fr [144, 145, 146, 163, 164, 165, 166] [(97, 0), (97, 70), (97, 96), (97, 97), (97, 98)] w0 e.2.2) := by
  refine pk_lp (I := fun s => Fr [144, 145, 146, 163, 164, 165, 166] [(97, 0), (97, 70), (97, 96), (97, 97), (97, 98)] w0 s.2.2.2) (fun s hF => ?_) s hF
  unfold X12_flag_b29
  refine pk_i (fun _ => ?_) (fun _ => ?_)
  · exact pk_s hF
  · refine pk_g (fun _ => ?_)
    refine pk_i (fun _ => ?_) (fun _ => ?_)
    · refine pk_c (f_X12_doesRead s.2.2.1 a2 s.2.2.2) (fun q3 hQ => ?_)
      have hF := hF.next hQ (by decide) (by decide)
      refine pk_i (fun _ => ?_) (fun _ => ?_)
      · exact f_X12_flag_j72  w0 a1 a2 (s.1 + (1 : Int32)) s.2.2.1 (0 : Int32) s.2.1 q3.2 hF
      · exact f_X12_flag_j72  w0 a1 a2 (s.1 + (1 : Int32)) s.2.2.1 (1 : Int32) s.2.1 q3.2 hF
    · exact f_X12_flag_j75  w0 a1 a2 s.1 s.2.1 s.2.2.1 s.2.2.2 hF
theorem f_X12_flag_j119 (w0 : Wd) (s0 : Int32) (w : Wd) (hF : Fr [144, 145, 146, 163, 164, 165, 166] [(97, 0), (97, 70), (97, 96), (97, 97), (97, 98)] w0 w) : okF (X12_flag_j119  s0 w) (fun q => Fr [144, 145, 146, 163, 164, 165, 166] [(97, 0), (97, 70), (97, 96), (97, 97), (97, 98)] w0 q.2) := by
  unfold X12_flag_j119
  refine pk_c (f_X12_gives s0 w) (fun q8 hQ => ?_)
  have hF := hF.next hQ (by decide) (by decide)
  exact pk_s hF
theorem f_X12_flag_j118 (w0 : Wd) (w : Wd) (hF : Fr [144, 145, 146, 163, 164, 165, 166] [(97, 0), (97, 70), (97, 96), (97, 97), (97, 98)] w0 w) : okF (X12_flag_j118  w) (fun q => Fr [144, 145, 146, 163, 164, 165, 166] [(97, 0), (97, 70), (97, 96), (97, 97), (97, 98)] w0 q.2) := by
  unfold X12_flag_j118
  exact f_X12_flag_j119  w0 (0 : Int32) w hF
theorem f_X12_flag (a1 : Int32) (a2 : Int32) (w : Wd) : okF (X12_flag  a1 a2 w) (fun q => Fr [144, 145, 146, 163, 164, 165, 166] [(97, 0), (97, 70), (97, 96), (97, 97), (97, 98)] w q.2) := by
  have hF : Fr [144, 145, 146, 163, 164, 165, 166] [(97, 0), (97, 70), (97, 96), (97, 97), (97, 98)] w w := Fr.rf
  unfold X12_flag
  refine pk_i (fun _ => ?_) (fun _ => ?_)
  · exact f_X12_flag_j15  w w hF
  · refine pk_i (fun _ => ?_) (fun _ => ?_)
    · exact f_X12_flag_j15  w w hF
    · refine pk_c (f_X12_flag_b29 w a1 a2 ((0 : Int32), (0 : Int32), (0 : Int32), w) hF) (fun e5 hF => ?_)
      refine pk_g (fun _ => ?_)
      refine pk_c (f_X12_stand (e5.2.2.1 101 (ix a1)) a2 e5.2.2) (fun q6 hQ => ?_)
      have hF := hF.next hQ (by decide) (by decide)
      refine pk_i (fun _ => ?_) (fun _ => ?_)
      · exact f_X12_flag_j118  w q6 hF
      · refine pk_v (fun q10 => ?_)
        refine pk_i (fun _ => ?_) (fun _ => ?_)
        · exact f_X12_flag_j118  w q6 hF
        · exact f_X12_flag_j119  w (1 : Int32) q6 hF
theorem f_X12_isRow_b3 (kv : Nat) (nv : Nat) (hkv : sh kv = (0, nv)) (w0 : Wd) (a1 : Int32) (a2 : Int32) (a3 : Int32) (s : (Int32 × Wd)) (hF : Fr (kv :: []) [] w0 s.2) : okF (lp (X12_isRow_b3 kv nv a1 a2 a3) s) (fun e => match e with | (.inl e) => Fr (kv :: []) [] w0 e | (.inr (.inl e)) => Fr (kv :: []) [] w0 e | (.inr (.inr e)) => Fr (kv :: []) [] w0 e) := by
  refine pk_lp (I := fun s => Fr (kv :: []) [] w0 s.2) (fun s hF => ?_) s hF
  unfold X12_isRow_b3
  refine pk_i (fun _ => ?_) (fun _ => ?_)
  · exact pk_s hF
  · refine pk_g (fun _ => ?_)
    refine pk_v (fun z1 => ?_)
    refine pk_i (fun _ => ?_) (fun _ => ?_)
    · exact pk_s hF
    · refine pk_i (fun _ => ?_) (fun _ => ?_)
      · refine pk_g (fun _ => ?_)
        refine pk_w (fun w2 hF => ?_) (hF.puI (List.mem_cons_self))
        refine pk_v (fun e3 => ?_)
        rcases e3 with e4 | e5
        · exact pk_s hF
        · exact pk_s hF
      · exact pk_s hF
theorem f_X12_isRow (kv : Nat) (nv : Nat) (hkv : sh kv = (0, nv)) (a1 : Int32) (a2 : Int32) (a3 : Int32) (w : Wd) : okF (X12_isRow kv nv a1 a2 a3 w) (fun q => Fr (kv :: []) [] w q.2) := by
  have hF : Fr (kv :: []) [] w w := Fr.rf
  unfold X12_isRow
  refine pk_c (f_X12_isRow_b3 kv nv hkv w a1 a2 a3 ((0 : Int32), w) hF) (fun e6 hF => ?_)
  rcases e6 with e7 | e8 | e9
  · exact pk_s hF
  · exact pk_s hF
  · exact pk_s hF
theorem f_X12_send_j33 (w0 : Wd) (w : Wd) (hF : Fr [107, 170, 171, 172, 173, 174, 175, 176] [(97, 0), (97, 105)] w0 w) : okF (X12_send_j33  w) (fun q => Fr [107, 170, 171, 172, 173, 174, 175, 176] [(97, 0), (97, 105)] w0 q.2) := by
  unfold X12_send_j33
  refine pk_c (f_X12_refuse (1 : Int32) w) (fun q1 hQ => ?_)
  have hF := hF.next hQ (by decide) (by decide)
  exact pk_s hF
theorem f_X12_send_j59 (w0 : Wd) (w : Wd) (hF : Fr [107, 170, 171, 172, 173, 174, 175, 176] [(97, 0), (97, 105)] w0 w) : okF (X12_send_j59  w) (fun q => Fr [107, 170, 171, 172, 173, 174, 175, 176] [(97, 0), (97, 105)] w0 q.2) := by
  unfold X12_send_j59
  refine pk_c (f_X12_refuse (2 : Int32) w) (fun q3 hQ => ?_)
  have hF := hF.next hQ (by decide) (by decide)
  exact pk_s hF
theorem f_X12_send_j85 (w0 : Wd) (w : Wd) (hF : Fr [107, 170, 171, 172, 173, 174, 175, 176] [(97, 0), (97, 105)] w0 w) : okF (X12_send_j85  w) (fun q => Fr [107, 170, 171, 172, 173, 174, 175, 176] [(97, 0), (97, 105)] w0 q.2) := by
  unfold X12_send_j85
  refine pk_c (f_X12_refuse (3 : Int32) w) (fun q5 hQ => ?_)
  have hF := hF.next hQ (by decide) (by decide)
  exact pk_s hF
theorem f_X12_send_j125 (w0 : Wd) (w : Wd) (hF : Fr [107, 170, 171, 172, 173, 174, 175, 176] [(97, 0), (97, 105)] w0 w) : okF (X12_send_j125  w) (fun q => Fr [107, 170, 171, 172, 173, 174, 175, 176] [(97, 0), (97, 105)] w0 q.2) := by
  unfold X12_send_j125
  refine pk_c (f_X12_refuse (1 : Int32) w) (fun q9 hQ => ?_)
  have hF := hF.next hQ (by decide) (by decide)
  exact pk_s hF
theorem f_X12_send_j271 (w0 : Wd) (a3 : Int32) (a4 : Int32) (a5 : Int32) (a6 : Int32) (s0 : Int32) (s1 : Int32) (w : Wd) (hF : Fr [107, 170, 171, 172, 173, 174, 175, 176] [(97, 0), (97, 105)] w0 w) : okF (X12_send_j271  a3 a4 a5 a6 s0 s1 w) (sel (fun s => Fr [107, 170, 171, 172, 173, 174, 175, 176] [(97, 0), (97, 105)] w0 s.2) (fun e => Fr [107, 170, 171, 172, 173, 174, 175, 176] [(97, 0), (97, 105)] w0 e)) := by
  unfold X12_send_j271
  refine pk_g (fun _ => ?_)
  refine pk_w (fun w18 hF => ?_) (hF.puI (by decide))
  exact pk_s hF
theorem f_X12_send_j229 (w0 : Wd) (a3 : Int32) (a4 : Int32) (a5 : Int32) (a6 : Int32) (s0 : Int32) (w : Wd) (hF : Fr [107, 170, 171, 172, 173, 174, 175, 176] [(97, 0), (97, 105)] w0 w) : okF (X12_send_j229  a3 a4 a5 a6 s0 w) (sel (fun s => Fr [107, 170, 171, 172, 173, 174, 175, 176] [(97, 0), (97, 105)] w0 s.2) (fun e => Fr [107, 170, 171, 172, 173, 174, 175, 176] [(97, 0), (97, 105)] w0 e)) := by
  unfold X12_send_j229
  refine pk_i (fun _ => ?_) (fun _ => ?_)
  · exact f_X12_send_j271  w0 a3 a4 a5 a6 (1000 : Int32) (((7 : Int32) * a6) + a5) w hF
  · refine pk_g (fun _ => ?_)
    refine pk_g (fun _ => ?_)
    refine pk_g (fun _ => ?_)
    refine pk_v (fun z19 => ?_)
    exact f_X12_send_j271  w0 a3 a4 a5 a6 z19 (((7 : Int32) * a6) + a5) w hF
theorem f_X12_send_j224 (w0 : Wd) (a3 : Int32) (a4 : Int32) (a5 : Int32) (a6 : Int32) (w : Wd) (hF : Fr [107, 170, 171, 172, 173, 174, 175, 176] [(97, 0), (97, 105)] w0 w) : okF (X12_send_j224  a3 a4 a5 a6 w) (sel (fun s => Fr [107, 170, 171, 172, 173, 174, 175, 176] [(97, 0), (97, 105)] w0 s.2) (fun e => Fr [107, 170, 171, 172, 173, 174, 175, 176] [(97, 0), (97, 105)] w0 e)) := by
  unfold X12_send_j224
  exact f_X12_send_j229  w0 a3 a4 a5 a6 (1 : Int32) w hF
theorem f_X12_send_b161 (w0 : Wd) (a3 : Int32) (a4 : Int32) (a5 : Int32) (s : (Int32 × Wd)) (hF : Fr [107, 170, 171, 172, 173, 174, 175, 176] [(97, 0), (97, 105)] w0 s.2) : okF (lp (X12_send_b161  a3 a4 a5) s) (fun e => Fr [107, 170, 171, 172, 173, 174, 175, 176] [(97, 0), (97, 105)] w0 e) := by
  refine pk_lp (I := fun s => Fr [107, 170, 171, 172, 173, 174, 175, 176] [(97, 0), (97, 105)] w0 s.2) (fun s hF => ?_) s hF
  unfold X12_send_b161
  refine pk_i (fun _ => ?_) (fun _ => ?_)
  · exact pk_s hF
  · refine pk_g (fun _ => ?_)
    refine pk_v (fun q15 => ?_)
    refine pk_g (fun _ => ?_)
    refine pk_w (fun w17 hF => ?_) (hF.puI (by decide))
    refine pk_g (fun _ => ?_)
    refine pk_i (fun _ => ?_) (fun _ => ?_)
    · exact f_X12_send_j224  w0 a3 a4 a5 s.1 w17 hF
    · refine pk_g (fun _ => ?_)
      refine pk_g (fun _ => ?_)
      refine pk_g (fun _ => ?_)
      refine pk_i (fun _ => ?_) (fun _ => ?_)
      · exact f_X12_send_j224  w0 a3 a4 a5 s.1 w17 hF
      · exact f_X12_send_j229  w0 a3 a4 a5 s.1 (0 : Int32) w17 hF
theorem f_X12_send_b134 (w0 : Wd) (a3 : Int32) (a4 : Int32) (s : (Int32 × Wd)) (hF : Fr [107, 170, 171, 172, 173, 174, 175, 176] [(97, 0), (97, 105)] w0 s.2) : okF (lp (X12_send_b134  a3 a4) s) (fun e => Fr [107, 170, 171, 172, 173, 174, 175, 176] [(97, 0), (97, 105)] w0 e) := by
  refine pk_lp (I := fun s => Fr [107, 170, 171, 172, 173, 174, 175, 176] [(97, 0), (97, 105)] w0 s.2) (fun s hF => ?_) s hF
  unfold X12_send_b134
  refine pk_i (fun _ => ?_) (fun _ => ?_)
  · exact pk_s hF
  · refine pk_g (fun _ => ?_)
    refine pk_g (fun _ => ?_)
    refine pk_c (f_X12_travel (s.2.1 112 (ix (s.2.1 171 (ix s.1)))) a4 s.2) (fun q13 hQ => ?_)
    have hF := hF.next hQ (by decide) (by decide)
    refine pk_c (f_X12_send_b161 w0 a3 a4 s.1 ((0 : Int32), q13) hF) (fun e20 hF => ?_)
    exact pk_s hF
theorem f_X12_send_b330 (w0 : Wd) (a3 : Int32) (a5 : Int32) (a6 : Int32) (a7 : Int32) (s : (Int32 × Int32 × Wd)) (hF : Fr [107, 170, 171, 172, 173, 174, 175, 176] [(97, 0), (97, 105)] w0 s.2.2) : okF (lp (X12_send_b330  a3 a5 a6 a7) s) (fun e => Fr [107, 170, 171, 172, 173, 174, 175, 176] [(97, 0), (97, 105)] w0 e) := by
  refine pk_lp (I := fun s => Fr [107, 170, 171, 172, 173, 174, 175, 176] [(97, 0), (97, 105)] w0 s.2.2) (fun s hF => ?_) s hF
  unfold X12_send_b330
  refine pk_i (fun _ => ?_) (fun _ => ?_)
  · exact pk_s hF
  · refine pk_g (fun _ => ?_)
    refine pk_g (fun _ => ?_)
    refine pk_w (fun w23 hF => ?_) (hF.puI (by decide))
    refine pk_g (fun _ => ?_)
    exact pk_s hF
theorem f_X12_send_j440 (w0 : Wd) (a3 : Int32) (a5 : Int32) (a6 : Int32) (a7 : Int32) (w : Wd) (hF : Fr [107, 170, 171, 172, 173, 174, 175, 176] [(97, 0), (97, 105)] w0 w) : okF (X12_send_j440  a3 a5 a6 a7 w) (sel (fun s => Fr [107, 170, 171, 172, 173, 174, 175, 176] [(97, 0), (97, 105)] w0 s.2.2) (fun e => Fr [107, 170, 171, 172, 173, 174, 175, 176] [(97, 0), (97, 105)] w0 e.2)) := by
  unfold X12_send_j440
  exact pk_s hF
theorem f_X12_send_b409 (w0 : Wd) (a3 : Int32) (a5 : Int32) (a6 : Int32) (a7 : Int32) (s : (Int32 × Wd)) (hF : Fr [107, 170, 171, 172, 173, 174, 175, 176] [(97, 0), (97, 105)] w0 s.2) : okF (lp (X12_send_b409  a3 a5 a6 a7) s) (fun e => Fr [107, 170, 171, 172, 173, 174, 175, 176] [(97, 0), (97, 105)] w0 e) := by
  refine pk_lp (I := fun s => Fr [107, 170, 171, 172, 173, 174, 175, 176] [(97, 0), (97, 105)] w0 s.2) (fun s hF => ?_) s hF
  unfold X12_send_b409
  refine pk_i (fun _ => ?_) (fun _ => ?_)
  · exact pk_s hF
  · refine pk_g (fun _ => ?_)
    refine pk_g (fun _ => ?_)
    refine pk_g (fun _ => ?_)
    refine pk_w (fun w27 hF => ?_) (hF.puI (by decide))
    exact pk_s hF
theorem f_X12_send_j402 (w0 : Wd) (a3 : Int32) (a5 : Int32) (a7 : Int32) (a9 : Int32) (w : Wd) (hF : Fr [107, 170, 171, 172, 173, 174, 175, 176] [(97, 0), (97, 105)] w0 w) : okF (X12_send_j402  a3 a5 a7 a9 w) (sel (fun s => Fr [107, 170, 171, 172, 173, 174, 175, 176] [(97, 0), (97, 105)] w0 s.2.2) (fun e => Fr [107, 170, 171, 172, 173, 174, 175, 176] [(97, 0), (97, 105)] w0 e.2)) := by
  unfold X12_send_j402
  refine pk_c (f_X12_send_b409 w0 a3 a5 a9 a7 ((0 : Int32), w) hF) (fun e28 hF => ?_)
  exact f_X12_send_j440  w0 a3 a5 a9 a7 e28 hF
theorem f_X12_send_b314 (w0 : Wd) (a3 : Int32) (a5 : Int32) (s : (Int32 × Int32 × Wd)) (hF : Fr [107, 170, 171, 172, 173, 174, 175, 176] [(97, 0), (97, 105)] w0 s.2.2) : okF (lp (X12_send_b314  a3 a5) s) (fun e => Fr [107, 170, 171, 172, 173, 174, 175, 176] [(97, 0), (97, 105)] w0 e.2) := by
  refine pk_lp (I := fun s => Fr [107, 170, 171, 172, 173, 174, 175, 176] [(97, 0), (97, 105)] w0 s.2.2) (fun s hF => ?_) s hF
  unfold X12_send_b314
  refine pk_i (fun _ => ?_) (fun _ => ?_)
  · exact pk_s hF
  · refine pk_c (f_X12_send_b330 w0 a3 a5 s.1 s.2.1 (s.2.1, (a3 - (1 : Int32)), s.2.2) hF) (fun e24 hF => ?_)
    refine pk_v (fun q25 => ?_)
    refine pk_i (fun _ => ?_) (fun _ => ?_)
    · exact f_X12_send_j440  w0 a3 a5 s.1 s.2.1 e24 hF
    · refine pk_i (fun _ => ?_) (fun _ => ?_)
      · exact f_X12_send_j402  w0 a3 a5 s.2.1 q25 e24 hF
      · refine pk_i (fun _ => ?_) (fun _ => ?_)
        · exact f_X12_send_j440  w0 a3 a5 s.1 s.2.1 e24 hF
        · refine pk_i (fun _ => ?_) (fun _ => ?_)
          · refine pk_v (fun q29 => ?_)
            refine pk_i (fun _ => ?_) (fun _ => ?_)
            · exact f_X12_send_j440  w0 a3 a5 s.1 s.2.1 e24 hF
            · exact f_X12_send_j402  w0 a3 a5 s.2.1 q25 e24 hF
          · exact f_X12_send_j402  w0 a3 a5 s.2.1 q25 e24 hF
theorem f_X12_send_b462 (w0 : Wd) (a3 : Int32) (a6 : Int32) (s : (Int32 × Wd)) (hF : Fr [107, 170, 171, 172, 173, 174, 175, 176] [(97, 0), (97, 105)] w0 s.2) : okF (lp (X12_send_b462  a3 a6) s) (fun e => Fr [107, 170, 171, 172, 173, 174, 175, 176] [(97, 0), (97, 105)] w0 e) := by
  refine pk_lp (I := fun s => Fr [107, 170, 171, 172, 173, 174, 175, 176] [(97, 0), (97, 105)] w0 s.2) (fun s hF => ?_) s hF
  unfold X12_send_b462
  refine pk_i (fun _ => ?_) (fun _ => ?_)
  · exact pk_s hF
  · refine pk_g (fun _ => ?_)
    refine pk_g (fun _ => ?_)
    refine pk_w (fun w32 hF => ?_) (hF.puI (by decide))
    exact pk_s hF
theorem f_X12_send (a1 : Int32) (a2 : Int32) (a3 : Int32) (a4 : Int32) (w : Wd) : okF (X12_send  a1 a2 a3 a4 w) (fun q => Fr [107, 170, 171, 172, 173, 174, 175, 176] [(97, 0), (97, 105)] w q.2) := by
  have hF : Fr [107, 170, 171, 172, 173, 174, 175, 176] [(97, 0), (97, 105)] w w := Fr.rf
  unfold X12_send
  refine pk_i (fun _ => ?_) (fun _ => ?_)
  · exact f_X12_send_j33  w w hF
  · refine pk_i (fun _ => ?_) (fun _ => ?_)
    · exact f_X12_send_j33  w w hF
    · refine pk_i (fun _ => ?_) (fun _ => ?_)
      · exact f_X12_send_j33  w w hF
      · refine pk_i (fun _ => ?_) (fun _ => ?_)
        · exact f_X12_send_j33  w w hF
        · refine pk_i (fun _ => ?_) (fun _ => ?_)
          · exact f_X12_send_j33  w w hF
          · refine pk_g (fun _ => ?_)
            refine pk_i (fun _ => ?_) (fun _ => ?_)
            · exact f_X12_send_j59  w w hF
            · refine pk_g (fun _ => ?_)
              refine pk_i (fun _ => ?_) (fun _ => ?_)
              · exact f_X12_send_j59  w w hF
              · refine pk_g (fun _ => ?_)
                refine pk_i (fun _ => ?_) (fun _ => ?_)
                · exact f_X12_send_j85  w w hF
                · refine pk_g (fun _ => ?_)
                  refine pk_i (fun _ => ?_) (fun _ => ?_)
                  · refine pk_c (f_X12_isRow 170 7 sh_170 a1 a3 (w.1 97 8) w) (fun q7 hQ => ?_)
                    have hF := hF.next hQ (by decide) (by decide)
                    refine pk_i (fun _ => ?_) (fun _ => ?_)
                    · exact f_X12_send_j125  w q7.2 hF
                    · refine pk_c (f_X12_isRow 171 7 sh_171 a2 a3 (q7.2.1 97 7) q7.2) (fun q11 hQ => ?_)
                      have hF := hF.next hQ (by decide) (by decide)
                      refine pk_i (fun _ => ?_) (fun _ => ?_)
                      · exact f_X12_send_j125  w q11.2 hF
                      · refine pk_c (f_X12_send_b134 w a3 a4 ((0 : Int32), q11.2) hF) (fun e21 hF => ?_)
                        refine pk_v (fun e22 => ?_)
                        refine pk_c (f_X12_send_b314 w a3 e22 ((-1 : Int32), (0 : Int32), e21) hF) (fun e31 hF => ?_)
                        refine pk_i (fun _ => ?_) (fun _ => ?_)
                        · refine pk_c (f_X12_refuse (6 : Int32) e31.2) (fun q37 hQ => ?_)
                          have hF := hF.next hQ (by decide) (by decide)
                          exact pk_s hF
                        · refine pk_c (f_X12_send_b462 w a3 e31.1 ((0 : Int32), e31.2) hF) (fun e33 hF => ?_)
                          refine pk_w (fun w34 hF => ?_) (hF.pfI (by decide))
                          refine pk_g (fun _ => ?_)
                          refine pk_c (f_X12_gives (e31.1 / (1000 : Int32)) w34) (fun q35 hQ => ?_)
                          have hF := hF.next hQ (by decide) (by decide)
                          exact pk_s hF
                  · exact f_X12_send_j85  w w hF
theorem f_X12_sent (a1 : Int32) (w : Wd) : okF (X12_sent  a1 w) (fun q => Fr [] [(97, 0)] w q.2) := by
  have hF : Fr [] [(97, 0)] w w := Fr.rf
  unfold X12_sent
  refine pk_i (fun _ => ?_) (fun _ => ?_)
  · refine pk_i (fun _ => ?_) (fun _ => ?_)
    · refine pk_g (fun _ => ?_)
      refine pk_c (f_X12_gives (w.1 175 (ix a1)) w) (fun q1 hQ => ?_)
      have hF := hF.next hQ (by decide) (by decide)
      exact pk_s hF
    · refine pk_c (f_X12_refuse (6 : Int32) w) (fun q3 hQ => ?_)
      have hF := hF.next hQ (by decide) (by decide)
      exact pk_s hF
  · refine pk_c (f_X12_refuse (1 : Int32) w) (fun q5 hQ => ?_)
    have hF := hF.next hQ (by decide) (by decide)
    exact pk_s hF
theorem f_X12_fillChoose_j73 (w0 : Wd) (a1 : Int32) (a2 : Int32) (s0 : Int64) (s1 : Int32) (w : Wd) (hF : Fr [177] [] w0 w) : okF (X12_fillChoose_j73  a1 a2 s0 s1 w) (sel (fun s => Fr [177] [] w0 s.2) (fun e => Fr [177] [] w0 e)) := by
  unfold X12_fillChoose_j73
  refine pk_g (fun _ => ?_)
  refine pk_w (fun w4 hF => ?_) (hF.puJ (by decide))
  exact pk_s hF
theorem f_X12_fillChoose_b20 (w0 : Wd) (a1 : Int32) (s : (Int32 × Wd)) (hF : Fr [177] [] w0 s.2) : okF (lp (X12_fillChoose_b20  a1) s) (fun e => Fr [177] [] w0 e) := by
  refine pk_lp (I := fun s => Fr [177] [] w0 s.2) (fun s hF => ?_) s hF
  unfold X12_fillChoose_b20
  refine pk_i (fun _ => ?_) (fun _ => ?_)
  · exact pk_s hF
  · refine pk_i (fun _ => ?_) (fun _ => ?_)
    · exact f_X12_fillChoose_j73  w0 a1 s.1 (0 : Int64) (((61 : Int32) * a1) + s.1) s.2 hF
    · refine pk_g (fun _ => ?_)
      refine pk_v (fun z2 => ?_)
      refine pk_g (fun _ => ?_)
      refine pk_v (fun z3 => ?_)
      exact f_X12_fillChoose_j73  w0 a1 s.1 (z2 + z3) (((61 : Int32) * a1) + s.1) s.2 hF
theorem f_X12_fillChoose_b2 (w0 : Wd) (s : (Int32 × Wd)) (hF : Fr [177] [] w0 s.2) : okF (lp (X12_fillChoose_b2  ) s) (fun e => Fr [177] [] w0 e) := by
  refine pk_lp (I := fun s => Fr [177] [] w0 s.2) (fun s hF => ?_) s hF
  unfold X12_fillChoose_b2
  refine pk_i (fun _ => ?_) (fun _ => ?_)
  · exact pk_s hF
  · refine pk_g (fun _ => ?_)
    refine pk_w (fun w1 hF => ?_) (hF.puJ (by decide))
    refine pk_c (f_X12_fillChoose_b20 w0 s.1 ((1 : Int32), w1) hF) (fun e5 hF => ?_)
    exact pk_s hF
theorem f_X12_fillChoose (w : Wd) : okF (X12_fillChoose   w) (fun q => Fr [177] [] w q) := by
  have hF : Fr [177] [] w w := Fr.rf
  unfold X12_fillChoose
  refine pk_c (f_X12_fillChoose_b2 w ((0 : Int32), w) hF) (fun e6 hF => ?_)
  exact pk_s hF
theorem f_X12_count_j41 (w0 : Wd) (w : Wd) (hF : Fr [177] [(97, 0)] w0 w) : okF (X12_count_j41  w) (fun q => Fr [177] [(97, 0)] w0 q.2) := by
  unfold X12_count_j41
  refine pk_c (f_X12_refuse (1 : Int32) w) (fun q1 hQ => ?_)
  have hF := hF.next hQ (by decide) (by decide)
  exact pk_s hF
theorem f_X12_count (a1 : Int32) (a2 : Int32) (a3 : Int32) (a4 : Int32) (w : Wd) : okF (X12_count  a1 a2 a3 a4 w) (fun q => Fr [177] [(97, 0)] w q.2) := by
  have hF : Fr [177] [(97, 0)] w w := Fr.rf
  unfold X12_count
  refine pk_i (fun _ => ?_) (fun _ => ?_)
  · exact f_X12_count_j41  w w hF
  · refine pk_i (fun _ => ?_) (fun _ => ?_)
    · exact f_X12_count_j41  w w hF
    · refine pk_i (fun _ => ?_) (fun _ => ?_)
      · exact f_X12_count_j41  w w hF
      · refine pk_i (fun _ => ?_) (fun _ => ?_)
        · exact f_X12_count_j41  w w hF
        · refine pk_i (fun _ => ?_) (fun _ => ?_)
          · exact f_X12_count_j41  w w hF
          · refine pk_i (fun _ => ?_) (fun _ => ?_)
            · exact f_X12_count_j41  w w hF
            · refine pk_i (fun _ => ?_) (fun _ => ?_)
              · exact f_X12_count_j41  w w hF
              · refine pk_i (fun _ => ?_) (fun _ => ?_)
                · refine pk_c (f_X12_fillChoose w) (fun q3 hQ => ?_)
                  have hF := hF.next hQ (by decide) (by decide)
                  refine pk_v (fun e8 => ?_)
                  refine pk_c (f_X12_gives e8 q3) (fun q9 hQ => ?_)
                  have hF := hF.next hQ (by decide) (by decide)
                  exact pk_s hF
                · exact f_X12_count_j41  w w hF
theorem f_X12_near_j15 (w0 : Wd) (w : Wd) (hF : Fr [107, 144, 145, 146] [(97, 0), (97, 70)] w0 w) : okF (X12_near_j15  w) (fun q => Fr [107, 144, 145, 146] [(97, 0), (97, 70)] w0 q.2) := by
  unfold X12_near_j15
  refine pk_c (f_X12_refuse (1 : Int32) w) (fun q1 hQ => ?_)
  have hF := hF.next hQ (by decide) (by decide)
  exact pk_s hF
theorem f_X12_near_j205 (w0 : Wd) (a2 : Int32) (a3 : Int32) (a4 : Int32) (w : Wd) (hF : Fr [107, 144, 145, 146] [(97, 0), (97, 70)] w0 w) : okF (X12_near_j205  a2 a3 a4 w) (sel (fun s => Fr [107, 144, 145, 146] [(97, 0), (97, 70)] w0 s.2.2) (fun e => Fr [107, 144, 145, 146] [(97, 0), (97, 70)] w0 e.2)) := by
  unfold X12_near_j205
  exact pk_s hF
theorem f_X12_near_j202 (w0 : Wd) (a2 : Int32) (a4 : Int32) (w : Wd) (hF : Fr [107, 144, 145, 146] [(97, 0), (97, 70)] w0 w) : okF (X12_near_j202  a2 a4 w) (sel (fun s => Fr [107, 144, 145, 146] [(97, 0), (97, 70)] w0 s.2.2) (fun e => Fr [107, 144, 145, 146] [(97, 0), (97, 70)] w0 e.2)) := by
  unfold X12_near_j202
  exact f_X12_near_j205  w0 a2 a4 a4 w hF
theorem f_X12_near_b54 (w0 : Wd) (a2 : Int32) (s : (Int32 × Int32 × Wd)) (hF : Fr [107, 144, 145, 146] [(97, 0), (97, 70)] w0 s.2.2) : okF (lp (X12_near_b54  a2) s) (fun e => Fr [107, 144, 145, 146] [(97, 0), (97, 70)] w0 e.2) := by
  refine pk_lp (I := fun s => Fr [107, 144, 145, 146] [(97, 0), (97, 70)] w0 s.2.2) (fun s hF => ?_) s hF
  unfold X12_near_b54
  refine pk_i (fun _ => ?_) (fun _ => ?_)
  · exact pk_s hF
  · refine pk_v (fun q7 => ?_)
    refine pk_i (fun _ => ?_) (fun _ => ?_)
    · exact f_X12_near_j205  w0 a2 s.1 s.2.1 s.2.2 hF
    · refine pk_g (fun _ => ?_)
      refine pk_g (fun _ => ?_)
      refine pk_i (fun _ => ?_) (fun _ => ?_)
      · exact f_X12_near_j205  w0 a2 s.1 s.2.1 s.2.2 hF
      · refine pk_g (fun _ => ?_)
        refine pk_g (fun _ => ?_)
        refine pk_c (f_X12_stand (s.2.2.1 101 (ix (s.2.2.1 113 (ix s.2.1)))) a2 s.2.2) (fun q9 hQ => ?_)
        have hF := hF.next hQ (by decide) (by decide)
        refine pk_v (fun e13 => ?_)
        refine pk_v (fun q14 => ?_)
        refine pk_i (fun _ => ?_) (fun _ => ?_)
        · exact f_X12_near_j205  w0 a2 s.1 s.2.1 q9 hF
        · refine pk_i (fun _ => ?_) (fun _ => ?_)
          · exact f_X12_near_j202  w0 a2 s.2.1 q9 hF
          · refine pk_g (fun _ => ?_)
            refine pk_g (fun _ => ?_)
            refine pk_g (fun _ => ?_)
            refine pk_g (fun _ => ?_)
            refine pk_i (fun _ => ?_) (fun _ => ?_)
            · exact f_X12_near_j202  w0 a2 s.2.1 q9 hF
            · exact f_X12_near_j205  w0 a2 s.1 s.2.1 q9 hF
theorem f_X12_near (a1 : Int32) (a2 : Int32) (w : Wd) : okF (X12_near  a1 a2 w) (fun q => Fr [107, 144, 145, 146] [(97, 0), (97, 70)] w q.2) := by
  have hF : Fr [107, 144, 145, 146] [(97, 0), (97, 70)] w w := Fr.rf
  unfold X12_near
  refine pk_i (fun _ => ?_) (fun _ => ?_)
  · exact f_X12_near_j15  w w hF
  · refine pk_i (fun _ => ?_) (fun _ => ?_)
    · exact f_X12_near_j15  w w hF
    · refine pk_v (fun q3 => ?_)
      refine pk_i (fun _ => ?_) (fun _ => ?_)
      · refine pk_g (fun _ => ?_)
        refine pk_c (f_X12_travel (w.1 113 (ix a1)) a2 w) (fun q5 hQ => ?_)
        have hF := hF.next hQ (by decide) (by decide)
        refine pk_c (f_X12_near_b54 w a2 ((-1 : Int32), (0 : Int32), q5) hF) (fun e16 hF => ?_)
        refine pk_i (fun _ => ?_) (fun _ => ?_)
        · refine pk_c (f_X12_refuse (6 : Int32) e16.2) (fun q19 hQ => ?_)
          have hF := hF.next hQ (by decide) (by decide)
          exact pk_s hF
        · refine pk_c (f_X12_gives e16.1 e16.2) (fun q17 hQ => ?_)
          have hF := hF.next hQ (by decide) (by decide)
          exact pk_s hF
      · refine pk_c (f_X12_refuse (7 : Int32) w) (fun q21 hQ => ?_)
        have hF := hF.next hQ (by decide) (by decide)
        exact pk_s hF
