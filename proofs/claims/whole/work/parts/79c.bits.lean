theorem pc_class (a : Nat) (ha : a < 128) (b : Nat) (hb : b < 256) : J6_bitCount_0f7a4 (nI (256 * a + b)) ((fun _ _ => 0, fun _ _ => 0) : Wd) = nI (pcN 15 (256 * a + b)) := by
  by_cases h0 : a = 0
  · rw [h0]; exact pcc0 b hb
  by_cases h1 : a = 1
  · rw [h1]; exact pcc1 b hb
  by_cases h2 : a = 2
  · rw [h2]; exact pcc2 b hb
  by_cases h3 : a = 3
  · rw [h3]; exact pcc3 b hb
  by_cases h4 : a = 4
  · rw [h4]; exact pcc4 b hb
  by_cases h5 : a = 5
  · rw [h5]; exact pcc5 b hb
  by_cases h6 : a = 6
  · rw [h6]; exact pcc6 b hb
  by_cases h7 : a = 7
  · rw [h7]; exact pcc7 b hb
  by_cases h8 : a = 8
  · rw [h8]; exact pcc8 b hb
  by_cases h9 : a = 9
  · rw [h9]; exact pcc9 b hb
  by_cases h10 : a = 10
  · rw [h10]; exact pcc10 b hb
  by_cases h11 : a = 11
  · rw [h11]; exact pcc11 b hb
  by_cases h12 : a = 12
  · rw [h12]; exact pcc12 b hb
  by_cases h13 : a = 13
  · rw [h13]; exact pcc13 b hb
  by_cases h14 : a = 14
  · rw [h14]; exact pcc14 b hb
  by_cases h15 : a = 15
  · rw [h15]; exact pcc15 b hb
  by_cases h16 : a = 16
  · rw [h16]; exact pcc16 b hb
  by_cases h17 : a = 17
  · rw [h17]; exact pcc17 b hb
  by_cases h18 : a = 18
  · rw [h18]; exact pcc18 b hb
  by_cases h19 : a = 19
  · rw [h19]; exact pcc19 b hb
  by_cases h20 : a = 20
  · rw [h20]; exact pcc20 b hb
  by_cases h21 : a = 21
  · rw [h21]; exact pcc21 b hb
  by_cases h22 : a = 22
  · rw [h22]; exact pcc22 b hb
  by_cases h23 : a = 23
  · rw [h23]; exact pcc23 b hb
  by_cases h24 : a = 24
  · rw [h24]; exact pcc24 b hb
  by_cases h25 : a = 25
  · rw [h25]; exact pcc25 b hb
  by_cases h26 : a = 26
  · rw [h26]; exact pcc26 b hb
  by_cases h27 : a = 27
  · rw [h27]; exact pcc27 b hb
  by_cases h28 : a = 28
  · rw [h28]; exact pcc28 b hb
  by_cases h29 : a = 29
  · rw [h29]; exact pcc29 b hb
  by_cases h30 : a = 30
  · rw [h30]; exact pcc30 b hb
  by_cases h31 : a = 31
  · rw [h31]; exact pcc31 b hb
  by_cases h32 : a = 32
  · rw [h32]; exact pcc32 b hb
  by_cases h33 : a = 33
  · rw [h33]; exact pcc33 b hb
  by_cases h34 : a = 34
  · rw [h34]; exact pcc34 b hb
  by_cases h35 : a = 35
  · rw [h35]; exact pcc35 b hb
  by_cases h36 : a = 36
  · rw [h36]; exact pcc36 b hb
  by_cases h37 : a = 37
  · rw [h37]; exact pcc37 b hb
  by_cases h38 : a = 38
  · rw [h38]; exact pcc38 b hb
  by_cases h39 : a = 39
  · rw [h39]; exact pcc39 b hb
  by_cases h40 : a = 40
  · rw [h40]; exact pcc40 b hb
  by_cases h41 : a = 41
  · rw [h41]; exact pcc41 b hb
  by_cases h42 : a = 42
  · rw [h42]; exact pcc42 b hb
  by_cases h43 : a = 43
  · rw [h43]; exact pcc43 b hb
  by_cases h44 : a = 44
  · rw [h44]; exact pcc44 b hb
  by_cases h45 : a = 45
  · rw [h45]; exact pcc45 b hb
  by_cases h46 : a = 46
  · rw [h46]; exact pcc46 b hb
  by_cases h47 : a = 47
  · rw [h47]; exact pcc47 b hb
  by_cases h48 : a = 48
  · rw [h48]; exact pcc48 b hb
  by_cases h49 : a = 49
  · rw [h49]; exact pcc49 b hb
  by_cases h50 : a = 50
  · rw [h50]; exact pcc50 b hb
  by_cases h51 : a = 51
  · rw [h51]; exact pcc51 b hb
  by_cases h52 : a = 52
  · rw [h52]; exact pcc52 b hb
  by_cases h53 : a = 53
  · rw [h53]; exact pcc53 b hb
  by_cases h54 : a = 54
  · rw [h54]; exact pcc54 b hb
  by_cases h55 : a = 55
  · rw [h55]; exact pcc55 b hb
  by_cases h56 : a = 56
  · rw [h56]; exact pcc56 b hb
  by_cases h57 : a = 57
  · rw [h57]; exact pcc57 b hb
  by_cases h58 : a = 58
  · rw [h58]; exact pcc58 b hb
  by_cases h59 : a = 59
  · rw [h59]; exact pcc59 b hb
  by_cases h60 : a = 60
  · rw [h60]; exact pcc60 b hb
  by_cases h61 : a = 61
  · rw [h61]; exact pcc61 b hb
  by_cases h62 : a = 62
  · rw [h62]; exact pcc62 b hb
  by_cases h63 : a = 63
  · rw [h63]; exact pcc63 b hb
  by_cases h64 : a = 64
  · rw [h64]; exact pcc64 b hb
  by_cases h65 : a = 65
  · rw [h65]; exact pcc65 b hb
  by_cases h66 : a = 66
  · rw [h66]; exact pcc66 b hb
  by_cases h67 : a = 67
  · rw [h67]; exact pcc67 b hb
  by_cases h68 : a = 68
  · rw [h68]; exact pcc68 b hb
  by_cases h69 : a = 69
  · rw [h69]; exact pcc69 b hb
  by_cases h70 : a = 70
  · rw [h70]; exact pcc70 b hb
  by_cases h71 : a = 71
  · rw [h71]; exact pcc71 b hb
  by_cases h72 : a = 72
  · rw [h72]; exact pcc72 b hb
  by_cases h73 : a = 73
  · rw [h73]; exact pcc73 b hb
  by_cases h74 : a = 74
  · rw [h74]; exact pcc74 b hb
  by_cases h75 : a = 75
  · rw [h75]; exact pcc75 b hb
  by_cases h76 : a = 76
  · rw [h76]; exact pcc76 b hb
  by_cases h77 : a = 77
  · rw [h77]; exact pcc77 b hb
  by_cases h78 : a = 78
  · rw [h78]; exact pcc78 b hb
  by_cases h79 : a = 79
  · rw [h79]; exact pcc79 b hb
  by_cases h80 : a = 80
  · rw [h80]; exact pcc80 b hb
  by_cases h81 : a = 81
  · rw [h81]; exact pcc81 b hb
  by_cases h82 : a = 82
  · rw [h82]; exact pcc82 b hb
  by_cases h83 : a = 83
  · rw [h83]; exact pcc83 b hb
  by_cases h84 : a = 84
  · rw [h84]; exact pcc84 b hb
  by_cases h85 : a = 85
  · rw [h85]; exact pcc85 b hb
  by_cases h86 : a = 86
  · rw [h86]; exact pcc86 b hb
  by_cases h87 : a = 87
  · rw [h87]; exact pcc87 b hb
  by_cases h88 : a = 88
  · rw [h88]; exact pcc88 b hb
  by_cases h89 : a = 89
  · rw [h89]; exact pcc89 b hb
  by_cases h90 : a = 90
  · rw [h90]; exact pcc90 b hb
  by_cases h91 : a = 91
  · rw [h91]; exact pcc91 b hb
  by_cases h92 : a = 92
  · rw [h92]; exact pcc92 b hb
  by_cases h93 : a = 93
  · rw [h93]; exact pcc93 b hb
  by_cases h94 : a = 94
  · rw [h94]; exact pcc94 b hb
  by_cases h95 : a = 95
  · rw [h95]; exact pcc95 b hb
  by_cases h96 : a = 96
  · rw [h96]; exact pcc96 b hb
  by_cases h97 : a = 97
  · rw [h97]; exact pcc97 b hb
  by_cases h98 : a = 98
  · rw [h98]; exact pcc98 b hb
  by_cases h99 : a = 99
  · rw [h99]; exact pcc99 b hb
  by_cases h100 : a = 100
  · rw [h100]; exact pcc100 b hb
  by_cases h101 : a = 101
  · rw [h101]; exact pcc101 b hb
  by_cases h102 : a = 102
  · rw [h102]; exact pcc102 b hb
  by_cases h103 : a = 103
  · rw [h103]; exact pcc103 b hb
  by_cases h104 : a = 104
  · rw [h104]; exact pcc104 b hb
  by_cases h105 : a = 105
  · rw [h105]; exact pcc105 b hb
  by_cases h106 : a = 106
  · rw [h106]; exact pcc106 b hb
  by_cases h107 : a = 107
  · rw [h107]; exact pcc107 b hb
  by_cases h108 : a = 108
  · rw [h108]; exact pcc108 b hb
  by_cases h109 : a = 109
  · rw [h109]; exact pcc109 b hb
  by_cases h110 : a = 110
  · rw [h110]; exact pcc110 b hb
  by_cases h111 : a = 111
  · rw [h111]; exact pcc111 b hb
  by_cases h112 : a = 112
  · rw [h112]; exact pcc112 b hb
  by_cases h113 : a = 113
  · rw [h113]; exact pcc113 b hb
  by_cases h114 : a = 114
  · rw [h114]; exact pcc114 b hb
  by_cases h115 : a = 115
  · rw [h115]; exact pcc115 b hb
  by_cases h116 : a = 116
  · rw [h116]; exact pcc116 b hb
  by_cases h117 : a = 117
  · rw [h117]; exact pcc117 b hb
  by_cases h118 : a = 118
  · rw [h118]; exact pcc118 b hb
  by_cases h119 : a = 119
  · rw [h119]; exact pcc119 b hb
  by_cases h120 : a = 120
  · rw [h120]; exact pcc120 b hb
  by_cases h121 : a = 121
  · rw [h121]; exact pcc121 b hb
  by_cases h122 : a = 122
  · rw [h122]; exact pcc122 b hb
  by_cases h123 : a = 123
  · rw [h123]; exact pcc123 b hb
  by_cases h124 : a = 124
  · rw [h124]; exact pcc124 b hb
  by_cases h125 : a = 125
  · rw [h125]; exact pcc125 b hb
  by_cases h126 : a = 126
  · rw [h126]; exact pcc126 b hb
  by_cases h127 : a = 127
  · rw [h127]; exact pcc127 b hb
  omega
theorem bitCount_e {D : Nat} (h : D < 32768) (w : Wd) : J6_bitCount_0f7a4 (nI D) w = nI (pcN 15 D) := by
  have := pc_class (D / 256) (by omega) (D % 256) (by omega)
  rw [show 256 * (D / 256) + D % 256 = D by omega] at this
  exact this
theorem pcN_le : ∀ n x, pcN n x ≤ n
  | 0, _ => Nat.le_refl _
  | n + 1, x => by unfold pcN; have := pcN_le n (x / 2); omega
theorem mbits_e {w : Wd} : ∀ (n D c : Nat), pcN 15 D = n → D < 32768 → lp (X12_bits_b4 w) (nI c, nI D) = some (nI (c + n))
  | 0, D, c, hn, hD => by
    have : D = 0 := by
      by_cases q : D = 0
      · exact q
      · have := pc_bits D q hD
        omega
    subst this
    refine lp_exit ?_
    unfold X12_bits_b4
    simp (disch := omega) only [gdn, gb0, gb1, ixn, nm1, nI_add, nI_mul, nsub, nI_ltI, nI_leI, nI_eq, eqNO, eqNO2, ltNO, NOlt, leNO, NOle, if_pos, if_neg, Option.bind_some, if_true, if_false, and_self, eq_self, l0, l1, l2, l3, l4, l5, l6, l7, l8, l9, l10, l11, l12, l13, l14, l15, l16, l17, l18, l19, l20, l24, l26, l30, l31, l32, l40, l41, l42, l43, l45, l47, l48, l57, l58, l59, l60, l61, l62, l63, l64, l97, l99, l100, l101, l102, l103, l104, l105, l106, l107, l108, l109, l110, l122, l160, l240, l255, l600, l1000, l3000, l10000, l10007, l10116, l67108863, l67108864]
    rfl
  | n + 1, D, c, hn, hD => by
    have h0 : D ≠ 0 := by
      intro z
      rw [z] at hn
      have : pcN 15 0 = 0 := by decide
      omega
    have h1 := pc_bits D h0 hD
    have hle : D &&& (D - 1) ≤ D := Nat.and_le_left
    refine (lp_step (s' := (nI (c + 1), nI (D &&& (D - 1)))) ?_).trans ((mbits_e n (D &&& (D - 1)) (c + 1) (by omega) (by omega)).trans (by rw [show c + 1 + n = c + (n + 1) by omega]))
    unfold X12_bits_b4
    simp (disch := omega) only [gdn, gb0, gb1, ixn, nm1, nI_add, nI_mul, nsub, nI_ltI, nI_leI, nI_eq, eqNO, eqNO2, ltNO, NOlt, leNO, NOle, if_pos, if_neg, Option.bind_some, if_true, if_false, and_self, eq_self, l0, l1, l2, l3, l4, l5, l6, l7, l8, l9, l10, l11, l12, l13, l14, l15, l16, l17, l18, l19, l20, l24, l26, l30, l31, l32, l40, l41, l42, l43, l45, l47, l48, l57, l58, l59, l60, l61, l62, l63, l64, l97, l99, l100, l101, l102, l103, l104, l105, l106, l107, l108, l109, l110, l122, l160, l240, l255, l600, l1000, l3000, l10000, l10007, l10116, l67108863, l67108864, and_e]
theorem mbitc_e {D : Nat} (h : D < 32768) (w : Wd) : X12_bits (nI D) w = some (nI (pcN 15 D)) := by
  unfold X12_bits
  rw [show ((0 : Int32), nI D) = (nI 0, nI D) from rfl, mbits_e _ D 0 rfl h, Nat.zero_add]
  rfl
