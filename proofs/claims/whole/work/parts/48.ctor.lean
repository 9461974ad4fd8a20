theorem kb_11 : (Int8.ofInt (11)).toInt32 = (11 : Int32) := by decide
theorem kb_13 : (Int8.ofInt (13)).toInt32 = (13 : Int32) := by decide
theorem kb_17 : (Int8.ofInt (17)).toInt32 = (17 : Int32) := by decide
theorem kb_26 : (Int8.ofInt (26)).toInt32 = (26 : Int32) := by decide
theorem kb_49 : (Int8.ofInt (49)).toInt32 = (49 : Int32) := by decide
theorem kb_64 : (Int8.ofInt (64)).toInt32 = (64 : Int32) := by decide
theorem kb_81 : (Int8.ofInt (81)).toInt32 = (81 : Int32) := by decide
theorem kb_120 : (Int8.ofInt (120)).toInt32 = (120 : Int32) := by decide
theorem ks_128 : (Int16.ofInt (128)).toInt32 = (128 : Int32) := by decide
theorem ks_240 : (Int16.ofInt (240)).toInt32 = (240 : Int32) := by decide
theorem ks_480 : (Int16.ofInt (480)).toInt32 = (480 : Int32) := by decide
theorem ks_700 : (Int16.ofInt (700)).toInt32 = (700 : Int32) := by decide
theorem ks_1500 : (Int16.ofInt (1500)).toInt32 = (1500 : Int32) := by decide
theorem ks_2048 : (Int16.ofInt (2048)).toInt32 = (2048 : Int32) := by decide
theorem ks_2400 : (Int16.ofInt (2400)).toInt32 = (2400 : Int32) := by decide
theorem ks_3000 : (Int16.ofInt (3000)).toInt32 = (3000 : Int32) := by decide
theorem ks_3721 : (Int16.ofInt (3721)).toInt32 = (3721 : Int32) := by decide
theorem ks_4000 : (Int16.ofInt (4000)).toInt32 = (4000 : Int32) := by decide
theorem ks_4096 : (Int16.ofInt (4096)).toInt32 = (4096 : Int32) := by decide
theorem ks_8192 : (Int16.ofInt (8192)).toInt32 = (8192 : Int32) := by decide
theorem ks_16384 : (Int16.ofInt (16384)).toInt32 = (16384 : Int32) := by decide
theorem cw_RX10_15 : Cond.constant RX10 15 (36000 : Int32) ∈ TG := tg_2 209 rfl rfl
theorem cw_RX12_176 : Cond.constant RX12 176 (32769 : Int32) ∈ TG := tg_6 202 rfl rfl
theorem cw_RX12_177 : Cond.constant RX12 177 (65538 : Int32) ∈ TG := tg_6 203 rfl rfl
theorem cw_RX12_178 : Cond.constant RX12 178 (131076 : Int32) ∈ TG := tg_6 204 rfl rfl
theorem cw_RX12_179 : Cond.constant RX12 179 (262152 : Int32) ∈ TG := tg_6 205 rfl rfl
theorem cw_RX12_180 : Cond.constant RX12 180 (524304 : Int32) ∈ TG := tg_6 206 rfl rfl
theorem cw_RX12_181 : Cond.constant RX12 181 (1048608 : Int32) ∈ TG := tg_6 207 rfl rfl
theorem cw_RX12_182 : Cond.constant RX12 182 (2097216 : Int32) ∈ TG := tg_6 208 rfl rfl
theorem cw_RX12_183 : Cond.constant RX12 183 (4194432 : Int32) ∈ TG := tg_6 209 rfl rfl
theorem cw_RX12_184 : Cond.constant RX12 184 (8388864 : Int32) ∈ TG := tg_6 210 rfl rfl
theorem cw_RX12_185 : Cond.constant RX12 185 (16777728 : Int32) ∈ TG := tg_6 211 rfl rfl
theorem cw_RX12_186 : Cond.constant RX12 186 (33555456 : Int32) ∈ TG := tg_6 212 rfl rfl
theorem fp_RX3_21 : FPk RX3 21 3 3 .int := ⟨RX3, TX3, 4, tyX3, rfl, by decide, layX3, rfl, Or.inl (tg_2 191 rfl rfl), tyX3_ok, nmX3, rfl, by decide +kernel⟩
theorem cd_X8_init : Cond.code yX8_init cX8_init 1 none ∈ TG := tg_1 199 rfl rfl
theorem im_X8_init : Cond.instanceMethod yX8_init ∈ TG := tg_1 198 rfl rfl
theorem cd_X9_init : Cond.code yX9_init cX9_init 1 none ∈ TG := tg_1 35 rfl rfl
theorem im_X9_init : Cond.instanceMethod yX9_init ∈ TG := tg_1 34 rfl rfl
theorem cd_X2_init : Cond.code yX2_init cX2_init 1 none ∈ TG := tg_1 56 rfl rfl
theorem im_X2_init : Cond.instanceMethod yX2_init ∈ TG := tg_1 55 rfl rfl
theorem cd_X4_init : Cond.code yX4_init cX4_init 1 none ∈ TG := tg_1 136 rfl rfl
theorem im_X4_init : Cond.instanceMethod yX4_init ∈ TG := tg_1 135 rfl rfl
theorem cd_X0_init : Cond.code yX0_init cX0_init 2 none ∈ TG := tg_1 192 rfl rfl
theorem im_X0_init : Cond.instanceMethod yX0_init ∈ TG := tg_1 191 rfl rfl
theorem cd_X6_init : Cond.code yX6_init cX6_init 7 none ∈ TG := tg_2 72 rfl rfl
theorem im_X6_init : Cond.instanceMethod yX6_init ∈ TG := tg_2 71 rfl rfl
theorem cd_X3_init : Cond.code yX3_init cX3_init 2 none ∈ TG := tg_2 186 rfl rfl
theorem im_X3_init : Cond.instanceMethod yX3_init ∈ TG := tg_2 185 rfl rfl
theorem cd_X10_init : Cond.code yX10_init cX10_init 5 none ∈ TG := tg_2 207 rfl rfl
theorem im_X10_init : Cond.instanceMethod yX10_init ∈ TG := tg_2 206 rfl rfl
theorem cd_X5_init : Cond.code yX5_init cX5_init 1 none ∈ TG := tg_3 8 rfl rfl
theorem im_X5_init : Cond.instanceMethod yX5_init ∈ TG := tg_3 7 rfl rfl
theorem cd_X7_init : Cond.code yX7_init cX7_init 1 none ∈ TG := tg_3 43 rfl rfl
theorem im_X7_init : Cond.instanceMethod yX7_init ∈ TG := tg_3 42 rfl rfl
theorem cd_X1_init : Cond.code yX1_init cX1_init 3 none ∈ TG := tg_3 76 rfl rfl
theorem im_X1_init : Cond.instanceMethod yX1_init ∈ TG := tg_3 75 rfl rfl
theorem cd_X11_init : Cond.code yX11_init cX11_init 1 none ∈ TG := tg_1 27 rfl rfl
theorem im_X11_init : Cond.instanceMethod yX11_init ∈ TG := tg_1 26 rfl rfl
theorem cd_X12_init : Cond.code yX12_init cX12_init 1 none ∈ TG := tg_6 200 rfl rfl
theorem im_X12_init : Cond.instanceMethod yX12_init ∈ TG := tg_6 199 rfl rfl
theorem ck_RX11_9 : CLk RX11 9 yX9_init cX9_init 1 none 0 := ⟨Or.inl (tg_1 33 rfl rfl), cd_X9_init, ini_RX9, by decide +kernel, by decide +kernel, by decide +kernel⟩
theorem ck_RX11_18 : CLk RX11 18 yX2_init cX2_init 1 none 0 := ⟨Or.inr ⟨"LampYear", tn_1 54 rfl rfl⟩, cd_X2_init, ini_RX2, by decide +kernel, by decide +kernel, by decide +kernel⟩
theorem ck_RX11_25 : CLk RX11 25 yX4_init cX4_init 1 none 0 := ⟨Or.inr ⟨"LampYear", tn_1 134 rfl rfl⟩, cd_X4_init, ini_RX4, by decide +kernel, by decide +kernel, by decide +kernel⟩
theorem ck_RX11_32 : CLk RX11 32 yX0_init cX0_init 2 none 0 := ⟨Or.inl (tg_1 190 rfl rfl), cd_X0_init, ini_RX0, by decide +kernel, by decide +kernel, by decide +kernel⟩
theorem ck_RX11_39 : CLk RX11 39 yX6_init cX6_init 7 none 1 := ⟨Or.inl (tg_2 70 rfl rfl), cd_X6_init, ini_RX6, by decide +kernel, by decide +kernel, by decide +kernel⟩
theorem ck_RX11_48 : CLk RX11 48 yX3_init cX3_init 2 none 0 := ⟨Or.inl (tg_2 184 rfl rfl), cd_X3_init, ini_RX3, by decide +kernel, by decide +kernel, by decide +kernel⟩
theorem ck_RX11_55 : CLk RX11 55 yX10_init cX10_init 5 none 4 := ⟨Or.inl (tg_2 205 rfl rfl), cd_X10_init, ini_RX10, by decide +kernel, by decide +kernel, by decide +kernel⟩
theorem ck_RX11_64 : CLk RX11 64 yX5_init cX5_init 1 none 0 := ⟨Or.inr ⟨"LampYear", tn_3 6 rfl rfl⟩, cd_X5_init, ini_RX5, by decide +kernel, by decide +kernel, by decide +kernel⟩
theorem ck_RX11_71 : CLk RX11 71 yX7_init cX7_init 1 none 0 := ⟨Or.inr ⟨"LampYear", tn_3 41 rfl rfl⟩, cd_X7_init, ini_RX7, by decide +kernel, by decide +kernel, by decide +kernel⟩
theorem ck_RX11_78 : CLk RX11 78 yX1_init cX1_init 3 none 0 := ⟨Or.inl (tg_3 74 rfl rfl), cd_X1_init, ini_RX1, by decide +kernel, by decide +kernel, by decide +kernel⟩
theorem ck_RX0_58 : CLk RX0 58 yX8_init cX8_init 1 none 0 := ⟨Or.inr ⟨"LampYear", tn_1 197 rfl rfl⟩, cd_X8_init, ini_RX8, by decide +kernel, by decide +kernel, by decide +kernel⟩
theorem ck_RX6_38 : CLk RX6 38 yJ0_length_8abf5 cJ0_length_8abf5 1 (some .int) 0 := ⟨Or.inl (tg_2 75 rfl rfl), cd_J0_length_8abf5, ini_RJ0, by decide +kernel, by decide +kernel, by decide +kernel⟩
theorem ck_RX6_44 : CLk RX6 44 yJ0_charAt_5068e cJ0_charAt_5068e 2 (some .char) 1 := ⟨Or.inl (tg_2 85 rfl rfl), cd_J0_charAt_5068e, ini_RJ0, by decide +kernel, by decide +kernel, by decide +kernel⟩
theorem ck_RX9_22 : CLk RX9 22 yJ7_fill_53178 cJ7_fill_53178 4 none 2 := ⟨Or.inl (tg_1 37 rfl rfl), cd_J7_fill_53178, ini_RJ7, by decide +kernel, by decide +kernel, by decide +kernel⟩
theorem ck_RL_9 : CLk RL 9 yX11_init cX11_init 1 none 0 := ⟨Or.inl (tg_1 25 rfl rfl), cd_X11_init, ini_RX11, by decide +kernel, by decide +kernel, by decide +kernel⟩
theorem ck_RL_12 : CLk RL 12 yX12_init cX12_init 1 none 0 := ⟨Or.inl (tg_6 198 rfl rfl), cd_X12_init, ini_RX12, by decide +kernel, by decide +kernel, by decide +kernel⟩
theorem fr_RX11_10 : FRk RX11 10 11 0 (.object "LampYear$Trays") := ⟨TX11, 11, tyX11, rfl, by decide, layX11, rfl, tg_3 82 rfl rfl, tyX11_ok, nmX11, rfl, by decide +kernel⟩
theorem fr_RX11_19 : FRk RX11 19 11 1 (.object "LampYear$Land") := ⟨TX11, 11, tyX11, rfl, by decide, layX11, rfl, tg_3 83 rfl rfl, tyX11_ok, nmX11, rfl, by decide +kernel⟩
theorem fr_RX11_26 : FRk RX11 26 11 2 (.object "LampYear$Notes") := ⟨TX11, 11, tyX11, rfl, by decide, layX11, rfl, tg_3 84 rfl rfl, tyX11_ok, nmX11, rfl, by decide +kernel⟩
theorem fr_RX11_33 : FRk RX11 33 11 3 (.object "LampYear$Book") := ⟨TX11, 11, tyX11, rfl, by decide, layX11, rfl, tg_3 85 rfl rfl, tyX11_ok, nmX11, rfl, by decide +kernel⟩
theorem fr_RX11_42 : FRk RX11 42 11 4 (.object "LampYear$Reader") := ⟨TX11, 11, tyX11, rfl, by decide, layX11, rfl, tg_3 86 rfl rfl, tyX11_ok, nmX11, rfl, by decide +kernel⟩
theorem fr_RX11_49 : FRk RX11 49 11 5 (.object "LampYear$Lessons") := ⟨TX11, 11, tyX11, rfl, by decide, layX11, rfl, tg_3 87 rfl rfl, tyX11_ok, nmX11, rfl, by decide +kernel⟩
theorem fr_RX11_58 : FRk RX11 58 11 6 (.object "LampYear$Year") := ⟨TX11, 11, tyX11, rfl, by decide, layX11, rfl, tg_3 88 rfl rfl, tyX11_ok, nmX11, rfl, by decide +kernel⟩
theorem fr_RX11_65 : FRk RX11 65 11 7 (.object "LampYear$Proofs") := ⟨TX11, 11, tyX11, rfl, by decide, layX11, rfl, tg_3 89 rfl rfl, tyX11_ok, nmX11, rfl, by decide +kernel⟩
theorem fr_RX11_72 : FRk RX11 72 11 8 (.object "LampYear$Sending") := ⟨TX11, 11, tyX11, rfl, by decide, layX11, rfl, tg_3 90 rfl rfl, tyX11_ok, nmX11, rfl, by decide +kernel⟩
theorem fr_RX11_79 : FRk RX11 79 11 9 (.object "LampYear$Draws") := ⟨TX11, 11, tyX11, rfl, by decide, layX11, rfl, tg_3 91 rfl rfl, tyX11_ok, nmX11, rfl, by decide +kernel⟩
theorem fr_RX0_11 : FRk RX0 11 0 1 (.array .int) := ⟨TX0, 18, tyX0, rfl, by decide, layX0, rfl, tg_2 5 rfl rfl, tyX0_ok, nmX0, rfl, by decide +kernel⟩
theorem fr_RX0_15 : FRk RX0 15 0 2 (.array .int) := ⟨TX0, 18, tyX0, rfl, by decide, layX0, rfl, tg_2 6 rfl rfl, tyX0_ok, nmX0, rfl, by decide +kernel⟩
theorem fr_RX0_18 : FRk RX0 18 0 3 (.array .int) := ⟨TX0, 18, tyX0, rfl, by decide, layX0, rfl, tg_2 7 rfl rfl, tyX0_ok, nmX0, rfl, by decide +kernel⟩
theorem fr_RX0_21 : FRk RX0 21 0 4 (.array .int) := ⟨TX0, 18, tyX0, rfl, by decide, layX0, rfl, tg_2 9 rfl rfl, tyX0_ok, nmX0, rfl, by decide +kernel⟩
theorem fr_RX0_24 : FRk RX0 24 0 5 (.array .long) := ⟨TX0, 18, tyX0, rfl, by decide, layX0, rfl, tg_2 11 rfl rfl, tyX0_ok, nmX0, rfl, by decide +kernel⟩
theorem fr_RX0_28 : FRk RX0 28 0 6 (.array .long) := ⟨TX0, 18, tyX0, rfl, by decide, layX0, rfl, tg_2 13 rfl rfl, tyX0_ok, nmX0, rfl, by decide +kernel⟩
theorem fr_RX0_31 : FRk RX0 31 0 7 (.array .int) := ⟨TX0, 18, tyX0, rfl, by decide, layX0, rfl, tg_2 15 rfl rfl, tyX0_ok, nmX0, rfl, by decide +kernel⟩
theorem fr_RX0_34 : FRk RX0 34 0 8 (.array .int) := ⟨TX0, 18, tyX0, rfl, by decide, layX0, rfl, tg_2 17 rfl rfl, tyX0_ok, nmX0, rfl, by decide +kernel⟩
theorem fr_RX0_37 : FRk RX0 37 0 9 (.array .int) := ⟨TX0, 18, tyX0, rfl, by decide, layX0, rfl, tg_2 19 rfl rfl, tyX0_ok, nmX0, rfl, by decide +kernel⟩
theorem fr_RX0_40 : FRk RX0 40 0 10 (.array .int) := ⟨TX0, 18, tyX0, rfl, by decide, layX0, rfl, tg_2 21 rfl rfl, tyX0_ok, nmX0, rfl, by decide +kernel⟩
theorem fr_RX0_43 : FRk RX0 43 0 11 (.array .int) := ⟨TX0, 18, tyX0, rfl, by decide, layX0, rfl, tg_2 23 rfl rfl, tyX0_ok, nmX0, rfl, by decide +kernel⟩
theorem fr_RX0_46 : FRk RX0 46 0 12 (.array .int) := ⟨TX0, 18, tyX0, rfl, by decide, layX0, rfl, tg_2 25 rfl rfl, tyX0_ok, nmX0, rfl, by decide +kernel⟩
theorem fr_RX0_51 : FRk RX0 51 0 16 (.array (.object "LampYear$Standing")) := ⟨TX0, 18, tyX0, rfl, by decide, layX0, rfl, tg_2 29 rfl rfl, tyX0_ok, nmX0, rfl, by decide +kernel⟩
theorem fr_RX0_55 : FRk RX0 55 0 17 (.array .long) := ⟨TX0, 18, tyX0, rfl, by decide, layX0, rfl, tg_2 30 rfl rfl, tyX0_ok, nmX0, rfl, by decide +kernel⟩
theorem fr_RX1_11 : FRk RX1 11 1 0 (.array .long) := ⟨TX1, 1, tyX1, rfl, by decide, layX1, rfl, tg_3 78 rfl rfl, tyX1_ok, nmX1, rfl, by decide +kernel⟩
theorem fr_RX2_9 : FRk RX2 9 2 1 (.array .int) := ⟨TX2, 18, tyX2, rfl, by decide, layX2, rfl, tg_1 60 rfl rfl, tyX2_ok, nmX2, rfl, by decide +kernel⟩
theorem fr_RX2_15 : FRk RX2 15 2 3 (.array .int) := ⟨TX2, 18, tyX2, rfl, by decide, layX2, rfl, tg_1 65 rfl rfl, tyX2_ok, nmX2, rfl, by decide +kernel⟩
theorem fr_RX2_18 : FRk RX2 18 2 4 (.array .int) := ⟨TX2, 18, tyX2, rfl, by decide, layX2, rfl, tg_1 66 rfl rfl, tyX2_ok, nmX2, rfl, by decide +kernel⟩
theorem fr_RX2_21 : FRk RX2 21 2 5 (.array .int) := ⟨TX2, 18, tyX2, rfl, by decide, layX2, rfl, tg_1 67 rfl rfl, tyX2_ok, nmX2, rfl, by decide +kernel⟩
theorem fr_RX2_24 : FRk RX2 24 2 6 (.array .int) := ⟨TX2, 18, tyX2, rfl, by decide, layX2, rfl, tg_1 68 rfl rfl, tyX2_ok, nmX2, rfl, by decide +kernel⟩
theorem fr_RX2_27 : FRk RX2 27 2 7 (.array .int) := ⟨TX2, 18, tyX2, rfl, by decide, layX2, rfl, tg_1 69 rfl rfl, tyX2_ok, nmX2, rfl, by decide +kernel⟩
theorem fr_RX2_30 : FRk RX2 30 2 9 (.array .int) := ⟨TX2, 18, tyX2, rfl, by decide, layX2, rfl, tg_1 74 rfl rfl, tyX2_ok, nmX2, rfl, by decide +kernel⟩
theorem fr_RX2_33 : FRk RX2 33 2 10 (.array .int) := ⟨TX2, 18, tyX2, rfl, by decide, layX2, rfl, tg_1 76 rfl rfl, tyX2_ok, nmX2, rfl, by decide +kernel⟩
theorem fr_RX2_36 : FRk RX2 36 2 11 (.array .int) := ⟨TX2, 18, tyX2, rfl, by decide, layX2, rfl, tg_1 78 rfl rfl, tyX2_ok, nmX2, rfl, by decide +kernel⟩
theorem fr_RX2_39 : FRk RX2 39 2 13 (.array .int) := ⟨TX2, 18, tyX2, rfl, by decide, layX2, rfl, tg_1 83 rfl rfl, tyX2_ok, nmX2, rfl, by decide +kernel⟩
theorem fr_RX2_42 : FRk RX2 42 2 14 (.array .int) := ⟨TX2, 18, tyX2, rfl, by decide, layX2, rfl, tg_1 86 rfl rfl, tyX2_ok, nmX2, rfl, by decide +kernel⟩
theorem fr_RX2_45 : FRk RX2 45 2 16 (.array .int) := ⟨TX2, 18, tyX2, rfl, by decide, layX2, rfl, tg_1 90 rfl rfl, tyX2_ok, nmX2, rfl, by decide +kernel⟩
theorem fr_RX2_48 : FRk RX2 48 2 17 (.array .int) := ⟨TX2, 18, tyX2, rfl, by decide, layX2, rfl, tg_1 94 rfl rfl, tyX2_ok, nmX2, rfl, by decide +kernel⟩
theorem fr_RX3_9 : FRk RX3 9 3 0 (.array .int) := ⟨TX3, 4, tyX3, rfl, by decide, layX3, rfl, tg_2 188 rfl rfl, tyX3_ok, nmX3, rfl, by decide +kernel⟩
theorem fr_RX3_15 : FRk RX3 15 3 1 (.array .int) := ⟨TX3, 4, tyX3, rfl, by decide, layX3, rfl, tg_2 189 rfl rfl, tyX3_ok, nmX3, rfl, by decide +kernel⟩
theorem fr_RX3_18 : FRk RX3 18 3 2 (.array .int) := ⟨TX3, 4, tyX3, rfl, by decide, layX3, rfl, tg_2 190 rfl rfl, tyX3_ok, nmX3, rfl, by decide +kernel⟩
theorem fr_RX4_9 : FRk RX4 9 4 1 (.array .int) := ⟨TX4, 13, tyX4, rfl, by decide, layX4, rfl, tg_1 140 rfl rfl, tyX4_ok, nmX4, rfl, by decide +kernel⟩
theorem fr_RX4_15 : FRk RX4 15 4 2 (.array .int) := ⟨TX4, 13, tyX4, rfl, by decide, layX4, rfl, tg_1 141 rfl rfl, tyX4_ok, nmX4, rfl, by decide +kernel⟩
theorem fr_RX4_18 : FRk RX4 18 4 3 (.array .int) := ⟨TX4, 13, tyX4, rfl, by decide, layX4, rfl, tg_1 142 rfl rfl, tyX4_ok, nmX4, rfl, by decide +kernel⟩
theorem fr_RX4_21 : FRk RX4 21 4 4 (.array .int) := ⟨TX4, 13, tyX4, rfl, by decide, layX4, rfl, tg_1 143 rfl rfl, tyX4_ok, nmX4, rfl, by decide +kernel⟩
theorem fr_RX4_24 : FRk RX4 24 4 5 (.array .int) := ⟨TX4, 13, tyX4, rfl, by decide, layX4, rfl, tg_1 144 rfl rfl, tyX4_ok, nmX4, rfl, by decide +kernel⟩
theorem fr_RX4_27 : FRk RX4 27 4 6 (.array .int) := ⟨TX4, 13, tyX4, rfl, by decide, layX4, rfl, tg_1 145 rfl rfl, tyX4_ok, nmX4, rfl, by decide +kernel⟩
theorem fr_RX4_37 : FRk RX4 37 4 9 (.array .int) := ⟨TX4, 13, tyX4, rfl, by decide, layX4, rfl, tg_1 149 rfl rfl, tyX4_ok, nmX4, rfl, by decide +kernel⟩
theorem fr_RX4_40 : FRk RX4 40 4 10 (.array .int) := ⟨TX4, 13, tyX4, rfl, by decide, layX4, rfl, tg_1 151 rfl rfl, tyX4_ok, nmX4, rfl, by decide +kernel⟩
theorem fr_RX4_43 : FRk RX4 43 4 11 (.array .int) := ⟨TX4, 13, tyX4, rfl, by decide, layX4, rfl, tg_1 155 rfl rfl, tyX4_ok, nmX4, rfl, by decide +kernel⟩
theorem fr_RX4_46 : FRk RX4 46 4 12 (.array .int) := ⟨TX4, 13, tyX4, rfl, by decide, layX4, rfl, tg_1 158 rfl rfl, tyX4_ok, nmX4, rfl, by decide +kernel⟩
theorem fr_RX5_11 : FRk RX5 11 5 1 (.array .int) := ⟨TX5, 8, tyX5, rfl, by decide, layX5, rfl, tg_3 12 rfl rfl, tyX5_ok, nmX5, rfl, by decide +kernel⟩
theorem fr_RX5_15 : FRk RX5 15 5 2 (.array .int) := ⟨TX5, 8, tyX5, rfl, by decide, layX5, rfl, tg_3 14 rfl rfl, tyX5_ok, nmX5, rfl, by decide +kernel⟩
theorem fr_RX5_18 : FRk RX5 18 5 3 (.array .int) := ⟨TX5, 8, tyX5, rfl, by decide, layX5, rfl, tg_3 16 rfl rfl, tyX5_ok, nmX5, rfl, by decide +kernel⟩
theorem fr_RX5_21 : FRk RX5 21 5 4 (.array .byte) := ⟨TX5, 8, tyX5, rfl, by decide, layX5, rfl, tg_3 18 rfl rfl, tyX5_ok, nmX5, rfl, by decide +kernel⟩
theorem fr_RX5_25 : FRk RX5 25 5 5 (.array .int) := ⟨TX5, 8, tyX5, rfl, by decide, layX5, rfl, tg_3 19 rfl rfl, tyX5_ok, nmX5, rfl, by decide +kernel⟩
theorem fr_RX5_28 : FRk RX5 28 5 6 (.array .int) := ⟨TX5, 8, tyX5, rfl, by decide, layX5, rfl, tg_3 20 rfl rfl, tyX5_ok, nmX5, rfl, by decide +kernel⟩
theorem fr_RX5_31 : FRk RX5 31 5 7 (.array .int) := ⟨TX5, 8, tyX5, rfl, by decide, layX5, rfl, tg_3 21 rfl rfl, tyX5_ok, nmX5, rfl, by decide +kernel⟩
theorem fr_RX6_9 : FRk RX6 9 6 1 (.array .byte) := ⟨TX6, 17, tyX6, rfl, by decide, layX6, rfl, tg_2 127 rfl rfl, tyX6_ok, nmX6, rfl, by decide +kernel⟩
theorem fr_RX6_17 : FRk RX6 17 6 3 (.array .long) := ⟨TX6, 17, tyX6, rfl, by decide, layX6, rfl, tg_2 130 rfl rfl, tyX6_ok, nmX6, rfl, by decide +kernel⟩
theorem fr_RX6_28 : FRk RX6 28 6 15 (.array .int) := ⟨TX6, 17, tyX6, rfl, by decide, layX6, rfl, tg_2 144 rfl rfl, tyX6_ok, nmX6, rfl, by decide +kernel⟩
theorem fr_RX6_32 : FRk RX6 32 6 0 (.object "LampYear$Book") := ⟨TX6, 17, tyX6, rfl, by decide, layX6, rfl, tg_2 126 rfl rfl, tyX6_ok, nmX6, rfl, by decide +kernel⟩
theorem fr_RX7_9 : FRk RX7 9 7 1 (.array .int) := ⟨TX7, 8, tyX7, rfl, by decide, layX7, rfl, tg_3 46 rfl rfl, tyX7_ok, nmX7, rfl, by decide +kernel⟩
theorem fr_RX7_15 : FRk RX7 15 7 2 (.array .int) := ⟨TX7, 8, tyX7, rfl, by decide, layX7, rfl, tg_3 47 rfl rfl, tyX7_ok, nmX7, rfl, by decide +kernel⟩
theorem fr_RX7_18 : FRk RX7 18 7 3 (.array .int) := ⟨TX7, 8, tyX7, rfl, by decide, layX7, rfl, tg_3 48 rfl rfl, tyX7_ok, nmX7, rfl, by decide +kernel⟩
theorem fr_RX7_21 : FRk RX7 21 7 4 (.array .int) := ⟨TX7, 8, tyX7, rfl, by decide, layX7, rfl, tg_3 49 rfl rfl, tyX7_ok, nmX7, rfl, by decide +kernel⟩
theorem fr_RX7_24 : FRk RX7 24 7 5 (.array .int) := ⟨TX7, 8, tyX7, rfl, by decide, layX7, rfl, tg_3 50 rfl rfl, tyX7_ok, nmX7, rfl, by decide +kernel⟩
theorem fr_RX7_27 : FRk RX7 27 7 7 (.array .int) := ⟨TX7, 8, tyX7, rfl, by decide, layX7, rfl, tg_3 53 rfl rfl, tyX7_ok, nmX7, rfl, by decide +kernel⟩
theorem fr_RX8_15 : FRk RX8 15 8 2 (.array .int) := ⟨TX8, 11, tyX8, rfl, by decide, layX8, rfl, tg_1 204 rfl rfl, tyX8_ok, nmX8, rfl, by decide +kernel⟩
theorem fr_RX8_19 : FRk RX8 19 8 3 (.array .boolean) := ⟨TX8, 11, tyX8, rfl, by decide, layX8, rfl, tg_1 205 rfl rfl, tyX8_ok, nmX8, rfl, by decide +kernel⟩
theorem fr_RX8_23 : FRk RX8 23 8 5 (.array .int) := ⟨TX8, 11, tyX8, rfl, by decide, layX8, rfl, tg_1 208 rfl rfl, tyX8_ok, nmX8, rfl, by decide +kernel⟩
theorem fr_RX8_26 : FRk RX8 26 8 7 (.array .int) := ⟨TX8, 11, tyX8, rfl, by decide, layX8, rfl, tg_1 210 rfl rfl, tyX8_ok, nmX8, rfl, by decide +kernel⟩
theorem fr_RX9_11 : FRk RX9 11 9 0 (.array .long) := ⟨TX9, 3, tyX9, rfl, by decide, layX9, rfl, tg_1 40 rfl rfl, tyX9_ok, nmX9, rfl, by decide +kernel⟩
theorem fr_RX9_15 : FRk RX9 15 9 1 (.array .int) := ⟨TX9, 3, tyX9, rfl, by decide, layX9, rfl, tg_1 41 rfl rfl, tyX9_ok, nmX9, rfl, by decide +kernel⟩
theorem fr_RX9_19 : FRk RX9 19 9 2 (.array .int) := ⟨TX9, 3, tyX9, rfl, by decide, layX9, rfl, tg_1 42 rfl rfl, tyX9_ok, nmX9, rfl, by decide +kernel⟩
theorem fr_RX10_9 : FRk RX10 9 10 5 (.array .byte) := ⟨TX10, 11, tyX10, rfl, by decide, layX10, rfl, tg_2 215 rfl rfl, tyX10_ok, nmX10, rfl, by decide +kernel⟩
theorem fr_RX10_16 : FRk RX10 16 10 6 (.array .byte) := ⟨TX10, 11, tyX10, rfl, by decide, layX10, rfl, tg_2 216 rfl rfl, tyX10_ok, nmX10, rfl, by decide +kernel⟩
theorem fr_RX10_19 : FRk RX10 19 10 7 (.array .byte) := ⟨TX10, 11, tyX10, rfl, by decide, layX10, rfl, tg_2 217 rfl rfl, tyX10_ok, nmX10, rfl, by decide +kernel⟩
theorem fr_RX10_24 : FRk RX10 24 10 8 (.array .long) := ⟨TX10, 11, tyX10, rfl, by decide, layX10, rfl, tg_2 218 rfl rfl, tyX10_ok, nmX10, rfl, by decide +kernel⟩
theorem fr_RX10_28 : FRk RX10 28 10 9 (.array .int) := ⟨TX10, 11, tyX10, rfl, by decide, layX10, rfl, tg_2 219 rfl rfl, tyX10_ok, nmX10, rfl, by decide +kernel⟩
theorem fr_RX10_32 : FRk RX10 32 10 10 (.array .byte) := ⟨TX10, 11, tyX10, rfl, by decide, layX10, rfl, tg_2 220 rfl rfl, tyX10_ok, nmX10, rfl, by decide +kernel⟩
theorem fr_RX10_35 : FRk RX10 35 10 0 (.object "LampYear$Land") := ⟨TX10, 11, tyX10, rfl, by decide, layX10, rfl, tg_2 210 rfl rfl, tyX10_ok, nmX10, rfl, by decide +kernel⟩
theorem fr_RX10_39 : FRk RX10 39 10 1 (.object "LampYear$Notes") := ⟨TX10, 11, tyX10, rfl, by decide, layX10, rfl, tg_2 211 rfl rfl, tyX10_ok, nmX10, rfl, by decide +kernel⟩
theorem fr_RX10_43 : FRk RX10 43 10 2 (.object "LampYear$Book") := ⟨TX10, 11, tyX10, rfl, by decide, layX10, rfl, tg_2 212 rfl rfl, tyX10_ok, nmX10, rfl, by decide +kernel⟩
theorem fr_RX10_47 : FRk RX10 47 10 3 (.object "LampYear$Lessons") := ⟨TX10, 11, tyX10, rfl, by decide, layX10, rfl, tg_2 213 rfl rfl, tyX10_ok, nmX10, rfl, by decide +kernel⟩
theorem fr_RX12_7 : FRk RX12 7 12 1 (.array .int) := ⟨TX12, 108, tyX12, rfl, by decide, layX12, rfl, tg_6 214 rfl rfl, tyX12_ok, nmX12, rfl, by decide +kernel⟩
theorem fr_RX12_13 : FRk RX12 13 12 2 (.array .int) := ⟨TX12, 108, tyX12, rfl, by decide, layX12, rfl, tg_6 215 rfl rfl, tyX12_ok, nmX12, rfl, by decide +kernel⟩
theorem fr_RX12_16 : FRk RX12 16 12 3 (.array .long) := ⟨TX12, 108, tyX12, rfl, by decide, layX12, rfl, tg_6 216 rfl rfl, tyX12_ok, nmX12, rfl, by decide +kernel⟩
theorem fr_RX12_24 : FRk RX12 24 12 12 (.array .int) := ⟨TX12, 108, tyX12, rfl, by decide, layX12, rfl, tg_6 225 rfl rfl, tyX12_ok, nmX12, rfl, by decide +kernel⟩
theorem fr_RX12_27 : FRk RX12 27 12 13 (.array .int) := ⟨TX12, 108, tyX12, rfl, by decide, layX12, rfl, tg_6 226 rfl rfl, tyX12_ok, nmX12, rfl, by decide +kernel⟩
theorem fr_RX12_30 : FRk RX12 30 12 14 (.array .int) := ⟨TX12, 108, tyX12, rfl, by decide, layX12, rfl, tg_6 227 rfl rfl, tyX12_ok, nmX12, rfl, by decide +kernel⟩
theorem fr_RX12_33 : FRk RX12 33 12 15 (.array .int) := ⟨TX12, 108, tyX12, rfl, by decide, layX12, rfl, tg_6 228 rfl rfl, tyX12_ok, nmX12, rfl, by decide +kernel⟩
theorem fr_RX12_36 : FRk RX12 36 12 16 (.array .int) := ⟨TX12, 108, tyX12, rfl, by decide, layX12, rfl, tg_6 229 rfl rfl, tyX12_ok, nmX12, rfl, by decide +kernel⟩
theorem fr_RX12_39 : FRk RX12 39 12 17 (.array .int) := ⟨TX12, 108, tyX12, rfl, by decide, layX12, rfl, tg_6 230 rfl rfl, tyX12_ok, nmX12, rfl, by decide +kernel⟩
theorem fr_RX12_42 : FRk RX12 42 12 18 (.array .int) := ⟨TX12, 108, tyX12, rfl, by decide, layX12, rfl, tg_6 231 rfl rfl, tyX12_ok, nmX12, rfl, by decide +kernel⟩
theorem fr_RX12_45 : FRk RX12 45 12 19 (.array .int) := ⟨TX12, 108, tyX12, rfl, by decide, layX12, rfl, tg_6 232 rfl rfl, tyX12_ok, nmX12, rfl, by decide +kernel⟩
theorem fr_RX12_48 : FRk RX12 48 12 20 (.array .int) := ⟨TX12, 108, tyX12, rfl, by decide, layX12, rfl, tg_6 233 rfl rfl, tyX12_ok, nmX12, rfl, by decide +kernel⟩
theorem fr_RX12_51 : FRk RX12 51 12 21 (.array .int) := ⟨TX12, 108, tyX12, rfl, by decide, layX12, rfl, tg_6 234 rfl rfl, tyX12_ok, nmX12, rfl, by decide +kernel⟩
theorem fr_RX12_54 : FRk RX12 54 12 22 (.array .int) := ⟨TX12, 108, tyX12, rfl, by decide, layX12, rfl, tg_6 235 rfl rfl, tyX12_ok, nmX12, rfl, by decide +kernel⟩
theorem fr_RX12_57 : FRk RX12 57 12 23 (.array .int) := ⟨TX12, 108, tyX12, rfl, by decide, layX12, rfl, tg_6 236 rfl rfl, tyX12_ok, nmX12, rfl, by decide +kernel⟩
theorem fr_RX12_60 : FRk RX12 60 12 24 (.array .int) := ⟨TX12, 108, tyX12, rfl, by decide, layX12, rfl, tg_6 237 rfl rfl, tyX12_ok, nmX12, rfl, by decide +kernel⟩
theorem fr_RX12_63 : FRk RX12 63 12 25 (.array .int) := ⟨TX12, 108, tyX12, rfl, by decide, layX12, rfl, tg_6 238 rfl rfl, tyX12_ok, nmX12, rfl, by decide +kernel⟩
theorem fr_RX12_66 : FRk RX12 66 12 26 (.array .int) := ⟨TX12, 108, tyX12, rfl, by decide, layX12, rfl, tg_6 239 rfl rfl, tyX12_ok, nmX12, rfl, by decide +kernel⟩
theorem fr_RX12_69 : FRk RX12 69 12 27 (.array .int) := ⟨TX12, 108, tyX12, rfl, by decide, layX12, rfl, tg_7 0 rfl rfl, tyX12_ok, nmX12, rfl, by decide +kernel⟩
theorem fr_RX12_72 : FRk RX12 72 12 28 (.array .int) := ⟨TX12, 108, tyX12, rfl, by decide, layX12, rfl, tg_7 1 rfl rfl, tyX12_ok, nmX12, rfl, by decide +kernel⟩
theorem fr_RX12_75 : FRk RX12 75 12 29 (.array .int) := ⟨TX12, 108, tyX12, rfl, by decide, layX12, rfl, tg_7 2 rfl rfl, tyX12_ok, nmX12, rfl, by decide +kernel⟩
theorem fr_RX12_78 : FRk RX12 78 12 30 (.array .int) := ⟨TX12, 108, tyX12, rfl, by decide, layX12, rfl, tg_7 3 rfl rfl, tyX12_ok, nmX12, rfl, by decide +kernel⟩
theorem fr_RX12_81 : FRk RX12 81 12 31 (.array .byte) := ⟨TX12, 108, tyX12, rfl, by decide, layX12, rfl, tg_7 4 rfl rfl, tyX12_ok, nmX12, rfl, by decide +kernel⟩
theorem fr_RX12_85 : FRk RX12 85 12 32 (.array .byte) := ⟨TX12, 108, tyX12, rfl, by decide, layX12, rfl, tg_7 5 rfl rfl, tyX12_ok, nmX12, rfl, by decide +kernel⟩
theorem fr_RX12_94 : FRk RX12 94 12 45 (.array .int) := ⟨TX12, 108, tyX12, rfl, by decide, layX12, rfl, tg_7 18 rfl rfl, tyX12_ok, nmX12, rfl, by decide +kernel⟩
theorem fr_RX12_97 : FRk RX12 97 12 46 (.array .int) := ⟨TX12, 108, tyX12, rfl, by decide, layX12, rfl, tg_7 19 rfl rfl, tyX12_ok, nmX12, rfl, by decide +kernel⟩
theorem fr_RX12_100 : FRk RX12 100 12 47 (.array .int) := ⟨TX12, 108, tyX12, rfl, by decide, layX12, rfl, tg_7 20 rfl rfl, tyX12_ok, nmX12, rfl, by decide +kernel⟩
theorem fr_RX12_103 : FRk RX12 103 12 48 (.array .int) := ⟨TX12, 108, tyX12, rfl, by decide, layX12, rfl, tg_7 21 rfl rfl, tyX12_ok, nmX12, rfl, by decide +kernel⟩
theorem fr_RX12_106 : FRk RX12 106 12 49 (.array .int) := ⟨TX12, 108, tyX12, rfl, by decide, layX12, rfl, tg_7 22 rfl rfl, tyX12_ok, nmX12, rfl, by decide +kernel⟩
theorem fr_RX12_109 : FRk RX12 109 12 50 (.array .int) := ⟨TX12, 108, tyX12, rfl, by decide, layX12, rfl, tg_7 23 rfl rfl, tyX12_ok, nmX12, rfl, by decide +kernel⟩
theorem fr_RX12_112 : FRk RX12 112 12 51 (.array .int) := ⟨TX12, 108, tyX12, rfl, by decide, layX12, rfl, tg_7 24 rfl rfl, tyX12_ok, nmX12, rfl, by decide +kernel⟩
theorem fr_RX12_115 : FRk RX12 115 12 52 (.array .int) := ⟨TX12, 108, tyX12, rfl, by decide, layX12, rfl, tg_7 25 rfl rfl, tyX12_ok, nmX12, rfl, by decide +kernel⟩
theorem fr_RX12_118 : FRk RX12 118 12 53 (.array .int) := ⟨TX12, 108, tyX12, rfl, by decide, layX12, rfl, tg_7 26 rfl rfl, tyX12_ok, nmX12, rfl, by decide +kernel⟩
theorem fr_RX12_121 : FRk RX12 121 12 54 (.array .int) := ⟨TX12, 108, tyX12, rfl, by decide, layX12, rfl, tg_7 27 rfl rfl, tyX12_ok, nmX12, rfl, by decide +kernel⟩
theorem fr_RX12_124 : FRk RX12 124 12 55 (.array .long) := ⟨TX12, 108, tyX12, rfl, by decide, layX12, rfl, tg_7 28 rfl rfl, tyX12_ok, nmX12, rfl, by decide +kernel⟩
theorem fr_RX12_127 : FRk RX12 127 12 56 (.array .long) := ⟨TX12, 108, tyX12, rfl, by decide, layX12, rfl, tg_7 29 rfl rfl, tyX12_ok, nmX12, rfl, by decide +kernel⟩
theorem fr_RX12_130 : FRk RX12 130 12 57 (.array .int) := ⟨TX12, 108, tyX12, rfl, by decide, layX12, rfl, tg_7 30 rfl rfl, tyX12_ok, nmX12, rfl, by decide +kernel⟩
theorem fr_RX12_133 : FRk RX12 133 12 58 (.array .int) := ⟨TX12, 108, tyX12, rfl, by decide, layX12, rfl, tg_7 31 rfl rfl, tyX12_ok, nmX12, rfl, by decide +kernel⟩
theorem fr_RX12_136 : FRk RX12 136 12 59 (.array .int) := ⟨TX12, 108, tyX12, rfl, by decide, layX12, rfl, tg_7 32 rfl rfl, tyX12_ok, nmX12, rfl, by decide +kernel⟩
theorem fr_RX12_139 : FRk RX12 139 12 60 (.array .int) := ⟨TX12, 108, tyX12, rfl, by decide, layX12, rfl, tg_7 33 rfl rfl, tyX12_ok, nmX12, rfl, by decide +kernel⟩
theorem fr_RX12_142 : FRk RX12 142 12 61 (.array .boolean) := ⟨TX12, 108, tyX12, rfl, by decide, layX12, rfl, tg_7 34 rfl rfl, tyX12_ok, nmX12, rfl, by decide +kernel⟩
theorem fr_RX12_146 : FRk RX12 146 12 62 (.array .boolean) := ⟨TX12, 108, tyX12, rfl, by decide, layX12, rfl, tg_7 35 rfl rfl, tyX12_ok, nmX12, rfl, by decide +kernel⟩
theorem fr_RX12_149 : FRk RX12 149 12 63 (.array .int) := ⟨TX12, 108, tyX12, rfl, by decide, layX12, rfl, tg_7 36 rfl rfl, tyX12_ok, nmX12, rfl, by decide +kernel⟩
theorem fr_RX12_152 : FRk RX12 152 12 64 (.array .int) := ⟨TX12, 108, tyX12, rfl, by decide, layX12, rfl, tg_7 37 rfl rfl, tyX12_ok, nmX12, rfl, by decide +kernel⟩
theorem fr_RX12_155 : FRk RX12 155 12 65 (.array .int) := ⟨TX12, 108, tyX12, rfl, by decide, layX12, rfl, tg_7 38 rfl rfl, tyX12_ok, nmX12, rfl, by decide +kernel⟩
theorem fr_RX12_158 : FRk RX12 158 12 66 (.array .int) := ⟨TX12, 108, tyX12, rfl, by decide, layX12, rfl, tg_7 39 rfl rfl, tyX12_ok, nmX12, rfl, by decide +kernel⟩
theorem fr_RX12_161 : FRk RX12 161 12 67 (.array .int) := ⟨TX12, 108, tyX12, rfl, by decide, layX12, rfl, tg_7 40 rfl rfl, tyX12_ok, nmX12, rfl, by decide +kernel⟩
theorem fr_RX12_164 : FRk RX12 164 12 68 (.array .int) := ⟨TX12, 108, tyX12, rfl, by decide, layX12, rfl, tg_7 41 rfl rfl, tyX12_ok, nmX12, rfl, by decide +kernel⟩
theorem fr_RX12_167 : FRk RX12 167 12 69 (.array .boolean) := ⟨TX12, 108, tyX12, rfl, by decide, layX12, rfl, tg_7 42 rfl rfl, tyX12_ok, nmX12, rfl, by decide +kernel⟩
theorem fr_RX12_170 : FRk RX12 170 12 71 (.array .int) := ⟨TX12, 108, tyX12, rfl, by decide, layX12, rfl, tg_7 44 rfl rfl, tyX12_ok, nmX12, rfl, by decide +kernel⟩
theorem fr_RX12_173 : FRk RX12 173 12 72 (.array .int) := ⟨TX12, 108, tyX12, rfl, by decide, layX12, rfl, tg_7 45 rfl rfl, tyX12_ok, nmX12, rfl, by decide +kernel⟩
theorem fr_RX12_187 : FRk RX12 187 12 73 (.array .int) := ⟨TX12, 108, tyX12, rfl, by decide, layX12, rfl, tg_7 46 rfl rfl, tyX12_ok, nmX12, rfl, by decide +kernel⟩
theorem fr_RX12_190 : FRk RX12 190 12 74 (.array .int) := ⟨TX12, 108, tyX12, rfl, by decide, layX12, rfl, tg_7 47 rfl rfl, tyX12_ok, nmX12, rfl, by decide +kernel⟩
theorem fr_RX12_193 : FRk RX12 193 12 75 (.array .int) := ⟨TX12, 108, tyX12, rfl, by decide, layX12, rfl, tg_7 48 rfl rfl, tyX12_ok, nmX12, rfl, by decide +kernel⟩
theorem fr_RX12_196 : FRk RX12 196 12 76 (.array .int) := ⟨TX12, 108, tyX12, rfl, by decide, layX12, rfl, tg_7 49 rfl rfl, tyX12_ok, nmX12, rfl, by decide +kernel⟩
theorem fr_RX12_199 : FRk RX12 199 12 77 (.array .int) := ⟨TX12, 108, tyX12, rfl, by decide, layX12, rfl, tg_7 50 rfl rfl, tyX12_ok, nmX12, rfl, by decide +kernel⟩
theorem fr_RX12_202 : FRk RX12 202 12 78 (.array .int) := ⟨TX12, 108, tyX12, rfl, by decide, layX12, rfl, tg_7 51 rfl rfl, tyX12_ok, nmX12, rfl, by decide +kernel⟩
theorem fr_RX12_205 : FRk RX12 205 12 79 (.array .int) := ⟨TX12, 108, tyX12, rfl, by decide, layX12, rfl, tg_7 52 rfl rfl, tyX12_ok, nmX12, rfl, by decide +kernel⟩
theorem fr_RX12_208 : FRk RX12 208 12 80 (.array .int) := ⟨TX12, 108, tyX12, rfl, by decide, layX12, rfl, tg_7 53 rfl rfl, tyX12_ok, nmX12, rfl, by decide +kernel⟩
theorem fr_RX12_211 : FRk RX12 211 12 81 (.array .boolean) := ⟨TX12, 108, tyX12, rfl, by decide, layX12, rfl, tg_7 54 rfl rfl, tyX12_ok, nmX12, rfl, by decide +kernel⟩
theorem fr_RX12_214 : FRk RX12 214 12 82 (.array .boolean) := ⟨TX12, 108, tyX12, rfl, by decide, layX12, rfl, tg_7 55 rfl rfl, tyX12_ok, nmX12, rfl, by decide +kernel⟩
theorem fr_RX12_220 : FRk RX12 220 12 84 (.array .long) := ⟨TX12, 108, tyX12, rfl, by decide, layX12, rfl, tg_7 57 rfl rfl, tyX12_ok, nmX12, rfl, by decide +kernel⟩
theorem fr_RX12_223 : FRk RX12 223 12 85 (.array .long) := ⟨TX12, 108, tyX12, rfl, by decide, layX12, rfl, tg_7 58 rfl rfl, tyX12_ok, nmX12, rfl, by decide +kernel⟩
theorem fr_RX12_226 : FRk RX12 226 12 87 (.array .int) := ⟨TX12, 108, tyX12, rfl, by decide, layX12, rfl, tg_7 60 rfl rfl, tyX12_ok, nmX12, rfl, by decide +kernel⟩
theorem fr_RX12_229 : FRk RX12 229 12 88 (.array .int) := ⟨TX12, 108, tyX12, rfl, by decide, layX12, rfl, tg_7 61 rfl rfl, tyX12_ok, nmX12, rfl, by decide +kernel⟩
theorem fr_RX12_232 : FRk RX12 232 12 89 (.array .int) := ⟨TX12, 108, tyX12, rfl, by decide, layX12, rfl, tg_7 62 rfl rfl, tyX12_ok, nmX12, rfl, by decide +kernel⟩
theorem fr_RX12_235 : FRk RX12 235 12 90 (.array .int) := ⟨TX12, 108, tyX12, rfl, by decide, layX12, rfl, tg_7 63 rfl rfl, tyX12_ok, nmX12, rfl, by decide +kernel⟩
theorem fr_RX12_238 : FRk RX12 238 12 91 (.array .int) := ⟨TX12, 108, tyX12, rfl, by decide, layX12, rfl, tg_7 64 rfl rfl, tyX12_ok, nmX12, rfl, by decide +kernel⟩
theorem fr_RX12_241 : FRk RX12 241 12 92 (.array .int) := ⟨TX12, 108, tyX12, rfl, by decide, layX12, rfl, tg_7 65 rfl rfl, tyX12_ok, nmX12, rfl, by decide +kernel⟩
theorem fr_RX12_244 : FRk RX12 244 12 93 (.array .int) := ⟨TX12, 108, tyX12, rfl, by decide, layX12, rfl, tg_7 66 rfl rfl, tyX12_ok, nmX12, rfl, by decide +kernel⟩
theorem fr_RX12_247 : FRk RX12 247 12 94 (.array .long) := ⟨TX12, 108, tyX12, rfl, by decide, layX12, rfl, tg_7 67 rfl rfl, tyX12_ok, nmX12, rfl, by decide +kernel⟩
theorem fr_RX12_250 : FRk RX12 250 12 95 (.array .long) := ⟨TX12, 108, tyX12, rfl, by decide, layX12, rfl, tg_7 68 rfl rfl, tyX12_ok, nmX12, rfl, by decide +kernel⟩
theorem fr_RX12_253 : FRk RX12 253 12 99 (.array .int) := ⟨TX12, 108, tyX12, rfl, by decide, layX12, rfl, tg_7 72 rfl rfl, tyX12_ok, nmX12, rfl, by decide +kernel⟩
theorem fr_RX12_256 : FRk RX12 256 12 100 (.array .int) := ⟨TX12, 108, tyX12, rfl, by decide, layX12, rfl, tg_7 73 rfl rfl, tyX12_ok, nmX12, rfl, by decide +kernel⟩
theorem fr_RX12_259 : FRk RX12 259 12 101 (.array .int) := ⟨TX12, 108, tyX12, rfl, by decide, layX12, rfl, tg_7 74 rfl rfl, tyX12_ok, nmX12, rfl, by decide +kernel⟩
theorem fr_RX12_262 : FRk RX12 262 12 102 (.array .int) := ⟨TX12, 108, tyX12, rfl, by decide, layX12, rfl, tg_7 75 rfl rfl, tyX12_ok, nmX12, rfl, by decide +kernel⟩
theorem fr_RX12_265 : FRk RX12 265 12 103 (.array .int) := ⟨TX12, 108, tyX12, rfl, by decide, layX12, rfl, tg_7 76 rfl rfl, tyX12_ok, nmX12, rfl, by decide +kernel⟩
theorem fr_RX12_268 : FRk RX12 268 12 104 (.array .int) := ⟨TX12, 108, tyX12, rfl, by decide, layX12, rfl, tg_7 77 rfl rfl, tyX12_ok, nmX12, rfl, by decide +kernel⟩
theorem fr_RX12_271 : FRk RX12 271 12 106 (.array .int) := ⟨TX12, 108, tyX12, rfl, by decide, layX12, rfl, tg_7 79 rfl rfl, tyX12_ok, nmX12, rfl, by decide +kernel⟩
theorem fr_RX12_274 : FRk RX12 274 12 107 (.array .long) := ⟨TX12, 108, tyX12, rfl, by decide, layX12, rfl, tg_7 80 rfl rfl, tyX12_ok, nmX12, rfl, by decide +kernel⟩
theorem aw_I : Cond.arrayClass .int ∈ TG := tg_1 51 rfl rfl
theorem aw_B : Cond.arrayClass .byte ∈ TG := tg_2 181 rfl rfl
theorem aw_J : Cond.arrayClass .long ∈ TG := tg_1 50 rfl rfl
theorem aw_Z : Cond.arrayClass .boolean ∈ TG := tg_2 1 rfl rfl
theorem kw_RX0_49 : Cond.classLink RX0 49 "LampYear$Standing" ∈ TG := tg_1 194 rfl rfl
theorem nf_0 : nf 0 = 11 := by decide +kernel
theorem nf_1 : nf 1 = 3 := by decide +kernel
theorem nf_5 : nf 5 = 18 := by decide +kernel
theorem nf_19 : nf 19 = 13 := by decide +kernel
theorem nf_30 : nf 30 = 18 := by decide +kernel
theorem nf_45 : nf 45 = 11 := by decide +kernel
theorem nf_50 : nf 50 = 11 := by decide +kernel
theorem nf_55 : nf 55 = 11 := by decide +kernel
theorem nf_60 : nf 60 = 11 := by decide +kernel
theorem nf_65 : nf 65 = 17 := by decide +kernel
theorem nf_69 : nf 69 = 4 := by decide +kernel
theorem nf_73 : nf 73 = 11 := by decide +kernel
theorem nf_80 : nf 80 = 8 := by decide +kernel
theorem nf_88 : nf 88 = 8 := by decide +kernel
theorem nf_95 : nf 95 = 1 := by decide +kernel
theorem nf_97 : nf 97 = 108 := by decide +kernel
theorem nw_RX11_7_1 : NWk RX11 7 9 1 := ⟨RX9, TX9, 3, tyX9, rfl, layX9, tyX9_ok, tg_1 31 rfl rfl, tg_1 32 rfl rfl, tg_1 2 rfl rfl, by decide +kernel, by decide +kernel⟩
theorem nw_RX11_16_5 : NWk RX11 16 2 5 := ⟨RX2, TX2, 18, tyX2, rfl, layX2, tyX2_ok, tg_1 52 rfl rfl, tg_1 53 rfl rfl, tg_1 4 rfl rfl, by decide +kernel, by decide +kernel⟩
theorem nw_RX11_23_19 : NWk RX11 23 4 19 := ⟨RX4, TX4, 13, tyX4, rfl, layX4, tyX4_ok, tg_1 132 rfl rfl, tg_1 133 rfl rfl, tg_1 5 rfl rfl, by decide +kernel, by decide +kernel⟩
theorem nw_RX11_30_30 : NWk RX11 30 0 30 := ⟨RX0, TX0, 18, tyX0, rfl, layX0, tyX0_ok, tg_1 188 rfl rfl, tg_1 189 rfl rfl, tg_1 6 rfl rfl, by decide +kernel, by decide +kernel⟩
theorem nw_RX11_37_65 : NWk RX11 37 6 65 := ⟨RX6, TX6, 17, tyX6, rfl, layX6, tyX6_ok, tg_2 68 rfl rfl, tg_2 69 rfl rfl, tg_1 8 rfl rfl, by decide +kernel, by decide +kernel⟩
theorem nw_RX11_46_69 : NWk RX11 46 3 69 := ⟨RX3, TX3, 4, tyX3, rfl, layX3, tyX3_ok, tg_2 182 rfl rfl, tg_2 183 rfl rfl, tg_1 13 rfl rfl, by decide +kernel, by decide +kernel⟩
theorem nw_RX11_53_73 : NWk RX11 53 10 73 := ⟨RX10, TX10, 11, tyX10, rfl, layX10, tyX10_ok, tg_2 203 rfl rfl, tg_2 204 rfl rfl, tg_1 14 rfl rfl, by decide +kernel, by decide +kernel⟩
theorem nw_RX11_62_80 : NWk RX11 62 5 80 := ⟨RX5, TX5, 8, tyX5, rfl, layX5, tyX5_ok, tg_3 4 rfl rfl, tg_3 5 rfl rfl, tg_1 15 rfl rfl, by decide +kernel, by decide +kernel⟩
theorem nw_RX11_69_88 : NWk RX11 69 7 88 := ⟨RX7, TX7, 8, tyX7, rfl, layX7, tyX7_ok, tg_3 39 rfl rfl, tg_3 40 rfl rfl, tg_1 16 rfl rfl, by decide +kernel, by decide +kernel⟩
theorem nw_RX11_76_95 : NWk RX11 76 1 95 := ⟨RX1, TX1, 1, tyX1, rfl, layX1, tyX1_ok, tg_3 72 rfl rfl, tg_3 73 rfl rfl, tg_1 17 rfl rfl, by decide +kernel, by decide +kernel⟩
theorem nw_RX0_49_45 : NWk RX0 49 8 45 := ⟨RX8, TX8, 11, tyX8, rfl, layX8, tyX8_ok, tg_1 194 rfl rfl, tg_1 196 rfl rfl, tg_1 7 rfl rfl, by decide +kernel, by decide +kernel⟩
theorem nw_RX0_49_50 : NWk RX0 49 8 50 := ⟨RX8, TX8, 11, tyX8, rfl, layX8, tyX8_ok, tg_1 194 rfl rfl, tg_1 196 rfl rfl, tg_1 7 rfl rfl, by decide +kernel, by decide +kernel⟩
theorem nw_RX0_49_55 : NWk RX0 49 8 55 := ⟨RX8, TX8, 11, tyX8, rfl, layX8, tyX8_ok, tg_1 194 rfl rfl, tg_1 196 rfl rfl, tg_1 7 rfl rfl, by decide +kernel, by decide +kernel⟩
theorem nw_RX0_49_60 : NWk RX0 49 8 60 := ⟨RX8, TX8, 11, tyX8, rfl, layX8, tyX8_ok, tg_1 194 rfl rfl, tg_1 196 rfl rfl, tg_1 7 rfl rfl, by decide +kernel, by decide +kernel⟩
theorem nw_RL_7_0 : NWk RL 7 11 0 := ⟨RX11, TX11, 11, tyX11, rfl, layX11, tyX11_ok, tg_1 23 rfl rfl, tg_1 24 rfl rfl, tg_1 1 rfl rfl, by decide +kernel, by decide +kernel⟩
theorem nw_RL_10_97 : NWk RL 10 12 97 := ⟨RX12, TX12, 108, tyX12, rfl, layX12, tyX12_ok, tg_6 196 rfl rfl, tg_6 197 rfl rfl, tg_1 18 rfl rfl, by decide +kernel, by decide +kernel⟩
theorem oi_i : Cond.instanceMethod Lib.objectInit ∈ TG := tg_1 29 rfl rfl
theorem oi_c : Cond.code Lib.objectInit ⟨#[0xb1]⟩ 1 none ∈ TG := tg_1 30 rfl rfl
theorem oi_RX11_1 : OIk RX11 1 := ⟨tg_1 28 rfl rfl, oi_i, oi_c⟩
theorem oi_RX0_5 : OIk RX0 5 := ⟨tg_1 193 rfl rfl, oi_i, oi_c⟩
theorem oi_RX1_3 : OIk RX1 3 := ⟨tg_3 77 rfl rfl, oi_i, oi_c⟩
theorem oi_RX2_3 : OIk RX2 3 := ⟨tg_1 57 rfl rfl, oi_i, oi_c⟩
theorem oi_RX3_3 : OIk RX3 3 := ⟨tg_2 187 rfl rfl, oi_i, oi_c⟩
theorem oi_RX4_3 : OIk RX4 3 := ⟨tg_1 137 rfl rfl, oi_i, oi_c⟩
theorem oi_RX5_5 : OIk RX5 5 := ⟨tg_3 9 rfl rfl, oi_i, oi_c⟩
theorem oi_RX6_3 : OIk RX6 3 := ⟨tg_2 73 rfl rfl, oi_i, oi_c⟩
theorem oi_RX7_3 : OIk RX7 3 := ⟨tg_3 44 rfl rfl, oi_i, oi_c⟩
theorem oi_RX8_3 : OIk RX8 3 := ⟨tg_1 200 rfl rfl, oi_i, oi_c⟩
theorem oi_RX9_3 : OIk RX9 3 := ⟨tg_1 36 rfl rfl, oi_i, oi_c⟩
theorem oi_RX10_3 : OIk RX10 3 := ⟨tg_2 208 rfl rfl, oi_i, oi_c⟩
theorem oi_RX12_1 : OIk RX12 1 := ⟨tg_6 201 rfl rfl, oi_i, oi_c⟩
def PVc (κ : KxC) (n c s : Nat) : Wd → Prop := fun r => cρ κ none (r, n, c, s)
def PUc (κ : KxC) (z : Zt) : Unit → Prop := fun _ => cρ κ none z
def PIc (κ : KxC) (z : Zt) : Int32 → Prop := fun r => cρ κ (some (.int r)) z
def PJc (κ : KxC) (z : Zt) : Int64 → Prop := fun r => cρ κ (some (.long r)) z
theorem pVc {κ : KxC} {q : Wd} {n c s : Nat} {v : Option Value} {z' : Zt} (h : cρ κ = fun a b => a = v ∧ b = z') (hv : none = v) (hw : (q, n, c, s) = z') : PVc κ n c s q := by
  unfold PVc; rw [h]; exact ⟨hv, hw⟩
theorem pUc {κ : KxC} {q : Unit} {z : Zt} {v : Option Value} {z' : Zt} (h : cρ κ = fun a b => a = v ∧ b = z') (hv : none = v) (hw : z = z') : PUc κ z q := by
  unfold PUc; rw [h]; exact ⟨hv, hw⟩
theorem pIc {κ : KxC} {q : Int32} {z : Zt} {v : Option Value} {z' : Zt} (h : cρ κ = fun a b => a = v ∧ b = z') (hv : some (.int q) = v) (hw : z = z') : PIc κ z q := by
  unfold PIc; rw [h]; exact ⟨hv, hw⟩
theorem pJc {κ : KxC} {q : Int64} {z : Zt} {v : Option Value} {z' : Zt} (h : cρ κ = fun a b => a = v ∧ b = z') (hv : some (.long q) = v) (hw : z = z') : PJc κ z q := by
  unfold PJc; rw [h]; exact ⟨hv, hw⟩
theorem tk_J3_checkIndex_8e157 {κ : KxC} (a0 a1 : Int32) (v : Value) (z : Zt) (h : ok (J3_checkIndex_8e157 a0 a1) (PIc κ z)) : JC κ RJ3 cJ3_checkIndex_8e157 3 (some .int) (rmk 0 0) 0 [(0, .int a0), (1, .int a1), (2, v)] [] z := by
  unfold J3_checkIndex_8e157 at h
  refine jc_iload_n 0 dJ3_checkIndex_8e157_0 rfl rfl ?_
  refine jc_if_lt 9 dJ3_checkIndex_8e157_1 (by decide) h (fun h => ?_) (fun h => ?_)
  · exact ok_n h
  refine jc_iload_n 0 dJ3_checkIndex_8e157_4 rfl rfl ?_
  refine jc_iload_n 1 dJ3_checkIndex_8e157_5 rfl rfl ?_
  refine jc_ic_lt 16 dJ3_checkIndex_8e157_6 (by decide) h (fun h => ?_) (fun h => ?_)
  · refine jc_iload_n 0 dJ3_checkIndex_8e157_16 rfl rfl ?_
    have h := ok_s h
    exact jc_iret dJ3_checkIndex_8e157_17 rfl rfl h
  · exact ok_n h
theorem k_J3_v (v : Value) (hv : v = .null ∨ ∃ t, v = .ref t) (l : Launch) (γ : Gm) (A : Nat → Prop) (N n : Nat) (a0 a1 : Int32) (w : Wd) (q : Int32) (e : J3_checkIndex_8e157 a0 a1 = some q) : MetC l γ A N yJ3_checkIndex_8e157 cJ3_checkIndex_8e157 3 (some .int) (rmk 0 0) [.int a0, .int a1, v] w n (some (.int q)) w n 0 0 := by
  rcases hv with rfl | ⟨t, rfl⟩
  · refine met_ofC pn_RJ3 (Nat.le_of_ble_eq_true rfl) ?_
    intro κ hl hγ hA hN hρ hi
    subst hl; subst hγ; subst hA; subst hN
    exact tk_J3_checkIndex_8e157 a0 a1 .null _ ⟨q, e, pIc hρ rfl rfl⟩
  · refine met_ofC pn_RJ3 (Nat.le_of_ble_eq_true rfl) ?_
    intro κ hl hγ hA hN hρ hi
    subst hl; subst hγ; subst hA; subst hN
    exact tk_J3_checkIndex_8e157 a0 a1 (.ref t) _ ⟨q, e, pIc hρ rfl rfl⟩
theorem tk_J0_checkIndex_df160 {κ : KxC} (n : Nat) (a0 a1 : Int32) (w : Wd) (h : ok (J0_checkIndex_df160 a0 a1 w) (PUc κ (w, n, 0, 0))) : JC κ RJ0 cJ0_checkIndex_df160 2 none (rmk 1 22) 0 [(0, .int a0), (1, .int a1)] [] (w, n, 0, 0) := by
  unfold J0_checkIndex_df160 at h
  obtain ⟨q, e, h⟩ := ok_b h
  refine jc_iload_n 0 dJ0_checkIndex_df160_0 rfl rfl ?_
  refine jc_iload_n 1 dJ0_checkIndex_df160_1 rfl rfl ?_
  refine jc_getsF dJ0_checkIndex_df160_2 ?_
  have h := ok_s h
  have fin : JC κ RJ0 cJ0_checkIndex_df160 2 none (rmk 1 22) 8 [(0, .int a0), (1, .int a1)] [.int q] (w, n, 0, 0) := by
    refine jc_pop dJ0_checkIndex_df160_8 rfl ?_
    exact jc_vret dJ0_checkIndex_df160_9 rfl h
  cases hf : fm (cg κ) with
  | none => exact jc_callS (As := [.int a0, .int a1, .null]) (st := []) [.int q] (Or.inr rfl) (k_J3_v .null (Or.inl rfl) (cl κ) (cg κ) (cA κ) (cN κ) n a0 a1 w q e) ck_RJ0_1059 st_J3_checkIndex_8e157 ⟨rfl, rfl⟩ ⟨by decide, by decide⟩ ⟨by decide, by decide⟩ rfl rfl (Nat.le_of_ble_eq_true rfl) dJ0_checkIndex_df160_5 _ rfl fin
  | some t => exact jc_callS (As := [.int a0, .int a1, .ref t]) (st := []) [.int q] (Or.inr rfl) (k_J3_v (.ref t) (Or.inr ⟨t, rfl⟩) (cl κ) (cg κ) (cA κ) (cN κ) n a0 a1 w q e) ck_RJ0_1059 st_J3_checkIndex_8e157 ⟨rfl, rfl⟩ ⟨by decide, by decide⟩ ⟨by decide, by decide⟩ rfl rfl (Nat.le_of_ble_eq_true rfl) dJ0_checkIndex_df160_5 _ rfl fin
theorem k_J0_checkIndex_df160 (l : Launch) (γ : Gm) (A : Nat → Prop) (N n : Nat) (a0 a1 : Int32) (w : Wd) (q : Unit) (e : J0_checkIndex_df160 a0 a1 w = some q) : MetC l γ A N yJ0_checkIndex_df160 cJ0_checkIndex_df160 2 none (rmk 1 22) [.int a0, .int a1] w n none w n 0 0 := by
  refine met_ofC pn_RJ0 (Nat.le_of_ble_eq_true rfl) ?_
  intro κ hl hγ hA hN hρ hi
  subst hl; subst hγ; subst hA; subst hN
  exact tk_J0_checkIndex_df160 n a0 a1 w ⟨q, e, pUc hρ rfl rfl⟩
set_option maxRecDepth 20000 in
set_option maxHeartbeats 1000000 in
theorem tk_X6_pack {κ : KxC} (n : Nat) (a0 : Int64) (a2 : Int32) (w : Wd) (h : ok (X6_packO  a0 a2 w) (PJc κ (w, n, 0, 0))) : JC κ RX6 cX6_pack 3 (some .long) (rmk 0 0) 0 [(0, .long a0), (2, .int a2)] [] (w, n, 0, 0) := by
  unfold X6_packO at h
  refine jc_lload_n 0 dX6_pack_0 rfl rfl ?_
  refine jc_iconst (5 : Int32) dX6_pack_1 ki_5 ?_
  refine jc_lshl dX6_pack_2 ?_
  refine jc_iload_n 1 dX6_pack_3 rfl rfl ?_
  refine jc_bipush (97 : Int32) dX6_pack_4 kb_97 ?_
  refine jc_isub dX6_pack_6 ?_
  refine jc_iconst (1 : Int32) dX6_pack_7 ki_1 ?_
  refine jc_iadd dX6_pack_8 ?_
  refine jc_i2l dX6_pack_9 ?_
  refine jc_lor dX6_pack_10 ?_
  have h := ok_s h
  exact jc_lret dX6_pack_11 rfl h
theorem k_X6_pack (l : Launch) (γ : Gm) (A : Nat → Prop) (N : Nat) (n : Nat) (a0 : Int64) (a2 : Int32) (w : Wd) : MetC l γ A N yX6_pack cX6_pack 3 (some .long) (rmk 0 0) [.long a0, .int a2] w n (some (.long (X6_pack  a0 a2 w))) w n 0 0 := by
  refine met_ofC pn_RX6 (Nat.le_of_ble_eq_true rfl) ?_
  intro κ hl hγ hA hN hρ hi
  subst hl; subst hγ; subst hA; subst hN
  exact tk_X6_pack  n a0 a2 w ⟨_, X6_pack_eq  a0 a2 w, pJc hρ rfl rfl⟩
set_option maxRecDepth 20000 in
set_option maxHeartbeats 1000000 in
theorem tk_J0_isLatin1_aae02 {κ : KxC} (ti : Nat) (hti : ti < 4) (n : Nat) (w : Wd) (h : ok (J0_isLatin1_aae02O ti  w) (PIc κ (w, n, 0, 0))) : JC κ RJ0 cJ0_isLatin1_aae02 1 (some .boolean) (rmk 0 0) 0 [(0, .ref (sK (cg κ) ti))] [] (w, n, 0, 0) := by
  unfold J0_isLatin1_aae02O at h
  refine jc_gets fw_RJ0_38 dJ0_isLatin1_aae02_0 ?_
  refine jc_if_eq 17 dJ0_isLatin1_aae02_3 (by decide) h (fun h => ?_) (fun h => ?_)
  · refine jc_iconst (0 : Int32) dJ0_isLatin1_aae02_17 ki_0 ?_
    have h := ok_s h
    exact jc_iret dJ0_isLatin1_aae02_18 rfl (by decide) h
  · refine jc_aload_n 0 dJ0_isLatin1_aae02_6 rfl rfl ?_
    refine jc_textC hti fw_RJ0_15 dJ0_isLatin1_aae02_7 ?_
    refine jc_if_ne 17 dJ0_isLatin1_aae02_10 (by decide) h (fun h => ?_) (fun h => ?_)
    · refine jc_iconst (0 : Int32) dJ0_isLatin1_aae02_17 ki_0 ?_
      have h := ok_s h
      exact jc_iret dJ0_isLatin1_aae02_18 rfl (by decide) h
    · refine jc_iconst (1 : Int32) dJ0_isLatin1_aae02_13 ki_1 ?_
      refine jc_goto 18 dJ0_isLatin1_aae02_14 (by decide) ?_
      have h := ok_s h
      exact jc_iret dJ0_isLatin1_aae02_18 rfl (by decide) h
theorem k_J0_isLatin1_aae02 (l : Launch) (γ : Gm) (A : Nat → Prop) (N : Nat) (ti : Nat) (hti : ti < 4) (n : Nat) (w : Wd) : MetC l γ A N yJ0_isLatin1_aae02 cJ0_isLatin1_aae02 1 (some .boolean) (rmk 0 0) [.ref (sK (γ) ti)] w n (some (.int (J0_isLatin1_aae02 ti  w))) w n 0 0 := by
  refine met_ofC pn_RJ0 (Nat.le_of_ble_eq_true rfl) ?_
  intro κ hl hγ hA hN hρ hi
  subst hl; subst hγ; subst hA; subst hN
  exact tk_J0_isLatin1_aae02 ti hti n  w ⟨_, J0_isLatin1_aae02_eq ti  w, pIc hρ rfl rfl⟩
set_option maxRecDepth 20000 in
set_option maxHeartbeats 1000000 in
theorem tk_J0_coder_7d493 {κ : KxC} (ti : Nat) (hti : ti < 4) (n : Nat) (w : Wd) (h : ok (J0_coder_7d493O ti  w) (PIc κ (w, n, 0, 0))) : JC κ RJ0 cJ0_coder_7d493 1 (some .byte) (rmk 0 0) 0 [(0, .ref (sK (cg κ) ti))] [] (w, n, 0, 0) := by
  unfold J0_coder_7d493O at h
  refine jc_gets fw_RJ0_38 dJ0_coder_7d493_0 ?_
  refine jc_if_eq 13 dJ0_coder_7d493_3 (by decide) h (fun h => ?_) (fun h => ?_)
  · refine jc_iconst (1 : Int32) dJ0_coder_7d493_13 ki_1 ?_
    have h := ok_s h
    exact jc_iret dJ0_coder_7d493_14 rfl (by decide) h
  · refine jc_aload_n 0 dJ0_coder_7d493_6 rfl rfl ?_
    refine jc_textC hti fw_RJ0_15 dJ0_coder_7d493_7 ?_
    refine jc_goto 14 dJ0_coder_7d493_10 (by decide) ?_
    have h := ok_s h
    exact jc_iret dJ0_coder_7d493_14 rfl (by decide) h
theorem k_J0_coder_7d493 (l : Launch) (γ : Gm) (A : Nat → Prop) (N : Nat) (ti : Nat) (hti : ti < 4) (n : Nat) (w : Wd) : MetC l γ A N yJ0_coder_7d493 cJ0_coder_7d493 1 (some .byte) (rmk 0 0) [.ref (sK (γ) ti)] w n (some (.int (J0_coder_7d493 ti  w))) w n 0 0 := by
  refine met_ofC pn_RJ0 (Nat.le_of_ble_eq_true rfl) ?_
  intro κ hl hγ hA hN hρ hi
  subst hl; subst hγ; subst hA; subst hN
  exact tk_J0_coder_7d493 ti hti n  w ⟨_, J0_coder_7d493_eq ti  w, pIc hρ rfl rfl⟩
set_option maxRecDepth 20000 in
set_option maxHeartbeats 1000000 in
theorem tk_J0_length_8abf5 {κ : KxC} (ti : Nat) (hti : ti < 4) (n : Nat) (w : Wd) (h : ok (J0_length_8abf5O ti  w) (PIc κ (w, n, 0, 0))) : JC κ RJ0 cJ0_length_8abf5 1 (some .int) (rmk 1 20) 0 [(0, .ref (sK (cg κ) ti))] [] (w, n, 0, 0) := by
  unfold J0_length_8abf5O at h
  refine jc_aload_n 0 dJ0_length_8abf5_0 rfl rfl ?_
  refine jc_textV hti fw_RJ0_9 dJ0_length_8abf5_1 ?_
  refine jc_tlen hti dJ0_length_8abf5_4 ?_
  refine jc_aload_n 0 dJ0_length_8abf5_5 rfl rfl ?_
  refine jc_callT (As := []) (st := [.int (Int32.ofNat (strN.getD ti 0))]) [.int (J0_coder_7d493 ti w), .int (Int32.ofNat (strN.getD ti 0))] (Or.inr rfl) (k_J0_coder_7d493 (cl κ) (cg κ) (cA κ) (cN κ) ti hti n w) ck_RJ0_335 im_J0_coder_7d493 se_J0_coder_7d493 hti rfl ⟨rfl, rfl⟩ ⟨by decide, by decide⟩ ⟨by decide, by decide⟩ rfl rfl (Nat.le_of_ble_eq_true rfl) dJ0_length_8abf5_6 _ rfl ?_
  refine jc_ishr dJ0_length_8abf5_9 ?_
  have h := ok_s h
  exact jc_iret dJ0_length_8abf5_10 rfl rfl h
theorem k_J0_length_8abf5 (l : Launch) (γ : Gm) (A : Nat → Prop) (N : Nat) (ti : Nat) (hti : ti < 4) (n : Nat) (w : Wd) : MetC l γ A N yJ0_length_8abf5 cJ0_length_8abf5 1 (some .int) (rmk 1 20) [.ref (sK (γ) ti)] w n (some (.int (J0_length_8abf5 ti  w))) w n 0 0 := by
  refine met_ofC pn_RJ0 (Nat.le_of_ble_eq_true rfl) ?_
  intro κ hl hγ hA hN hρ hi
  subst hl; subst hγ; subst hA; subst hN
  exact tk_J0_length_8abf5 ti hti n  w ⟨_, J0_length_8abf5_eq ti  w, pIc hρ rfl rfl⟩
set_option maxRecDepth 20000 in
set_option maxHeartbeats 1000000 in
theorem tk_J1_charAt_3b067 {κ : KxC} (ti : Nat) (hti : ti < 4) (n : Nat) (a1 : Int32) (w : Wd) (h : ok (J1_charAt_3b067 ti a1 w) (PIc κ (w, n, 0, 0))) : JC κ RJ1 cJ1_charAt_3b067 2 (some .char) (rmk 2 43) 0 [(0, .ref (sV (cg κ) ti)), (1, .int a1)] [] (w, n, 0, 0) := by
  unfold J1_charAt_3b067 at h
  refine jc_iload_n 1 dJ1_charAt_3b067_0 rfl rfl ?_
  refine jc_aload_n 0 dJ1_charAt_3b067_1 rfl rfl ?_
  refine jc_tlen hti dJ1_charAt_3b067_2 ?_
  obtain ⟨q1, e2, h⟩ := ok_b h
  refine jc_callS (As := [.int a1, .int (Int32.ofNat (strN.getD ti 0))]) (st := []) [] (Or.inr rfl) (k_J0_checkIndex_df160 (cl κ) (cg κ) (cA κ) (cN κ) n a1 (Int32.ofNat (strN.getD ti 0)) w q1 e2) ck_RJ1_9 st_J0_checkIndex_df160 ⟨rfl, rfl⟩ ⟨by decide, by decide⟩ ⟨by decide, by decide⟩ rfl rfl (Nat.le_of_ble_eq_true rfl) dJ1_charAt_3b067_3 _ rfl ?_
  refine jc_aload_n 0 dJ1_charAt_3b067_6 rfl rfl ?_
  refine jc_iload_n 1 dJ1_charAt_3b067_7 rfl rfl ?_
  refine jc_tb hti dJ1_charAt_3b067_8 h (fun h => ?_)
  refine jc_sipush (255 : Int32) dJ1_charAt_3b067_9 ks_255 ?_
  refine jc_iand dJ1_charAt_3b067_12 ?_
  refine jc_i2c dJ1_charAt_3b067_13 ?_
  obtain ⟨hz, h⟩ := ok_g h
  have h := ok_s h
  exact jc_iret dJ1_charAt_3b067_14 rfl hz h
theorem k_J1_charAt_3b067 (l : Launch) (γ : Gm) (A : Nat → Prop) (N : Nat) (ti : Nat) (hti : ti < 4) (n : Nat) (a1 : Int32) (w : Wd) (q : Int32) (e : J1_charAt_3b067 ti a1 w = some q) : MetC l γ A N yJ1_charAt_3b067 cJ1_charAt_3b067 2 (some .char) (rmk 2 43) [.ref (sV (γ) ti), .int a1] w n (some (.int q)) w n 0 0 := by
  refine met_ofC pn_RJ1 (Nat.le_of_ble_eq_true rfl) ?_
  intro κ hl hγ hA hN hρ hi
  subst hl; subst hγ; subst hA; subst hN
  exact tk_J1_charAt_3b067 ti hti n a1 w  ⟨q, e, pIc hρ rfl rfl⟩
set_option maxRecDepth 20000 in
set_option maxHeartbeats 1000000 in
theorem tk_J0_charAt_5068e {κ : KxC} (ti : Nat) (hti : ti < 4) (n : Nat) (a1 : Int32) (w : Wd) (h : ok (J0_charAt_5068e ti a1 w) (PIc κ (w, n, 0, 0))) : JC κ RJ0 cJ0_charAt_5068e 2 (some .char) (rmk 3 64) 0 [(0, .ref (sK (cg κ) ti)), (1, .int a1)] [] (w, n, 0, 0) := by
  unfold J0_charAt_5068e at h
  refine jc_aload_n 0 dJ0_charAt_5068e_0 rfl rfl ?_
  refine jc_callT (As := []) (st := []) [.int (J0_isLatin1_aae02 ti w)] (Or.inr rfl) (k_J0_isLatin1_aae02 (cl κ) (cg κ) (cA κ) (cN κ) ti hti n w) ck_RJ0_492 im_J0_isLatin1_aae02 se_J0_isLatin1_aae02 hti rfl ⟨rfl, rfl⟩ ⟨by decide, by decide⟩ ⟨by decide, by decide⟩ rfl rfl (Nat.le_of_ble_eq_true rfl) dJ0_charAt_5068e_1 _ rfl ?_
  refine jc_if_eq 16 dJ0_charAt_5068e_4 (by decide) h (fun h => ?_) (fun h => ?_)
  · refine jc_aload_n 0 dJ0_charAt_5068e_16 rfl rfl ?_
    refine jc_textV hti fw_RJ0_9 dJ0_charAt_5068e_17 ?_
    refine jc_iload_n 1 dJ0_charAt_5068e_20 rfl rfl ?_
    exact ok_n h
  · refine jc_aload_n 0 dJ0_charAt_5068e_7 rfl rfl ?_
    refine jc_textV hti fw_RJ0_9 dJ0_charAt_5068e_8 ?_
    refine jc_iload_n 1 dJ0_charAt_5068e_11 rfl rfl ?_
    obtain ⟨q1, e2, h⟩ := ok_b h
    refine jc_callS (As := [.ref (sV (cg κ) ti), .int a1]) (st := []) [.int q1] (Or.inr rfl) (k_J1_charAt_3b067 (cl κ) (cg κ) (cA κ) (cN κ) ti hti n a1 w q1 e2) ck_RJ0_495 st_J1_charAt_3b067 ⟨rfl, rfl⟩ ⟨by decide, by decide⟩ ⟨by decide, by decide⟩ rfl rfl (Nat.le_of_ble_eq_true rfl) dJ0_charAt_5068e_12 _ rfl ?_
    obtain ⟨hz, h⟩ := ok_g h
    have h := ok_s h
    exact jc_iret dJ0_charAt_5068e_15 rfl hz h
theorem k_J0_charAt_5068e (l : Launch) (γ : Gm) (A : Nat → Prop) (N : Nat) (ti : Nat) (hti : ti < 4) (n : Nat) (a1 : Int32) (w : Wd) (q : Int32) (e : J0_charAt_5068e ti a1 w = some q) : MetC l γ A N yJ0_charAt_5068e cJ0_charAt_5068e 2 (some .char) (rmk 3 64) [.ref (sK (γ) ti), .int a1] w n (some (.int q)) w n 0 0 := by
  refine met_ofC pn_RJ0 (Nat.le_of_ble_eq_true rfl) ?_
  intro κ hl hγ hA hN hρ hi
  subst hl; subst hγ; subst hA; subst hN
  exact tk_J0_charAt_5068e ti hti n a1 w  ⟨q, e, pIc hρ rfl rfl⟩
set_option maxRecDepth 20000 in
set_option maxHeartbeats 1000000 in
theorem tk_J7_fill_53178_b5 {κ : KxC} (kv : Nat) (nv : Nat) (hkv : sh kv = (0, nv)) (n : Nat) (hn : kv < n) (a1 : Int32) (a3 : Int32) {P : Wd → Prop} (K0 : ∀ e, P e → JC κ RJ7 cJ7_fill_53178 4 none (rmk 0 0) 20 [] [] (e, n, 0, 0)) (s : (Int32 × Wd)) (h : ok (lp (J7_fill_53178_b5 kv nv a1 a3) s) P) : JC κ RJ7 cJ7_fill_53178 4 none (rmk 0 0) 5 [(0, .ref (ad (cg κ) kv)), (1, .int a1), (2, .int s.1), (3, .int a3)] [] (s.2, n, 0, 0) := by
  refine lp_ind (fun s => JC κ RJ7 cJ7_fill_53178 4 none (rmk 0 0) 5 [(0, .ref (ad (cg κ) kv)), (1, .int a1), (2, .int s.1), (3, .int a3)] [] (s.2, n, 0, 0)) (fun s h => ?_) s h
  unfold J7_fill_53178_b5 at h
  refine jc_iload_n 2 dJ7_fill_53178_5 rfl rfl ?_
  refine jc_iload_n 3 dJ7_fill_53178_6 rfl rfl ?_
  refine jc_ic_ge 20 dJ7_fill_53178_7 (by decide) h (fun h => ?_) (fun h => ?_)
  · refine jc_loc [] [] rfl ?_
    have h := sel_r h
    have h := K0 _ h
    exact h
  · refine jc_aload_n 0 dJ7_fill_53178_10 rfl rfl ?_
    refine jc_iload_n 2 dJ7_fill_53178_11 rfl rfl ?_
    refine jc_iload_n 1 dJ7_fill_53178_12 rfl rfl ?_
    refine jc_iast hkv hn dJ7_fill_53178_13 h (fun h => ?_)
    refine jc_lW h (fun w1 h => ?_)
    refine jc_iinc (s.1 + (1 : Int32)) 2 [(2, .int (s.1 + (1 : Int32))), (0, .ref (ad (cg κ) kv)), (1, .int a1), (3, .int a3)] dJ7_fill_53178_14 rfl (by rw [kn_1]) (by decide) rfl ?_
    refine jc_goto 5 dJ7_fill_53178_17 (by decide) ?_
    refine jc_loc [(0, .ref (ad (cg κ) kv)), (1, .int a1), (2, .int (s.1 + (1 : Int32))), (3, .int a3)] [1, 2, 0, 3] rfl ?_
    have h := sel_l h
    exact h
set_option maxRecDepth 20000 in
set_option maxHeartbeats 1000000 in
theorem tk_J7_fill_53178 {κ : KxC} (kv : Nat) (nv : Nat) (hkv : sh kv = (0, nv)) (n : Nat) (hn : kv < n) (a1 : Int32) (w : Wd) (h : ok (J7_fill_53178 kv nv a1 w) (PVc κ n 0 0)) : JC κ RJ7 cJ7_fill_53178 4 none (rmk 0 0) 0 [(0, .ref (ad (cg κ) kv)), (1, .int a1)] [] (w, n, 0, 0) := by
  unfold J7_fill_53178 at h
  refine jc_iconst (0 : Int32) dJ7_fill_53178_0 ki_0 ?_
  refine jc_istore_n [(2, .int (0 : Int32)), (0, .ref (ad (cg κ) kv)), (1, .int a1)] dJ7_fill_53178_1 rfl (by decide) rfl ?_
  refine jc_aload_n 1 dJ7_fill_53178_2 rfl rfl ?_
  refine jc_alenI (v := (Int32.ofNat nv)) hkv hn (by decide) rfl dJ7_fill_53178_3 ?_
  refine jc_istore_n [(3, .int (Int32.ofNat nv)), (2, .int (0 : Int32)), (0, .ref (ad (cg κ) kv)), (1, .int a1)] dJ7_fill_53178_4 rfl (by decide) rfl ?_
  refine jc_loc [(0, .ref (ad (cg κ) kv)), (1, .int a1), (2, .int (0 : Int32)), (3, .int (Int32.ofNat nv))] [2, 3, 1, 0] rfl ?_
  refine tk_J7_fill_53178_b5 kv nv hkv n hn a1 (Int32.ofNat nv) (fun e2 h => ?_) ((0 : Int32), w) (ok_bb h)
  · have h := ok_s h
    exact jc_vret dJ7_fill_53178_20 rfl h
theorem k_J7_fill_53178 (l : Launch) (γ : Gm) (A : Nat → Prop) (N : Nat) (kv : Nat) (nv : Nat) (hkv : sh kv = (0, nv)) (n : Nat) (hn : kv < n) (a1 : Int32) (w : Wd) (q : Wd) (e : J7_fill_53178 kv nv a1 w = some q) : MetC l γ A N yJ7_fill_53178 cJ7_fill_53178 4 none (rmk 0 0) [.ref (ad (γ) kv), .int a1] w n none q n 0 0 := by
  refine met_ofC pn_RJ7 (Nat.le_of_ble_eq_true rfl) ?_
  intro κ hl hγ hA hN hρ hi
  subst hl; subst hγ; subst hA; subst hN
  exact tk_J7_fill_53178 kv nv hkv n hn a1 w  ⟨q, e, pVc hρ rfl rfl⟩
theorem dX8_init_0 : decode cX8_init 0 = .ok (.aload_n 0, 1) := by decide +kernel
theorem dX8_init_1 : decode cX8_init 1 = .ok (.invokespecial 3, 3) := by decide +kernel
theorem dX8_init_4 : decode cX8_init 4 = .ok (.aload_n 0, 1) := by decide +kernel
theorem dX8_init_5 : decode cX8_init 5 = .ok (.iconst (-1), 1) := by decide +kernel
theorem dX8_init_6 : decode cX8_init 6 = .ok (.putfield 9, 3) := by decide +kernel
theorem dX8_init_9 : decode cX8_init 9 = .ok (.aload_n 0, 1) := by decide +kernel
theorem dX8_init_10 : decode cX8_init 10 = .ok (.bipush 100, 2) := by decide +kernel
theorem dX8_init_12 : decode cX8_init 12 = .ok (.newarray .int, 2) := by decide +kernel
theorem dX8_init_14 : decode cX8_init 14 = .ok (.putfield 15, 3) := by decide +kernel
theorem dX8_init_17 : decode cX8_init 17 = .ok (.aload_n 0, 1) := by decide +kernel
theorem dX8_init_18 : decode cX8_init 18 = .ok (.bipush 100, 2) := by decide +kernel
theorem dX8_init_20 : decode cX8_init 20 = .ok (.newarray .boolean, 2) := by decide +kernel
theorem dX8_init_22 : decode cX8_init 22 = .ok (.putfield 19, 3) := by decide +kernel
theorem dX8_init_25 : decode cX8_init 25 = .ok (.aload_n 0, 1) := by decide +kernel
theorem dX8_init_26 : decode cX8_init 26 = .ok (.bipush 100, 2) := by decide +kernel
theorem dX8_init_28 : decode cX8_init 28 = .ok (.newarray .int, 2) := by decide +kernel
theorem dX8_init_30 : decode cX8_init 30 = .ok (.putfield 23, 3) := by decide +kernel
theorem dX8_init_33 : decode cX8_init 33 = .ok (.aload_n 0, 1) := by decide +kernel
theorem dX8_init_34 : decode cX8_init 34 = .ok (.bipush 100, 2) := by decide +kernel
theorem dX8_init_36 : decode cX8_init 36 = .ok (.newarray .int, 2) := by decide +kernel
theorem dX8_init_38 : decode cX8_init 38 = .ok (.putfield 26, 3) := by decide +kernel
theorem dX8_init_41 : decode cX8_init 41 = .ok (.return_, 1) := by decide +kernel
noncomputable def X8_init_0 (w : Wd) : Option (Wd) :=
(some (puI w 45 0 (-1 : Int32))).bind fun w1 =>
(some (puI w1 45 2 1)).bind fun w2 =>
(some (puI w2 45 3 1)).bind fun w3 =>
(some (puI w3 45 5 1)).bind fun w4 =>
(some (puI w4 45 7 1)).bind fun w5 =>
some w5
set_option maxRecDepth 20000 in
set_option maxHeartbeats 1000000 in
theorem tk_X8_init_0 {κ : KxC} (w : Wd) (hi : (cmeth κ).name = "<init>") (h : ok (X8_init_0   w) (PVc κ 50 4 400)) : JC κ RX8 cX8_init 1 none (rmc 1 20 4 400) 0 [(0, .ref (ad (cg κ) 45))] [] (w, 46, 0, 0) := by
  unfold X8_init_0 at h
  refine jc_aload_n 0 dX8_init_0 rfl rfl ?_
  refine jc_objInit oi_RX8_3 (by decide) (Nat.le_of_ble_eq_true rfl) dX8_init_1 ?_
  refine jc_aload_n 0 dX8_init_4 rfl rfl ?_
  refine jc_iconst (-1 : Int32) dX8_init_5 ki_m1 ?_
  refine jc_putI fp_RX8_9 sh_45 (by decide) fk_45_0 dX8_init_6 ?_
  refine jc_lW h (fun w1 h => ?_)
  refine jc_aload_n 0 dX8_init_9 rfl rfl ?_
  refine jc_bipush (100 : Int32) dX8_init_10 kb_100 ?_
  refine jc_newI (m := 100) (by decide) sh_46 aw_I (by decide) (by decide) (by decide) (by decide) (by decide) dX8_init_12 ?_
  refine jc_putA fr_RX8_15 sh_45 (by decide) fk_45_2 (by decide) (fun _ => rfl) (fun _ => rfl) hi dX8_init_14 ?_
  refine jc_lW h (fun w2 h => ?_)
  refine jc_aload_n 0 dX8_init_17 rfl rfl ?_
  refine jc_bipush (100 : Int32) dX8_init_18 kb_100 ?_
  refine jc_newZ (m := 100) (by decide) sh_47 aw_Z (by decide) (by decide) (by decide) (by decide) (by decide) dX8_init_20 ?_
  refine jc_putA fr_RX8_19 sh_45 (by decide) fk_45_3 (by decide) (fun _ => rfl) (fun _ => rfl) hi dX8_init_22 ?_
  refine jc_lW h (fun w3 h => ?_)
  refine jc_aload_n 0 dX8_init_25 rfl rfl ?_
  refine jc_bipush (100 : Int32) dX8_init_26 kb_100 ?_
  refine jc_newI (m := 100) (by decide) sh_48 aw_I (by decide) (by decide) (by decide) (by decide) (by decide) dX8_init_28 ?_
  refine jc_putA fr_RX8_23 sh_45 (by decide) fk_45_5 (by decide) (fun _ => rfl) (fun _ => rfl) hi dX8_init_30 ?_
  refine jc_lW h (fun w4 h => ?_)
  refine jc_aload_n 0 dX8_init_33 rfl rfl ?_
  refine jc_bipush (100 : Int32) dX8_init_34 kb_100 ?_
  refine jc_newI (m := 100) (by decide) sh_49 aw_I (by decide) (by decide) (by decide) (by decide) (by decide) dX8_init_36 ?_
  refine jc_putA fr_RX8_26 sh_45 (by decide) fk_45_7 (by decide) (fun _ => rfl) (fun _ => rfl) hi dX8_init_38 ?_
  refine jc_lW h (fun w5 h => ?_)
  have h := ok_s h
  exact jc_vret dX8_init_41 rfl h
theorem k_X8_init_0 (l : Launch) (γ : Gm) (A : Nat → Prop) (N : Nat) (w : Wd) (q : Wd) (e : X8_init_0   w = some q) : MetC l γ A N yX8_init cX8_init 1 none (rmc 1 20 4 400) [.ref (ad (γ) 45)] w 46 none q 50 4 400 := by
  refine met_ofC pn_RX8 (Nat.le_of_ble_eq_true rfl) ?_
  intro κ hl hγ hA hN hρ hi
  subst hl; subst hγ; subst hA; subst hN
  exact tk_X8_init_0    w hi ⟨q, e, pVc hρ rfl rfl⟩
noncomputable def X8_init_1 (w : Wd) : Option (Wd) :=
(some (puI w 50 0 (-1 : Int32))).bind fun w1 =>
(some (puI w1 50 2 1)).bind fun w2 =>
(some (puI w2 50 3 1)).bind fun w3 =>
(some (puI w3 50 5 1)).bind fun w4 =>
(some (puI w4 50 7 1)).bind fun w5 =>
some w5
set_option maxRecDepth 20000 in
set_option maxHeartbeats 1000000 in
theorem tk_X8_init_1 {κ : KxC} (w : Wd) (hi : (cmeth κ).name = "<init>") (h : ok (X8_init_1   w) (PVc κ 55 4 400)) : JC κ RX8 cX8_init 1 none (rmc 1 20 4 400) 0 [(0, .ref (ad (cg κ) 50))] [] (w, 51, 0, 0) := by
  unfold X8_init_1 at h
  refine jc_aload_n 0 dX8_init_0 rfl rfl ?_
  refine jc_objInit oi_RX8_3 (by decide) (Nat.le_of_ble_eq_true rfl) dX8_init_1 ?_
  refine jc_aload_n 0 dX8_init_4 rfl rfl ?_
  refine jc_iconst (-1 : Int32) dX8_init_5 ki_m1 ?_
  refine jc_putI fp_RX8_9 sh_50 (by decide) fk_50_0 dX8_init_6 ?_
  refine jc_lW h (fun w1 h => ?_)
  refine jc_aload_n 0 dX8_init_9 rfl rfl ?_
  refine jc_bipush (100 : Int32) dX8_init_10 kb_100 ?_
  refine jc_newI (m := 100) (by decide) sh_51 aw_I (by decide) (by decide) (by decide) (by decide) (by decide) dX8_init_12 ?_
  refine jc_putA fr_RX8_15 sh_50 (by decide) fk_50_2 (by decide) (fun _ => rfl) (fun _ => rfl) hi dX8_init_14 ?_
  refine jc_lW h (fun w2 h => ?_)
  refine jc_aload_n 0 dX8_init_17 rfl rfl ?_
  refine jc_bipush (100 : Int32) dX8_init_18 kb_100 ?_
  refine jc_newZ (m := 100) (by decide) sh_52 aw_Z (by decide) (by decide) (by decide) (by decide) (by decide) dX8_init_20 ?_
  refine jc_putA fr_RX8_19 sh_50 (by decide) fk_50_3 (by decide) (fun _ => rfl) (fun _ => rfl) hi dX8_init_22 ?_
  refine jc_lW h (fun w3 h => ?_)
  refine jc_aload_n 0 dX8_init_25 rfl rfl ?_
  refine jc_bipush (100 : Int32) dX8_init_26 kb_100 ?_
  refine jc_newI (m := 100) (by decide) sh_53 aw_I (by decide) (by decide) (by decide) (by decide) (by decide) dX8_init_28 ?_
  refine jc_putA fr_RX8_23 sh_50 (by decide) fk_50_5 (by decide) (fun _ => rfl) (fun _ => rfl) hi dX8_init_30 ?_
  refine jc_lW h (fun w4 h => ?_)
  refine jc_aload_n 0 dX8_init_33 rfl rfl ?_
  refine jc_bipush (100 : Int32) dX8_init_34 kb_100 ?_
  refine jc_newI (m := 100) (by decide) sh_54 aw_I (by decide) (by decide) (by decide) (by decide) (by decide) dX8_init_36 ?_
  refine jc_putA fr_RX8_26 sh_50 (by decide) fk_50_7 (by decide) (fun _ => rfl) (fun _ => rfl) hi dX8_init_38 ?_
  refine jc_lW h (fun w5 h => ?_)
  have h := ok_s h
  exact jc_vret dX8_init_41 rfl h
theorem k_X8_init_1 (l : Launch) (γ : Gm) (A : Nat → Prop) (N : Nat) (w : Wd) (q : Wd) (e : X8_init_1   w = some q) : MetC l γ A N yX8_init cX8_init 1 none (rmc 1 20 4 400) [.ref (ad (γ) 50)] w 51 none q 55 4 400 := by
  refine met_ofC pn_RX8 (Nat.le_of_ble_eq_true rfl) ?_
  intro κ hl hγ hA hN hρ hi
  subst hl; subst hγ; subst hA; subst hN
  exact tk_X8_init_1    w hi ⟨q, e, pVc hρ rfl rfl⟩
noncomputable def X8_init_2 (w : Wd) : Option (Wd) :=
(some (puI w 55 0 (-1 : Int32))).bind fun w1 =>
(some (puI w1 55 2 1)).bind fun w2 =>
(some (puI w2 55 3 1)).bind fun w3 =>
(some (puI w3 55 5 1)).bind fun w4 =>
(some (puI w4 55 7 1)).bind fun w5 =>
some w5
set_option maxRecDepth 20000 in
set_option maxHeartbeats 1000000 in
theorem tk_X8_init_2 {κ : KxC} (w : Wd) (hi : (cmeth κ).name = "<init>") (h : ok (X8_init_2   w) (PVc κ 60 4 400)) : JC κ RX8 cX8_init 1 none (rmc 1 20 4 400) 0 [(0, .ref (ad (cg κ) 55))] [] (w, 56, 0, 0) := by
  unfold X8_init_2 at h
  refine jc_aload_n 0 dX8_init_0 rfl rfl ?_
  refine jc_objInit oi_RX8_3 (by decide) (Nat.le_of_ble_eq_true rfl) dX8_init_1 ?_
  refine jc_aload_n 0 dX8_init_4 rfl rfl ?_
  refine jc_iconst (-1 : Int32) dX8_init_5 ki_m1 ?_
  refine jc_putI fp_RX8_9 sh_55 (by decide) fk_55_0 dX8_init_6 ?_
  refine jc_lW h (fun w1 h => ?_)
  refine jc_aload_n 0 dX8_init_9 rfl rfl ?_
  refine jc_bipush (100 : Int32) dX8_init_10 kb_100 ?_
  refine jc_newI (m := 100) (by decide) sh_56 aw_I (by decide) (by decide) (by decide) (by decide) (by decide) dX8_init_12 ?_
  refine jc_putA fr_RX8_15 sh_55 (by decide) fk_55_2 (by decide) (fun _ => rfl) (fun _ => rfl) hi dX8_init_14 ?_
  refine jc_lW h (fun w2 h => ?_)
  refine jc_aload_n 0 dX8_init_17 rfl rfl ?_
  refine jc_bipush (100 : Int32) dX8_init_18 kb_100 ?_
  refine jc_newZ (m := 100) (by decide) sh_57 aw_Z (by decide) (by decide) (by decide) (by decide) (by decide) dX8_init_20 ?_
  refine jc_putA fr_RX8_19 sh_55 (by decide) fk_55_3 (by decide) (fun _ => rfl) (fun _ => rfl) hi dX8_init_22 ?_
  refine jc_lW h (fun w3 h => ?_)
  refine jc_aload_n 0 dX8_init_25 rfl rfl ?_
  refine jc_bipush (100 : Int32) dX8_init_26 kb_100 ?_
  refine jc_newI (m := 100) (by decide) sh_58 aw_I (by decide) (by decide) (by decide) (by decide) (by decide) dX8_init_28 ?_
  refine jc_putA fr_RX8_23 sh_55 (by decide) fk_55_5 (by decide) (fun _ => rfl) (fun _ => rfl) hi dX8_init_30 ?_
  refine jc_lW h (fun w4 h => ?_)
  refine jc_aload_n 0 dX8_init_33 rfl rfl ?_
  refine jc_bipush (100 : Int32) dX8_init_34 kb_100 ?_
  refine jc_newI (m := 100) (by decide) sh_59 aw_I (by decide) (by decide) (by decide) (by decide) (by decide) dX8_init_36 ?_
  refine jc_putA fr_RX8_26 sh_55 (by decide) fk_55_7 (by decide) (fun _ => rfl) (fun _ => rfl) hi dX8_init_38 ?_
  refine jc_lW h (fun w5 h => ?_)
  have h := ok_s h
  exact jc_vret dX8_init_41 rfl h
theorem k_X8_init_2 (l : Launch) (γ : Gm) (A : Nat → Prop) (N : Nat) (w : Wd) (q : Wd) (e : X8_init_2   w = some q) : MetC l γ A N yX8_init cX8_init 1 none (rmc 1 20 4 400) [.ref (ad (γ) 55)] w 56 none q 60 4 400 := by
  refine met_ofC pn_RX8 (Nat.le_of_ble_eq_true rfl) ?_
  intro κ hl hγ hA hN hρ hi
  subst hl; subst hγ; subst hA; subst hN
  exact tk_X8_init_2    w hi ⟨q, e, pVc hρ rfl rfl⟩
noncomputable def X8_init_3 (w : Wd) : Option (Wd) :=
(some (puI w 60 0 (-1 : Int32))).bind fun w1 =>
(some (puI w1 60 2 1)).bind fun w2 =>
(some (puI w2 60 3 1)).bind fun w3 =>
(some (puI w3 60 5 1)).bind fun w4 =>
(some (puI w4 60 7 1)).bind fun w5 =>
some w5
set_option maxRecDepth 20000 in
set_option maxHeartbeats 1000000 in
theorem tk_X8_init_3 {κ : KxC} (w : Wd) (hi : (cmeth κ).name = "<init>") (h : ok (X8_init_3   w) (PVc κ 65 4 400)) : JC κ RX8 cX8_init 1 none (rmc 1 20 4 400) 0 [(0, .ref (ad (cg κ) 60))] [] (w, 61, 0, 0) := by
  unfold X8_init_3 at h
  refine jc_aload_n 0 dX8_init_0 rfl rfl ?_
  refine jc_objInit oi_RX8_3 (by decide) (Nat.le_of_ble_eq_true rfl) dX8_init_1 ?_
  refine jc_aload_n 0 dX8_init_4 rfl rfl ?_
  refine jc_iconst (-1 : Int32) dX8_init_5 ki_m1 ?_
  refine jc_putI fp_RX8_9 sh_60 (by decide) fk_60_0 dX8_init_6 ?_
  refine jc_lW h (fun w1 h => ?_)
  refine jc_aload_n 0 dX8_init_9 rfl rfl ?_
  refine jc_bipush (100 : Int32) dX8_init_10 kb_100 ?_
  refine jc_newI (m := 100) (by decide) sh_61 aw_I (by decide) (by decide) (by decide) (by decide) (by decide) dX8_init_12 ?_
  refine jc_putA fr_RX8_15 sh_60 (by decide) fk_60_2 (by decide) (fun _ => rfl) (fun _ => rfl) hi dX8_init_14 ?_
  refine jc_lW h (fun w2 h => ?_)
  refine jc_aload_n 0 dX8_init_17 rfl rfl ?_
  refine jc_bipush (100 : Int32) dX8_init_18 kb_100 ?_
  refine jc_newZ (m := 100) (by decide) sh_62 aw_Z (by decide) (by decide) (by decide) (by decide) (by decide) dX8_init_20 ?_
  refine jc_putA fr_RX8_19 sh_60 (by decide) fk_60_3 (by decide) (fun _ => rfl) (fun _ => rfl) hi dX8_init_22 ?_
  refine jc_lW h (fun w3 h => ?_)
  refine jc_aload_n 0 dX8_init_25 rfl rfl ?_
  refine jc_bipush (100 : Int32) dX8_init_26 kb_100 ?_
  refine jc_newI (m := 100) (by decide) sh_63 aw_I (by decide) (by decide) (by decide) (by decide) (by decide) dX8_init_28 ?_
  refine jc_putA fr_RX8_23 sh_60 (by decide) fk_60_5 (by decide) (fun _ => rfl) (fun _ => rfl) hi dX8_init_30 ?_
  refine jc_lW h (fun w4 h => ?_)
  refine jc_aload_n 0 dX8_init_33 rfl rfl ?_
  refine jc_bipush (100 : Int32) dX8_init_34 kb_100 ?_
  refine jc_newI (m := 100) (by decide) sh_64 aw_I (by decide) (by decide) (by decide) (by decide) (by decide) dX8_init_36 ?_
  refine jc_putA fr_RX8_26 sh_60 (by decide) fk_60_7 (by decide) (fun _ => rfl) (fun _ => rfl) hi dX8_init_38 ?_
  refine jc_lW h (fun w5 h => ?_)
  have h := ok_s h
  exact jc_vret dX8_init_41 rfl h
theorem k_X8_init_3 (l : Launch) (γ : Gm) (A : Nat → Prop) (N : Nat) (w : Wd) (q : Wd) (e : X8_init_3   w = some q) : MetC l γ A N yX8_init cX8_init 1 none (rmc 1 20 4 400) [.ref (ad (γ) 60)] w 61 none q 65 4 400 := by
  refine met_ofC pn_RX8 (Nat.le_of_ble_eq_true rfl) ?_
  intro κ hl hγ hA hN hρ hi
  subst hl; subst hγ; subst hA; subst hN
  exact tk_X8_init_3    w hi ⟨q, e, pVc hρ rfl rfl⟩
theorem dX9_init_0 : decode cX9_init 0 = .ok (.aload_n 0, 1) := by decide +kernel
theorem dX9_init_1 : decode cX9_init 1 = .ok (.invokespecial 3, 3) := by decide +kernel
theorem dX9_init_4 : decode cX9_init 4 = .ok (.aload_n 0, 1) := by decide +kernel
theorem dX9_init_5 : decode cX9_init 5 = .ok (.sipush 240, 3) := by decide +kernel
theorem dX9_init_8 : decode cX9_init 8 = .ok (.newarray .long, 2) := by decide +kernel
theorem dX9_init_10 : decode cX9_init 10 = .ok (.putfield 11, 3) := by decide +kernel
theorem dX9_init_13 : decode cX9_init 13 = .ok (.aload_n 0, 1) := by decide +kernel
theorem dX9_init_14 : decode cX9_init 14 = .ok (.iconst 4, 1) := by decide +kernel
theorem dX9_init_15 : decode cX9_init 15 = .ok (.newarray .int, 2) := by decide +kernel
theorem dX9_init_17 : decode cX9_init 17 = .ok (.putfield 15, 3) := by decide +kernel
theorem dX9_init_20 : decode cX9_init 20 = .ok (.aload_n 0, 1) := by decide +kernel
theorem dX9_init_21 : decode cX9_init 21 = .ok (.iconst 4, 1) := by decide +kernel
theorem dX9_init_22 : decode cX9_init 22 = .ok (.newarray .int, 2) := by decide +kernel
theorem dX9_init_24 : decode cX9_init 24 = .ok (.putfield 19, 3) := by decide +kernel
theorem dX9_init_27 : decode cX9_init 27 = .ok (.aload_n 0, 1) := by decide +kernel
theorem dX9_init_28 : decode cX9_init 28 = .ok (.getfield 19, 3) := by decide +kernel
theorem dX9_init_31 : decode cX9_init 31 = .ok (.iconst (-1), 1) := by decide +kernel
theorem dX9_init_32 : decode cX9_init 32 = .ok (.invokestatic 22, 3) := by decide +kernel
theorem dX9_init_35 : decode cX9_init 35 = .ok (.return_, 1) := by decide +kernel
noncomputable def X9_init (w : Wd) : Option (Wd) :=
(some (puI w 1 0 1)).bind fun w1 =>
(some (puI w1 1 1 1)).bind fun w2 =>
(some (puI w2 1 2 1)).bind fun w3 =>
gd (¬ w3.1 1 2 = 0) <|
(J7_fill_53178 4 4 (-1 : Int32) w3).bind fun q4 =>
some q4
set_option maxRecDepth 20000 in
set_option maxHeartbeats 1000000 in
theorem tk_X9_init {κ : KxC} (w : Wd) (hi : (cmeth κ).name = "<init>") (h : ok (X9_init   w) (PVc κ 5 3 248)) : JC κ RX9 cX9_init 1 none (rmc 1 23 3 248) 0 [(0, .ref (ad (cg κ) 1))] [] (w, 2, 0, 0) := by
  unfold X9_init at h
  refine jc_aload_n 0 dX9_init_0 rfl rfl ?_
  refine jc_objInit oi_RX9_3 (by decide) (Nat.le_of_ble_eq_true rfl) dX9_init_1 ?_
  refine jc_aload_n 0 dX9_init_4 rfl rfl ?_
  refine jc_sipush (240 : Int32) dX9_init_5 ks_240 ?_
  refine jc_newJ (m := 240) (by decide) sh_2 aw_J (by decide) (by decide) (by decide) (by decide) (by decide) dX9_init_8 ?_
  refine jc_putA fr_RX9_11 sh_1 (by decide) fk_1_0 (by decide) (fun _ => rfl) (fun _ => rfl) hi dX9_init_10 ?_
  refine jc_lW h (fun w1 h => ?_)
  refine jc_aload_n 0 dX9_init_13 rfl rfl ?_
  refine jc_iconst (4 : Int32) dX9_init_14 ki_4 ?_
  refine jc_newI (m := 4) (by decide) sh_3 aw_I (by decide) (by decide) (by decide) (by decide) (by decide) dX9_init_15 ?_
  refine jc_putA fr_RX9_15 sh_1 (by decide) fk_1_1 (by decide) (fun _ => rfl) (fun _ => rfl) hi dX9_init_17 ?_
  refine jc_lW h (fun w2 h => ?_)
  refine jc_aload_n 0 dX9_init_20 rfl rfl ?_
  refine jc_iconst (4 : Int32) dX9_init_21 ki_4 ?_
  refine jc_newI (m := 4) (by decide) sh_4 aw_I (by decide) (by decide) (by decide) (by decide) (by decide) dX9_init_22 ?_
  refine jc_putA fr_RX9_19 sh_1 (by decide) fk_1_2 (by decide) (fun _ => rfl) (fun _ => rfl) hi dX9_init_24 ?_
  refine jc_lW h (fun w3 h => ?_)
  refine jc_aload_n 0 dX9_init_27 rfl rfl ?_
  refine jc_getA 4 fl_RX9_19 sh_1 (by decide) fk_1_2 (by decide) dX9_init_28 h (fun h => ?_)
  refine jc_iconst (-1 : Int32) dX9_init_31 ki_m1 ?_
  obtain ⟨q4, e5, h⟩ := ok_b h
  refine jc_callS (As := [.ref (ad (cg κ) 4), .int (-1 : Int32)]) (st := []) [] (by decide) (k_J7_fill_53178 (cl κ) (cg κ) (cA κ) (cN κ) 4 4 sh_4 5 (by decide) (-1 : Int32) w3 q4 e5) ck_RX9_22 st_J7_fill_53178 ⟨rfl, rfl⟩ ⟨by decide, by decide⟩ ⟨by decide, by decide⟩ rfl rfl (Nat.le_of_ble_eq_true rfl) dX9_init_32 _ rfl ?_
  have h := ok_s h
  exact jc_vret dX9_init_35 rfl h
theorem k_X9_init (l : Launch) (γ : Gm) (A : Nat → Prop) (N : Nat) (w : Wd) (q : Wd) (e : X9_init   w = some q) : MetC l γ A N yX9_init cX9_init 1 none (rmc 1 23 3 248) [.ref (ad (γ) 1)] w 2 none q 5 3 248 := by
  refine met_ofC pn_RX9 (Nat.le_of_ble_eq_true rfl) ?_
  intro κ hl hγ hA hN hρ hi
  subst hl; subst hγ; subst hA; subst hN
  exact tk_X9_init    w hi ⟨q, e, pVc hρ rfl rfl⟩
theorem dX2_init_0 : decode cX2_init 0 = .ok (.aload_n 0, 1) := by decide +kernel
theorem dX2_init_1 : decode cX2_init 1 = .ok (.invokespecial 3, 3) := by decide +kernel
theorem dX2_init_4 : decode cX2_init 4 = .ok (.aload_n 0, 1) := by decide +kernel
theorem dX2_init_5 : decode cX2_init 5 = .ok (.bipush 16, 2) := by decide +kernel
theorem dX2_init_7 : decode cX2_init 7 = .ok (.newarray .int, 2) := by decide +kernel
theorem dX2_init_9 : decode cX2_init 9 = .ok (.putfield 9, 3) := by decide +kernel
theorem dX2_init_12 : decode cX2_init 12 = .ok (.aload_n 0, 1) := by decide +kernel
theorem dX2_init_13 : decode cX2_init 13 = .ok (.bipush 30, 2) := by decide +kernel
theorem dX2_init_15 : decode cX2_init 15 = .ok (.newarray .int, 2) := by decide +kernel
theorem dX2_init_17 : decode cX2_init 17 = .ok (.putfield 15, 3) := by decide +kernel
theorem dX2_init_20 : decode cX2_init 20 = .ok (.aload_n 0, 1) := by decide +kernel
theorem dX2_init_21 : decode cX2_init 21 = .ok (.bipush 30, 2) := by decide +kernel
theorem dX2_init_23 : decode cX2_init 23 = .ok (.newarray .int, 2) := by decide +kernel
theorem dX2_init_25 : decode cX2_init 25 = .ok (.putfield 18, 3) := by decide +kernel
theorem dX2_init_28 : decode cX2_init 28 = .ok (.aload_n 0, 1) := by decide +kernel
theorem dX2_init_29 : decode cX2_init 29 = .ok (.bipush 30, 2) := by decide +kernel
theorem dX2_init_31 : decode cX2_init 31 = .ok (.newarray .int, 2) := by decide +kernel
theorem dX2_init_33 : decode cX2_init 33 = .ok (.putfield 21, 3) := by decide +kernel
theorem dX2_init_36 : decode cX2_init 36 = .ok (.aload_n 0, 1) := by decide +kernel
theorem dX2_init_37 : decode cX2_init 37 = .ok (.bipush 30, 2) := by decide +kernel
theorem dX2_init_39 : decode cX2_init 39 = .ok (.newarray .int, 2) := by decide +kernel
theorem dX2_init_41 : decode cX2_init 41 = .ok (.putfield 24, 3) := by decide +kernel
theorem dX2_init_44 : decode cX2_init 44 = .ok (.aload_n 0, 1) := by decide +kernel
theorem dX2_init_45 : decode cX2_init 45 = .ok (.bipush 30, 2) := by decide +kernel
theorem dX2_init_47 : decode cX2_init 47 = .ok (.newarray .int, 2) := by decide +kernel
theorem dX2_init_49 : decode cX2_init 49 = .ok (.putfield 27, 3) := by decide +kernel
theorem dX2_init_52 : decode cX2_init 52 = .ok (.aload_n 0, 1) := by decide +kernel
theorem dX2_init_53 : decode cX2_init 53 = .ok (.bipush 40, 2) := by decide +kernel
theorem dX2_init_55 : decode cX2_init 55 = .ok (.newarray .int, 2) := by decide +kernel
theorem dX2_init_57 : decode cX2_init 57 = .ok (.putfield 30, 3) := by decide +kernel
theorem dX2_init_60 : decode cX2_init 60 = .ok (.aload_n 0, 1) := by decide +kernel
theorem dX2_init_61 : decode cX2_init 61 = .ok (.bipush 40, 2) := by decide +kernel
theorem dX2_init_63 : decode cX2_init 63 = .ok (.newarray .int, 2) := by decide +kernel
theorem dX2_init_65 : decode cX2_init 65 = .ok (.putfield 33, 3) := by decide +kernel
theorem dX2_init_68 : decode cX2_init 68 = .ok (.aload_n 0, 1) := by decide +kernel
theorem dX2_init_69 : decode cX2_init 69 = .ok (.bipush 40, 2) := by decide +kernel
theorem dX2_init_71 : decode cX2_init 71 = .ok (.newarray .int, 2) := by decide +kernel
theorem dX2_init_73 : decode cX2_init 73 = .ok (.putfield 36, 3) := by decide +kernel
theorem dX2_init_76 : decode cX2_init 76 = .ok (.aload_n 0, 1) := by decide +kernel
theorem dX2_init_77 : decode cX2_init 77 = .ok (.bipush 20, 2) := by decide +kernel
theorem dX2_init_79 : decode cX2_init 79 = .ok (.newarray .int, 2) := by decide +kernel
theorem dX2_init_81 : decode cX2_init 81 = .ok (.putfield 39, 3) := by decide +kernel
theorem dX2_init_84 : decode cX2_init 84 = .ok (.aload_n 0, 1) := by decide +kernel
theorem dX2_init_85 : decode cX2_init 85 = .ok (.bipush 20, 2) := by decide +kernel
theorem dX2_init_87 : decode cX2_init 87 = .ok (.newarray .int, 2) := by decide +kernel
theorem dX2_init_89 : decode cX2_init 89 = .ok (.putfield 42, 3) := by decide +kernel
theorem dX2_init_92 : decode cX2_init 92 = .ok (.aload_n 0, 1) := by decide +kernel
theorem dX2_init_93 : decode cX2_init 93 = .ok (.bipush 12, 2) := by decide +kernel
theorem dX2_init_95 : decode cX2_init 95 = .ok (.newarray .int, 2) := by decide +kernel
theorem dX2_init_97 : decode cX2_init 97 = .ok (.putfield 45, 3) := by decide +kernel
theorem dX2_init_100 : decode cX2_init 100 = .ok (.aload_n 0, 1) := by decide +kernel
theorem dX2_init_101 : decode cX2_init 101 = .ok (.bipush 16, 2) := by decide +kernel
theorem dX2_init_103 : decode cX2_init 103 = .ok (.newarray .int, 2) := by decide +kernel
theorem dX2_init_105 : decode cX2_init 105 = .ok (.putfield 48, 3) := by decide +kernel
theorem dX2_init_108 : decode cX2_init 108 = .ok (.return_, 1) := by decide +kernel
noncomputable def X2_init (w : Wd) : Option (Wd) :=
(some (puI w 5 1 1)).bind fun w1 =>
(some (puI w1 5 3 1)).bind fun w2 =>
(some (puI w2 5 4 1)).bind fun w3 =>
(some (puI w3 5 5 1)).bind fun w4 =>
(some (puI w4 5 6 1)).bind fun w5 =>
(some (puI w5 5 7 1)).bind fun w6 =>
(some (puI w6 5 9 1)).bind fun w7 =>
(some (puI w7 5 10 1)).bind fun w8 =>
(some (puI w8 5 11 1)).bind fun w9 =>
(some (puI w9 5 13 1)).bind fun w10 =>
(some (puI w10 5 14 1)).bind fun w11 =>
(some (puI w11 5 16 1)).bind fun w12 =>
(some (puI w12 5 17 1)).bind fun w13 =>
some w13
set_option maxRecDepth 20000 in
set_option maxHeartbeats 1000000 in
theorem tk_X2_init {κ : KxC} (w : Wd) (hi : (cmeth κ).name = "<init>") (h : ok (X2_init   w) (PVc κ 19 13 354)) : JC κ RX2 cX2_init 1 none (rmc 1 20 13 354) 0 [(0, .ref (ad (cg κ) 5))] [] (w, 6, 0, 0) := by
  unfold X2_init at h
  refine jc_aload_n 0 dX2_init_0 rfl rfl ?_
  refine jc_objInit oi_RX2_3 (by decide) (Nat.le_of_ble_eq_true rfl) dX2_init_1 ?_
  refine jc_aload_n 0 dX2_init_4 rfl rfl ?_
  refine jc_bipush (16 : Int32) dX2_init_5 kb_16 ?_
  refine jc_newI (m := 16) (by decide) sh_6 aw_I (by decide) (by decide) (by decide) (by decide) (by decide) dX2_init_7 ?_
  refine jc_putA fr_RX2_9 sh_5 (by decide) fk_5_1 (by decide) (fun _ => rfl) (fun _ => rfl) hi dX2_init_9 ?_
  refine jc_lW h (fun w1 h => ?_)
  refine jc_aload_n 0 dX2_init_12 rfl rfl ?_
  refine jc_bipush (30 : Int32) dX2_init_13 kb_30 ?_
  refine jc_newI (m := 30) (by decide) sh_7 aw_I (by decide) (by decide) (by decide) (by decide) (by decide) dX2_init_15 ?_
  refine jc_putA fr_RX2_15 sh_5 (by decide) fk_5_3 (by decide) (fun _ => rfl) (fun _ => rfl) hi dX2_init_17 ?_
  refine jc_lW h (fun w2 h => ?_)
  refine jc_aload_n 0 dX2_init_20 rfl rfl ?_
  refine jc_bipush (30 : Int32) dX2_init_21 kb_30 ?_
  refine jc_newI (m := 30) (by decide) sh_8 aw_I (by decide) (by decide) (by decide) (by decide) (by decide) dX2_init_23 ?_
  refine jc_putA fr_RX2_18 sh_5 (by decide) fk_5_4 (by decide) (fun _ => rfl) (fun _ => rfl) hi dX2_init_25 ?_
  refine jc_lW h (fun w3 h => ?_)
  refine jc_aload_n 0 dX2_init_28 rfl rfl ?_
  refine jc_bipush (30 : Int32) dX2_init_29 kb_30 ?_
  refine jc_newI (m := 30) (by decide) sh_9 aw_I (by decide) (by decide) (by decide) (by decide) (by decide) dX2_init_31 ?_
  refine jc_putA fr_RX2_21 sh_5 (by decide) fk_5_5 (by decide) (fun _ => rfl) (fun _ => rfl) hi dX2_init_33 ?_
  refine jc_lW h (fun w4 h => ?_)
  refine jc_aload_n 0 dX2_init_36 rfl rfl ?_
  refine jc_bipush (30 : Int32) dX2_init_37 kb_30 ?_
  refine jc_newI (m := 30) (by decide) sh_10 aw_I (by decide) (by decide) (by decide) (by decide) (by decide) dX2_init_39 ?_
  refine jc_putA fr_RX2_24 sh_5 (by decide) fk_5_6 (by decide) (fun _ => rfl) (fun _ => rfl) hi dX2_init_41 ?_
  refine jc_lW h (fun w5 h => ?_)
  refine jc_aload_n 0 dX2_init_44 rfl rfl ?_
  refine jc_bipush (30 : Int32) dX2_init_45 kb_30 ?_
  refine jc_newI (m := 30) (by decide) sh_11 aw_I (by decide) (by decide) (by decide) (by decide) (by decide) dX2_init_47 ?_
  refine jc_putA fr_RX2_27 sh_5 (by decide) fk_5_7 (by decide) (fun _ => rfl) (fun _ => rfl) hi dX2_init_49 ?_
  refine jc_lW h (fun w6 h => ?_)
  refine jc_aload_n 0 dX2_init_52 rfl rfl ?_
  refine jc_bipush (40 : Int32) dX2_init_53 kb_40 ?_
  refine jc_newI (m := 40) (by decide) sh_12 aw_I (by decide) (by decide) (by decide) (by decide) (by decide) dX2_init_55 ?_
  refine jc_putA fr_RX2_30 sh_5 (by decide) fk_5_9 (by decide) (fun _ => rfl) (fun _ => rfl) hi dX2_init_57 ?_
  refine jc_lW h (fun w7 h => ?_)
  refine jc_aload_n 0 dX2_init_60 rfl rfl ?_
  refine jc_bipush (40 : Int32) dX2_init_61 kb_40 ?_
  refine jc_newI (m := 40) (by decide) sh_13 aw_I (by decide) (by decide) (by decide) (by decide) (by decide) dX2_init_63 ?_
  refine jc_putA fr_RX2_33 sh_5 (by decide) fk_5_10 (by decide) (fun _ => rfl) (fun _ => rfl) hi dX2_init_65 ?_
  refine jc_lW h (fun w8 h => ?_)
  refine jc_aload_n 0 dX2_init_68 rfl rfl ?_
  refine jc_bipush (40 : Int32) dX2_init_69 kb_40 ?_
  refine jc_newI (m := 40) (by decide) sh_14 aw_I (by decide) (by decide) (by decide) (by decide) (by decide) dX2_init_71 ?_
  refine jc_putA fr_RX2_36 sh_5 (by decide) fk_5_11 (by decide) (fun _ => rfl) (fun _ => rfl) hi dX2_init_73 ?_
  refine jc_lW h (fun w9 h => ?_)
  refine jc_aload_n 0 dX2_init_76 rfl rfl ?_
  refine jc_bipush (20 : Int32) dX2_init_77 kb_20 ?_
  refine jc_newI (m := 20) (by decide) sh_15 aw_I (by decide) (by decide) (by decide) (by decide) (by decide) dX2_init_79 ?_
  refine jc_putA fr_RX2_39 sh_5 (by decide) fk_5_13 (by decide) (fun _ => rfl) (fun _ => rfl) hi dX2_init_81 ?_
  refine jc_lW h (fun w10 h => ?_)
  refine jc_aload_n 0 dX2_init_84 rfl rfl ?_
  refine jc_bipush (20 : Int32) dX2_init_85 kb_20 ?_
  refine jc_newI (m := 20) (by decide) sh_16 aw_I (by decide) (by decide) (by decide) (by decide) (by decide) dX2_init_87 ?_
  refine jc_putA fr_RX2_42 sh_5 (by decide) fk_5_14 (by decide) (fun _ => rfl) (fun _ => rfl) hi dX2_init_89 ?_
  refine jc_lW h (fun w11 h => ?_)
  refine jc_aload_n 0 dX2_init_92 rfl rfl ?_
  refine jc_bipush (12 : Int32) dX2_init_93 kb_12 ?_
  refine jc_newI (m := 12) (by decide) sh_17 aw_I (by decide) (by decide) (by decide) (by decide) (by decide) dX2_init_95 ?_
  refine jc_putA fr_RX2_45 sh_5 (by decide) fk_5_16 (by decide) (fun _ => rfl) (fun _ => rfl) hi dX2_init_97 ?_
  refine jc_lW h (fun w12 h => ?_)
  refine jc_aload_n 0 dX2_init_100 rfl rfl ?_
  refine jc_bipush (16 : Int32) dX2_init_101 kb_16 ?_
  refine jc_newI (m := 16) (by decide) sh_18 aw_I (by decide) (by decide) (by decide) (by decide) (by decide) dX2_init_103 ?_
  refine jc_putA fr_RX2_48 sh_5 (by decide) fk_5_17 (by decide) (fun _ => rfl) (fun _ => rfl) hi dX2_init_105 ?_
  refine jc_lW h (fun w13 h => ?_)
  have h := ok_s h
  exact jc_vret dX2_init_108 rfl h
theorem k_X2_init (l : Launch) (γ : Gm) (A : Nat → Prop) (N : Nat) (w : Wd) (q : Wd) (e : X2_init   w = some q) : MetC l γ A N yX2_init cX2_init 1 none (rmc 1 20 13 354) [.ref (ad (γ) 5)] w 6 none q 19 13 354 := by
  refine met_ofC pn_RX2 (Nat.le_of_ble_eq_true rfl) ?_
  intro κ hl hγ hA hN hρ hi
  subst hl; subst hγ; subst hA; subst hN
  exact tk_X2_init    w hi ⟨q, e, pVc hρ rfl rfl⟩
theorem dX4_init_0 : decode cX4_init 0 = .ok (.aload_n 0, 1) := by decide +kernel
theorem dX4_init_1 : decode cX4_init 1 = .ok (.invokespecial 3, 3) := by decide +kernel
theorem dX4_init_4 : decode cX4_init 4 = .ok (.aload_n 0, 1) := by decide +kernel
theorem dX4_init_5 : decode cX4_init 5 = .ok (.sipush 160, 3) := by decide +kernel
theorem dX4_init_8 : decode cX4_init 8 = .ok (.newarray .int, 2) := by decide +kernel
theorem dX4_init_10 : decode cX4_init 10 = .ok (.putfield 9, 3) := by decide +kernel
theorem dX4_init_13 : decode cX4_init 13 = .ok (.aload_n 0, 1) := by decide +kernel
theorem dX4_init_14 : decode cX4_init 14 = .ok (.sipush 160, 3) := by decide +kernel
theorem dX4_init_17 : decode cX4_init 17 = .ok (.newarray .int, 2) := by decide +kernel
theorem dX4_init_19 : decode cX4_init 19 = .ok (.putfield 15, 3) := by decide +kernel
theorem dX4_init_22 : decode cX4_init 22 = .ok (.aload_n 0, 1) := by decide +kernel
theorem dX4_init_23 : decode cX4_init 23 = .ok (.sipush 160, 3) := by decide +kernel
theorem dX4_init_26 : decode cX4_init 26 = .ok (.newarray .int, 2) := by decide +kernel
theorem dX4_init_28 : decode cX4_init 28 = .ok (.putfield 18, 3) := by decide +kernel
theorem dX4_init_31 : decode cX4_init 31 = .ok (.aload_n 0, 1) := by decide +kernel
theorem dX4_init_32 : decode cX4_init 32 = .ok (.sipush 160, 3) := by decide +kernel
theorem dX4_init_35 : decode cX4_init 35 = .ok (.newarray .int, 2) := by decide +kernel
theorem dX4_init_37 : decode cX4_init 37 = .ok (.putfield 21, 3) := by decide +kernel
theorem dX4_init_40 : decode cX4_init 40 = .ok (.aload_n 0, 1) := by decide +kernel
theorem dX4_init_41 : decode cX4_init 41 = .ok (.sipush 160, 3) := by decide +kernel
theorem dX4_init_44 : decode cX4_init 44 = .ok (.newarray .int, 2) := by decide +kernel
theorem dX4_init_46 : decode cX4_init 46 = .ok (.putfield 24, 3) := by decide +kernel
theorem dX4_init_49 : decode cX4_init 49 = .ok (.aload_n 0, 1) := by decide +kernel
theorem dX4_init_50 : decode cX4_init 50 = .ok (.sipush 160, 3) := by decide +kernel
theorem dX4_init_53 : decode cX4_init 53 = .ok (.newarray .int, 2) := by decide +kernel
theorem dX4_init_55 : decode cX4_init 55 = .ok (.putfield 27, 3) := by decide +kernel
theorem dX4_init_58 : decode cX4_init 58 = .ok (.aload_n 0, 1) := by decide +kernel
theorem dX4_init_59 : decode cX4_init 59 = .ok (.bipush 59, 2) := by decide +kernel
theorem dX4_init_61 : decode cX4_init 61 = .ok (.putfield 30, 3) := by decide +kernel
theorem dX4_init_64 : decode cX4_init 64 = .ok (.aload_n 0, 1) := by decide +kernel
theorem dX4_init_65 : decode cX4_init 65 = .ok (.iconst (-1), 1) := by decide +kernel
theorem dX4_init_66 : decode cX4_init 66 = .ok (.putfield 34, 3) := by decide +kernel
theorem dX4_init_69 : decode cX4_init 69 = .ok (.aload_n 0, 1) := by decide +kernel
theorem dX4_init_70 : decode cX4_init 70 = .ok (.bipush 20, 2) := by decide +kernel
theorem dX4_init_72 : decode cX4_init 72 = .ok (.newarray .int, 2) := by decide +kernel
theorem dX4_init_74 : decode cX4_init 74 = .ok (.putfield 37, 3) := by decide +kernel
theorem dX4_init_77 : decode cX4_init 77 = .ok (.aload_n 0, 1) := by decide +kernel
theorem dX4_init_78 : decode cX4_init 78 = .ok (.bipush 40, 2) := by decide +kernel
theorem dX4_init_80 : decode cX4_init 80 = .ok (.newarray .int, 2) := by decide +kernel
theorem dX4_init_82 : decode cX4_init 82 = .ok (.putfield 40, 3) := by decide +kernel
theorem dX4_init_85 : decode cX4_init 85 = .ok (.aload_n 0, 1) := by decide +kernel
theorem dX4_init_86 : decode cX4_init 86 = .ok (.bipush 12, 2) := by decide +kernel
theorem dX4_init_88 : decode cX4_init 88 = .ok (.newarray .int, 2) := by decide +kernel
theorem dX4_init_90 : decode cX4_init 90 = .ok (.putfield 43, 3) := by decide +kernel
theorem dX4_init_93 : decode cX4_init 93 = .ok (.aload_n 0, 1) := by decide +kernel
theorem dX4_init_94 : decode cX4_init 94 = .ok (.bipush 12, 2) := by decide +kernel
theorem dX4_init_96 : decode cX4_init 96 = .ok (.newarray .int, 2) := by decide +kernel
theorem dX4_init_98 : decode cX4_init 98 = .ok (.putfield 46, 3) := by decide +kernel
theorem dX4_init_101 : decode cX4_init 101 = .ok (.return_, 1) := by decide +kernel
noncomputable def X4_init (w : Wd) : Option (Wd) :=
(some (puI w 19 1 1)).bind fun w1 =>
(some (puI w1 19 2 1)).bind fun w2 =>
(some (puI w2 19 3 1)).bind fun w3 =>
(some (puI w3 19 4 1)).bind fun w4 =>
(some (puI w4 19 5 1)).bind fun w5 =>
(some (puI w5 19 6 1)).bind fun w6 =>
(some (puI w6 19 7 (59 : Int32))).bind fun w7 =>
(some (puI w7 19 8 (-1 : Int32))).bind fun w8 =>
(some (puI w8 19 9 1)).bind fun w9 =>
(some (puI w9 19 10 1)).bind fun w10 =>
(some (puI w10 19 11 1)).bind fun w11 =>
(some (puI w11 19 12 1)).bind fun w12 =>
some w12
set_option maxRecDepth 20000 in
set_option maxHeartbeats 1000000 in
theorem tk_X4_init {κ : KxC} (w : Wd) (hi : (cmeth κ).name = "<init>") (h : ok (X4_init   w) (PVc κ 30 10 1044)) : JC κ RX4 cX4_init 1 none (rmc 1 20 10 1044) 0 [(0, .ref (ad (cg κ) 19))] [] (w, 20, 0, 0) := by
  unfold X4_init at h
  refine jc_aload_n 0 dX4_init_0 rfl rfl ?_
  refine jc_objInit oi_RX4_3 (by decide) (Nat.le_of_ble_eq_true rfl) dX4_init_1 ?_
  refine jc_aload_n 0 dX4_init_4 rfl rfl ?_
  refine jc_sipush (160 : Int32) dX4_init_5 ks_160 ?_
  refine jc_newI (m := 160) (by decide) sh_20 aw_I (by decide) (by decide) (by decide) (by decide) (by decide) dX4_init_8 ?_
  refine jc_putA fr_RX4_9 sh_19 (by decide) fk_19_1 (by decide) (fun _ => rfl) (fun _ => rfl) hi dX4_init_10 ?_
  refine jc_lW h (fun w1 h => ?_)
  refine jc_aload_n 0 dX4_init_13 rfl rfl ?_
  refine jc_sipush (160 : Int32) dX4_init_14 ks_160 ?_
  refine jc_newI (m := 160) (by decide) sh_21 aw_I (by decide) (by decide) (by decide) (by decide) (by decide) dX4_init_17 ?_
  refine jc_putA fr_RX4_15 sh_19 (by decide) fk_19_2 (by decide) (fun _ => rfl) (fun _ => rfl) hi dX4_init_19 ?_
  refine jc_lW h (fun w2 h => ?_)
  refine jc_aload_n 0 dX4_init_22 rfl rfl ?_
  refine jc_sipush (160 : Int32) dX4_init_23 ks_160 ?_
  refine jc_newI (m := 160) (by decide) sh_22 aw_I (by decide) (by decide) (by decide) (by decide) (by decide) dX4_init_26 ?_
  refine jc_putA fr_RX4_18 sh_19 (by decide) fk_19_3 (by decide) (fun _ => rfl) (fun _ => rfl) hi dX4_init_28 ?_
  refine jc_lW h (fun w3 h => ?_)
  refine jc_aload_n 0 dX4_init_31 rfl rfl ?_
  refine jc_sipush (160 : Int32) dX4_init_32 ks_160 ?_
  refine jc_newI (m := 160) (by decide) sh_23 aw_I (by decide) (by decide) (by decide) (by decide) (by decide) dX4_init_35 ?_
  refine jc_putA fr_RX4_21 sh_19 (by decide) fk_19_4 (by decide) (fun _ => rfl) (fun _ => rfl) hi dX4_init_37 ?_
  refine jc_lW h (fun w4 h => ?_)
  refine jc_aload_n 0 dX4_init_40 rfl rfl ?_
  refine jc_sipush (160 : Int32) dX4_init_41 ks_160 ?_
  refine jc_newI (m := 160) (by decide) sh_24 aw_I (by decide) (by decide) (by decide) (by decide) (by decide) dX4_init_44 ?_
  refine jc_putA fr_RX4_24 sh_19 (by decide) fk_19_5 (by decide) (fun _ => rfl) (fun _ => rfl) hi dX4_init_46 ?_
  refine jc_lW h (fun w5 h => ?_)
  refine jc_aload_n 0 dX4_init_49 rfl rfl ?_
  refine jc_sipush (160 : Int32) dX4_init_50 ks_160 ?_
  refine jc_newI (m := 160) (by decide) sh_25 aw_I (by decide) (by decide) (by decide) (by decide) (by decide) dX4_init_53 ?_
  refine jc_putA fr_RX4_27 sh_19 (by decide) fk_19_6 (by decide) (fun _ => rfl) (fun _ => rfl) hi dX4_init_55 ?_
  refine jc_lW h (fun w6 h => ?_)
  refine jc_aload_n 0 dX4_init_58 rfl rfl ?_
  refine jc_bipush (59 : Int32) dX4_init_59 kb_59 ?_
  refine jc_putI fp_RX4_30 sh_19 (by decide) fk_19_7 dX4_init_61 ?_
  refine jc_lW h (fun w7 h => ?_)
  refine jc_aload_n 0 dX4_init_64 rfl rfl ?_
  refine jc_iconst (-1 : Int32) dX4_init_65 ki_m1 ?_
  refine jc_putI fp_RX4_34 sh_19 (by decide) fk_19_8 dX4_init_66 ?_
  refine jc_lW h (fun w8 h => ?_)
  refine jc_aload_n 0 dX4_init_69 rfl rfl ?_
  refine jc_bipush (20 : Int32) dX4_init_70 kb_20 ?_
  refine jc_newI (m := 20) (by decide) sh_26 aw_I (by decide) (by decide) (by decide) (by decide) (by decide) dX4_init_72 ?_
  refine jc_putA fr_RX4_37 sh_19 (by decide) fk_19_9 (by decide) (fun _ => rfl) (fun _ => rfl) hi dX4_init_74 ?_
  refine jc_lW h (fun w9 h => ?_)
  refine jc_aload_n 0 dX4_init_77 rfl rfl ?_
  refine jc_bipush (40 : Int32) dX4_init_78 kb_40 ?_
  refine jc_newI (m := 40) (by decide) sh_27 aw_I (by decide) (by decide) (by decide) (by decide) (by decide) dX4_init_80 ?_
  refine jc_putA fr_RX4_40 sh_19 (by decide) fk_19_10 (by decide) (fun _ => rfl) (fun _ => rfl) hi dX4_init_82 ?_
  refine jc_lW h (fun w10 h => ?_)
  refine jc_aload_n 0 dX4_init_85 rfl rfl ?_
  refine jc_bipush (12 : Int32) dX4_init_86 kb_12 ?_
  refine jc_newI (m := 12) (by decide) sh_28 aw_I (by decide) (by decide) (by decide) (by decide) (by decide) dX4_init_88 ?_
  refine jc_putA fr_RX4_43 sh_19 (by decide) fk_19_11 (by decide) (fun _ => rfl) (fun _ => rfl) hi dX4_init_90 ?_
  refine jc_lW h (fun w11 h => ?_)
  refine jc_aload_n 0 dX4_init_93 rfl rfl ?_
  refine jc_bipush (12 : Int32) dX4_init_94 kb_12 ?_
  refine jc_newI (m := 12) (by decide) sh_29 aw_I (by decide) (by decide) (by decide) (by decide) (by decide) dX4_init_96 ?_
  refine jc_putA fr_RX4_46 sh_19 (by decide) fk_19_12 (by decide) (fun _ => rfl) (fun _ => rfl) hi dX4_init_98 ?_
  refine jc_lW h (fun w12 h => ?_)
  have h := ok_s h
  exact jc_vret dX4_init_101 rfl h
theorem k_X4_init (l : Launch) (γ : Gm) (A : Nat → Prop) (N : Nat) (w : Wd) (q : Wd) (e : X4_init   w = some q) : MetC l γ A N yX4_init cX4_init 1 none (rmc 1 20 10 1044) [.ref (ad (γ) 19)] w 20 none q 30 10 1044 := by
  refine met_ofC pn_RX4 (Nat.le_of_ble_eq_true rfl) ?_
  intro κ hl hγ hA hN hρ hi
  subst hl; subst hγ; subst hA; subst hN
  exact tk_X4_init    w hi ⟨q, e, pVc hρ rfl rfl⟩
theorem dX0_init_0 : decode cX0_init 0 = .ok (.aload_n 0, 1) := by decide +kernel
theorem dX0_init_1 : decode cX0_init 1 = .ok (.invokespecial 5, 3) := by decide +kernel
theorem dX0_init_4 : decode cX0_init 4 = .ok (.aload_n 0, 1) := by decide +kernel
theorem dX0_init_5 : decode cX0_init 5 = .ok (.iconst 5, 1) := by decide +kernel
theorem dX0_init_6 : decode cX0_init 6 = .ok (.newarray .int, 2) := by decide +kernel
theorem dX0_init_8 : decode cX0_init 8 = .ok (.putfield 11, 3) := by decide +kernel
theorem dX0_init_11 : decode cX0_init 11 = .ok (.aload_n 0, 1) := by decide +kernel
theorem dX0_init_12 : decode cX0_init 12 = .ok (.iconst 5, 1) := by decide +kernel
theorem dX0_init_13 : decode cX0_init 13 = .ok (.newarray .int, 2) := by decide +kernel
theorem dX0_init_15 : decode cX0_init 15 = .ok (.putfield 15, 3) := by decide +kernel
theorem dX0_init_18 : decode cX0_init 18 = .ok (.aload_n 0, 1) := by decide +kernel
theorem dX0_init_19 : decode cX0_init 19 = .ok (.bipush 6, 2) := by decide +kernel
theorem dX0_init_21 : decode cX0_init 21 = .ok (.newarray .int, 2) := by decide +kernel
theorem dX0_init_23 : decode cX0_init 23 = .ok (.putfield 18, 3) := by decide +kernel
theorem dX0_init_26 : decode cX0_init 26 = .ok (.aload_n 0, 1) := by decide +kernel
theorem dX0_init_27 : decode cX0_init 27 = .ok (.iconst 5, 1) := by decide +kernel
theorem dX0_init_28 : decode cX0_init 28 = .ok (.newarray .int, 2) := by decide +kernel
theorem dX0_init_30 : decode cX0_init 30 = .ok (.putfield 21, 3) := by decide +kernel
theorem dX0_init_33 : decode cX0_init 33 = .ok (.aload_n 0, 1) := by decide +kernel
theorem dX0_init_34 : decode cX0_init 34 = .ok (.bipush 100, 2) := by decide +kernel
theorem dX0_init_36 : decode cX0_init 36 = .ok (.newarray .long, 2) := by decide +kernel
theorem dX0_init_38 : decode cX0_init 38 = .ok (.putfield 24, 3) := by decide +kernel
theorem dX0_init_41 : decode cX0_init 41 = .ok (.aload_n 0, 1) := by decide +kernel
theorem dX0_init_42 : decode cX0_init 42 = .ok (.bipush 100, 2) := by decide +kernel
theorem dX0_init_44 : decode cX0_init 44 = .ok (.newarray .long, 2) := by decide +kernel
theorem dX0_init_46 : decode cX0_init 46 = .ok (.putfield 28, 3) := by decide +kernel
theorem dX0_init_49 : decode cX0_init 49 = .ok (.aload_n 0, 1) := by decide +kernel
theorem dX0_init_50 : decode cX0_init 50 = .ok (.bipush 100, 2) := by decide +kernel
theorem dX0_init_52 : decode cX0_init 52 = .ok (.newarray .int, 2) := by decide +kernel
theorem dX0_init_54 : decode cX0_init 54 = .ok (.putfield 31, 3) := by decide +kernel
theorem dX0_init_57 : decode cX0_init 57 = .ok (.aload_n 0, 1) := by decide +kernel
theorem dX0_init_58 : decode cX0_init 58 = .ok (.bipush 100, 2) := by decide +kernel
theorem dX0_init_60 : decode cX0_init 60 = .ok (.newarray .int, 2) := by decide +kernel
theorem dX0_init_62 : decode cX0_init 62 = .ok (.putfield 34, 3) := by decide +kernel
theorem dX0_init_65 : decode cX0_init 65 = .ok (.aload_n 0, 1) := by decide +kernel
theorem dX0_init_66 : decode cX0_init 66 = .ok (.bipush 100, 2) := by decide +kernel
theorem dX0_init_68 : decode cX0_init 68 = .ok (.newarray .int, 2) := by decide +kernel
theorem dX0_init_70 : decode cX0_init 70 = .ok (.putfield 37, 3) := by decide +kernel
theorem dX0_init_73 : decode cX0_init 73 = .ok (.aload_n 0, 1) := by decide +kernel
theorem dX0_init_74 : decode cX0_init 74 = .ok (.bipush 100, 2) := by decide +kernel
theorem dX0_init_76 : decode cX0_init 76 = .ok (.newarray .int, 2) := by decide +kernel
theorem dX0_init_78 : decode cX0_init 78 = .ok (.putfield 40, 3) := by decide +kernel
theorem dX0_init_81 : decode cX0_init 81 = .ok (.aload_n 0, 1) := by decide +kernel
theorem dX0_init_82 : decode cX0_init 82 = .ok (.bipush 100, 2) := by decide +kernel
theorem dX0_init_84 : decode cX0_init 84 = .ok (.newarray .int, 2) := by decide +kernel
theorem dX0_init_86 : decode cX0_init 86 = .ok (.putfield 43, 3) := by decide +kernel
theorem dX0_init_89 : decode cX0_init 89 = .ok (.aload_n 0, 1) := by decide +kernel
theorem dX0_init_90 : decode cX0_init 90 = .ok (.sipush 3000, 3) := by decide +kernel
theorem dX0_init_93 : decode cX0_init 93 = .ok (.newarray .int, 2) := by decide +kernel
theorem dX0_init_95 : decode cX0_init 95 = .ok (.putfield 46, 3) := by decide +kernel
theorem dX0_init_98 : decode cX0_init 98 = .ok (.aload_n 0, 1) := by decide +kernel
theorem dX0_init_99 : decode cX0_init 99 = .ok (.iconst 4, 1) := by decide +kernel
theorem dX0_init_100 : decode cX0_init 100 = .ok (.anewarray 49, 3) := by decide +kernel
theorem dX0_init_103 : decode cX0_init 103 = .ok (.putfield 51, 3) := by decide +kernel
theorem dX0_init_106 : decode cX0_init 106 = .ok (.aload_n 0, 1) := by decide +kernel
theorem dX0_init_107 : decode cX0_init 107 = .ok (.bipush 64, 2) := by decide +kernel
theorem dX0_init_109 : decode cX0_init 109 = .ok (.newarray .long, 2) := by decide +kernel
theorem dX0_init_111 : decode cX0_init 111 = .ok (.putfield 55, 3) := by decide +kernel
theorem dX0_init_114 : decode cX0_init 114 = .ok (.iconst 0, 1) := by decide +kernel
theorem dX0_init_115 : decode cX0_init 115 = .ok (.istore_n 1, 1) := by decide +kernel
theorem dX0_init_116 : decode cX0_init 116 = .ok (.iload_n 1, 1) := by decide +kernel
theorem dX0_init_117 : decode cX0_init 117 = .ok (.iconst 4, 1) := by decide +kernel
theorem dX0_init_118 : decode cX0_init 118 = .ok (.if_icmp .ge 22, 3) := by decide +kernel
theorem dX0_init_121 : decode cX0_init 121 = .ok (.aload_n 0, 1) := by decide +kernel
theorem dX0_init_122 : decode cX0_init 122 = .ok (.getfield 51, 3) := by decide +kernel
theorem dX0_init_125 : decode cX0_init 125 = .ok (.iload_n 1, 1) := by decide +kernel
theorem dX0_init_126 : decode cX0_init 126 = .ok (.new 49, 3) := by decide +kernel
theorem dX0_init_129 : decode cX0_init 129 = .ok (.dup, 1) := by decide +kernel
theorem dX0_init_130 : decode cX0_init 130 = .ok (.invokespecial 58, 3) := by decide +kernel
theorem dX0_init_133 : decode cX0_init 133 = .ok (.aastore, 1) := by decide +kernel
theorem dX0_init_134 : decode cX0_init 134 = .ok (.iinc 1 1, 3) := by decide +kernel
theorem dX0_init_137 : decode cX0_init 137 = .ok (.goto (-21), 3) := by decide +kernel
theorem dX0_init_140 : decode cX0_init 140 = .ok (.return_, 1) := by decide +kernel
noncomputable def X0_init (w : Wd) : Option (Wd) :=
(some (puI w 30 1 1)).bind fun w1 =>
(some (puI w1 30 2 1)).bind fun w2 =>
(some (puI w2 30 3 1)).bind fun w3 =>
(some (puI w3 30 4 1)).bind fun w4 =>
(some (puI w4 30 5 1)).bind fun w5 =>
(some (puI w5 30 6 1)).bind fun w6 =>
(some (puI w6 30 7 1)).bind fun w7 =>
(some (puI w7 30 8 1)).bind fun w8 =>
(some (puI w8 30 9 1)).bind fun w9 =>
(some (puI w9 30 10 1)).bind fun w10 =>
(some (puI w10 30 11 1)).bind fun w11 =>
(some (puI w11 30 12 1)).bind fun w12 =>
(some (puI w12 30 16 1)).bind fun w13 =>
(some (puI w13 30 17 1)).bind fun w14 =>
(if (4 : Int32) ≤ (0 : Int32) then
none
else
gd (¬ w14.1 30 16 = 0) <|
(X8_init_0 w14).bind fun q15 =>
gd (vp_in (0 : Int32) 4) <|
(some (puI q15 43 (ix (0 : Int32)) 1)).bind fun w17 =>
(if (4 : Int32) ≤ (1 : Int32) then
none
else
gd (¬ w17.1 30 16 = 0) <|
(X8_init_1 w17).bind fun q18 =>
gd (vp_in (1 : Int32) 4) <|
(some (puI q18 43 (ix (1 : Int32)) 1)).bind fun w20 =>
(if (4 : Int32) ≤ (2 : Int32) then
none
else
gd (¬ w20.1 30 16 = 0) <|
(X8_init_2 w20).bind fun q21 =>
gd (vp_in (2 : Int32) 4) <|
(some (puI q21 43 (ix (2 : Int32)) 1)).bind fun w23 =>
(if (4 : Int32) ≤ (3 : Int32) then
none
else
gd (¬ w23.1 30 16 = 0) <|
(X8_init_3 w23).bind fun q24 =>
gd (vp_in (3 : Int32) 4) <|
(some (puI q24 43 (ix (3 : Int32)) 1)).bind fun w26 =>
(if (4 : Int32) ≤ (4 : Int32) then
some w26
else
none)))))
set_option maxRecDepth 20000 in
set_option maxHeartbeats 1000000 in
theorem tk_X0_init {κ : KxC} (w : Wd) (hi : (cmeth κ).name = "<init>") (h : ok (X0_init   w) (PVc κ 65 34 5433)) : JC κ RX0 cX0_init 2 none (rmc 2 40 34 5433) 0 [(0, .ref (ad (cg κ) 30))] [] (w, 31, 0, 0) := by
  unfold X0_init at h
  refine jc_aload_n 0 dX0_init_0 rfl rfl ?_
  refine jc_objInit oi_RX0_5 (by decide) (Nat.le_of_ble_eq_true rfl) dX0_init_1 ?_
  refine jc_aload_n 0 dX0_init_4 rfl rfl ?_
  refine jc_iconst (5 : Int32) dX0_init_5 ki_5 ?_
  refine jc_newI (m := 5) (by decide) sh_31 aw_I (by decide) (by decide) (by decide) (by decide) (by decide) dX0_init_6 ?_
  refine jc_putA fr_RX0_11 sh_30 (by decide) fk_30_1 (by decide) (fun _ => rfl) (fun _ => rfl) hi dX0_init_8 ?_
  refine jc_lW h (fun w1 h => ?_)
  refine jc_aload_n 0 dX0_init_11 rfl rfl ?_
  refine jc_iconst (5 : Int32) dX0_init_12 ki_5 ?_
  refine jc_newI (m := 5) (by decide) sh_32 aw_I (by decide) (by decide) (by decide) (by decide) (by decide) dX0_init_13 ?_
  refine jc_putA fr_RX0_15 sh_30 (by decide) fk_30_2 (by decide) (fun _ => rfl) (fun _ => rfl) hi dX0_init_15 ?_
  refine jc_lW h (fun w2 h => ?_)
  refine jc_aload_n 0 dX0_init_18 rfl rfl ?_
  refine jc_bipush (6 : Int32) dX0_init_19 kb_6 ?_
  refine jc_newI (m := 6) (by decide) sh_33 aw_I (by decide) (by decide) (by decide) (by decide) (by decide) dX0_init_21 ?_
  refine jc_putA fr_RX0_18 sh_30 (by decide) fk_30_3 (by decide) (fun _ => rfl) (fun _ => rfl) hi dX0_init_23 ?_
  refine jc_lW h (fun w3 h => ?_)
  refine jc_aload_n 0 dX0_init_26 rfl rfl ?_
  refine jc_iconst (5 : Int32) dX0_init_27 ki_5 ?_
  refine jc_newI (m := 5) (by decide) sh_34 aw_I (by decide) (by decide) (by decide) (by decide) (by decide) dX0_init_28 ?_
  refine jc_putA fr_RX0_21 sh_30 (by decide) fk_30_4 (by decide) (fun _ => rfl) (fun _ => rfl) hi dX0_init_30 ?_
  refine jc_lW h (fun w4 h => ?_)
  refine jc_aload_n 0 dX0_init_33 rfl rfl ?_
  refine jc_bipush (100 : Int32) dX0_init_34 kb_100 ?_
  refine jc_newJ (m := 100) (by decide) sh_35 aw_J (by decide) (by decide) (by decide) (by decide) (by decide) dX0_init_36 ?_
  refine jc_putA fr_RX0_24 sh_30 (by decide) fk_30_5 (by decide) (fun _ => rfl) (fun _ => rfl) hi dX0_init_38 ?_
  refine jc_lW h (fun w5 h => ?_)
  refine jc_aload_n 0 dX0_init_41 rfl rfl ?_
  refine jc_bipush (100 : Int32) dX0_init_42 kb_100 ?_
  refine jc_newJ (m := 100) (by decide) sh_36 aw_J (by decide) (by decide) (by decide) (by decide) (by decide) dX0_init_44 ?_
  refine jc_putA fr_RX0_28 sh_30 (by decide) fk_30_6 (by decide) (fun _ => rfl) (fun _ => rfl) hi dX0_init_46 ?_
  refine jc_lW h (fun w6 h => ?_)
  refine jc_aload_n 0 dX0_init_49 rfl rfl ?_
  refine jc_bipush (100 : Int32) dX0_init_50 kb_100 ?_
  refine jc_newI (m := 100) (by decide) sh_37 aw_I (by decide) (by decide) (by decide) (by decide) (by decide) dX0_init_52 ?_
  refine jc_putA fr_RX0_31 sh_30 (by decide) fk_30_7 (by decide) (fun _ => rfl) (fun _ => rfl) hi dX0_init_54 ?_
  refine jc_lW h (fun w7 h => ?_)
  refine jc_aload_n 0 dX0_init_57 rfl rfl ?_
  refine jc_bipush (100 : Int32) dX0_init_58 kb_100 ?_
  refine jc_newI (m := 100) (by decide) sh_38 aw_I (by decide) (by decide) (by decide) (by decide) (by decide) dX0_init_60 ?_
  refine jc_putA fr_RX0_34 sh_30 (by decide) fk_30_8 (by decide) (fun _ => rfl) (fun _ => rfl) hi dX0_init_62 ?_
  refine jc_lW h (fun w8 h => ?_)
  refine jc_aload_n 0 dX0_init_65 rfl rfl ?_
  refine jc_bipush (100 : Int32) dX0_init_66 kb_100 ?_
  refine jc_newI (m := 100) (by decide) sh_39 aw_I (by decide) (by decide) (by decide) (by decide) (by decide) dX0_init_68 ?_
  refine jc_putA fr_RX0_37 sh_30 (by decide) fk_30_9 (by decide) (fun _ => rfl) (fun _ => rfl) hi dX0_init_70 ?_
  refine jc_lW h (fun w9 h => ?_)
  refine jc_aload_n 0 dX0_init_73 rfl rfl ?_
  refine jc_bipush (100 : Int32) dX0_init_74 kb_100 ?_
  refine jc_newI (m := 100) (by decide) sh_40 aw_I (by decide) (by decide) (by decide) (by decide) (by decide) dX0_init_76 ?_
  refine jc_putA fr_RX0_40 sh_30 (by decide) fk_30_10 (by decide) (fun _ => rfl) (fun _ => rfl) hi dX0_init_78 ?_
  refine jc_lW h (fun w10 h => ?_)
  refine jc_aload_n 0 dX0_init_81 rfl rfl ?_
  refine jc_bipush (100 : Int32) dX0_init_82 kb_100 ?_
  refine jc_newI (m := 100) (by decide) sh_41 aw_I (by decide) (by decide) (by decide) (by decide) (by decide) dX0_init_84 ?_
  refine jc_putA fr_RX0_43 sh_30 (by decide) fk_30_11 (by decide) (fun _ => rfl) (fun _ => rfl) hi dX0_init_86 ?_
  refine jc_lW h (fun w11 h => ?_)
  refine jc_aload_n 0 dX0_init_89 rfl rfl ?_
  refine jc_sipush (3000 : Int32) dX0_init_90 ks_3000 ?_
  refine jc_newI (m := 3000) (by decide) sh_42 aw_I (by decide) (by decide) (by decide) (by decide) (by decide) dX0_init_93 ?_
  refine jc_putA fr_RX0_46 sh_30 (by decide) fk_30_12 (by decide) (fun _ => rfl) (fun _ => rfl) hi dX0_init_95 ?_
  refine jc_lW h (fun w12 h => ?_)
  refine jc_aload_n 0 dX0_init_98 rfl rfl ?_
  refine jc_iconst (4 : Int32) dX0_init_99 ki_4 ?_
  refine jc_newR (m := 4) (by decide) sh_43 kw_RX0_49 (by decide) (by decide) (by decide) (by decide) (by decide) dX0_init_100 ?_
  refine jc_putA fr_RX0_51 sh_30 (by decide) fk_30_16 (by decide) (fun _ => rfl) (fun _ => rfl) hi dX0_init_103 ?_
  refine jc_lW h (fun w13 h => ?_)
  refine jc_aload_n 0 dX0_init_106 rfl rfl ?_
  refine jc_bipush (64 : Int32) dX0_init_107 kb_64 ?_
  refine jc_newJ (m := 64) (by decide) sh_44 aw_J (by decide) (by decide) (by decide) (by decide) (by decide) dX0_init_109 ?_
  refine jc_putA fr_RX0_55 sh_30 (by decide) fk_30_17 (by decide) (fun _ => rfl) (fun _ => rfl) hi dX0_init_111 ?_
  refine jc_lW h (fun w14 h => ?_)
  refine jc_iconst (0 : Int32) dX0_init_114 ki_0 ?_
  refine jc_istore_n [(1, .int (0 : Int32)), (0, .ref (ad (cg κ) 30))] dX0_init_115 rfl (by decide) rfl ?_
  refine jc_iload_n 0 dX0_init_116 rfl rfl ?_
  refine jc_iconst (4 : Int32) dX0_init_117 ki_4 ?_
  refine jc_ic_ge 140 dX0_init_118 (by decide) h (fun h => ?_) (fun h => ?_)
  · exact ok_n h
  · refine jc_aload_n 1 dX0_init_121 rfl rfl ?_
    refine jc_getA 43 fl_RX0_51 sh_30 (by decide) fk_30_16 (by decide) dX0_init_122 h (fun h => ?_)
    refine jc_iload_n 0 dX0_init_125 rfl rfl ?_
    refine jc_new (N := 11) (by decide) nw_RX0_49_45 sh_45 nf_45 (by decide) (by decide) dX0_init_126 ?_
    refine jc_dup dX0_init_129 rfl ?_
    obtain ⟨q15, e16, h⟩ := ok_b h
    refine jc_callI (As := []) (st := [.ref (ad (cg κ) 45), .int (0 : Int32), .ref (ad (cg κ) 43)]) [.ref (ad (cg κ) 45), .int (0 : Int32), .ref (ad (cg κ) 43)] (by decide) (k_X8_init_0 (cl κ) (cg κ) (cA κ) (cN κ) w14 q15 e16) ck_RX0_58 im_X8_init rfl rfl ⟨rfl, rfl⟩ ⟨by decide, by decide⟩ ⟨by decide, by decide⟩ rfl rfl (Nat.le_of_ble_eq_true rfl) dX0_init_130 _ rfl ?_
    refine jc_aast sh_43 (by decide) (by decide) sh_45 (by decide) cx_8 dX0_init_133 h (fun h => ?_)
    refine jc_lW h (fun w17 h => ?_)
    refine jc_iinc (1 : Int32) 0 [(1, .int (1 : Int32)), (0, .ref (ad (cg κ) 30))] dX0_init_134 rfl (by decide) (by decide) rfl ?_
    refine jc_goto 116 dX0_init_137 (by decide) ?_
    refine jc_iload_n 0 dX0_init_116 rfl rfl ?_
    refine jc_iconst (4 : Int32) dX0_init_117 ki_4 ?_
    refine jc_ic_ge 140 dX0_init_118 (by decide) h (fun h => ?_) (fun h => ?_)
    · exact ok_n h
    · refine jc_aload_n 1 dX0_init_121 rfl rfl ?_
      refine jc_getA 43 fl_RX0_51 sh_30 (by decide) fk_30_16 (by decide) dX0_init_122 h (fun h => ?_)
      refine jc_iload_n 0 dX0_init_125 rfl rfl ?_
      refine jc_new (N := 11) (by decide) nw_RX0_49_50 sh_50 nf_50 (by decide) (by decide) dX0_init_126 ?_
      refine jc_dup dX0_init_129 rfl ?_
      obtain ⟨q18, e19, h⟩ := ok_b h
      refine jc_callI (As := []) (st := [.ref (ad (cg κ) 50), .int (1 : Int32), .ref (ad (cg κ) 43)]) [.ref (ad (cg κ) 50), .int (1 : Int32), .ref (ad (cg κ) 43)] (by decide) (k_X8_init_1 (cl κ) (cg κ) (cA κ) (cN κ) w17 q18 e19) ck_RX0_58 im_X8_init rfl rfl ⟨rfl, rfl⟩ ⟨by decide, by decide⟩ ⟨by decide, by decide⟩ rfl rfl (Nat.le_of_ble_eq_true rfl) dX0_init_130 _ rfl ?_
      refine jc_aast sh_43 (by decide) (by decide) sh_50 (by decide) cx_8 dX0_init_133 h (fun h => ?_)
      refine jc_lW h (fun w20 h => ?_)
      refine jc_iinc (2 : Int32) 0 [(1, .int (2 : Int32)), (0, .ref (ad (cg κ) 30))] dX0_init_134 rfl (by decide) (by decide) rfl ?_
      refine jc_goto 116 dX0_init_137 (by decide) ?_
      refine jc_iload_n 0 dX0_init_116 rfl rfl ?_
      refine jc_iconst (4 : Int32) dX0_init_117 ki_4 ?_
      refine jc_ic_ge 140 dX0_init_118 (by decide) h (fun h => ?_) (fun h => ?_)
      · exact ok_n h
      · refine jc_aload_n 1 dX0_init_121 rfl rfl ?_
        refine jc_getA 43 fl_RX0_51 sh_30 (by decide) fk_30_16 (by decide) dX0_init_122 h (fun h => ?_)
        refine jc_iload_n 0 dX0_init_125 rfl rfl ?_
        refine jc_new (N := 11) (by decide) nw_RX0_49_55 sh_55 nf_55 (by decide) (by decide) dX0_init_126 ?_
        refine jc_dup dX0_init_129 rfl ?_
        obtain ⟨q21, e22, h⟩ := ok_b h
        refine jc_callI (As := []) (st := [.ref (ad (cg κ) 55), .int (2 : Int32), .ref (ad (cg κ) 43)]) [.ref (ad (cg κ) 55), .int (2 : Int32), .ref (ad (cg κ) 43)] (by decide) (k_X8_init_2 (cl κ) (cg κ) (cA κ) (cN κ) w20 q21 e22) ck_RX0_58 im_X8_init rfl rfl ⟨rfl, rfl⟩ ⟨by decide, by decide⟩ ⟨by decide, by decide⟩ rfl rfl (Nat.le_of_ble_eq_true rfl) dX0_init_130 _ rfl ?_
        refine jc_aast sh_43 (by decide) (by decide) sh_55 (by decide) cx_8 dX0_init_133 h (fun h => ?_)
        refine jc_lW h (fun w23 h => ?_)
        refine jc_iinc (3 : Int32) 0 [(1, .int (3 : Int32)), (0, .ref (ad (cg κ) 30))] dX0_init_134 rfl (by decide) (by decide) rfl ?_
        refine jc_goto 116 dX0_init_137 (by decide) ?_
        refine jc_iload_n 0 dX0_init_116 rfl rfl ?_
        refine jc_iconst (4 : Int32) dX0_init_117 ki_4 ?_
        refine jc_ic_ge 140 dX0_init_118 (by decide) h (fun h => ?_) (fun h => ?_)
        · exact ok_n h
        · refine jc_aload_n 1 dX0_init_121 rfl rfl ?_
          refine jc_getA 43 fl_RX0_51 sh_30 (by decide) fk_30_16 (by decide) dX0_init_122 h (fun h => ?_)
          refine jc_iload_n 0 dX0_init_125 rfl rfl ?_
          refine jc_new (N := 11) (by decide) nw_RX0_49_60 sh_60 nf_60 (by decide) (by decide) dX0_init_126 ?_
          refine jc_dup dX0_init_129 rfl ?_
          obtain ⟨q24, e25, h⟩ := ok_b h
          refine jc_callI (As := []) (st := [.ref (ad (cg κ) 60), .int (3 : Int32), .ref (ad (cg κ) 43)]) [.ref (ad (cg κ) 60), .int (3 : Int32), .ref (ad (cg κ) 43)] (by decide) (k_X8_init_3 (cl κ) (cg κ) (cA κ) (cN κ) w23 q24 e25) ck_RX0_58 im_X8_init rfl rfl ⟨rfl, rfl⟩ ⟨by decide, by decide⟩ ⟨by decide, by decide⟩ rfl rfl (Nat.le_of_ble_eq_true rfl) dX0_init_130 _ rfl ?_
          refine jc_aast sh_43 (by decide) (by decide) sh_60 (by decide) cx_8 dX0_init_133 h (fun h => ?_)
          refine jc_lW h (fun w26 h => ?_)
          refine jc_iinc (4 : Int32) 0 [(1, .int (4 : Int32)), (0, .ref (ad (cg κ) 30))] dX0_init_134 rfl (by decide) (by decide) rfl ?_
          refine jc_goto 116 dX0_init_137 (by decide) ?_
          refine jc_iload_n 0 dX0_init_116 rfl rfl ?_
          refine jc_iconst (4 : Int32) dX0_init_117 ki_4 ?_
          refine jc_ic_ge 140 dX0_init_118 (by decide) h (fun h => ?_) (fun h => ?_)
          · have h := ok_s h
            exact jc_vret dX0_init_140 rfl h
          · exact ok_n h
theorem k_X0_init (l : Launch) (γ : Gm) (A : Nat → Prop) (N : Nat) (w : Wd) (q : Wd) (e : X0_init   w = some q) : MetC l γ A N yX0_init cX0_init 2 none (rmc 2 40 34 5433) [.ref (ad (γ) 30)] w 31 none q 65 34 5433 := by
  refine met_ofC pn_RX0 (Nat.le_of_ble_eq_true rfl) ?_
  intro κ hl hγ hA hN hρ hi
  subst hl; subst hγ; subst hA; subst hN
  exact tk_X0_init    w hi ⟨q, e, pVc hρ rfl rfl⟩
theorem dX6_init_0 : decode cX6_init 0 = .ok (.aload_n 0, 1) := by decide +kernel
theorem dX6_init_1 : decode cX6_init 1 = .ok (.invokespecial 3, 3) := by decide +kernel
theorem dX6_init_4 : decode cX6_init 4 = .ok (.aload_n 0, 1) := by decide +kernel
theorem dX6_init_5 : decode cX6_init 5 = .ok (.sipush 600, 3) := by decide +kernel
theorem dX6_init_8 : decode cX6_init 8 = .ok (.newarray .byte, 2) := by decide +kernel
theorem dX6_init_10 : decode cX6_init 10 = .ok (.putfield 9, 3) := by decide +kernel
theorem dX6_init_13 : decode cX6_init 13 = .ok (.aload_n 0, 1) := by decide +kernel
theorem dX6_init_14 : decode cX6_init 14 = .ok (.bipush 17, 2) := by decide +kernel
theorem dX6_init_16 : decode cX6_init 16 = .ok (.newarray .long, 2) := by decide +kernel
theorem dX6_init_18 : decode cX6_init 18 = .ok (.putfield 17, 3) := by decide +kernel
theorem dX6_init_21 : decode cX6_init 21 = .ok (.aload_n 0, 1) := by decide +kernel
theorem dX6_init_22 : decode cX6_init 22 = .ok (.iconst (-1), 1) := by decide +kernel
theorem dX6_init_23 : decode cX6_init 23 = .ok (.putfield 21, 3) := by decide +kernel
theorem dX6_init_26 : decode cX6_init 26 = .ok (.aload_n 0, 1) := by decide +kernel
theorem dX6_init_27 : decode cX6_init 27 = .ok (.iconst (-1), 1) := by decide +kernel
theorem dX6_init_28 : decode cX6_init 28 = .ok (.putfield 25, 3) := by decide +kernel
theorem dX6_init_31 : decode cX6_init 31 = .ok (.aload_n 0, 1) := by decide +kernel
theorem dX6_init_32 : decode cX6_init 32 = .ok (.bipush 64, 2) := by decide +kernel
theorem dX6_init_34 : decode cX6_init 34 = .ok (.newarray .int, 2) := by decide +kernel
theorem dX6_init_36 : decode cX6_init 36 = .ok (.putfield 28, 3) := by decide +kernel
theorem dX6_init_39 : decode cX6_init 39 = .ok (.aload_n 0, 1) := by decide +kernel
theorem dX6_init_40 : decode cX6_init 40 = .ok (.aload_n 1, 1) := by decide +kernel
theorem dX6_init_41 : decode cX6_init 41 = .ok (.putfield 32, 3) := by decide +kernel
theorem dX6_init_44 : decode cX6_init 44 = .ok (.iconst 0, 1) := by decide +kernel
theorem dX6_init_45 : decode cX6_init 45 = .ok (.istore_n 2, 1) := by decide +kernel
theorem dX6_init_46 : decode cX6_init 46 = .ok (.lconst 0, 1) := by decide +kernel
theorem dX6_init_47 : decode cX6_init 47 = .ok (.lstore_n 3, 1) := by decide +kernel
theorem dX6_init_48 : decode cX6_init 48 = .ok (.iconst 0, 1) := by decide +kernel
theorem dX6_init_49 : decode cX6_init 49 = .ok (.istore 5, 2) := by decide +kernel
theorem dX6_init_51 : decode cX6_init 51 = .ok (.iload 5, 2) := by decide +kernel
theorem dX6_init_53 : decode cX6_init 53 = .ok (.ldc 36, 2) := by decide +kernel
theorem dX6_init_55 : decode cX6_init 55 = .ok (.invokevirtual 38, 3) := by decide +kernel
theorem dX6_init_58 : decode cX6_init 58 = .ok (.if_icmp .ge 56, 3) := by decide +kernel
theorem dX6_init_61 : decode cX6_init 61 = .ok (.iload_n 2, 1) := by decide +kernel
theorem dX6_init_62 : decode cX6_init 62 = .ok (.aload_n 0, 1) := by decide +kernel
theorem dX6_init_63 : decode cX6_init 63 = .ok (.getfield 17, 3) := by decide +kernel
theorem dX6_init_66 : decode cX6_init 66 = .ok (.arraylength, 1) := by decide +kernel
theorem dX6_init_67 : decode cX6_init 67 = .ok (.if_icmp .ge 47, 3) := by decide +kernel
theorem dX6_init_70 : decode cX6_init 70 = .ok (.ldc 36, 2) := by decide +kernel
theorem dX6_init_72 : decode cX6_init 72 = .ok (.iload 5, 2) := by decide +kernel
theorem dX6_init_74 : decode cX6_init 74 = .ok (.invokevirtual 44, 3) := by decide +kernel
theorem dX6_init_77 : decode cX6_init 77 = .ok (.istore 6, 2) := by decide +kernel
theorem dX6_init_79 : decode cX6_init 79 = .ok (.iload 6, 2) := by decide +kernel
theorem dX6_init_81 : decode cX6_init 81 = .ok (.bipush 32, 2) := by decide +kernel
theorem dX6_init_83 : decode cX6_init 83 = .ok (.if_icmp .ne 18, 3) := by decide +kernel
theorem dX6_init_86 : decode cX6_init 86 = .ok (.aload_n 0, 1) := by decide +kernel
theorem dX6_init_87 : decode cX6_init 87 = .ok (.getfield 17, 3) := by decide +kernel
theorem dX6_init_90 : decode cX6_init 90 = .ok (.iload_n 2, 1) := by decide +kernel
theorem dX6_init_91 : decode cX6_init 91 = .ok (.lload_n 3, 1) := by decide +kernel
theorem dX6_init_92 : decode cX6_init 92 = .ok (.lastore, 1) := by decide +kernel
theorem dX6_init_93 : decode cX6_init 93 = .ok (.iinc 2 1, 3) := by decide +kernel
theorem dX6_init_96 : decode cX6_init 96 = .ok (.lconst 0, 1) := by decide +kernel
theorem dX6_init_97 : decode cX6_init 97 = .ok (.lstore_n 3, 1) := by decide +kernel
theorem dX6_init_98 : decode cX6_init 98 = .ok (.goto 10, 3) := by decide +kernel
theorem dX6_init_101 : decode cX6_init 101 = .ok (.lload_n 3, 1) := by decide +kernel
theorem dX6_init_102 : decode cX6_init 102 = .ok (.iload 6, 2) := by decide +kernel
theorem dX6_init_104 : decode cX6_init 104 = .ok (.invokestatic 48, 3) := by decide +kernel
theorem dX6_init_107 : decode cX6_init 107 = .ok (.lstore_n 3, 1) := by decide +kernel
theorem dX6_init_108 : decode cX6_init 108 = .ok (.iinc 5 1, 3) := by decide +kernel
theorem dX6_init_111 : decode cX6_init 111 = .ok (.goto (-60), 3) := by decide +kernel
theorem dX6_init_114 : decode cX6_init 114 = .ok (.return_, 1) := by decide +kernel
noncomputable def X6_init_j108 (a2 : Int32) (a3 : Int64) (a5 : Int32) (w : Wd) : Option ((Int32 × Int64 × Int32 × Wd) ⊕ Wd) :=
some (.inl (a2, a3, (a5 + (1 : Int32)), w))
set_option maxRecDepth 20000 in
set_option maxHeartbeats 1000000 in
theorem tk_X6_init_j108 {κ : KxC} (a2 : Int32) (a3 : Int64) (a5 : Int32) (w : Wd) {G : (Int32 × Int64 × Int32 × Wd) → Prop} {P : Wd → Prop} (KG : ∀ s, G s → JC κ RX6 cX6_init 7 none (rmc 4 85 3 681) 51 [(0, .ref (ad (cg κ) 65)), (2, .int s.1), (3, .long s.2.1), (5, .int s.2.2.1)] [] (s.2.2.2, 69, 3, 681)) (K0 : ∀ e, P e → JC κ RX6 cX6_init 7 none (rmc 4 85 3 681) 114 [] [] (e, 69, 3, 681)) (h : ok (X6_init_j108  a2 a3 a5 w) (sel G P)) : JC κ RX6 cX6_init 7 none (rmc 4 85 3 681) 108 [(0, .ref (ad (cg κ) 65)), (2, .int a2), (3, .long a3), (5, .int a5)] [] (w, 69, 3, 681) := by
  unfold X6_init_j108 at h
  refine jc_iinc (a5 + (1 : Int32)) 3 [(5, .int (a5 + (1 : Int32))), (0, .ref (ad (cg κ) 65)), (2, .int a2), (3, .long a3)] dX6_init_108 rfl (by rw [kn_1]) (by decide) rfl ?_
  refine jc_goto 51 dX6_init_111 (by decide) ?_
  refine jc_loc [(0, .ref (ad (cg κ) 65)), (2, .int a2), (3, .long a3), (5, .int (a5 + (1 : Int32)))] [1, 2, 3, 0] rfl ?_
  have h := sel_l h
  have h := KG _ h
  exact h
noncomputable def X6_init_b51 (s : (Int32 × Int64 × Int32 × Wd)) : Option ((Int32 × Int64 × Int32 × Wd) ⊕ Wd) :=
(if (J0_length_8abf5 0 s.2.2.2) ≤ s.2.2.1 then
some (.inr s.2.2.2)
else
gd (¬ s.2.2.2.1 65 3 = 0) <|
(if (17 : Int32) ≤ s.1 then
some (.inr s.2.2.2)
else
(J0_charAt_5068e 0 s.2.2.1 s.2.2.2).bind fun q7 =>
(if q7 = (32 : Int32) then
gd (¬ s.2.2.2.1 65 3 = 0) <|
gd (vp_in s.1 17) <|
(some (puJ s.2.2.2 67 (ix s.1) s.2.1)).bind fun w10 =>
X6_init_j108 (s.1 + (1 : Int32)) (0 : Int64) s.2.2.1 w10
else
(some (X6_pack s.2.1 q7 s.2.2.2)).bind fun z9 =>
X6_init_j108 s.1 z9 s.2.2.1 s.2.2.2)))
set_option maxRecDepth 20000 in
set_option maxHeartbeats 1000000 in
theorem tk_X6_init_b51 {κ : KxC} {P : Wd → Prop} (K0 : ∀ e, P e → JC κ RX6 cX6_init 7 none (rmc 4 85 3 681) 114 [] [] (e, 69, 3, 681)) (s : (Int32 × Int64 × Int32 × Wd)) (h : ok (lp (X6_init_b51  ) s) P) : JC κ RX6 cX6_init 7 none (rmc 4 85 3 681) 51 [(0, .ref (ad (cg κ) 65)), (2, .int s.1), (3, .long s.2.1), (5, .int s.2.2.1)] [] (s.2.2.2, 69, 3, 681) := by
  refine lp_ind (fun s => JC κ RX6 cX6_init 7 none (rmc 4 85 3 681) 51 [(0, .ref (ad (cg κ) 65)), (2, .int s.1), (3, .long s.2.1), (5, .int s.2.2.1)] [] (s.2.2.2, 69, 3, 681)) (fun s h => ?_) s h
  unfold X6_init_b51 at h
  refine jc_iload 3 dX6_init_51 rfl ?_
  refine jc_ldcS (i := 0) rfl rfl rfl dX6_init_53 ?_
  refine jc_callT (As := []) (st := [.int s.2.2.1]) [.int (J0_length_8abf5 0 s.2.2.2), .int s.2.2.1] (by decide) (k_J0_length_8abf5 (cl κ) (cg κ) (cA κ) (cN κ) 0 (by decide) 69 s.2.2.2) ck_RX6_38 im_J0_length_8abf5 se_J0_length_8abf5 (by decide) rfl ⟨rfl, rfl⟩ ⟨by decide, by decide⟩ ⟨by decide, by decide⟩ rfl rfl (Nat.le_of_ble_eq_true rfl) dX6_init_55 _ rfl ?_
  refine jc_ic_ge 114 dX6_init_58 (by decide) h (fun h => ?_) (fun h => ?_)
  · refine jc_loc [] [] rfl ?_
    have h := sel_r h
    have h := K0 _ h
    exact h
  · refine jc_iload_n 1 dX6_init_61 rfl rfl ?_
    refine jc_aload_n 0 dX6_init_62 rfl rfl ?_
    refine jc_getA 67 fl_RX6_17 sh_65 (by decide) fk_65_3 (by decide) dX6_init_63 h (fun h => ?_)
    refine jc_alenJ (v := (17 : Int32)) sh_67 (by decide) (by decide) dX6_init_66 ?_
    refine jc_ic_ge 114 dX6_init_67 (by decide) h (fun h => ?_) (fun h => ?_)
    · refine jc_loc [] [] rfl ?_
      have h := sel_r h
      have h := K0 _ h
      exact h
    · refine jc_ldcS (i := 0) rfl rfl rfl dX6_init_70 ?_
      refine jc_iload 3 dX6_init_72 rfl ?_
      obtain ⟨q7, e8, h⟩ := ok_b h
      refine jc_callT (As := [.int s.2.2.1]) (st := []) [.int q7] (by decide) (k_J0_charAt_5068e (cl κ) (cg κ) (cA κ) (cN κ) 0 (by decide) 69 s.2.2.1 s.2.2.2 q7 e8) ck_RX6_44 im_J0_charAt_5068e se_J0_charAt_5068e (by decide) rfl ⟨rfl, rfl⟩ ⟨by decide, by decide⟩ ⟨by decide, by decide⟩ rfl rfl (Nat.le_of_ble_eq_true rfl) dX6_init_74 _ rfl ?_
      refine jc_istore [(6, .int q7), (0, .ref (ad (cg κ) 65)), (2, .int s.1), (3, .long s.2.1), (5, .int s.2.2.1)] dX6_init_77 (by decide) rfl ?_
      refine jc_iload 0 dX6_init_79 rfl ?_
      refine jc_bipush (32 : Int32) dX6_init_81 kb_32 ?_
      refine jc_ic_ne 101 dX6_init_83 (by decide) h (fun h => ?_) (fun h => ?_)
      · refine jc_lload_n 3 dX6_init_101 rfl rfl ?_
        refine jc_iload 0 dX6_init_102 rfl ?_
        refine jc_callS (As := [.long s.2.1, .int q7]) (st := []) [.long (X6_pack s.2.1 q7 s.2.2.2)] (by decide) (k_X6_pack (cl κ) (cg κ) (cA κ) (cN κ) 69 s.2.1 q7 s.2.2.2) ck_RX6_48 st_X6_pack ⟨rfl, rfl⟩ ⟨by decide, by decide⟩ ⟨by decide, by decide⟩ rfl rfl (Nat.le_of_ble_eq_true rfl) dX6_init_104 _ rfl ?_
        refine jc_lJ h (fun z9 h => ?_)
        refine jc_lstore_n [(3, .long z9), (6, .int q7), (0, .ref (ad (cg κ) 65)), (2, .int s.1), (5, .int s.2.2.1)] dX6_init_107 rfl (by decide) rfl ?_
        refine jc_loc [(0, .ref (ad (cg κ) 65)), (2, .int s.1), (3, .long z9), (5, .int s.2.2.1)] [2, 3, 0, 4] rfl ?_
        exact tk_X6_init_j108 s.1 z9 s.2.2.1 s.2.2.2 (fun _ h => h) K0 h
      · refine jc_aload_n 1 dX6_init_86 rfl rfl ?_
        refine jc_getA 67 fl_RX6_17 sh_65 (by decide) fk_65_3 (by decide) dX6_init_87 h (fun h => ?_)
        refine jc_iload_n 2 dX6_init_90 rfl rfl ?_
        refine jc_lload_n 3 dX6_init_91 rfl rfl ?_
        refine jc_last sh_67 (by decide) dX6_init_92 h (fun h => ?_)
        refine jc_lW h (fun w10 h => ?_)
        refine jc_iinc (s.1 + (1 : Int32)) 2 [(2, .int (s.1 + (1 : Int32))), (6, .int q7), (0, .ref (ad (cg κ) 65)), (3, .long s.2.1), (5, .int s.2.2.1)] dX6_init_93 rfl (by rw [kn_1]) (by decide) rfl ?_
        refine jc_lconst (0 : Int64) dX6_init_96 (by decide) ?_
        refine jc_lstore_n [(3, .long (0 : Int64)), (2, .int (s.1 + (1 : Int32))), (6, .int q7), (0, .ref (ad (cg κ) 65)), (5, .int s.2.2.1)] dX6_init_97 rfl (by decide) rfl ?_
        refine jc_goto 108 dX6_init_98 (by decide) ?_
        refine jc_loc [(0, .ref (ad (cg κ) 65)), (2, .int (s.1 + (1 : Int32))), (3, .long (0 : Int64)), (5, .int s.2.2.1)] [3, 1, 0, 4] rfl ?_
        exact tk_X6_init_j108 (s.1 + (1 : Int32)) (0 : Int64) s.2.2.1 w10 (fun _ h => h) K0 h
noncomputable def X6_init (w : Wd) : Option (Wd) :=
(some (puI w 65 1 1)).bind fun w1 =>
(some (puI w1 65 3 1)).bind fun w2 =>
(some (puI w2 65 4 (-1 : Int32))).bind fun w3 =>
(some (puI w3 65 5 (-1 : Int32))).bind fun w4 =>
(some (puI w4 65 15 1)).bind fun w5 =>
(some (puI w5 65 0 1)).bind fun w6 =>
(lp (X6_init_b51 ) ((0 : Int32), (0 : Int64), (0 : Int32), w6)).bind fun e11 =>
some e11
set_option maxRecDepth 20000 in
set_option maxHeartbeats 1000000 in
theorem tk_X6_init {κ : KxC} (w : Wd) (hi : (cmeth κ).name = "<init>") (h : ok (X6_init   w) (PVc κ 69 3 681)) : JC κ RX6 cX6_init 7 none (rmc 4 85 3 681) 0 [(0, .ref (ad (cg κ) 65)), (1, .ref (ad (cg κ) 30))] [] (w, 66, 0, 0) := by
  unfold X6_init at h
  refine jc_aload_n 0 dX6_init_0 rfl rfl ?_
  refine jc_objInit oi_RX6_3 (by decide) (Nat.le_of_ble_eq_true rfl) dX6_init_1 ?_
  refine jc_aload_n 0 dX6_init_4 rfl rfl ?_
  refine jc_sipush (600 : Int32) dX6_init_5 ks_600 ?_
  refine jc_newB (m := 600) (by decide) sh_66 aw_B (by decide) (by decide) (by decide) (by decide) (by decide) dX6_init_8 ?_
  refine jc_putA fr_RX6_9 sh_65 (by decide) fk_65_1 (by decide) (fun _ => rfl) (fun _ => rfl) hi dX6_init_10 ?_
  refine jc_lW h (fun w1 h => ?_)
  refine jc_aload_n 0 dX6_init_13 rfl rfl ?_
  refine jc_bipush (17 : Int32) dX6_init_14 kb_17 ?_
  refine jc_newJ (m := 17) (by decide) sh_67 aw_J (by decide) (by decide) (by decide) (by decide) (by decide) dX6_init_16 ?_
  refine jc_putA fr_RX6_17 sh_65 (by decide) fk_65_3 (by decide) (fun _ => rfl) (fun _ => rfl) hi dX6_init_18 ?_
  refine jc_lW h (fun w2 h => ?_)
  refine jc_aload_n 0 dX6_init_21 rfl rfl ?_
  refine jc_iconst (-1 : Int32) dX6_init_22 ki_m1 ?_
  refine jc_putI fp_RX6_21 sh_65 (by decide) fk_65_4 dX6_init_23 ?_
  refine jc_lW h (fun w3 h => ?_)
  refine jc_aload_n 0 dX6_init_26 rfl rfl ?_
  refine jc_iconst (-1 : Int32) dX6_init_27 ki_m1 ?_
  refine jc_putI fp_RX6_25 sh_65 (by decide) fk_65_5 dX6_init_28 ?_
  refine jc_lW h (fun w4 h => ?_)
  refine jc_aload_n 0 dX6_init_31 rfl rfl ?_
  refine jc_bipush (64 : Int32) dX6_init_32 kb_64 ?_
  refine jc_newI (m := 64) (by decide) sh_68 aw_I (by decide) (by decide) (by decide) (by decide) (by decide) dX6_init_34 ?_
  refine jc_putA fr_RX6_28 sh_65 (by decide) fk_65_15 (by decide) (fun _ => rfl) (fun _ => rfl) hi dX6_init_36 ?_
  refine jc_lW h (fun w5 h => ?_)
  refine jc_aload_n 0 dX6_init_39 rfl rfl ?_
  refine jc_aload_n 1 dX6_init_40 rfl rfl ?_
  refine jc_putA fr_RX6_32 sh_65 (by decide) fk_65_0 (by decide) (fun _ => rfl) (fun _ => rfl) hi dX6_init_41 ?_
  refine jc_lW h (fun w6 h => ?_)
  refine jc_iconst (0 : Int32) dX6_init_44 ki_0 ?_
  refine jc_istore_n [(2, .int (0 : Int32)), (0, .ref (ad (cg κ) 65)), (1, .ref (ad (cg κ) 30))] dX6_init_45 rfl (by decide) rfl ?_
  refine jc_lconst (0 : Int64) dX6_init_46 (by decide) ?_
  refine jc_lstore_n [(3, .long (0 : Int64)), (2, .int (0 : Int32)), (0, .ref (ad (cg κ) 65)), (1, .ref (ad (cg κ) 30))] dX6_init_47 rfl (by decide) rfl ?_
  refine jc_iconst (0 : Int32) dX6_init_48 ki_0 ?_
  refine jc_istore [(5, .int (0 : Int32)), (3, .long (0 : Int64)), (2, .int (0 : Int32)), (0, .ref (ad (cg κ) 65)), (1, .ref (ad (cg κ) 30))] dX6_init_49 (by decide) rfl ?_
  refine jc_loc [(0, .ref (ad (cg κ) 65)), (2, .int (0 : Int32)), (3, .long (0 : Int64)), (5, .int (0 : Int32))] [3, 2, 1, 0] rfl ?_
  refine tk_X6_init_b51  (fun e11 h => ?_) ((0 : Int32), (0 : Int64), (0 : Int32), w6) (ok_bb h)
  · have h := ok_s h
    exact jc_vret dX6_init_114 rfl h
theorem k_X6_init (l : Launch) (γ : Gm) (A : Nat → Prop) (N : Nat) (w : Wd) (q : Wd) (e : X6_init   w = some q) : MetC l γ A N yX6_init cX6_init 7 none (rmc 4 85 3 681) [.ref (ad (γ) 65), .ref (ad (γ) 30)] w 66 none q 69 3 681 := by
  refine met_ofC pn_RX6 (Nat.le_of_ble_eq_true rfl) ?_
  intro κ hl hγ hA hN hρ hi
  subst hl; subst hγ; subst hA; subst hN
  exact tk_X6_init    w hi ⟨q, e, pVc hρ rfl rfl⟩
theorem dX3_init_0 : decode cX3_init 0 = .ok (.aload_n 0, 1) := by decide +kernel
theorem dX3_init_1 : decode cX3_init 1 = .ok (.invokespecial 3, 3) := by decide +kernel
theorem dX3_init_4 : decode cX3_init 4 = .ok (.aload_n 0, 1) := by decide +kernel
theorem dX3_init_5 : decode cX3_init 5 = .ok (.bipush 15, 2) := by decide +kernel
theorem dX3_init_7 : decode cX3_init 7 = .ok (.newarray .int, 2) := by decide +kernel
theorem dX3_init_9 : decode cX3_init 9 = .ok (.putfield 9, 3) := by decide +kernel
theorem dX3_init_12 : decode cX3_init 12 = .ok (.aload_n 0, 1) := by decide +kernel
theorem dX3_init_13 : decode cX3_init 13 = .ok (.bipush 15, 2) := by decide +kernel
theorem dX3_init_15 : decode cX3_init 15 = .ok (.newarray .int, 2) := by decide +kernel
theorem dX3_init_17 : decode cX3_init 17 = .ok (.putfield 15, 3) := by decide +kernel
theorem dX3_init_20 : decode cX3_init 20 = .ok (.aload_n 0, 1) := by decide +kernel
theorem dX3_init_21 : decode cX3_init 21 = .ok (.bipush 15, 2) := by decide +kernel
theorem dX3_init_23 : decode cX3_init 23 = .ok (.newarray .int, 2) := by decide +kernel
theorem dX3_init_25 : decode cX3_init 25 = .ok (.putfield 18, 3) := by decide +kernel
theorem dX3_init_28 : decode cX3_init 28 = .ok (.aload_n 0, 1) := by decide +kernel
theorem dX3_init_29 : decode cX3_init 29 = .ok (.iconst 4, 1) := by decide +kernel
theorem dX3_init_30 : decode cX3_init 30 = .ok (.putfield 21, 3) := by decide +kernel
theorem dX3_init_33 : decode cX3_init 33 = .ok (.iconst 0, 1) := by decide +kernel
theorem dX3_init_34 : decode cX3_init 34 = .ok (.istore_n 1, 1) := by decide +kernel
theorem dX3_init_35 : decode cX3_init 35 = .ok (.iload_n 1, 1) := by decide +kernel
theorem dX3_init_36 : decode cX3_init 36 = .ok (.bipush 15, 2) := by decide +kernel
theorem dX3_init_38 : decode cX3_init 38 = .ok (.if_icmp .ge 50, 3) := by decide +kernel
theorem dX3_init_41 : decode cX3_init 41 = .ok (.aload_n 0, 1) := by decide +kernel
theorem dX3_init_42 : decode cX3_init 42 = .ok (.getfield 9, 3) := by decide +kernel
theorem dX3_init_45 : decode cX3_init 45 = .ok (.iload_n 1, 1) := by decide +kernel
theorem dX3_init_46 : decode cX3_init 46 = .ok (.bipush 6, 2) := by decide +kernel
theorem dX3_init_48 : decode cX3_init 48 = .ok (.iastore, 1) := by decide +kernel
theorem dX3_init_49 : decode cX3_init 49 = .ok (.aload_n 0, 1) := by decide +kernel
theorem dX3_init_50 : decode cX3_init 50 = .ok (.getfield 18, 3) := by decide +kernel
theorem dX3_init_53 : decode cX3_init 53 = .ok (.iload_n 1, 1) := by decide +kernel
theorem dX3_init_54 : decode cX3_init 54 = .ok (.iconst 1, 1) := by decide +kernel
theorem dX3_init_55 : decode cX3_init 55 = .ok (.iload_n 1, 1) := by decide +kernel
theorem dX3_init_56 : decode cX3_init 56 = .ok (.ishl, 1) := by decide +kernel
theorem dX3_init_57 : decode cX3_init 57 = .ok (.iastore, 1) := by decide +kernel
theorem dX3_init_58 : decode cX3_init 58 = .ok (.iload_n 1, 1) := by decide +kernel
theorem dX3_init_59 : decode cX3_init 59 = .ok (.bipush 15, 2) := by decide +kernel
theorem dX3_init_61 : decode cX3_init 61 = .ok (.iadd, 1) := by decide +kernel
theorem dX3_init_62 : decode cX3_init 62 = .ok (.bipush 26, 2) := by decide +kernel
theorem dX3_init_64 : decode cX3_init 64 = .ok (.if_icmp .ge 18, 3) := by decide +kernel
theorem dX3_init_67 : decode cX3_init 67 = .ok (.aload_n 0, 1) := by decide +kernel
theorem dX3_init_68 : decode cX3_init 68 = .ok (.getfield 18, 3) := by decide +kernel
theorem dX3_init_71 : decode cX3_init 71 = .ok (.iload_n 1, 1) := by decide +kernel
theorem dX3_init_72 : decode cX3_init 72 = .ok (.dup2, 1) := by decide +kernel
theorem dX3_init_73 : decode cX3_init 73 = .ok (.iaload, 1) := by decide +kernel
theorem dX3_init_74 : decode cX3_init 74 = .ok (.iconst 1, 1) := by decide +kernel
theorem dX3_init_75 : decode cX3_init 75 = .ok (.iload_n 1, 1) := by decide +kernel
theorem dX3_init_76 : decode cX3_init 76 = .ok (.bipush 15, 2) := by decide +kernel
theorem dX3_init_78 : decode cX3_init 78 = .ok (.iadd, 1) := by decide +kernel
theorem dX3_init_79 : decode cX3_init 79 = .ok (.ishl, 1) := by decide +kernel
theorem dX3_init_80 : decode cX3_init 80 = .ok (.ior, 1) := by decide +kernel
theorem dX3_init_81 : decode cX3_init 81 = .ok (.iastore, 1) := by decide +kernel
theorem dX3_init_82 : decode cX3_init 82 = .ok (.iinc 1 1, 3) := by decide +kernel
theorem dX3_init_85 : decode cX3_init 85 = .ok (.goto (-50), 3) := by decide +kernel
theorem dX3_init_88 : decode cX3_init 88 = .ok (.return_, 1) := by decide +kernel
noncomputable def X3_init_j82 (a1 : Int32) (w : Wd) : Option ((Int32 × Wd) ⊕ Wd) :=
some (.inl ((a1 + (1 : Int32)), w))
set_option maxRecDepth 20000 in
set_option maxHeartbeats 1000000 in
theorem tk_X3_init_j82 {κ : KxC} (a1 : Int32) (w : Wd) {G : (Int32 × Wd) → Prop} {P : Wd → Prop} (KG : ∀ s, G s → JC κ RX3 cX3_init 2 none (rmc 1 20 3 45) 35 [(0, .ref (ad (cg κ) 69)), (1, .int s.1)] [] (s.2, 73, 3, 45)) (K0 : ∀ e, P e → JC κ RX3 cX3_init 2 none (rmc 1 20 3 45) 88 [] [] (e, 73, 3, 45)) (h : ok (X3_init_j82  a1 w) (sel G P)) : JC κ RX3 cX3_init 2 none (rmc 1 20 3 45) 82 [(0, .ref (ad (cg κ) 69)), (1, .int a1)] [] (w, 73, 3, 45) := by
  unfold X3_init_j82 at h
  refine jc_iinc (a1 + (1 : Int32)) 1 [(1, .int (a1 + (1 : Int32))), (0, .ref (ad (cg κ) 69))] dX3_init_82 rfl (by rw [kn_1]) (by decide) rfl ?_
  refine jc_goto 35 dX3_init_85 (by decide) ?_
  refine jc_loc [(0, .ref (ad (cg κ) 69)), (1, .int (a1 + (1 : Int32)))] [1, 0] rfl ?_
  have h := sel_l h
  have h := KG _ h
  exact h
noncomputable def X3_init_b35 (s : (Int32 × Wd)) : Option ((Int32 × Wd) ⊕ Wd) :=
(if (15 : Int32) ≤ s.1 then
some (.inr s.2)
else
gd (¬ s.2.1 69 0 = 0) <|
gd (vp_in s.1 15) <|
(some (puI s.2 70 (ix s.1) (6 : Int32))).bind fun w5 =>
gd (¬ w5.1 69 2 = 0) <|
gd (vp_in s.1 15) <|
(some (puI w5 72 (ix s.1) ((1 : Int32) <<< (s.1 &&& 31)))).bind fun w6 =>
(if (26 : Int32) ≤ (s.1 + (15 : Int32)) then
X3_init_j82 s.1 w6
else
gd (¬ w6.1 69 2 = 0) <|
gd (vp_in s.1 15) <|
gd (vp_in s.1 15) <|
(some (puI w6 72 (ix s.1) ((w6.1 72 (ix s.1)) ||| ((1 : Int32) <<< ((s.1 + (15 : Int32)) &&& 31))))).bind fun w7 =>
X3_init_j82 s.1 w7))
set_option maxRecDepth 20000 in
set_option maxHeartbeats 1000000 in
theorem tk_X3_init_b35 {κ : KxC} {P : Wd → Prop} (K0 : ∀ e, P e → JC κ RX3 cX3_init 2 none (rmc 1 20 3 45) 88 [] [] (e, 73, 3, 45)) (s : (Int32 × Wd)) (h : ok (lp (X3_init_b35  ) s) P) : JC κ RX3 cX3_init 2 none (rmc 1 20 3 45) 35 [(0, .ref (ad (cg κ) 69)), (1, .int s.1)] [] (s.2, 73, 3, 45) := by
  refine lp_ind (fun s => JC κ RX3 cX3_init 2 none (rmc 1 20 3 45) 35 [(0, .ref (ad (cg κ) 69)), (1, .int s.1)] [] (s.2, 73, 3, 45)) (fun s h => ?_) s h
  unfold X3_init_b35 at h
  refine jc_iload_n 1 dX3_init_35 rfl rfl ?_
  refine jc_bipush (15 : Int32) dX3_init_36 kb_15 ?_
  refine jc_ic_ge 88 dX3_init_38 (by decide) h (fun h => ?_) (fun h => ?_)
  · refine jc_loc [] [] rfl ?_
    have h := sel_r h
    have h := K0 _ h
    exact h
  · refine jc_aload_n 0 dX3_init_41 rfl rfl ?_
    refine jc_getA 70 fl_RX3_9 sh_69 (by decide) fk_69_0 (by decide) dX3_init_42 h (fun h => ?_)
    refine jc_iload_n 1 dX3_init_45 rfl rfl ?_
    refine jc_bipush (6 : Int32) dX3_init_46 kb_6 ?_
    refine jc_iast sh_70 (by decide) dX3_init_48 h (fun h => ?_)
    refine jc_lW h (fun w5 h => ?_)
    refine jc_aload_n 0 dX3_init_49 rfl rfl ?_
    refine jc_getA 72 fl_RX3_18 sh_69 (by decide) fk_69_2 (by decide) dX3_init_50 h (fun h => ?_)
    refine jc_iload_n 1 dX3_init_53 rfl rfl ?_
    refine jc_iconst (1 : Int32) dX3_init_54 ki_1 ?_
    refine jc_iload_n 1 dX3_init_55 rfl rfl ?_
    refine jc_ishl dX3_init_56 ?_
    refine jc_iast sh_72 (by decide) dX3_init_57 h (fun h => ?_)
    refine jc_lW h (fun w6 h => ?_)
    refine jc_iload_n 1 dX3_init_58 rfl rfl ?_
    refine jc_bipush (15 : Int32) dX3_init_59 kb_15 ?_
    refine jc_iadd dX3_init_61 ?_
    refine jc_bipush (26 : Int32) dX3_init_62 kb_26 ?_
    refine jc_ic_ge 82 dX3_init_64 (by decide) h (fun h => ?_) (fun h => ?_)
    · refine jc_loc [(0, .ref (ad (cg κ) 69)), (1, .int s.1)] [0, 1] rfl ?_
      exact tk_X3_init_j82 s.1 w6 (fun _ h => h) K0 h
    · refine jc_aload_n 0 dX3_init_67 rfl rfl ?_
      refine jc_getA 72 fl_RX3_18 sh_69 (by decide) fk_69_2 (by decide) dX3_init_68 h (fun h => ?_)
      refine jc_iload_n 1 dX3_init_71 rfl rfl ?_
      refine jc_dup2 dX3_init_72 rfl rfl ?_
      refine jc_iald sh_72 (by decide) dX3_init_73 h (fun h => ?_)
      refine jc_iconst (1 : Int32) dX3_init_74 ki_1 ?_
      refine jc_iload_n 1 dX3_init_75 rfl rfl ?_
      refine jc_bipush (15 : Int32) dX3_init_76 kb_15 ?_
      refine jc_iadd dX3_init_78 ?_
      refine jc_ishl dX3_init_79 ?_
      refine jc_ior dX3_init_80 ?_
      refine jc_iast sh_72 (by decide) dX3_init_81 h (fun h => ?_)
      refine jc_lW h (fun w7 h => ?_)
      refine jc_loc [(0, .ref (ad (cg κ) 69)), (1, .int s.1)] [0, 1] rfl ?_
      exact tk_X3_init_j82 s.1 w7 (fun _ h => h) K0 h
noncomputable def X3_init (w : Wd) : Option (Wd) :=
(some (puI w 69 0 1)).bind fun w1 =>
(some (puI w1 69 1 1)).bind fun w2 =>
(some (puI w2 69 2 1)).bind fun w3 =>
(some (puI w3 69 3 (4 : Int32))).bind fun w4 =>
(lp (X3_init_b35 ) ((0 : Int32), w4)).bind fun e8 =>
some e8
set_option maxRecDepth 20000 in
set_option maxHeartbeats 1000000 in
theorem tk_X3_init {κ : KxC} (w : Wd) (hi : (cmeth κ).name = "<init>") (h : ok (X3_init   w) (PVc κ 73 3 45)) : JC κ RX3 cX3_init 2 none (rmc 1 20 3 45) 0 [(0, .ref (ad (cg κ) 69))] [] (w, 70, 0, 0) := by
  unfold X3_init at h
  refine jc_aload_n 0 dX3_init_0 rfl rfl ?_
  refine jc_objInit oi_RX3_3 (by decide) (Nat.le_of_ble_eq_true rfl) dX3_init_1 ?_
  refine jc_aload_n 0 dX3_init_4 rfl rfl ?_
  refine jc_bipush (15 : Int32) dX3_init_5 kb_15 ?_
  refine jc_newI (m := 15) (by decide) sh_70 aw_I (by decide) (by decide) (by decide) (by decide) (by decide) dX3_init_7 ?_
  refine jc_putA fr_RX3_9 sh_69 (by decide) fk_69_0 (by decide) (fun _ => rfl) (fun _ => rfl) hi dX3_init_9 ?_
  refine jc_lW h (fun w1 h => ?_)
  refine jc_aload_n 0 dX3_init_12 rfl rfl ?_
  refine jc_bipush (15 : Int32) dX3_init_13 kb_15 ?_
  refine jc_newI (m := 15) (by decide) sh_71 aw_I (by decide) (by decide) (by decide) (by decide) (by decide) dX3_init_15 ?_
  refine jc_putA fr_RX3_15 sh_69 (by decide) fk_69_1 (by decide) (fun _ => rfl) (fun _ => rfl) hi dX3_init_17 ?_
  refine jc_lW h (fun w2 h => ?_)
  refine jc_aload_n 0 dX3_init_20 rfl rfl ?_
  refine jc_bipush (15 : Int32) dX3_init_21 kb_15 ?_
  refine jc_newI (m := 15) (by decide) sh_72 aw_I (by decide) (by decide) (by decide) (by decide) (by decide) dX3_init_23 ?_
  refine jc_putA fr_RX3_18 sh_69 (by decide) fk_69_2 (by decide) (fun _ => rfl) (fun _ => rfl) hi dX3_init_25 ?_
  refine jc_lW h (fun w3 h => ?_)
  refine jc_aload_n 0 dX3_init_28 rfl rfl ?_
  refine jc_iconst (4 : Int32) dX3_init_29 ki_4 ?_
  refine jc_putI fp_RX3_21 sh_69 (by decide) fk_69_3 dX3_init_30 ?_
  refine jc_lW h (fun w4 h => ?_)
  refine jc_iconst (0 : Int32) dX3_init_33 ki_0 ?_
  refine jc_istore_n [(1, .int (0 : Int32)), (0, .ref (ad (cg κ) 69))] dX3_init_34 rfl (by decide) rfl ?_
  refine jc_loc [(0, .ref (ad (cg κ) 69)), (1, .int (0 : Int32))] [1, 0] rfl ?_
  refine tk_X3_init_b35  (fun e8 h => ?_) ((0 : Int32), w4) (ok_bb h)
  · have h := ok_s h
    exact jc_vret dX3_init_88 rfl h
theorem k_X3_init (l : Launch) (γ : Gm) (A : Nat → Prop) (N : Nat) (w : Wd) (q : Wd) (e : X3_init   w = some q) : MetC l γ A N yX3_init cX3_init 2 none (rmc 1 20 3 45) [.ref (ad (γ) 69)] w 70 none q 73 3 45 := by
  refine met_ofC pn_RX3 (Nat.le_of_ble_eq_true rfl) ?_
  intro κ hl hγ hA hN hρ hi
  subst hl; subst hγ; subst hA; subst hN
  exact tk_X3_init    w hi ⟨q, e, pVc hρ rfl rfl⟩
theorem dX10_init_0 : decode cX10_init 0 = .ok (.aload_n 0, 1) := by decide +kernel
theorem dX10_init_1 : decode cX10_init 1 = .ok (.invokespecial 3, 3) := by decide +kernel
theorem dX10_init_4 : decode cX10_init 4 = .ok (.aload_n 0, 1) := by decide +kernel
theorem dX10_init_5 : decode cX10_init 5 = .ok (.sipush 2400, 3) := by decide +kernel
theorem dX10_init_8 : decode cX10_init 8 = .ok (.newarray .byte, 2) := by decide +kernel
theorem dX10_init_10 : decode cX10_init 10 = .ok (.putfield 9, 3) := by decide +kernel
theorem dX10_init_13 : decode cX10_init 13 = .ok (.aload_n 0, 1) := by decide +kernel
theorem dX10_init_14 : decode cX10_init 14 = .ok (.ldc 15, 2) := by decide +kernel
theorem dX10_init_16 : decode cX10_init 16 = .ok (.newarray .byte, 2) := by decide +kernel
theorem dX10_init_18 : decode cX10_init 18 = .ok (.putfield 16, 3) := by decide +kernel
theorem dX10_init_21 : decode cX10_init 21 = .ok (.aload_n 0, 1) := by decide +kernel
theorem dX10_init_22 : decode cX10_init 22 = .ok (.sipush 2400, 3) := by decide +kernel
theorem dX10_init_25 : decode cX10_init 25 = .ok (.newarray .byte, 2) := by decide +kernel
theorem dX10_init_27 : decode cX10_init 27 = .ok (.putfield 19, 3) := by decide +kernel
theorem dX10_init_30 : decode cX10_init 30 = .ok (.aload_n 0, 1) := by decide +kernel
theorem dX10_init_31 : decode cX10_init 31 = .ok (.bipush 7, 2) := by decide +kernel
theorem dX10_init_33 : decode cX10_init 33 = .ok (.newarray .long, 2) := by decide +kernel
theorem dX10_init_35 : decode cX10_init 35 = .ok (.putfield 24, 3) := by decide +kernel
theorem dX10_init_38 : decode cX10_init 38 = .ok (.aload_n 0, 1) := by decide +kernel
theorem dX10_init_39 : decode cX10_init 39 = .ok (.bipush 12, 2) := by decide +kernel
theorem dX10_init_41 : decode cX10_init 41 = .ok (.newarray .int, 2) := by decide +kernel
theorem dX10_init_43 : decode cX10_init 43 = .ok (.putfield 28, 3) := by decide +kernel
theorem dX10_init_46 : decode cX10_init 46 = .ok (.aload_n 0, 1) := by decide +kernel
theorem dX10_init_47 : decode cX10_init 47 = .ok (.bipush 15, 2) := by decide +kernel
theorem dX10_init_49 : decode cX10_init 49 = .ok (.newarray .byte, 2) := by decide +kernel
theorem dX10_init_51 : decode cX10_init 51 = .ok (.putfield 32, 3) := by decide +kernel
theorem dX10_init_54 : decode cX10_init 54 = .ok (.aload_n 0, 1) := by decide +kernel
theorem dX10_init_55 : decode cX10_init 55 = .ok (.aload_n 1, 1) := by decide +kernel
theorem dX10_init_56 : decode cX10_init 56 = .ok (.putfield 35, 3) := by decide +kernel
theorem dX10_init_59 : decode cX10_init 59 = .ok (.aload_n 0, 1) := by decide +kernel
theorem dX10_init_60 : decode cX10_init 60 = .ok (.aload_n 2, 1) := by decide +kernel
theorem dX10_init_61 : decode cX10_init 61 = .ok (.putfield 39, 3) := by decide +kernel
theorem dX10_init_64 : decode cX10_init 64 = .ok (.aload_n 0, 1) := by decide +kernel
theorem dX10_init_65 : decode cX10_init 65 = .ok (.aload_n 3, 1) := by decide +kernel
theorem dX10_init_66 : decode cX10_init 66 = .ok (.putfield 43, 3) := by decide +kernel
theorem dX10_init_69 : decode cX10_init 69 = .ok (.aload_n 0, 1) := by decide +kernel
theorem dX10_init_70 : decode cX10_init 70 = .ok (.aload 4, 2) := by decide +kernel
theorem dX10_init_72 : decode cX10_init 72 = .ok (.putfield 47, 3) := by decide +kernel
theorem dX10_init_75 : decode cX10_init 75 = .ok (.return_, 1) := by decide +kernel
noncomputable def X10_init (w : Wd) : Option (Wd) :=
(some (puI w 73 5 1)).bind fun w1 =>
(some (puI w1 73 6 1)).bind fun w2 =>
(some (puI w2 73 7 1)).bind fun w3 =>
(some (puI w3 73 8 1)).bind fun w4 =>
(some (puI w4 73 9 1)).bind fun w5 =>
(some (puI w5 73 10 1)).bind fun w6 =>
(some (puI w6 73 0 1)).bind fun w7 =>
(some (puI w7 73 1 1)).bind fun w8 =>
(some (puI w8 73 2 1)).bind fun w9 =>
(some (puI w9 73 3 1)).bind fun w10 =>
some w10
set_option maxRecDepth 20000 in
set_option maxHeartbeats 1000000 in
theorem tk_X10_init {κ : KxC} (w : Wd) (hi : (cmeth κ).name = "<init>") (h : ok (X10_init   w) (PVc κ 80 6 40834)) : JC κ RX10 cX10_init 5 none (rmc 1 20 6 40834) 0 [(0, .ref (ad (cg κ) 73)), (1, .ref (ad (cg κ) 5)), (2, .ref (ad (cg κ) 19)), (3, .ref (ad (cg κ) 30)), (4, .ref (ad (cg κ) 69))] [] (w, 74, 0, 0) := by
  unfold X10_init at h
  refine jc_aload_n 0 dX10_init_0 rfl rfl ?_
  refine jc_objInit oi_RX10_3 (by decide) (Nat.le_of_ble_eq_true rfl) dX10_init_1 ?_
  refine jc_aload_n 0 dX10_init_4 rfl rfl ?_
  refine jc_sipush (2400 : Int32) dX10_init_5 ks_2400 ?_
  refine jc_newB (m := 2400) (by decide) sh_74 aw_B (by decide) (by decide) (by decide) (by decide) (by decide) dX10_init_8 ?_
  refine jc_putA fr_RX10_9 sh_73 (by decide) fk_73_5 (by decide) (fun _ => rfl) (fun _ => rfl) hi dX10_init_10 ?_
  refine jc_lW h (fun w1 h => ?_)
  refine jc_aload_n 0 dX10_init_13 rfl rfl ?_
  refine jc_ldc cw_RX10_15 dX10_init_14 ?_
  refine jc_newB (m := 36000) (by decide) sh_75 aw_B (by decide) (by decide) (by decide) (by decide) (by decide) dX10_init_16 ?_
  refine jc_putA fr_RX10_16 sh_73 (by decide) fk_73_6 (by decide) (fun _ => rfl) (fun _ => rfl) hi dX10_init_18 ?_
  refine jc_lW h (fun w2 h => ?_)
  refine jc_aload_n 0 dX10_init_21 rfl rfl ?_
  refine jc_sipush (2400 : Int32) dX10_init_22 ks_2400 ?_
  refine jc_newB (m := 2400) (by decide) sh_76 aw_B (by decide) (by decide) (by decide) (by decide) (by decide) dX10_init_25 ?_
  refine jc_putA fr_RX10_19 sh_73 (by decide) fk_73_7 (by decide) (fun _ => rfl) (fun _ => rfl) hi dX10_init_27 ?_
  refine jc_lW h (fun w3 h => ?_)
  refine jc_aload_n 0 dX10_init_30 rfl rfl ?_
  refine jc_bipush (7 : Int32) dX10_init_31 kb_7 ?_
  refine jc_newJ (m := 7) (by decide) sh_77 aw_J (by decide) (by decide) (by decide) (by decide) (by decide) dX10_init_33 ?_
  refine jc_putA fr_RX10_24 sh_73 (by decide) fk_73_8 (by decide) (fun _ => rfl) (fun _ => rfl) hi dX10_init_35 ?_
  refine jc_lW h (fun w4 h => ?_)
  refine jc_aload_n 0 dX10_init_38 rfl rfl ?_
  refine jc_bipush (12 : Int32) dX10_init_39 kb_12 ?_
  refine jc_newI (m := 12) (by decide) sh_78 aw_I (by decide) (by decide) (by decide) (by decide) (by decide) dX10_init_41 ?_
  refine jc_putA fr_RX10_28 sh_73 (by decide) fk_73_9 (by decide) (fun _ => rfl) (fun _ => rfl) hi dX10_init_43 ?_
  refine jc_lW h (fun w5 h => ?_)
  refine jc_aload_n 0 dX10_init_46 rfl rfl ?_
  refine jc_bipush (15 : Int32) dX10_init_47 kb_15 ?_
  refine jc_newB (m := 15) (by decide) sh_79 aw_B (by decide) (by decide) (by decide) (by decide) (by decide) dX10_init_49 ?_
  refine jc_putA fr_RX10_32 sh_73 (by decide) fk_73_10 (by decide) (fun _ => rfl) (fun _ => rfl) hi dX10_init_51 ?_
  refine jc_lW h (fun w6 h => ?_)
  refine jc_aload_n 0 dX10_init_54 rfl rfl ?_
  refine jc_aload_n 1 dX10_init_55 rfl rfl ?_
  refine jc_putA fr_RX10_35 sh_73 (by decide) fk_73_0 (by decide) (fun _ => rfl) (fun _ => rfl) hi dX10_init_56 ?_
  refine jc_lW h (fun w7 h => ?_)
  refine jc_aload_n 0 dX10_init_59 rfl rfl ?_
  refine jc_aload_n 2 dX10_init_60 rfl rfl ?_
  refine jc_putA fr_RX10_39 sh_73 (by decide) fk_73_1 (by decide) (fun _ => rfl) (fun _ => rfl) hi dX10_init_61 ?_
  refine jc_lW h (fun w8 h => ?_)
  refine jc_aload_n 0 dX10_init_64 rfl rfl ?_
  refine jc_aload_n 3 dX10_init_65 rfl rfl ?_
  refine jc_putA fr_RX10_43 sh_73 (by decide) fk_73_2 (by decide) (fun _ => rfl) (fun _ => rfl) hi dX10_init_66 ?_
  refine jc_lW h (fun w9 h => ?_)
  refine jc_aload_n 0 dX10_init_69 rfl rfl ?_
  refine jc_aload 4 dX10_init_70 rfl ?_
  refine jc_putA fr_RX10_47 sh_73 (by decide) fk_73_3 (by decide) (fun _ => rfl) (fun _ => rfl) hi dX10_init_72 ?_
  refine jc_lW h (fun w10 h => ?_)
  have h := ok_s h
  exact jc_vret dX10_init_75 rfl h
theorem k_X10_init (l : Launch) (γ : Gm) (A : Nat → Prop) (N : Nat) (w : Wd) (q : Wd) (e : X10_init   w = some q) : MetC l γ A N yX10_init cX10_init 5 none (rmc 1 20 6 40834) [.ref (ad (γ) 73), .ref (ad (γ) 5), .ref (ad (γ) 19), .ref (ad (γ) 30), .ref (ad (γ) 69)] w 74 none q 80 6 40834 := by
  refine met_ofC pn_RX10 (Nat.le_of_ble_eq_true rfl) ?_
  intro κ hl hγ hA hN hρ hi
  subst hl; subst hγ; subst hA; subst hN
  exact tk_X10_init    w hi ⟨q, e, pVc hρ rfl rfl⟩
theorem dX5_init_0 : decode cX5_init 0 = .ok (.aload_n 0, 1) := by decide +kernel
theorem dX5_init_1 : decode cX5_init 1 = .ok (.invokespecial 5, 3) := by decide +kernel
theorem dX5_init_4 : decode cX5_init 4 = .ok (.aload_n 0, 1) := by decide +kernel
theorem dX5_init_5 : decode cX5_init 5 = .ok (.bipush 60, 2) := by decide +kernel
theorem dX5_init_7 : decode cX5_init 7 = .ok (.newarray .int, 2) := by decide +kernel
theorem dX5_init_9 : decode cX5_init 9 = .ok (.putfield 11, 3) := by decide +kernel
theorem dX5_init_12 : decode cX5_init 12 = .ok (.aload_n 0, 1) := by decide +kernel
theorem dX5_init_13 : decode cX5_init 13 = .ok (.bipush 60, 2) := by decide +kernel
theorem dX5_init_15 : decode cX5_init 15 = .ok (.newarray .int, 2) := by decide +kernel
theorem dX5_init_17 : decode cX5_init 17 = .ok (.putfield 15, 3) := by decide +kernel
theorem dX5_init_20 : decode cX5_init 20 = .ok (.aload_n 0, 1) := by decide +kernel
theorem dX5_init_21 : decode cX5_init 21 = .ok (.bipush 60, 2) := by decide +kernel
theorem dX5_init_23 : decode cX5_init 23 = .ok (.newarray .int, 2) := by decide +kernel
theorem dX5_init_25 : decode cX5_init 25 = .ok (.putfield 18, 3) := by decide +kernel
theorem dX5_init_28 : decode cX5_init 28 = .ok (.aload_n 0, 1) := by decide +kernel
theorem dX5_init_29 : decode cX5_init 29 = .ok (.sipush 480, 3) := by decide +kernel
theorem dX5_init_32 : decode cX5_init 32 = .ok (.newarray .byte, 2) := by decide +kernel
theorem dX5_init_34 : decode cX5_init 34 = .ok (.putfield 21, 3) := by decide +kernel
theorem dX5_init_37 : decode cX5_init 37 = .ok (.aload_n 0, 1) := by decide +kernel
theorem dX5_init_38 : decode cX5_init 38 = .ok (.bipush 8, 2) := by decide +kernel
theorem dX5_init_40 : decode cX5_init 40 = .ok (.newarray .int, 2) := by decide +kernel
theorem dX5_init_42 : decode cX5_init 42 = .ok (.putfield 25, 3) := by decide +kernel
theorem dX5_init_45 : decode cX5_init 45 = .ok (.aload_n 0, 1) := by decide +kernel
theorem dX5_init_46 : decode cX5_init 46 = .ok (.bipush 8, 2) := by decide +kernel
theorem dX5_init_48 : decode cX5_init 48 = .ok (.newarray .int, 2) := by decide +kernel
theorem dX5_init_50 : decode cX5_init 50 = .ok (.putfield 28, 3) := by decide +kernel
theorem dX5_init_53 : decode cX5_init 53 = .ok (.aload_n 0, 1) := by decide +kernel
theorem dX5_init_54 : decode cX5_init 54 = .ok (.bipush 81, 2) := by decide +kernel
theorem dX5_init_56 : decode cX5_init 56 = .ok (.newarray .int, 2) := by decide +kernel
theorem dX5_init_58 : decode cX5_init 58 = .ok (.putfield 31, 3) := by decide +kernel
theorem dX5_init_61 : decode cX5_init 61 = .ok (.return_, 1) := by decide +kernel
noncomputable def X5_init (w : Wd) : Option (Wd) :=
(some (puI w 80 1 1)).bind fun w1 =>
(some (puI w1 80 2 1)).bind fun w2 =>
(some (puI w2 80 3 1)).bind fun w3 =>
(some (puI w3 80 4 1)).bind fun w4 =>
(some (puI w4 80 5 1)).bind fun w5 =>
(some (puI w5 80 6 1)).bind fun w6 =>
(some (puI w6 80 7 1)).bind fun w7 =>
some w7
set_option maxRecDepth 20000 in
set_option maxHeartbeats 1000000 in
theorem tk_X5_init {κ : KxC} (w : Wd) (hi : (cmeth κ).name = "<init>") (h : ok (X5_init   w) (PVc κ 88 7 757)) : JC κ RX5 cX5_init 1 none (rmc 1 20 7 757) 0 [(0, .ref (ad (cg κ) 80))] [] (w, 81, 0, 0) := by
  unfold X5_init at h
  refine jc_aload_n 0 dX5_init_0 rfl rfl ?_
  refine jc_objInit oi_RX5_5 (by decide) (Nat.le_of_ble_eq_true rfl) dX5_init_1 ?_
  refine jc_aload_n 0 dX5_init_4 rfl rfl ?_
  refine jc_bipush (60 : Int32) dX5_init_5 kb_60 ?_
  refine jc_newI (m := 60) (by decide) sh_81 aw_I (by decide) (by decide) (by decide) (by decide) (by decide) dX5_init_7 ?_
  refine jc_putA fr_RX5_11 sh_80 (by decide) fk_80_1 (by decide) (fun _ => rfl) (fun _ => rfl) hi dX5_init_9 ?_
  refine jc_lW h (fun w1 h => ?_)
  refine jc_aload_n 0 dX5_init_12 rfl rfl ?_
  refine jc_bipush (60 : Int32) dX5_init_13 kb_60 ?_
  refine jc_newI (m := 60) (by decide) sh_82 aw_I (by decide) (by decide) (by decide) (by decide) (by decide) dX5_init_15 ?_
  refine jc_putA fr_RX5_15 sh_80 (by decide) fk_80_2 (by decide) (fun _ => rfl) (fun _ => rfl) hi dX5_init_17 ?_
  refine jc_lW h (fun w2 h => ?_)
  refine jc_aload_n 0 dX5_init_20 rfl rfl ?_
  refine jc_bipush (60 : Int32) dX5_init_21 kb_60 ?_
  refine jc_newI (m := 60) (by decide) sh_83 aw_I (by decide) (by decide) (by decide) (by decide) (by decide) dX5_init_23 ?_
  refine jc_putA fr_RX5_18 sh_80 (by decide) fk_80_3 (by decide) (fun _ => rfl) (fun _ => rfl) hi dX5_init_25 ?_
  refine jc_lW h (fun w3 h => ?_)
  refine jc_aload_n 0 dX5_init_28 rfl rfl ?_
  refine jc_sipush (480 : Int32) dX5_init_29 ks_480 ?_
  refine jc_newB (m := 480) (by decide) sh_84 aw_B (by decide) (by decide) (by decide) (by decide) (by decide) dX5_init_32 ?_
  refine jc_putA fr_RX5_21 sh_80 (by decide) fk_80_4 (by decide) (fun _ => rfl) (fun _ => rfl) hi dX5_init_34 ?_
  refine jc_lW h (fun w4 h => ?_)
  refine jc_aload_n 0 dX5_init_37 rfl rfl ?_
  refine jc_bipush (8 : Int32) dX5_init_38 kb_8 ?_
  refine jc_newI (m := 8) (by decide) sh_85 aw_I (by decide) (by decide) (by decide) (by decide) (by decide) dX5_init_40 ?_
  refine jc_putA fr_RX5_25 sh_80 (by decide) fk_80_5 (by decide) (fun _ => rfl) (fun _ => rfl) hi dX5_init_42 ?_
  refine jc_lW h (fun w5 h => ?_)
  refine jc_aload_n 0 dX5_init_45 rfl rfl ?_
  refine jc_bipush (8 : Int32) dX5_init_46 kb_8 ?_
  refine jc_newI (m := 8) (by decide) sh_86 aw_I (by decide) (by decide) (by decide) (by decide) (by decide) dX5_init_48 ?_
  refine jc_putA fr_RX5_28 sh_80 (by decide) fk_80_6 (by decide) (fun _ => rfl) (fun _ => rfl) hi dX5_init_50 ?_
  refine jc_lW h (fun w6 h => ?_)
  refine jc_aload_n 0 dX5_init_53 rfl rfl ?_
  refine jc_bipush (81 : Int32) dX5_init_54 kb_81 ?_
  refine jc_newI (m := 81) (by decide) sh_87 aw_I (by decide) (by decide) (by decide) (by decide) (by decide) dX5_init_56 ?_
  refine jc_putA fr_RX5_31 sh_80 (by decide) fk_80_7 (by decide) (fun _ => rfl) (fun _ => rfl) hi dX5_init_58 ?_
  refine jc_lW h (fun w7 h => ?_)
  have h := ok_s h
  exact jc_vret dX5_init_61 rfl h
theorem k_X5_init (l : Launch) (γ : Gm) (A : Nat → Prop) (N : Nat) (w : Wd) (q : Wd) (e : X5_init   w = some q) : MetC l γ A N yX5_init cX5_init 1 none (rmc 1 20 7 757) [.ref (ad (γ) 80)] w 81 none q 88 7 757 := by
  refine met_ofC pn_RX5 (Nat.le_of_ble_eq_true rfl) ?_
  intro κ hl hγ hA hN hρ hi
  subst hl; subst hγ; subst hA; subst hN
  exact tk_X5_init    w hi ⟨q, e, pVc hρ rfl rfl⟩
theorem dX7_init_0 : decode cX7_init 0 = .ok (.aload_n 0, 1) := by decide +kernel
theorem dX7_init_1 : decode cX7_init 1 = .ok (.invokespecial 3, 3) := by decide +kernel
theorem dX7_init_4 : decode cX7_init 4 = .ok (.aload_n 0, 1) := by decide +kernel
theorem dX7_init_5 : decode cX7_init 5 = .ok (.bipush 7, 2) := by decide +kernel
theorem dX7_init_7 : decode cX7_init 7 = .ok (.newarray .int, 2) := by decide +kernel
theorem dX7_init_9 : decode cX7_init 9 = .ok (.putfield 9, 3) := by decide +kernel
theorem dX7_init_12 : decode cX7_init 12 = .ok (.aload_n 0, 1) := by decide +kernel
theorem dX7_init_13 : decode cX7_init 13 = .ok (.bipush 7, 2) := by decide +kernel
theorem dX7_init_15 : decode cX7_init 15 = .ok (.newarray .int, 2) := by decide +kernel
theorem dX7_init_17 : decode cX7_init 17 = .ok (.putfield 15, 3) := by decide +kernel
theorem dX7_init_20 : decode cX7_init 20 = .ok (.aload_n 0, 1) := by decide +kernel
theorem dX7_init_21 : decode cX7_init 21 = .ok (.bipush 49, 2) := by decide +kernel
theorem dX7_init_23 : decode cX7_init 23 = .ok (.newarray .int, 2) := by decide +kernel
theorem dX7_init_25 : decode cX7_init 25 = .ok (.putfield 18, 3) := by decide +kernel
theorem dX7_init_28 : decode cX7_init 28 = .ok (.aload_n 0, 1) := by decide +kernel
theorem dX7_init_29 : decode cX7_init 29 = .ok (.sipush 128, 3) := by decide +kernel
theorem dX7_init_32 : decode cX7_init 32 = .ok (.newarray .int, 2) := by decide +kernel
theorem dX7_init_34 : decode cX7_init 34 = .ok (.putfield 21, 3) := by decide +kernel
theorem dX7_init_37 : decode cX7_init 37 = .ok (.aload_n 0, 1) := by decide +kernel
theorem dX7_init_38 : decode cX7_init 38 = .ok (.sipush 128, 3) := by decide +kernel
theorem dX7_init_41 : decode cX7_init 41 = .ok (.newarray .int, 2) := by decide +kernel
theorem dX7_init_43 : decode cX7_init 43 = .ok (.putfield 24, 3) := by decide +kernel
theorem dX7_init_46 : decode cX7_init 46 = .ok (.aload_n 0, 1) := by decide +kernel
theorem dX7_init_47 : decode cX7_init 47 = .ok (.bipush 7, 2) := by decide +kernel
theorem dX7_init_49 : decode cX7_init 49 = .ok (.newarray .int, 2) := by decide +kernel
theorem dX7_init_51 : decode cX7_init 51 = .ok (.putfield 27, 3) := by decide +kernel
theorem dX7_init_54 : decode cX7_init 54 = .ok (.return_, 1) := by decide +kernel
noncomputable def X7_init (w : Wd) : Option (Wd) :=
(some (puI w 88 1 1)).bind fun w1 =>
(some (puI w1 88 2 1)).bind fun w2 =>
(some (puI w2 88 3 1)).bind fun w3 =>
(some (puI w3 88 4 1)).bind fun w4 =>
(some (puI w4 88 5 1)).bind fun w5 =>
(some (puI w5 88 7 1)).bind fun w6 =>
some w6
set_option maxRecDepth 20000 in
set_option maxHeartbeats 1000000 in
theorem tk_X7_init {κ : KxC} (w : Wd) (hi : (cmeth κ).name = "<init>") (h : ok (X7_init   w) (PVc κ 95 6 326)) : JC κ RX7 cX7_init 1 none (rmc 1 20 6 326) 0 [(0, .ref (ad (cg κ) 88))] [] (w, 89, 0, 0) := by
  unfold X7_init at h
  refine jc_aload_n 0 dX7_init_0 rfl rfl ?_
  refine jc_objInit oi_RX7_3 (by decide) (Nat.le_of_ble_eq_true rfl) dX7_init_1 ?_
  refine jc_aload_n 0 dX7_init_4 rfl rfl ?_
  refine jc_bipush (7 : Int32) dX7_init_5 kb_7 ?_
  refine jc_newI (m := 7) (by decide) sh_89 aw_I (by decide) (by decide) (by decide) (by decide) (by decide) dX7_init_7 ?_
  refine jc_putA fr_RX7_9 sh_88 (by decide) fk_88_1 (by decide) (fun _ => rfl) (fun _ => rfl) hi dX7_init_9 ?_
  refine jc_lW h (fun w1 h => ?_)
  refine jc_aload_n 0 dX7_init_12 rfl rfl ?_
  refine jc_bipush (7 : Int32) dX7_init_13 kb_7 ?_
  refine jc_newI (m := 7) (by decide) sh_90 aw_I (by decide) (by decide) (by decide) (by decide) (by decide) dX7_init_15 ?_
  refine jc_putA fr_RX7_15 sh_88 (by decide) fk_88_2 (by decide) (fun _ => rfl) (fun _ => rfl) hi dX7_init_17 ?_
  refine jc_lW h (fun w2 h => ?_)
  refine jc_aload_n 0 dX7_init_20 rfl rfl ?_
  refine jc_bipush (49 : Int32) dX7_init_21 kb_49 ?_
  refine jc_newI (m := 49) (by decide) sh_91 aw_I (by decide) (by decide) (by decide) (by decide) (by decide) dX7_init_23 ?_
  refine jc_putA fr_RX7_18 sh_88 (by decide) fk_88_3 (by decide) (fun _ => rfl) (fun _ => rfl) hi dX7_init_25 ?_
  refine jc_lW h (fun w3 h => ?_)
  refine jc_aload_n 0 dX7_init_28 rfl rfl ?_
  refine jc_sipush (128 : Int32) dX7_init_29 ks_128 ?_
  refine jc_newI (m := 128) (by decide) sh_92 aw_I (by decide) (by decide) (by decide) (by decide) (by decide) dX7_init_32 ?_
  refine jc_putA fr_RX7_21 sh_88 (by decide) fk_88_4 (by decide) (fun _ => rfl) (fun _ => rfl) hi dX7_init_34 ?_
  refine jc_lW h (fun w4 h => ?_)
  refine jc_aload_n 0 dX7_init_37 rfl rfl ?_
  refine jc_sipush (128 : Int32) dX7_init_38 ks_128 ?_
  refine jc_newI (m := 128) (by decide) sh_93 aw_I (by decide) (by decide) (by decide) (by decide) (by decide) dX7_init_41 ?_
  refine jc_putA fr_RX7_24 sh_88 (by decide) fk_88_5 (by decide) (fun _ => rfl) (fun _ => rfl) hi dX7_init_43 ?_
  refine jc_lW h (fun w5 h => ?_)
  refine jc_aload_n 0 dX7_init_46 rfl rfl ?_
  refine jc_bipush (7 : Int32) dX7_init_47 kb_7 ?_
  refine jc_newI (m := 7) (by decide) sh_94 aw_I (by decide) (by decide) (by decide) (by decide) (by decide) dX7_init_49 ?_
  refine jc_putA fr_RX7_27 sh_88 (by decide) fk_88_7 (by decide) (fun _ => rfl) (fun _ => rfl) hi dX7_init_51 ?_
  refine jc_lW h (fun w6 h => ?_)
  have h := ok_s h
  exact jc_vret dX7_init_54 rfl h
theorem k_X7_init (l : Launch) (γ : Gm) (A : Nat → Prop) (N : Nat) (w : Wd) (q : Wd) (e : X7_init   w = some q) : MetC l γ A N yX7_init cX7_init 1 none (rmc 1 20 6 326) [.ref (ad (γ) 88)] w 89 none q 95 6 326 := by
  refine met_ofC pn_RX7 (Nat.le_of_ble_eq_true rfl) ?_
  intro κ hl hγ hA hN hρ hi
  subst hl; subst hγ; subst hA; subst hN
  exact tk_X7_init    w hi ⟨q, e, pVc hρ rfl rfl⟩
theorem dX1_init_0 : decode cX1_init 0 = .ok (.aload_n 0, 1) := by decide +kernel
theorem dX1_init_1 : decode cX1_init 1 = .ok (.invokespecial 3, 3) := by decide +kernel
theorem dX1_init_4 : decode cX1_init 4 = .ok (.aload_n 0, 1) := by decide +kernel
theorem dX1_init_5 : decode cX1_init 5 = .ok (.sipush 3721, 3) := by decide +kernel
theorem dX1_init_8 : decode cX1_init 8 = .ok (.newarray .long, 2) := by decide +kernel
theorem dX1_init_10 : decode cX1_init 10 = .ok (.putfield 11, 3) := by decide +kernel
theorem dX1_init_13 : decode cX1_init 13 = .ok (.iconst 0, 1) := by decide +kernel
theorem dX1_init_14 : decode cX1_init 14 = .ok (.istore_n 1, 1) := by decide +kernel
theorem dX1_init_15 : decode cX1_init 15 = .ok (.iload_n 1, 1) := by decide +kernel
theorem dX1_init_16 : decode cX1_init 16 = .ok (.bipush 61, 2) := by decide +kernel
theorem dX1_init_18 : decode cX1_init 18 = .ok (.if_icmp .ge 72, 3) := by decide +kernel
theorem dX1_init_21 : decode cX1_init 21 = .ok (.aload_n 0, 1) := by decide +kernel
theorem dX1_init_22 : decode cX1_init 22 = .ok (.getfield 11, 3) := by decide +kernel
theorem dX1_init_25 : decode cX1_init 25 = .ok (.iload_n 1, 1) := by decide +kernel
theorem dX1_init_26 : decode cX1_init 26 = .ok (.bipush 61, 2) := by decide +kernel
theorem dX1_init_28 : decode cX1_init 28 = .ok (.imul, 1) := by decide +kernel
theorem dX1_init_29 : decode cX1_init 29 = .ok (.lconst 1, 1) := by decide +kernel
theorem dX1_init_30 : decode cX1_init 30 = .ok (.lastore, 1) := by decide +kernel
theorem dX1_init_31 : decode cX1_init 31 = .ok (.iconst 1, 1) := by decide +kernel
theorem dX1_init_32 : decode cX1_init 32 = .ok (.istore_n 2, 1) := by decide +kernel
theorem dX1_init_33 : decode cX1_init 33 = .ok (.iload_n 2, 1) := by decide +kernel
theorem dX1_init_34 : decode cX1_init 34 = .ok (.iload_n 1, 1) := by decide +kernel
theorem dX1_init_35 : decode cX1_init 35 = .ok (.if_icmp .gt 49, 3) := by decide +kernel
theorem dX1_init_38 : decode cX1_init 38 = .ok (.aload_n 0, 1) := by decide +kernel
theorem dX1_init_39 : decode cX1_init 39 = .ok (.getfield 11, 3) := by decide +kernel
theorem dX1_init_42 : decode cX1_init 42 = .ok (.iload_n 1, 1) := by decide +kernel
theorem dX1_init_43 : decode cX1_init 43 = .ok (.bipush 61, 2) := by decide +kernel
theorem dX1_init_45 : decode cX1_init 45 = .ok (.imul, 1) := by decide +kernel
theorem dX1_init_46 : decode cX1_init 46 = .ok (.iload_n 2, 1) := by decide +kernel
theorem dX1_init_47 : decode cX1_init 47 = .ok (.iadd, 1) := by decide +kernel
theorem dX1_init_48 : decode cX1_init 48 = .ok (.aload_n 0, 1) := by decide +kernel
theorem dX1_init_49 : decode cX1_init 49 = .ok (.getfield 11, 3) := by decide +kernel
theorem dX1_init_52 : decode cX1_init 52 = .ok (.iload_n 1, 1) := by decide +kernel
theorem dX1_init_53 : decode cX1_init 53 = .ok (.iconst 1, 1) := by decide +kernel
theorem dX1_init_54 : decode cX1_init 54 = .ok (.isub, 1) := by decide +kernel
theorem dX1_init_55 : decode cX1_init 55 = .ok (.bipush 61, 2) := by decide +kernel
theorem dX1_init_57 : decode cX1_init 57 = .ok (.imul, 1) := by decide +kernel
theorem dX1_init_58 : decode cX1_init 58 = .ok (.iload_n 2, 1) := by decide +kernel
theorem dX1_init_59 : decode cX1_init 59 = .ok (.iadd, 1) := by decide +kernel
theorem dX1_init_60 : decode cX1_init 60 = .ok (.iconst 1, 1) := by decide +kernel
theorem dX1_init_61 : decode cX1_init 61 = .ok (.isub, 1) := by decide +kernel
theorem dX1_init_62 : decode cX1_init 62 = .ok (.laload, 1) := by decide +kernel
theorem dX1_init_63 : decode cX1_init 63 = .ok (.aload_n 0, 1) := by decide +kernel
theorem dX1_init_64 : decode cX1_init 64 = .ok (.getfield 11, 3) := by decide +kernel
theorem dX1_init_67 : decode cX1_init 67 = .ok (.iload_n 1, 1) := by decide +kernel
theorem dX1_init_68 : decode cX1_init 68 = .ok (.iconst 1, 1) := by decide +kernel
theorem dX1_init_69 : decode cX1_init 69 = .ok (.isub, 1) := by decide +kernel
theorem dX1_init_70 : decode cX1_init 70 = .ok (.bipush 61, 2) := by decide +kernel
theorem dX1_init_72 : decode cX1_init 72 = .ok (.imul, 1) := by decide +kernel
theorem dX1_init_73 : decode cX1_init 73 = .ok (.iload_n 2, 1) := by decide +kernel
theorem dX1_init_74 : decode cX1_init 74 = .ok (.iadd, 1) := by decide +kernel
theorem dX1_init_75 : decode cX1_init 75 = .ok (.laload, 1) := by decide +kernel
theorem dX1_init_76 : decode cX1_init 76 = .ok (.ladd, 1) := by decide +kernel
theorem dX1_init_77 : decode cX1_init 77 = .ok (.lastore, 1) := by decide +kernel
theorem dX1_init_78 : decode cX1_init 78 = .ok (.iinc 2 1, 3) := by decide +kernel
theorem dX1_init_81 : decode cX1_init 81 = .ok (.goto (-48), 3) := by decide +kernel
theorem dX1_init_84 : decode cX1_init 84 = .ok (.iinc 1 1, 3) := by decide +kernel
theorem dX1_init_87 : decode cX1_init 87 = .ok (.goto (-72), 3) := by decide +kernel
theorem dX1_init_90 : decode cX1_init 90 = .ok (.return_, 1) := by decide +kernel
noncomputable def X1_init_b33 (a1 : Int32) (s : (Int32 × Wd)) : Option ((Int32 × Wd) ⊕ Wd) :=
(if a1 < s.1 then
some (.inr s.2)
else
gd (¬ s.2.1 95 0 = 0) <|
gd (¬ s.2.1 95 0 = 0) <|
gd (vp_in ((((a1 - (1 : Int32)) * (61 : Int32)) + s.1) - (1 : Int32)) 3721) <|
(some (s.2.2 96 (ix ((((a1 - (1 : Int32)) * (61 : Int32)) + s.1) - (1 : Int32))))).bind fun z3 =>
gd (¬ s.2.1 95 0 = 0) <|
gd (vp_in (((a1 - (1 : Int32)) * (61 : Int32)) + s.1) 3721) <|
(some (s.2.2 96 (ix (((a1 - (1 : Int32)) * (61 : Int32)) + s.1)))).bind fun z4 =>
gd (vp_in ((a1 * (61 : Int32)) + s.1) 3721) <|
(some (puJ s.2 96 (ix ((a1 * (61 : Int32)) + s.1)) (z3 + z4))).bind fun w5 =>
some (.inl ((s.1 + (1 : Int32)), w5)))
set_option maxRecDepth 20000 in
set_option maxHeartbeats 1000000 in
theorem tk_X1_init_b33 {κ : KxC} (a1 : Int32) {P : Wd → Prop} (K0 : ∀ e, P e → JC κ RX1 cX1_init 3 none (rmc 1 20 1 3721) 84 [(0, .ref (ad (cg κ) 95)), (1, .int a1)] [] (e, 97, 1, 3721)) (s : (Int32 × Wd)) (h : ok (lp (X1_init_b33  a1) s) P) : JC κ RX1 cX1_init 3 none (rmc 1 20 1 3721) 33 [(0, .ref (ad (cg κ) 95)), (1, .int a1), (2, .int s.1)] [] (s.2, 97, 1, 3721) := by
  refine lp_ind (fun s => JC κ RX1 cX1_init 3 none (rmc 1 20 1 3721) 33 [(0, .ref (ad (cg κ) 95)), (1, .int a1), (2, .int s.1)] [] (s.2, 97, 1, 3721)) (fun s h => ?_) s h
  unfold X1_init_b33 at h
  refine jc_iload_n 2 dX1_init_33 rfl rfl ?_
  refine jc_iload_n 1 dX1_init_34 rfl rfl ?_
  refine jc_ic_gt 84 dX1_init_35 (by decide) h (fun h => ?_) (fun h => ?_)
  · refine jc_loc [(0, .ref (ad (cg κ) 95)), (1, .int a1)] [0, 1] rfl ?_
    have h := sel_r h
    have h := K0 _ h
    exact h
  · refine jc_aload_n 0 dX1_init_38 rfl rfl ?_
    refine jc_getA 96 fl_RX1_11 sh_95 (by decide) fk_95_0 (by decide) dX1_init_39 h (fun h => ?_)
    refine jc_iload_n 1 dX1_init_42 rfl rfl ?_
    refine jc_bipush (61 : Int32) dX1_init_43 kb_61 ?_
    refine jc_imul dX1_init_45 ?_
    refine jc_iload_n 2 dX1_init_46 rfl rfl ?_
    refine jc_iadd dX1_init_47 ?_
    refine jc_aload_n 0 dX1_init_48 rfl rfl ?_
    refine jc_getA 96 fl_RX1_11 sh_95 (by decide) fk_95_0 (by decide) dX1_init_49 h (fun h => ?_)
    refine jc_iload_n 1 dX1_init_52 rfl rfl ?_
    refine jc_iconst (1 : Int32) dX1_init_53 ki_1 ?_
    refine jc_isub dX1_init_54 ?_
    refine jc_bipush (61 : Int32) dX1_init_55 kb_61 ?_
    refine jc_imul dX1_init_57 ?_
    refine jc_iload_n 2 dX1_init_58 rfl rfl ?_
    refine jc_iadd dX1_init_59 ?_
    refine jc_iconst (1 : Int32) dX1_init_60 ki_1 ?_
    refine jc_isub dX1_init_61 ?_
    refine jc_lald sh_96 (by decide) dX1_init_62 h (fun h => ?_)
    refine jc_lJ h (fun z3 h => ?_)
    refine jc_aload_n 0 dX1_init_63 rfl rfl ?_
    refine jc_getA 96 fl_RX1_11 sh_95 (by decide) fk_95_0 (by decide) dX1_init_64 h (fun h => ?_)
    refine jc_iload_n 1 dX1_init_67 rfl rfl ?_
    refine jc_iconst (1 : Int32) dX1_init_68 ki_1 ?_
    refine jc_isub dX1_init_69 ?_
    refine jc_bipush (61 : Int32) dX1_init_70 kb_61 ?_
    refine jc_imul dX1_init_72 ?_
    refine jc_iload_n 2 dX1_init_73 rfl rfl ?_
    refine jc_iadd dX1_init_74 ?_
    refine jc_lald sh_96 (by decide) dX1_init_75 h (fun h => ?_)
    refine jc_lJ h (fun z4 h => ?_)
    refine jc_ladd dX1_init_76 ?_
    refine jc_last sh_96 (by decide) dX1_init_77 h (fun h => ?_)
    refine jc_lW h (fun w5 h => ?_)
    refine jc_iinc (s.1 + (1 : Int32)) 2 [(2, .int (s.1 + (1 : Int32))), (0, .ref (ad (cg κ) 95)), (1, .int a1)] dX1_init_78 rfl (by rw [kn_1]) (by decide) rfl ?_
    refine jc_goto 33 dX1_init_81 (by decide) ?_
    refine jc_loc [(0, .ref (ad (cg κ) 95)), (1, .int a1), (2, .int (s.1 + (1 : Int32)))] [1, 2, 0] rfl ?_
    have h := sel_l h
    exact h
noncomputable def X1_init_b15 (s : (Int32 × Wd)) : Option ((Int32 × Wd) ⊕ Wd) :=
(if (61 : Int32) ≤ s.1 then
some (.inr s.2)
else
gd (¬ s.2.1 95 0 = 0) <|
gd (vp_in (s.1 * (61 : Int32)) 3721) <|
(some (puJ s.2 96 (ix (s.1 * (61 : Int32))) (1 : Int64))).bind fun w2 =>
(lp (X1_init_b33 s.1) ((1 : Int32), w2)).bind fun e6 =>
some (.inl ((s.1 + (1 : Int32)), e6)))
set_option maxRecDepth 20000 in
set_option maxHeartbeats 1000000 in
theorem tk_X1_init_b15 {κ : KxC} {P : Wd → Prop} (K0 : ∀ e, P e → JC κ RX1 cX1_init 3 none (rmc 1 20 1 3721) 90 [] [] (e, 97, 1, 3721)) (s : (Int32 × Wd)) (h : ok (lp (X1_init_b15  ) s) P) : JC κ RX1 cX1_init 3 none (rmc 1 20 1 3721) 15 [(0, .ref (ad (cg κ) 95)), (1, .int s.1)] [] (s.2, 97, 1, 3721) := by
  refine lp_ind (fun s => JC κ RX1 cX1_init 3 none (rmc 1 20 1 3721) 15 [(0, .ref (ad (cg κ) 95)), (1, .int s.1)] [] (s.2, 97, 1, 3721)) (fun s h => ?_) s h
  unfold X1_init_b15 at h
  refine jc_iload_n 1 dX1_init_15 rfl rfl ?_
  refine jc_bipush (61 : Int32) dX1_init_16 kb_61 ?_
  refine jc_ic_ge 90 dX1_init_18 (by decide) h (fun h => ?_) (fun h => ?_)
  · refine jc_loc [] [] rfl ?_
    have h := sel_r h
    have h := K0 _ h
    exact h
  · refine jc_aload_n 0 dX1_init_21 rfl rfl ?_
    refine jc_getA 96 fl_RX1_11 sh_95 (by decide) fk_95_0 (by decide) dX1_init_22 h (fun h => ?_)
    refine jc_iload_n 1 dX1_init_25 rfl rfl ?_
    refine jc_bipush (61 : Int32) dX1_init_26 kb_61 ?_
    refine jc_imul dX1_init_28 ?_
    refine jc_lconst (1 : Int64) dX1_init_29 (by decide) ?_
    refine jc_last sh_96 (by decide) dX1_init_30 h (fun h => ?_)
    refine jc_lW h (fun w2 h => ?_)
    refine jc_iconst (1 : Int32) dX1_init_31 ki_1 ?_
    refine jc_istore_n [(2, .int (1 : Int32)), (0, .ref (ad (cg κ) 95)), (1, .int s.1)] dX1_init_32 rfl (by decide) rfl ?_
    refine jc_loc [(0, .ref (ad (cg κ) 95)), (1, .int s.1), (2, .int (1 : Int32))] [1, 2, 0] rfl ?_
    refine tk_X1_init_b33 s.1 (fun e6 h => ?_) ((1 : Int32), w2) (ok_bb h)
    · refine jc_iinc (s.1 + (1 : Int32)) 1 [(1, .int (s.1 + (1 : Int32))), (0, .ref (ad (cg κ) 95))] dX1_init_84 rfl (by rw [kn_1]) (by decide) rfl ?_
      refine jc_goto 15 dX1_init_87 (by decide) ?_
      refine jc_loc [(0, .ref (ad (cg κ) 95)), (1, .int (s.1 + (1 : Int32)))] [1, 0] rfl ?_
      have h := sel_l h
      exact h
noncomputable def X1_init (w : Wd) : Option (Wd) :=
(some (puI w 95 0 1)).bind fun w1 =>
(lp (X1_init_b15 ) ((0 : Int32), w1)).bind fun e7 =>
some e7
set_option maxRecDepth 20000 in
set_option maxHeartbeats 1000000 in
theorem tk_X1_init {κ : KxC} (w : Wd) (hi : (cmeth κ).name = "<init>") (h : ok (X1_init   w) (PVc κ 97 1 3721)) : JC κ RX1 cX1_init 3 none (rmc 1 20 1 3721) 0 [(0, .ref (ad (cg κ) 95))] [] (w, 96, 0, 0) := by
  unfold X1_init at h
  refine jc_aload_n 0 dX1_init_0 rfl rfl ?_
  refine jc_objInit oi_RX1_3 (by decide) (Nat.le_of_ble_eq_true rfl) dX1_init_1 ?_
  refine jc_aload_n 0 dX1_init_4 rfl rfl ?_
  refine jc_sipush (3721 : Int32) dX1_init_5 ks_3721 ?_
  refine jc_newJ (m := 3721) (by decide) sh_96 aw_J (by decide) (by decide) (by decide) (by decide) (by decide) dX1_init_8 ?_
  refine jc_putA fr_RX1_11 sh_95 (by decide) fk_95_0 (by decide) (fun _ => rfl) (fun _ => rfl) hi dX1_init_10 ?_
  refine jc_lW h (fun w1 h => ?_)
  refine jc_iconst (0 : Int32) dX1_init_13 ki_0 ?_
  refine jc_istore_n [(1, .int (0 : Int32)), (0, .ref (ad (cg κ) 95))] dX1_init_14 rfl (by decide) rfl ?_
  refine jc_loc [(0, .ref (ad (cg κ) 95)), (1, .int (0 : Int32))] [1, 0] rfl ?_
  refine tk_X1_init_b15  (fun e7 h => ?_) ((0 : Int32), w1) (ok_bb h)
  · have h := ok_s h
    exact jc_vret dX1_init_90 rfl h
theorem k_X1_init (l : Launch) (γ : Gm) (A : Nat → Prop) (N : Nat) (w : Wd) (q : Wd) (e : X1_init   w = some q) : MetC l γ A N yX1_init cX1_init 3 none (rmc 1 20 1 3721) [.ref (ad (γ) 95)] w 96 none q 97 1 3721 := by
  refine met_ofC pn_RX1 (Nat.le_of_ble_eq_true rfl) ?_
  intro κ hl hγ hA hN hρ hi
  subst hl; subst hγ; subst hA; subst hN
  exact tk_X1_init    w hi ⟨q, e, pVc hρ rfl rfl⟩
theorem dX11_init_0 : decode cX11_init 0 = .ok (.aload_n 0, 1) := by decide +kernel
theorem dX11_init_1 : decode cX11_init 1 = .ok (.invokespecial 1, 3) := by decide +kernel
theorem dX11_init_4 : decode cX11_init 4 = .ok (.aload_n 0, 1) := by decide +kernel
theorem dX11_init_5 : decode cX11_init 5 = .ok (.new 7, 3) := by decide +kernel
theorem dX11_init_8 : decode cX11_init 8 = .ok (.dup, 1) := by decide +kernel
theorem dX11_init_9 : decode cX11_init 9 = .ok (.invokespecial 9, 3) := by decide +kernel
theorem dX11_init_12 : decode cX11_init 12 = .ok (.putfield 10, 3) := by decide +kernel
theorem dX11_init_15 : decode cX11_init 15 = .ok (.aload_n 0, 1) := by decide +kernel
theorem dX11_init_16 : decode cX11_init 16 = .ok (.new 16, 3) := by decide +kernel
theorem dX11_init_19 : decode cX11_init 19 = .ok (.dup, 1) := by decide +kernel
theorem dX11_init_20 : decode cX11_init 20 = .ok (.invokespecial 18, 3) := by decide +kernel
theorem dX11_init_23 : decode cX11_init 23 = .ok (.putfield 19, 3) := by decide +kernel
theorem dX11_init_26 : decode cX11_init 26 = .ok (.aload_n 0, 1) := by decide +kernel
theorem dX11_init_27 : decode cX11_init 27 = .ok (.new 23, 3) := by decide +kernel
theorem dX11_init_30 : decode cX11_init 30 = .ok (.dup, 1) := by decide +kernel
theorem dX11_init_31 : decode cX11_init 31 = .ok (.invokespecial 25, 3) := by decide +kernel
theorem dX11_init_34 : decode cX11_init 34 = .ok (.putfield 26, 3) := by decide +kernel
theorem dX11_init_37 : decode cX11_init 37 = .ok (.aload_n 0, 1) := by decide +kernel
theorem dX11_init_38 : decode cX11_init 38 = .ok (.new 30, 3) := by decide +kernel
theorem dX11_init_41 : decode cX11_init 41 = .ok (.dup, 1) := by decide +kernel
theorem dX11_init_42 : decode cX11_init 42 = .ok (.invokespecial 32, 3) := by decide +kernel
theorem dX11_init_45 : decode cX11_init 45 = .ok (.putfield 33, 3) := by decide +kernel
theorem dX11_init_48 : decode cX11_init 48 = .ok (.aload_n 0, 1) := by decide +kernel
theorem dX11_init_49 : decode cX11_init 49 = .ok (.new 37, 3) := by decide +kernel
theorem dX11_init_52 : decode cX11_init 52 = .ok (.dup, 1) := by decide +kernel
theorem dX11_init_53 : decode cX11_init 53 = .ok (.aload_n 0, 1) := by decide +kernel
theorem dX11_init_54 : decode cX11_init 54 = .ok (.getfield 33, 3) := by decide +kernel
theorem dX11_init_57 : decode cX11_init 57 = .ok (.invokespecial 39, 3) := by decide +kernel
theorem dX11_init_60 : decode cX11_init 60 = .ok (.putfield 42, 3) := by decide +kernel
theorem dX11_init_63 : decode cX11_init 63 = .ok (.aload_n 0, 1) := by decide +kernel
theorem dX11_init_64 : decode cX11_init 64 = .ok (.new 46, 3) := by decide +kernel
theorem dX11_init_67 : decode cX11_init 67 = .ok (.dup, 1) := by decide +kernel
theorem dX11_init_68 : decode cX11_init 68 = .ok (.invokespecial 48, 3) := by decide +kernel
theorem dX11_init_71 : decode cX11_init 71 = .ok (.putfield 49, 3) := by decide +kernel
theorem dX11_init_74 : decode cX11_init 74 = .ok (.aload_n 0, 1) := by decide +kernel
theorem dX11_init_75 : decode cX11_init 75 = .ok (.new 53, 3) := by decide +kernel
theorem dX11_init_78 : decode cX11_init 78 = .ok (.dup, 1) := by decide +kernel
theorem dX11_init_79 : decode cX11_init 79 = .ok (.aload_n 0, 1) := by decide +kernel
theorem dX11_init_80 : decode cX11_init 80 = .ok (.getfield 19, 3) := by decide +kernel
theorem dX11_init_83 : decode cX11_init 83 = .ok (.aload_n 0, 1) := by decide +kernel
theorem dX11_init_84 : decode cX11_init 84 = .ok (.getfield 26, 3) := by decide +kernel
theorem dX11_init_87 : decode cX11_init 87 = .ok (.aload_n 0, 1) := by decide +kernel
theorem dX11_init_88 : decode cX11_init 88 = .ok (.getfield 33, 3) := by decide +kernel
theorem dX11_init_91 : decode cX11_init 91 = .ok (.aload_n 0, 1) := by decide +kernel
theorem dX11_init_92 : decode cX11_init 92 = .ok (.getfield 49, 3) := by decide +kernel
theorem dX11_init_95 : decode cX11_init 95 = .ok (.invokespecial 55, 3) := by decide +kernel
theorem dX11_init_98 : decode cX11_init 98 = .ok (.putfield 58, 3) := by decide +kernel
theorem dX11_init_101 : decode cX11_init 101 = .ok (.aload_n 0, 1) := by decide +kernel
theorem dX11_init_102 : decode cX11_init 102 = .ok (.new 62, 3) := by decide +kernel
theorem dX11_init_105 : decode cX11_init 105 = .ok (.dup, 1) := by decide +kernel
theorem dX11_init_106 : decode cX11_init 106 = .ok (.invokespecial 64, 3) := by decide +kernel
theorem dX11_init_109 : decode cX11_init 109 = .ok (.putfield 65, 3) := by decide +kernel
theorem dX11_init_112 : decode cX11_init 112 = .ok (.aload_n 0, 1) := by decide +kernel
theorem dX11_init_113 : decode cX11_init 113 = .ok (.new 69, 3) := by decide +kernel
theorem dX11_init_116 : decode cX11_init 116 = .ok (.dup, 1) := by decide +kernel
theorem dX11_init_117 : decode cX11_init 117 = .ok (.invokespecial 71, 3) := by decide +kernel
theorem dX11_init_120 : decode cX11_init 120 = .ok (.putfield 72, 3) := by decide +kernel
theorem dX11_init_123 : decode cX11_init 123 = .ok (.aload_n 0, 1) := by decide +kernel
theorem dX11_init_124 : decode cX11_init 124 = .ok (.new 76, 3) := by decide +kernel
theorem dX11_init_127 : decode cX11_init 127 = .ok (.dup, 1) := by decide +kernel
theorem dX11_init_128 : decode cX11_init 128 = .ok (.invokespecial 78, 3) := by decide +kernel
theorem dX11_init_131 : decode cX11_init 131 = .ok (.putfield 79, 3) := by decide +kernel
theorem dX11_init_134 : decode cX11_init 134 = .ok (.aload_n 0, 1) := by decide +kernel
theorem dX11_init_135 : decode cX11_init 135 = .ok (.iconst 0, 1) := by decide +kernel
theorem dX11_init_136 : decode cX11_init 136 = .ok (.putfield 83, 3) := by decide +kernel
theorem dX11_init_139 : decode cX11_init 139 = .ok (.return_, 1) := by decide +kernel
noncomputable def X11_init (w : Wd) : Option (Wd) :=
(X9_init w).bind fun q1 =>
(some (puI q1 0 0 1)).bind fun w3 =>
(X2_init w3).bind fun q4 =>
(some (puI q4 0 1 1)).bind fun w6 =>
(X4_init w6).bind fun q7 =>
(some (puI q7 0 2 1)).bind fun w9 =>
(X0_init w9).bind fun q10 =>
(some (puI q10 0 3 1)).bind fun w12 =>
gd (¬ w12.1 0 3 = 0) <|
(X6_init w12).bind fun q13 =>
(some (puI q13 0 4 1)).bind fun w15 =>
(X3_init w15).bind fun q16 =>
(some (puI q16 0 5 1)).bind fun w18 =>
gd (¬ w18.1 0 1 = 0) <|
gd (¬ w18.1 0 2 = 0) <|
gd (¬ w18.1 0 3 = 0) <|
gd (¬ w18.1 0 5 = 0) <|
(X10_init w18).bind fun q19 =>
(some (puI q19 0 6 1)).bind fun w21 =>
(X5_init w21).bind fun q22 =>
(some (puI q22 0 7 1)).bind fun w24 =>
(X7_init w24).bind fun q25 =>
(some (puI q25 0 8 1)).bind fun w27 =>
(X1_init w27).bind fun q28 =>
(some (puI q28 0 9 1)).bind fun w30 =>
(some (puI w30 0 10 (0 : Int32))).bind fun w31 =>
some w31
set_option maxRecDepth 20000 in
set_option maxHeartbeats 1000000 in
theorem tk_X11_init {κ : KxC} (w : Wd) (hi : (cmeth κ).name = "<init>") (h : ok (X11_init   w) (PVc κ 97 96 53544)) : JC κ RX11 cX11_init 1 none (rmc 5 111 96 53544) 0 [(0, .ref (ad (cg κ) 0))] [] (w, 1, 0, 0) := by
  unfold X11_init at h
  refine jc_aload_n 0 dX11_init_0 rfl rfl ?_
  refine jc_objInit oi_RX11_1 (by decide) (Nat.le_of_ble_eq_true rfl) dX11_init_1 ?_
  refine jc_aload_n 0 dX11_init_4 rfl rfl ?_
  refine jc_new (N := 3) (by decide) nw_RX11_7_1 sh_1 nf_1 (by decide) (by decide) dX11_init_5 ?_
  refine jc_dup dX11_init_8 rfl ?_
  obtain ⟨q1, e2, h⟩ := ok_b h
  refine jc_callI (As := []) (st := [.ref (ad (cg κ) 1), .ref (ad (cg κ) 0)]) [.ref (ad (cg κ) 1), .ref (ad (cg κ) 0)] (by decide) (k_X9_init (cl κ) (cg κ) (cA κ) (cN κ) w q1 e2) ck_RX11_9 im_X9_init rfl rfl ⟨rfl, rfl⟩ ⟨by decide, by decide⟩ ⟨by decide, by decide⟩ rfl rfl (Nat.le_of_ble_eq_true rfl) dX11_init_9 _ rfl ?_
  refine jc_putA fr_RX11_10 sh_0 (by decide) fk_0_0 (by decide) (fun _ => rfl) (fun _ => rfl) hi dX11_init_12 ?_
  refine jc_lW h (fun w3 h => ?_)
  refine jc_aload_n 0 dX11_init_15 rfl rfl ?_
  refine jc_new (N := 18) (by decide) nw_RX11_16_5 sh_5 nf_5 (by decide) (by decide) dX11_init_16 ?_
  refine jc_dup dX11_init_19 rfl ?_
  obtain ⟨q4, e5, h⟩ := ok_b h
  refine jc_callI (As := []) (st := [.ref (ad (cg κ) 5), .ref (ad (cg κ) 0)]) [.ref (ad (cg κ) 5), .ref (ad (cg κ) 0)] (by decide) (k_X2_init (cl κ) (cg κ) (cA κ) (cN κ) w3 q4 e5) ck_RX11_18 im_X2_init rfl rfl ⟨rfl, rfl⟩ ⟨by decide, by decide⟩ ⟨by decide, by decide⟩ rfl rfl (Nat.le_of_ble_eq_true rfl) dX11_init_20 _ rfl ?_
  refine jc_putA fr_RX11_19 sh_0 (by decide) fk_0_1 (by decide) (fun _ => rfl) (fun _ => rfl) hi dX11_init_23 ?_
  refine jc_lW h (fun w6 h => ?_)
  refine jc_aload_n 0 dX11_init_26 rfl rfl ?_
  refine jc_new (N := 13) (by decide) nw_RX11_23_19 sh_19 nf_19 (by decide) (by decide) dX11_init_27 ?_
  refine jc_dup dX11_init_30 rfl ?_
  obtain ⟨q7, e8, h⟩ := ok_b h
  refine jc_callI (As := []) (st := [.ref (ad (cg κ) 19), .ref (ad (cg κ) 0)]) [.ref (ad (cg κ) 19), .ref (ad (cg κ) 0)] (by decide) (k_X4_init (cl κ) (cg κ) (cA κ) (cN κ) w6 q7 e8) ck_RX11_25 im_X4_init rfl rfl ⟨rfl, rfl⟩ ⟨by decide, by decide⟩ ⟨by decide, by decide⟩ rfl rfl (Nat.le_of_ble_eq_true rfl) dX11_init_31 _ rfl ?_
  refine jc_putA fr_RX11_26 sh_0 (by decide) fk_0_2 (by decide) (fun _ => rfl) (fun _ => rfl) hi dX11_init_34 ?_
  refine jc_lW h (fun w9 h => ?_)
  refine jc_aload_n 0 dX11_init_37 rfl rfl ?_
  refine jc_new (N := 18) (by decide) nw_RX11_30_30 sh_30 nf_30 (by decide) (by decide) dX11_init_38 ?_
  refine jc_dup dX11_init_41 rfl ?_
  obtain ⟨q10, e11, h⟩ := ok_b h
  refine jc_callI (As := []) (st := [.ref (ad (cg κ) 30), .ref (ad (cg κ) 0)]) [.ref (ad (cg κ) 30), .ref (ad (cg κ) 0)] (by decide) (k_X0_init (cl κ) (cg κ) (cA κ) (cN κ) w9 q10 e11) ck_RX11_32 im_X0_init rfl rfl ⟨rfl, rfl⟩ ⟨by decide, by decide⟩ ⟨by decide, by decide⟩ rfl rfl (Nat.le_of_ble_eq_true rfl) dX11_init_42 _ rfl ?_
  refine jc_putA fr_RX11_33 sh_0 (by decide) fk_0_3 (by decide) (fun _ => rfl) (fun _ => rfl) hi dX11_init_45 ?_
  refine jc_lW h (fun w12 h => ?_)
  refine jc_aload_n 0 dX11_init_48 rfl rfl ?_
  refine jc_new (N := 17) (by decide) nw_RX11_37_65 sh_65 nf_65 (by decide) (by decide) dX11_init_49 ?_
  refine jc_dup dX11_init_52 rfl ?_
  refine jc_aload_n 0 dX11_init_53 rfl rfl ?_
  refine jc_getA 30 fl_RX11_33 sh_0 (by decide) fk_0_3 (by decide) dX11_init_54 h (fun h => ?_)
  obtain ⟨q13, e14, h⟩ := ok_b h
  refine jc_callI (As := [.ref (ad (cg κ) 30)]) (st := [.ref (ad (cg κ) 65), .ref (ad (cg κ) 0)]) [.ref (ad (cg κ) 65), .ref (ad (cg κ) 0)] (by decide) (k_X6_init (cl κ) (cg κ) (cA κ) (cN κ) w12 q13 e14) ck_RX11_39 im_X6_init rfl rfl ⟨rfl, rfl⟩ ⟨by decide, by decide⟩ ⟨by decide, by decide⟩ rfl rfl (Nat.le_of_ble_eq_true rfl) dX11_init_57 _ rfl ?_
  refine jc_putA fr_RX11_42 sh_0 (by decide) fk_0_4 (by decide) (fun _ => rfl) (fun _ => rfl) hi dX11_init_60 ?_
  refine jc_lW h (fun w15 h => ?_)
  refine jc_aload_n 0 dX11_init_63 rfl rfl ?_
  refine jc_new (N := 4) (by decide) nw_RX11_46_69 sh_69 nf_69 (by decide) (by decide) dX11_init_64 ?_
  refine jc_dup dX11_init_67 rfl ?_
  obtain ⟨q16, e17, h⟩ := ok_b h
  refine jc_callI (As := []) (st := [.ref (ad (cg κ) 69), .ref (ad (cg κ) 0)]) [.ref (ad (cg κ) 69), .ref (ad (cg κ) 0)] (by decide) (k_X3_init (cl κ) (cg κ) (cA κ) (cN κ) w15 q16 e17) ck_RX11_48 im_X3_init rfl rfl ⟨rfl, rfl⟩ ⟨by decide, by decide⟩ ⟨by decide, by decide⟩ rfl rfl (Nat.le_of_ble_eq_true rfl) dX11_init_68 _ rfl ?_
  refine jc_putA fr_RX11_49 sh_0 (by decide) fk_0_5 (by decide) (fun _ => rfl) (fun _ => rfl) hi dX11_init_71 ?_
  refine jc_lW h (fun w18 h => ?_)
  refine jc_aload_n 0 dX11_init_74 rfl rfl ?_
  refine jc_new (N := 11) (by decide) nw_RX11_53_73 sh_73 nf_73 (by decide) (by decide) dX11_init_75 ?_
  refine jc_dup dX11_init_78 rfl ?_
  refine jc_aload_n 0 dX11_init_79 rfl rfl ?_
  refine jc_getA 5 fl_RX11_19 sh_0 (by decide) fk_0_1 (by decide) dX11_init_80 h (fun h => ?_)
  refine jc_aload_n 0 dX11_init_83 rfl rfl ?_
  refine jc_getA 19 fl_RX11_26 sh_0 (by decide) fk_0_2 (by decide) dX11_init_84 h (fun h => ?_)
  refine jc_aload_n 0 dX11_init_87 rfl rfl ?_
  refine jc_getA 30 fl_RX11_33 sh_0 (by decide) fk_0_3 (by decide) dX11_init_88 h (fun h => ?_)
  refine jc_aload_n 0 dX11_init_91 rfl rfl ?_
  refine jc_getA 69 fl_RX11_49 sh_0 (by decide) fk_0_5 (by decide) dX11_init_92 h (fun h => ?_)
  obtain ⟨q19, e20, h⟩ := ok_b h
  refine jc_callI (As := [.ref (ad (cg κ) 5), .ref (ad (cg κ) 19), .ref (ad (cg κ) 30), .ref (ad (cg κ) 69)]) (st := [.ref (ad (cg κ) 73), .ref (ad (cg κ) 0)]) [.ref (ad (cg κ) 73), .ref (ad (cg κ) 0)] (by decide) (k_X10_init (cl κ) (cg κ) (cA κ) (cN κ) w18 q19 e20) ck_RX11_55 im_X10_init rfl rfl ⟨rfl, rfl⟩ ⟨by decide, by decide⟩ ⟨by decide, by decide⟩ rfl rfl (Nat.le_of_ble_eq_true rfl) dX11_init_95 _ rfl ?_
  refine jc_putA fr_RX11_58 sh_0 (by decide) fk_0_6 (by decide) (fun _ => rfl) (fun _ => rfl) hi dX11_init_98 ?_
  refine jc_lW h (fun w21 h => ?_)
  refine jc_aload_n 0 dX11_init_101 rfl rfl ?_
  refine jc_new (N := 8) (by decide) nw_RX11_62_80 sh_80 nf_80 (by decide) (by decide) dX11_init_102 ?_
  refine jc_dup dX11_init_105 rfl ?_
  obtain ⟨q22, e23, h⟩ := ok_b h
  refine jc_callI (As := []) (st := [.ref (ad (cg κ) 80), .ref (ad (cg κ) 0)]) [.ref (ad (cg κ) 80), .ref (ad (cg κ) 0)] (by decide) (k_X5_init (cl κ) (cg κ) (cA κ) (cN κ) w21 q22 e23) ck_RX11_64 im_X5_init rfl rfl ⟨rfl, rfl⟩ ⟨by decide, by decide⟩ ⟨by decide, by decide⟩ rfl rfl (Nat.le_of_ble_eq_true rfl) dX11_init_106 _ rfl ?_
  refine jc_putA fr_RX11_65 sh_0 (by decide) fk_0_7 (by decide) (fun _ => rfl) (fun _ => rfl) hi dX11_init_109 ?_
  refine jc_lW h (fun w24 h => ?_)
  refine jc_aload_n 0 dX11_init_112 rfl rfl ?_
  refine jc_new (N := 8) (by decide) nw_RX11_69_88 sh_88 nf_88 (by decide) (by decide) dX11_init_113 ?_
  refine jc_dup dX11_init_116 rfl ?_
  obtain ⟨q25, e26, h⟩ := ok_b h
  refine jc_callI (As := []) (st := [.ref (ad (cg κ) 88), .ref (ad (cg κ) 0)]) [.ref (ad (cg κ) 88), .ref (ad (cg κ) 0)] (by decide) (k_X7_init (cl κ) (cg κ) (cA κ) (cN κ) w24 q25 e26) ck_RX11_71 im_X7_init rfl rfl ⟨rfl, rfl⟩ ⟨by decide, by decide⟩ ⟨by decide, by decide⟩ rfl rfl (Nat.le_of_ble_eq_true rfl) dX11_init_117 _ rfl ?_
  refine jc_putA fr_RX11_72 sh_0 (by decide) fk_0_8 (by decide) (fun _ => rfl) (fun _ => rfl) hi dX11_init_120 ?_
  refine jc_lW h (fun w27 h => ?_)
  refine jc_aload_n 0 dX11_init_123 rfl rfl ?_
  refine jc_new (N := 1) (by decide) nw_RX11_76_95 sh_95 nf_95 (by decide) (by decide) dX11_init_124 ?_
  refine jc_dup dX11_init_127 rfl ?_
  obtain ⟨q28, e29, h⟩ := ok_b h
  refine jc_callI (As := []) (st := [.ref (ad (cg κ) 95), .ref (ad (cg κ) 0)]) [.ref (ad (cg κ) 95), .ref (ad (cg κ) 0)] (by decide) (k_X1_init (cl κ) (cg κ) (cA κ) (cN κ) w27 q28 e29) ck_RX11_78 im_X1_init rfl rfl ⟨rfl, rfl⟩ ⟨by decide, by decide⟩ ⟨by decide, by decide⟩ rfl rfl (Nat.le_of_ble_eq_true rfl) dX11_init_128 _ rfl ?_
  refine jc_putA fr_RX11_79 sh_0 (by decide) fk_0_9 (by decide) (fun _ => rfl) (fun _ => rfl) hi dX11_init_131 ?_
  refine jc_lW h (fun w30 h => ?_)
  refine jc_aload_n 0 dX11_init_134 rfl rfl ?_
  refine jc_iconst (0 : Int32) dX11_init_135 ki_0 ?_
  refine jc_putI fp_RX11_83 sh_0 (by decide) fk_0_10 dX11_init_136 ?_
  refine jc_lW h (fun w31 h => ?_)
  have h := ok_s h
  exact jc_vret dX11_init_139 rfl h
theorem k_X11_init (l : Launch) (γ : Gm) (A : Nat → Prop) (N : Nat) (w : Wd) (q : Wd) (e : X11_init   w = some q) : MetC l γ A N yX11_init cX11_init 1 none (rmc 5 111 96 53544) [.ref (ad (γ) 0)] w 1 none q 97 96 53544 := by
  refine met_ofC pn_RX11 (Nat.le_of_ble_eq_true rfl) ?_
  intro κ hl hγ hA hN hρ hi
  subst hl; subst hγ; subst hA; subst hN
  exact tk_X11_init    w hi ⟨q, e, pVc hρ rfl rfl⟩
