/-! how many are DONE -/
def pcN : Nat → Nat → Nat
  | 0, _ => 0
  | n + 1, x => x % 2 + pcN n (x / 2)
theorem and_div2 (a b : Nat) : (a &&& b) / 2 = a / 2 &&& b / 2 := by
  apply Nat.eq_of_testBit_eq
  intro i
  rw [← Nat.testBit_succ, Nat.testBit_and, Nat.testBit_succ, Nat.testBit_succ, Nat.testBit_and]
theorem and_mod2 (a b : Nat) (h : ¬ (a % 2 = 1 ∧ b % 2 = 1)) : (a &&& b) % 2 = 0 := by
  have h1 : decide ((a &&& b) % 2 = 1) = (decide (a % 2 = 1) && decide (b % 2 = 1)) := by
    rw [← Nat.testBit_zero, Nat.testBit_and, Nat.testBit_zero, Nat.testBit_zero]
  by_cases q : (a &&& b) % 2 = 1
  · rw [decide_eq_true q] at h1
    have := h1.symm
    simp only [Bool.and_eq_true, decide_eq_true_eq] at this
    exact (h this).elim
  · omega
theorem pc_step : ∀ n x, 0 < x → x < 2 ^ n → pcN n (x &&& (x - 1)) + 1 = pcN n x
  | 0, x, h, h2 => by have : (2 : Nat) ^ 0 = 1 := rfl; omega
  | n + 1, x, h, h2 => by
    rw [Nat.pow_succ] at h2
    unfold pcN
    rw [and_div2, and_mod2 x (x - 1) (by omega)]
    by_cases q : x % 2 = 1
    · rw [show (x - 1) / 2 = x / 2 by omega, Nat.and_self]; omega
    · rw [show (x - 1) / 2 = x / 2 - 1 by omega]
      have := pc_step n (x / 2) (by omega) (by omega)
      omega
theorem pc_bits (D : Nat) (h : D ≠ 0) (h2 : D < 32768) : pcN 15 (D &&& (D - 1)) + 1 = pcN 15 D := pc_step 15 D (by omega) h2
theorem pcc0 : ∀ b, b < 256 → J6_bitCount_0f7a4 (nI (0 + b)) ((fun _ _ => 0, fun _ _ => 0) : Wd) = nI (pcN 15 (0 + b)) := by decide +kernel
theorem pcc1 : ∀ b, b < 256 → J6_bitCount_0f7a4 (nI (256 + b)) ((fun _ _ => 0, fun _ _ => 0) : Wd) = nI (pcN 15 (256 + b)) := by decide +kernel
theorem pcc2 : ∀ b, b < 256 → J6_bitCount_0f7a4 (nI (512 + b)) ((fun _ _ => 0, fun _ _ => 0) : Wd) = nI (pcN 15 (512 + b)) := by decide +kernel
theorem pcc3 : ∀ b, b < 256 → J6_bitCount_0f7a4 (nI (768 + b)) ((fun _ _ => 0, fun _ _ => 0) : Wd) = nI (pcN 15 (768 + b)) := by decide +kernel
theorem pcc4 : ∀ b, b < 256 → J6_bitCount_0f7a4 (nI (1024 + b)) ((fun _ _ => 0, fun _ _ => 0) : Wd) = nI (pcN 15 (1024 + b)) := by decide +kernel
theorem pcc5 : ∀ b, b < 256 → J6_bitCount_0f7a4 (nI (1280 + b)) ((fun _ _ => 0, fun _ _ => 0) : Wd) = nI (pcN 15 (1280 + b)) := by decide +kernel
theorem pcc6 : ∀ b, b < 256 → J6_bitCount_0f7a4 (nI (1536 + b)) ((fun _ _ => 0, fun _ _ => 0) : Wd) = nI (pcN 15 (1536 + b)) := by decide +kernel
theorem pcc7 : ∀ b, b < 256 → J6_bitCount_0f7a4 (nI (1792 + b)) ((fun _ _ => 0, fun _ _ => 0) : Wd) = nI (pcN 15 (1792 + b)) := by decide +kernel
theorem pcc8 : ∀ b, b < 256 → J6_bitCount_0f7a4 (nI (2048 + b)) ((fun _ _ => 0, fun _ _ => 0) : Wd) = nI (pcN 15 (2048 + b)) := by decide +kernel
theorem pcc9 : ∀ b, b < 256 → J6_bitCount_0f7a4 (nI (2304 + b)) ((fun _ _ => 0, fun _ _ => 0) : Wd) = nI (pcN 15 (2304 + b)) := by decide +kernel
theorem pcc10 : ∀ b, b < 256 → J6_bitCount_0f7a4 (nI (2560 + b)) ((fun _ _ => 0, fun _ _ => 0) : Wd) = nI (pcN 15 (2560 + b)) := by decide +kernel
theorem pcc11 : ∀ b, b < 256 → J6_bitCount_0f7a4 (nI (2816 + b)) ((fun _ _ => 0, fun _ _ => 0) : Wd) = nI (pcN 15 (2816 + b)) := by decide +kernel
theorem pcc12 : ∀ b, b < 256 → J6_bitCount_0f7a4 (nI (3072 + b)) ((fun _ _ => 0, fun _ _ => 0) : Wd) = nI (pcN 15 (3072 + b)) := by decide +kernel
theorem pcc13 : ∀ b, b < 256 → J6_bitCount_0f7a4 (nI (3328 + b)) ((fun _ _ => 0, fun _ _ => 0) : Wd) = nI (pcN 15 (3328 + b)) := by decide +kernel
theorem pcc14 : ∀ b, b < 256 → J6_bitCount_0f7a4 (nI (3584 + b)) ((fun _ _ => 0, fun _ _ => 0) : Wd) = nI (pcN 15 (3584 + b)) := by decide +kernel
theorem pcc15 : ∀ b, b < 256 → J6_bitCount_0f7a4 (nI (3840 + b)) ((fun _ _ => 0, fun _ _ => 0) : Wd) = nI (pcN 15 (3840 + b)) := by decide +kernel
theorem pcc16 : ∀ b, b < 256 → J6_bitCount_0f7a4 (nI (4096 + b)) ((fun _ _ => 0, fun _ _ => 0) : Wd) = nI (pcN 15 (4096 + b)) := by decide +kernel
theorem pcc17 : ∀ b, b < 256 → J6_bitCount_0f7a4 (nI (4352 + b)) ((fun _ _ => 0, fun _ _ => 0) : Wd) = nI (pcN 15 (4352 + b)) := by decide +kernel
theorem pcc18 : ∀ b, b < 256 → J6_bitCount_0f7a4 (nI (4608 + b)) ((fun _ _ => 0, fun _ _ => 0) : Wd) = nI (pcN 15 (4608 + b)) := by decide +kernel
theorem pcc19 : ∀ b, b < 256 → J6_bitCount_0f7a4 (nI (4864 + b)) ((fun _ _ => 0, fun _ _ => 0) : Wd) = nI (pcN 15 (4864 + b)) := by decide +kernel
theorem pcc20 : ∀ b, b < 256 → J6_bitCount_0f7a4 (nI (5120 + b)) ((fun _ _ => 0, fun _ _ => 0) : Wd) = nI (pcN 15 (5120 + b)) := by decide +kernel
theorem pcc21 : ∀ b, b < 256 → J6_bitCount_0f7a4 (nI (5376 + b)) ((fun _ _ => 0, fun _ _ => 0) : Wd) = nI (pcN 15 (5376 + b)) := by decide +kernel
theorem pcc22 : ∀ b, b < 256 → J6_bitCount_0f7a4 (nI (5632 + b)) ((fun _ _ => 0, fun _ _ => 0) : Wd) = nI (pcN 15 (5632 + b)) := by decide +kernel
theorem pcc23 : ∀ b, b < 256 → J6_bitCount_0f7a4 (nI (5888 + b)) ((fun _ _ => 0, fun _ _ => 0) : Wd) = nI (pcN 15 (5888 + b)) := by decide +kernel
theorem pcc24 : ∀ b, b < 256 → J6_bitCount_0f7a4 (nI (6144 + b)) ((fun _ _ => 0, fun _ _ => 0) : Wd) = nI (pcN 15 (6144 + b)) := by decide +kernel
theorem pcc25 : ∀ b, b < 256 → J6_bitCount_0f7a4 (nI (6400 + b)) ((fun _ _ => 0, fun _ _ => 0) : Wd) = nI (pcN 15 (6400 + b)) := by decide +kernel
theorem pcc26 : ∀ b, b < 256 → J6_bitCount_0f7a4 (nI (6656 + b)) ((fun _ _ => 0, fun _ _ => 0) : Wd) = nI (pcN 15 (6656 + b)) := by decide +kernel
theorem pcc27 : ∀ b, b < 256 → J6_bitCount_0f7a4 (nI (6912 + b)) ((fun _ _ => 0, fun _ _ => 0) : Wd) = nI (pcN 15 (6912 + b)) := by decide +kernel
theorem pcc28 : ∀ b, b < 256 → J6_bitCount_0f7a4 (nI (7168 + b)) ((fun _ _ => 0, fun _ _ => 0) : Wd) = nI (pcN 15 (7168 + b)) := by decide +kernel
theorem pcc29 : ∀ b, b < 256 → J6_bitCount_0f7a4 (nI (7424 + b)) ((fun _ _ => 0, fun _ _ => 0) : Wd) = nI (pcN 15 (7424 + b)) := by decide +kernel
theorem pcc30 : ∀ b, b < 256 → J6_bitCount_0f7a4 (nI (7680 + b)) ((fun _ _ => 0, fun _ _ => 0) : Wd) = nI (pcN 15 (7680 + b)) := by decide +kernel
theorem pcc31 : ∀ b, b < 256 → J6_bitCount_0f7a4 (nI (7936 + b)) ((fun _ _ => 0, fun _ _ => 0) : Wd) = nI (pcN 15 (7936 + b)) := by decide +kernel
theorem pcc32 : ∀ b, b < 256 → J6_bitCount_0f7a4 (nI (8192 + b)) ((fun _ _ => 0, fun _ _ => 0) : Wd) = nI (pcN 15 (8192 + b)) := by decide +kernel
theorem pcc33 : ∀ b, b < 256 → J6_bitCount_0f7a4 (nI (8448 + b)) ((fun _ _ => 0, fun _ _ => 0) : Wd) = nI (pcN 15 (8448 + b)) := by decide +kernel
theorem pcc34 : ∀ b, b < 256 → J6_bitCount_0f7a4 (nI (8704 + b)) ((fun _ _ => 0, fun _ _ => 0) : Wd) = nI (pcN 15 (8704 + b)) := by decide +kernel
theorem pcc35 : ∀ b, b < 256 → J6_bitCount_0f7a4 (nI (8960 + b)) ((fun _ _ => 0, fun _ _ => 0) : Wd) = nI (pcN 15 (8960 + b)) := by decide +kernel
theorem pcc36 : ∀ b, b < 256 → J6_bitCount_0f7a4 (nI (9216 + b)) ((fun _ _ => 0, fun _ _ => 0) : Wd) = nI (pcN 15 (9216 + b)) := by decide +kernel
theorem pcc37 : ∀ b, b < 256 → J6_bitCount_0f7a4 (nI (9472 + b)) ((fun _ _ => 0, fun _ _ => 0) : Wd) = nI (pcN 15 (9472 + b)) := by decide +kernel
theorem pcc38 : ∀ b, b < 256 → J6_bitCount_0f7a4 (nI (9728 + b)) ((fun _ _ => 0, fun _ _ => 0) : Wd) = nI (pcN 15 (9728 + b)) := by decide +kernel
theorem pcc39 : ∀ b, b < 256 → J6_bitCount_0f7a4 (nI (9984 + b)) ((fun _ _ => 0, fun _ _ => 0) : Wd) = nI (pcN 15 (9984 + b)) := by decide +kernel
theorem pcc40 : ∀ b, b < 256 → J6_bitCount_0f7a4 (nI (10240 + b)) ((fun _ _ => 0, fun _ _ => 0) : Wd) = nI (pcN 15 (10240 + b)) := by decide +kernel
theorem pcc41 : ∀ b, b < 256 → J6_bitCount_0f7a4 (nI (10496 + b)) ((fun _ _ => 0, fun _ _ => 0) : Wd) = nI (pcN 15 (10496 + b)) := by decide +kernel
theorem pcc42 : ∀ b, b < 256 → J6_bitCount_0f7a4 (nI (10752 + b)) ((fun _ _ => 0, fun _ _ => 0) : Wd) = nI (pcN 15 (10752 + b)) := by decide +kernel
theorem pcc43 : ∀ b, b < 256 → J6_bitCount_0f7a4 (nI (11008 + b)) ((fun _ _ => 0, fun _ _ => 0) : Wd) = nI (pcN 15 (11008 + b)) := by decide +kernel
theorem pcc44 : ∀ b, b < 256 → J6_bitCount_0f7a4 (nI (11264 + b)) ((fun _ _ => 0, fun _ _ => 0) : Wd) = nI (pcN 15 (11264 + b)) := by decide +kernel
theorem pcc45 : ∀ b, b < 256 → J6_bitCount_0f7a4 (nI (11520 + b)) ((fun _ _ => 0, fun _ _ => 0) : Wd) = nI (pcN 15 (11520 + b)) := by decide +kernel
theorem pcc46 : ∀ b, b < 256 → J6_bitCount_0f7a4 (nI (11776 + b)) ((fun _ _ => 0, fun _ _ => 0) : Wd) = nI (pcN 15 (11776 + b)) := by decide +kernel
theorem pcc47 : ∀ b, b < 256 → J6_bitCount_0f7a4 (nI (12032 + b)) ((fun _ _ => 0, fun _ _ => 0) : Wd) = nI (pcN 15 (12032 + b)) := by decide +kernel
theorem pcc48 : ∀ b, b < 256 → J6_bitCount_0f7a4 (nI (12288 + b)) ((fun _ _ => 0, fun _ _ => 0) : Wd) = nI (pcN 15 (12288 + b)) := by decide +kernel
theorem pcc49 : ∀ b, b < 256 → J6_bitCount_0f7a4 (nI (12544 + b)) ((fun _ _ => 0, fun _ _ => 0) : Wd) = nI (pcN 15 (12544 + b)) := by decide +kernel
theorem pcc50 : ∀ b, b < 256 → J6_bitCount_0f7a4 (nI (12800 + b)) ((fun _ _ => 0, fun _ _ => 0) : Wd) = nI (pcN 15 (12800 + b)) := by decide +kernel
theorem pcc51 : ∀ b, b < 256 → J6_bitCount_0f7a4 (nI (13056 + b)) ((fun _ _ => 0, fun _ _ => 0) : Wd) = nI (pcN 15 (13056 + b)) := by decide +kernel
theorem pcc52 : ∀ b, b < 256 → J6_bitCount_0f7a4 (nI (13312 + b)) ((fun _ _ => 0, fun _ _ => 0) : Wd) = nI (pcN 15 (13312 + b)) := by decide +kernel
theorem pcc53 : ∀ b, b < 256 → J6_bitCount_0f7a4 (nI (13568 + b)) ((fun _ _ => 0, fun _ _ => 0) : Wd) = nI (pcN 15 (13568 + b)) := by decide +kernel
theorem pcc54 : ∀ b, b < 256 → J6_bitCount_0f7a4 (nI (13824 + b)) ((fun _ _ => 0, fun _ _ => 0) : Wd) = nI (pcN 15 (13824 + b)) := by decide +kernel
theorem pcc55 : ∀ b, b < 256 → J6_bitCount_0f7a4 (nI (14080 + b)) ((fun _ _ => 0, fun _ _ => 0) : Wd) = nI (pcN 15 (14080 + b)) := by decide +kernel
theorem pcc56 : ∀ b, b < 256 → J6_bitCount_0f7a4 (nI (14336 + b)) ((fun _ _ => 0, fun _ _ => 0) : Wd) = nI (pcN 15 (14336 + b)) := by decide +kernel
theorem pcc57 : ∀ b, b < 256 → J6_bitCount_0f7a4 (nI (14592 + b)) ((fun _ _ => 0, fun _ _ => 0) : Wd) = nI (pcN 15 (14592 + b)) := by decide +kernel
theorem pcc58 : ∀ b, b < 256 → J6_bitCount_0f7a4 (nI (14848 + b)) ((fun _ _ => 0, fun _ _ => 0) : Wd) = nI (pcN 15 (14848 + b)) := by decide +kernel
theorem pcc59 : ∀ b, b < 256 → J6_bitCount_0f7a4 (nI (15104 + b)) ((fun _ _ => 0, fun _ _ => 0) : Wd) = nI (pcN 15 (15104 + b)) := by decide +kernel
theorem pcc60 : ∀ b, b < 256 → J6_bitCount_0f7a4 (nI (15360 + b)) ((fun _ _ => 0, fun _ _ => 0) : Wd) = nI (pcN 15 (15360 + b)) := by decide +kernel
theorem pcc61 : ∀ b, b < 256 → J6_bitCount_0f7a4 (nI (15616 + b)) ((fun _ _ => 0, fun _ _ => 0) : Wd) = nI (pcN 15 (15616 + b)) := by decide +kernel
theorem pcc62 : ∀ b, b < 256 → J6_bitCount_0f7a4 (nI (15872 + b)) ((fun _ _ => 0, fun _ _ => 0) : Wd) = nI (pcN 15 (15872 + b)) := by decide +kernel
theorem pcc63 : ∀ b, b < 256 → J6_bitCount_0f7a4 (nI (16128 + b)) ((fun _ _ => 0, fun _ _ => 0) : Wd) = nI (pcN 15 (16128 + b)) := by decide +kernel
theorem pcc64 : ∀ b, b < 256 → J6_bitCount_0f7a4 (nI (16384 + b)) ((fun _ _ => 0, fun _ _ => 0) : Wd) = nI (pcN 15 (16384 + b)) := by decide +kernel
theorem pcc65 : ∀ b, b < 256 → J6_bitCount_0f7a4 (nI (16640 + b)) ((fun _ _ => 0, fun _ _ => 0) : Wd) = nI (pcN 15 (16640 + b)) := by decide +kernel
theorem pcc66 : ∀ b, b < 256 → J6_bitCount_0f7a4 (nI (16896 + b)) ((fun _ _ => 0, fun _ _ => 0) : Wd) = nI (pcN 15 (16896 + b)) := by decide +kernel
theorem pcc67 : ∀ b, b < 256 → J6_bitCount_0f7a4 (nI (17152 + b)) ((fun _ _ => 0, fun _ _ => 0) : Wd) = nI (pcN 15 (17152 + b)) := by decide +kernel
theorem pcc68 : ∀ b, b < 256 → J6_bitCount_0f7a4 (nI (17408 + b)) ((fun _ _ => 0, fun _ _ => 0) : Wd) = nI (pcN 15 (17408 + b)) := by decide +kernel
theorem pcc69 : ∀ b, b < 256 → J6_bitCount_0f7a4 (nI (17664 + b)) ((fun _ _ => 0, fun _ _ => 0) : Wd) = nI (pcN 15 (17664 + b)) := by decide +kernel
theorem pcc70 : ∀ b, b < 256 → J6_bitCount_0f7a4 (nI (17920 + b)) ((fun _ _ => 0, fun _ _ => 0) : Wd) = nI (pcN 15 (17920 + b)) := by decide +kernel
theorem pcc71 : ∀ b, b < 256 → J6_bitCount_0f7a4 (nI (18176 + b)) ((fun _ _ => 0, fun _ _ => 0) : Wd) = nI (pcN 15 (18176 + b)) := by decide +kernel
theorem pcc72 : ∀ b, b < 256 → J6_bitCount_0f7a4 (nI (18432 + b)) ((fun _ _ => 0, fun _ _ => 0) : Wd) = nI (pcN 15 (18432 + b)) := by decide +kernel
theorem pcc73 : ∀ b, b < 256 → J6_bitCount_0f7a4 (nI (18688 + b)) ((fun _ _ => 0, fun _ _ => 0) : Wd) = nI (pcN 15 (18688 + b)) := by decide +kernel
theorem pcc74 : ∀ b, b < 256 → J6_bitCount_0f7a4 (nI (18944 + b)) ((fun _ _ => 0, fun _ _ => 0) : Wd) = nI (pcN 15 (18944 + b)) := by decide +kernel
theorem pcc75 : ∀ b, b < 256 → J6_bitCount_0f7a4 (nI (19200 + b)) ((fun _ _ => 0, fun _ _ => 0) : Wd) = nI (pcN 15 (19200 + b)) := by decide +kernel
theorem pcc76 : ∀ b, b < 256 → J6_bitCount_0f7a4 (nI (19456 + b)) ((fun _ _ => 0, fun _ _ => 0) : Wd) = nI (pcN 15 (19456 + b)) := by decide +kernel
theorem pcc77 : ∀ b, b < 256 → J6_bitCount_0f7a4 (nI (19712 + b)) ((fun _ _ => 0, fun _ _ => 0) : Wd) = nI (pcN 15 (19712 + b)) := by decide +kernel
theorem pcc78 : ∀ b, b < 256 → J6_bitCount_0f7a4 (nI (19968 + b)) ((fun _ _ => 0, fun _ _ => 0) : Wd) = nI (pcN 15 (19968 + b)) := by decide +kernel
theorem pcc79 : ∀ b, b < 256 → J6_bitCount_0f7a4 (nI (20224 + b)) ((fun _ _ => 0, fun _ _ => 0) : Wd) = nI (pcN 15 (20224 + b)) := by decide +kernel
theorem pcc80 : ∀ b, b < 256 → J6_bitCount_0f7a4 (nI (20480 + b)) ((fun _ _ => 0, fun _ _ => 0) : Wd) = nI (pcN 15 (20480 + b)) := by decide +kernel
theorem pcc81 : ∀ b, b < 256 → J6_bitCount_0f7a4 (nI (20736 + b)) ((fun _ _ => 0, fun _ _ => 0) : Wd) = nI (pcN 15 (20736 + b)) := by decide +kernel
theorem pcc82 : ∀ b, b < 256 → J6_bitCount_0f7a4 (nI (20992 + b)) ((fun _ _ => 0, fun _ _ => 0) : Wd) = nI (pcN 15 (20992 + b)) := by decide +kernel
theorem pcc83 : ∀ b, b < 256 → J6_bitCount_0f7a4 (nI (21248 + b)) ((fun _ _ => 0, fun _ _ => 0) : Wd) = nI (pcN 15 (21248 + b)) := by decide +kernel
theorem pcc84 : ∀ b, b < 256 → J6_bitCount_0f7a4 (nI (21504 + b)) ((fun _ _ => 0, fun _ _ => 0) : Wd) = nI (pcN 15 (21504 + b)) := by decide +kernel
theorem pcc85 : ∀ b, b < 256 → J6_bitCount_0f7a4 (nI (21760 + b)) ((fun _ _ => 0, fun _ _ => 0) : Wd) = nI (pcN 15 (21760 + b)) := by decide +kernel
theorem pcc86 : ∀ b, b < 256 → J6_bitCount_0f7a4 (nI (22016 + b)) ((fun _ _ => 0, fun _ _ => 0) : Wd) = nI (pcN 15 (22016 + b)) := by decide +kernel
theorem pcc87 : ∀ b, b < 256 → J6_bitCount_0f7a4 (nI (22272 + b)) ((fun _ _ => 0, fun _ _ => 0) : Wd) = nI (pcN 15 (22272 + b)) := by decide +kernel
theorem pcc88 : ∀ b, b < 256 → J6_bitCount_0f7a4 (nI (22528 + b)) ((fun _ _ => 0, fun _ _ => 0) : Wd) = nI (pcN 15 (22528 + b)) := by decide +kernel
theorem pcc89 : ∀ b, b < 256 → J6_bitCount_0f7a4 (nI (22784 + b)) ((fun _ _ => 0, fun _ _ => 0) : Wd) = nI (pcN 15 (22784 + b)) := by decide +kernel
theorem pcc90 : ∀ b, b < 256 → J6_bitCount_0f7a4 (nI (23040 + b)) ((fun _ _ => 0, fun _ _ => 0) : Wd) = nI (pcN 15 (23040 + b)) := by decide +kernel
theorem pcc91 : ∀ b, b < 256 → J6_bitCount_0f7a4 (nI (23296 + b)) ((fun _ _ => 0, fun _ _ => 0) : Wd) = nI (pcN 15 (23296 + b)) := by decide +kernel
theorem pcc92 : ∀ b, b < 256 → J6_bitCount_0f7a4 (nI (23552 + b)) ((fun _ _ => 0, fun _ _ => 0) : Wd) = nI (pcN 15 (23552 + b)) := by decide +kernel
theorem pcc93 : ∀ b, b < 256 → J6_bitCount_0f7a4 (nI (23808 + b)) ((fun _ _ => 0, fun _ _ => 0) : Wd) = nI (pcN 15 (23808 + b)) := by decide +kernel
theorem pcc94 : ∀ b, b < 256 → J6_bitCount_0f7a4 (nI (24064 + b)) ((fun _ _ => 0, fun _ _ => 0) : Wd) = nI (pcN 15 (24064 + b)) := by decide +kernel
theorem pcc95 : ∀ b, b < 256 → J6_bitCount_0f7a4 (nI (24320 + b)) ((fun _ _ => 0, fun _ _ => 0) : Wd) = nI (pcN 15 (24320 + b)) := by decide +kernel
theorem pcc96 : ∀ b, b < 256 → J6_bitCount_0f7a4 (nI (24576 + b)) ((fun _ _ => 0, fun _ _ => 0) : Wd) = nI (pcN 15 (24576 + b)) := by decide +kernel
theorem pcc97 : ∀ b, b < 256 → J6_bitCount_0f7a4 (nI (24832 + b)) ((fun _ _ => 0, fun _ _ => 0) : Wd) = nI (pcN 15 (24832 + b)) := by decide +kernel
theorem pcc98 : ∀ b, b < 256 → J6_bitCount_0f7a4 (nI (25088 + b)) ((fun _ _ => 0, fun _ _ => 0) : Wd) = nI (pcN 15 (25088 + b)) := by decide +kernel
theorem pcc99 : ∀ b, b < 256 → J6_bitCount_0f7a4 (nI (25344 + b)) ((fun _ _ => 0, fun _ _ => 0) : Wd) = nI (pcN 15 (25344 + b)) := by decide +kernel
theorem pcc100 : ∀ b, b < 256 → J6_bitCount_0f7a4 (nI (25600 + b)) ((fun _ _ => 0, fun _ _ => 0) : Wd) = nI (pcN 15 (25600 + b)) := by decide +kernel
theorem pcc101 : ∀ b, b < 256 → J6_bitCount_0f7a4 (nI (25856 + b)) ((fun _ _ => 0, fun _ _ => 0) : Wd) = nI (pcN 15 (25856 + b)) := by decide +kernel
theorem pcc102 : ∀ b, b < 256 → J6_bitCount_0f7a4 (nI (26112 + b)) ((fun _ _ => 0, fun _ _ => 0) : Wd) = nI (pcN 15 (26112 + b)) := by decide +kernel
theorem pcc103 : ∀ b, b < 256 → J6_bitCount_0f7a4 (nI (26368 + b)) ((fun _ _ => 0, fun _ _ => 0) : Wd) = nI (pcN 15 (26368 + b)) := by decide +kernel
theorem pcc104 : ∀ b, b < 256 → J6_bitCount_0f7a4 (nI (26624 + b)) ((fun _ _ => 0, fun _ _ => 0) : Wd) = nI (pcN 15 (26624 + b)) := by decide +kernel
theorem pcc105 : ∀ b, b < 256 → J6_bitCount_0f7a4 (nI (26880 + b)) ((fun _ _ => 0, fun _ _ => 0) : Wd) = nI (pcN 15 (26880 + b)) := by decide +kernel
theorem pcc106 : ∀ b, b < 256 → J6_bitCount_0f7a4 (nI (27136 + b)) ((fun _ _ => 0, fun _ _ => 0) : Wd) = nI (pcN 15 (27136 + b)) := by decide +kernel
theorem pcc107 : ∀ b, b < 256 → J6_bitCount_0f7a4 (nI (27392 + b)) ((fun _ _ => 0, fun _ _ => 0) : Wd) = nI (pcN 15 (27392 + b)) := by decide +kernel
theorem pcc108 : ∀ b, b < 256 → J6_bitCount_0f7a4 (nI (27648 + b)) ((fun _ _ => 0, fun _ _ => 0) : Wd) = nI (pcN 15 (27648 + b)) := by decide +kernel
theorem pcc109 : ∀ b, b < 256 → J6_bitCount_0f7a4 (nI (27904 + b)) ((fun _ _ => 0, fun _ _ => 0) : Wd) = nI (pcN 15 (27904 + b)) := by decide +kernel
theorem pcc110 : ∀ b, b < 256 → J6_bitCount_0f7a4 (nI (28160 + b)) ((fun _ _ => 0, fun _ _ => 0) : Wd) = nI (pcN 15 (28160 + b)) := by decide +kernel
theorem pcc111 : ∀ b, b < 256 → J6_bitCount_0f7a4 (nI (28416 + b)) ((fun _ _ => 0, fun _ _ => 0) : Wd) = nI (pcN 15 (28416 + b)) := by decide +kernel
theorem pcc112 : ∀ b, b < 256 → J6_bitCount_0f7a4 (nI (28672 + b)) ((fun _ _ => 0, fun _ _ => 0) : Wd) = nI (pcN 15 (28672 + b)) := by decide +kernel
theorem pcc113 : ∀ b, b < 256 → J6_bitCount_0f7a4 (nI (28928 + b)) ((fun _ _ => 0, fun _ _ => 0) : Wd) = nI (pcN 15 (28928 + b)) := by decide +kernel
theorem pcc114 : ∀ b, b < 256 → J6_bitCount_0f7a4 (nI (29184 + b)) ((fun _ _ => 0, fun _ _ => 0) : Wd) = nI (pcN 15 (29184 + b)) := by decide +kernel
theorem pcc115 : ∀ b, b < 256 → J6_bitCount_0f7a4 (nI (29440 + b)) ((fun _ _ => 0, fun _ _ => 0) : Wd) = nI (pcN 15 (29440 + b)) := by decide +kernel
theorem pcc116 : ∀ b, b < 256 → J6_bitCount_0f7a4 (nI (29696 + b)) ((fun _ _ => 0, fun _ _ => 0) : Wd) = nI (pcN 15 (29696 + b)) := by decide +kernel
theorem pcc117 : ∀ b, b < 256 → J6_bitCount_0f7a4 (nI (29952 + b)) ((fun _ _ => 0, fun _ _ => 0) : Wd) = nI (pcN 15 (29952 + b)) := by decide +kernel
theorem pcc118 : ∀ b, b < 256 → J6_bitCount_0f7a4 (nI (30208 + b)) ((fun _ _ => 0, fun _ _ => 0) : Wd) = nI (pcN 15 (30208 + b)) := by decide +kernel
theorem pcc119 : ∀ b, b < 256 → J6_bitCount_0f7a4 (nI (30464 + b)) ((fun _ _ => 0, fun _ _ => 0) : Wd) = nI (pcN 15 (30464 + b)) := by decide +kernel
theorem pcc120 : ∀ b, b < 256 → J6_bitCount_0f7a4 (nI (30720 + b)) ((fun _ _ => 0, fun _ _ => 0) : Wd) = nI (pcN 15 (30720 + b)) := by decide +kernel
theorem pcc121 : ∀ b, b < 256 → J6_bitCount_0f7a4 (nI (30976 + b)) ((fun _ _ => 0, fun _ _ => 0) : Wd) = nI (pcN 15 (30976 + b)) := by decide +kernel
theorem pcc122 : ∀ b, b < 256 → J6_bitCount_0f7a4 (nI (31232 + b)) ((fun _ _ => 0, fun _ _ => 0) : Wd) = nI (pcN 15 (31232 + b)) := by decide +kernel
theorem pcc123 : ∀ b, b < 256 → J6_bitCount_0f7a4 (nI (31488 + b)) ((fun _ _ => 0, fun _ _ => 0) : Wd) = nI (pcN 15 (31488 + b)) := by decide +kernel
theorem pcc124 : ∀ b, b < 256 → J6_bitCount_0f7a4 (nI (31744 + b)) ((fun _ _ => 0, fun _ _ => 0) : Wd) = nI (pcN 15 (31744 + b)) := by decide +kernel
theorem pcc125 : ∀ b, b < 256 → J6_bitCount_0f7a4 (nI (32000 + b)) ((fun _ _ => 0, fun _ _ => 0) : Wd) = nI (pcN 15 (32000 + b)) := by decide +kernel
theorem pcc126 : ∀ b, b < 256 → J6_bitCount_0f7a4 (nI (32256 + b)) ((fun _ _ => 0, fun _ _ => 0) : Wd) = nI (pcN 15 (32256 + b)) := by decide +kernel
theorem pcc127 : ∀ b, b < 256 → J6_bitCount_0f7a4 (nI (32512 + b)) ((fun _ _ => 0, fun _ _ => 0) : Wd) = nI (pcN 15 (32512 + b)) := by decide +kernel
