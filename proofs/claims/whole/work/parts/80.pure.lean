def zw : Wd := (fun _ _ => 0, fun _ _ => 0)
def Full (w : Wd) : Prop := (∀ k j, k < 178 → j < nf k → 2 ≤ fk k j → w.1 k j ≠ 0) ∧ ∀ i, i < 4 → w.1 43 i ≠ 0
theorem pure_main (b L : Nat) (xs : Nat → Int32) (hL : L ≤ 3584) : ∃ w1 w2, X11_init zw = some w1 ∧ X12_init w1 = some w2 ∧ Full w2 ∧ ok (lp (L_law_b18 b L xs) ((0 : Int32), w2)) (fun _ => True) := sorry
