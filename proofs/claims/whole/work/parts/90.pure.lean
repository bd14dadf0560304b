theorem pure_law (xs : Nat → Int32) (L : Nat) (hL : L ≤ 2048) : w_law xs L 513 0 st0 := by
  sorry
