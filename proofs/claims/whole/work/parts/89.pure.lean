theorem pure_law (L : Nat) (xs : Nat → Int32) (z : Nat) (hL : L ≤ 2560) : ∃ M', f_law L xs (z, fun _ => none) = some (1, M') := by
  sorry
