theorem law_pure (L : Nat) (xs : Nat → Int32) (hL : L ≤ 260) : ∃ r : Int32 × HJ, f_L_law L xs (I57, I57) = some r := by
  sorry
