theorem law_pure (L : Nat) (xs : Nat → Int32) (hL : L ≤ 1536) : ∃ r : Int32 × HI, f_law_L18 L xs 4000 0 I00 = some r ∧ r.1 = 1 := by
  sorry
