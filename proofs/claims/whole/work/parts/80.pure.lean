/-! ===== pure: the law ===== -/
theorem law_step {L i : Nat} {xs : Nat → Int32} {I : HI} (hL : L ≤ 1536) (hi : i + 3 ≤ L) (G : Good I) (k : Int32 → HI → Option (Int32 × HI)) : ∃ Z : HI, Good Z ∧ f_law_L18_b L xs k (nI i) I = k (nI (i + 3)) Z := by
  have e1 : nI i + (1 : Int32) = nI (i + 1) := nI_1 i
  have e2 : nI i + (2 : Int32) = nI (i + 2) := nI_add i 2
  have e3 : nI i + (3 : Int32) = nI (i + 3) := nI_add i 3
  have b0 : (nI i < 0 ∨ L ≤ (nI i).toNatClampNeg) = False := eq_false (ib (by omega) (by omega))
  have b1 : (nI (i + 1) < 0 ∨ L ≤ (nI (i + 1)).toNatClampNeg) = False := eq_false (ib (by omega) (by omega))
  have b2 : (nI (i + 2) < 0 ∨ L ≤ (nI (i + 2)).toNatClampNeg) = False := eq_false (ib (by omega) (by omega))
  have b3 : ((Int32.ofNat L) - (3 : Int32) < nI i) = False := eq_false (by
    show ¬ nI L - (3 : Int32) < nI i
    rw [l3, pk_sub (by omega)]
    exact nI_nlt (by omega) (by omega))
  unfold f_law_L18_b
  simp only [e1, e2, e3, b0, b1, b2, b3, if_false]
  by_cases c : (xs (nI i).toNatClampNeg) &&& (31 : Int32) = (0 : Int32)
  · obtain ⟨r, Y, Z, a, b, g⟩ := set_law (xs (nI (i + 1)).toNatClampNeg) (xs (nI (i + 2)).toNatClampNeg) G
    exact ⟨Z, g, by rw [if_pos c, a, bs]; dsimp only; rw [b, bs, if_pos rfl]⟩
  rw [if_neg c]; clear c
  by_cases c : (xs (nI i).toNatClampNeg) &&& (31 : Int32) = (1 : Int32)
  · obtain ⟨r, Y, Z, a, b, g⟩ := feed_law (xs (nI (i + 1)).toNatClampNeg) (xs (nI (i + 2)).toNatClampNeg) G
    exact ⟨Z, g, by rw [if_pos c, a, bs]; dsimp only; rw [b, bs, if_pos rfl]⟩
  rw [if_neg c]; clear c
  by_cases c : (xs (nI i).toNatClampNeg) &&& (31 : Int32) = (2 : Int32)
  · obtain ⟨r, Y, Z, a, b, g⟩ := clear_law G
    exact ⟨Z, g, by rw [if_pos c, a, bs]; dsimp only; rw [b, bs, if_pos rfl]⟩
  rw [if_neg c]; clear c
  by_cases c : (xs (nI i).toNatClampNeg) &&& (31 : Int32) = (3 : Int32)
  · obtain ⟨r, Y, Z, a, b, g⟩ := drop_law (xs (nI (i + 1)).toNatClampNeg) G
    exact ⟨Z, g, by rw [if_pos c, a, bs]; dsimp only; rw [b, bs, if_pos rfl]⟩
  rw [if_neg c]; clear c
  by_cases c : (xs (nI i).toNatClampNeg) &&& (31 : Int32) = (4 : Int32)
  · obtain ⟨r, Y, Z, a, b, g⟩ := segment_law (xs (nI (i + 1)).toNatClampNeg) (xs (nI (i + 2)).toNatClampNeg) G
    exact ⟨Z, g, by rw [if_pos c, a, bs]; dsimp only; rw [b, bs, if_pos rfl]⟩
  rw [if_neg c]; clear c
  by_cases c : (xs (nI i).toNatClampNeg) &&& (31 : Int32) = (5 : Int32)
  · obtain ⟨r, Y, Z, a, b, g⟩ := sampleOf_law (xs (nI (i + 1)).toNatClampNeg) (xs (nI (i + 2)).toNatClampNeg) G
    exact ⟨Z, g, by rw [if_pos c, a, bs]; dsimp only; rw [b, bs, if_pos rfl]⟩
  rw [if_neg c]; clear c
  by_cases c : (xs (nI i).toNatClampNeg) &&& (31 : Int32) = (6 : Int32)
  · obtain ⟨r, Y, Z, a, b, g⟩ := sample_law (xs (nI (i + 1)).toNatClampNeg) G
    exact ⟨Z, g, by rw [if_pos c, a, bs]; dsimp only; rw [b, bs, if_pos rfl]⟩
  rw [if_neg c]; clear c
  by_cases c : (xs (nI i).toNatClampNeg) &&& (31 : Int32) = (7 : Int32)
  · obtain ⟨r, Y, Z, a, b, g⟩ := count_law (xs (nI (i + 1)).toNatClampNeg) G
    exact ⟨Z, g, by rw [if_pos c, a, bs]; dsimp only; rw [b, bs, if_pos rfl]⟩
  rw [if_neg c]; clear c
  by_cases c : (xs (nI i).toNatClampNeg) &&& (31 : Int32) = (8 : Int32)
  · obtain ⟨r, Y, Z, a, b, g⟩ := fires_law (xs (nI (i + 1)).toNatClampNeg) G
    exact ⟨Z, g, by rw [if_pos c, a, bs]; dsimp only; rw [b, bs, if_pos rfl]⟩
  rw [if_neg c]; clear c
  by_cases c : (xs (nI i).toNatClampNeg) &&& (31 : Int32) = (9 : Int32)
  · obtain ⟨r, Y, Z, a, b, g⟩ := bestLevel_law (xs (nI (i + 1)).toNatClampNeg) G
    exact ⟨Z, g, by rw [if_pos c, a, bs]; dsimp only; rw [b, bs, if_pos rfl]⟩
  rw [if_neg c]; clear c
  by_cases c : (xs (nI i).toNatClampNeg) &&& (31 : Int32) = (10 : Int32)
  · obtain ⟨r, Y, Z, a, b, g⟩ := unlike_law (xs (nI (i + 1)).toNatClampNeg) (xs (nI (i + 2)).toNatClampNeg) G
    exact ⟨Z, g, by rw [if_pos c, a, bs]; dsimp only; rw [b, bs, if_pos rfl]⟩
  rw [if_neg c]; clear c
  by_cases c : (xs (nI i).toNatClampNeg) &&& (31 : Int32) = (11 : Int32)
  · obtain ⟨r, Y, Z, a, b, g⟩ := nearest_law (xs (nI (i + 1)).toNatClampNeg) G
    exact ⟨Z, g, by rw [if_pos c, a, bs]; dsimp only; rw [b, bs, if_pos rfl]⟩
  rw [if_neg c]; clear c
  by_cases c : (xs (nI i).toNatClampNeg) &&& (31 : Int32) = (12 : Int32)
  · obtain ⟨r, Y, Z, a, b, g⟩ := put_law ((((xs (nI (i + 1)).toNatClampNeg).toInt64) <<< ((32 : Int32).toInt64 &&& 63)) ||| (((xs (nI (i + 2)).toNatClampNeg).toInt64) &&& (4294967295 : Int64))) G
    exact ⟨Z, g, by rw [if_pos c, a, bs]; dsimp only; rw [b, bs, if_pos rfl]⟩
  rw [if_neg c]; clear c
  by_cases c : (xs (nI i).toNatClampNeg) &&& (31 : Int32) = (13 : Int32)
  · obtain ⟨r, Y, Z, a, b, g⟩ := wipe_law G
    exact ⟨Z, g, by rw [if_pos c, a, bs]; dsimp only; rw [b, bs, if_pos rfl]⟩
  rw [if_neg c]; clear c
  by_cases c : (xs (nI i).toNatClampNeg) &&& (31 : Int32) = (14 : Int32)
  · obtain ⟨r, Y, Z, a, b, g⟩ := fault_law G
    exact ⟨Z, g, by rw [if_pos c, a, bs]; dsimp only; rw [b, bs, if_pos rfl]⟩
  rw [if_neg c]; clear c
  by_cases c : (xs (nI i).toNatClampNeg) &&& (31 : Int32) = (15 : Int32)
  · obtain ⟨r, Y, Z, a, b, g⟩ := carryOut_law G
    exact ⟨Z, g, by rw [if_pos c, a, bs]; dsimp only; rw [b, bs, if_pos rfl]⟩
  rw [if_neg c]; clear c
  by_cases c : (xs (nI i).toNatClampNeg) &&& (31 : Int32) = (16 : Int32)
  · obtain ⟨r, Y, Z, a, b, g⟩ := undo_law G
    exact ⟨Z, g, by rw [if_pos c, a, bs]; dsimp only; rw [b, bs, if_pos rfl]⟩
  rw [if_neg c]; clear c
  by_cases c : (xs (nI i).toNatClampNeg) &&& (31 : Int32) = (17 : Int32)
  · obtain ⟨r, Y, Z, a, b, g⟩ := save_law (xs (nI (i + 1)).toNatClampNeg) G
    exact ⟨Z, g, by rw [if_pos c, a, bs]; dsimp only; rw [b, bs, if_pos rfl]⟩
  rw [if_neg c]; clear c
  by_cases c : (xs (nI i).toNatClampNeg) &&& (31 : Int32) = (18 : Int32)
  · obtain ⟨r, Y, Z, a, b, g⟩ := restore_law (xs (nI (i + 1)).toNatClampNeg) G
    exact ⟨Z, g, by rw [if_pos c, a, bs]; dsimp only; rw [b, bs, if_pos rfl]⟩
  rw [if_neg c]
  exact ⟨I, G, rfl⟩
theorem law_run {L : Nat} {xs : Nat → Int32} (hL : L ≤ 1536) : ∀ (m f i : Nat) (I : HI), L - i ≤ m → i ≤ L → m < f → Good I → ∃ r : Int32 × HI, f_law_L18 L xs f (nI i) I = some r ∧ r.1 = 1 := by
  intro m
  induction m with
  | zero =>
    intro f i I hm hi hf G
    obtain ⟨f, rfl⟩ : ∃ f', f = f' + 1 := ⟨f - 1, by omega⟩
    refine ⟨(1, I), ?_, rfl⟩
    show f_law_L18_b L xs _ _ _ = _
    unfold f_law_L18_b
    rw [if_pos]
    show nI L - (3 : Int32) < nI i
    rw [Int32.lt_iff_toInt_lt, l3, pk_sub_toInt (by omega) (by decide), nI_toInt (by omega)]
    omega
  | succ m ih =>
    intro f i I hm hi hf G
    obtain ⟨f, rfl⟩ : ∃ f', f = f' + 1 := ⟨f - 1, by omega⟩
    by_cases h : i + 3 ≤ L
    · obtain ⟨Z, g, e⟩ := law_step (xs := xs) hL h G (f_law_L18 L xs f)
      obtain ⟨r, er, e1⟩ := ih f (i + 3) Z (by omega) h (by omega) g
      exact ⟨r, e.trans er, e1⟩
    · refine ⟨(1, I), ?_, rfl⟩
      show f_law_L18_b L xs _ _ _ = _
      unfold f_law_L18_b
      rw [if_pos]
      show nI L - (3 : Int32) < nI i
      rw [Int32.lt_iff_toInt_lt, l3, pk_sub_toInt (by omega) (by decide), nI_toInt (by omega)]
      omega
