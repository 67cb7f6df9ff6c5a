/-! ===== pure: the first state is good ===== -/
theorem fst_T : ∀ k, k < 10 → I00 2 k = I00 58 k := by decide +kernel
theorem fst_F : ∀ k, k < 7 → I00 1 (3 + k) = I00 58 (10 + k) := by decide +kernel
theorem fst_lv : ∀ k, k < 10 → -100 ≤ I00 58 k ∧ I00 58 k ≤ 100 := by decide +kernel
theorem fst_a : I00 58 10 = nI 0 ∧ I00 58 22 = nI 0 ∧ I00 58 8 = nI 4 ∧ I00 58 16 = nI 0 ∧ I00 58 5 = nI 8 ∧ I00 58 6 = nI 2 ∧ I00 58 0 = 0 ∧ I00 58 11 = 0 ∧ I00 58 9 = 0 ∧ I00 58 17 = 0 := by decide +kernel
theorem fst_b : (-100 ≤ I00 58 3 ∧ I00 58 3 < I00 58 4 ∧ I00 58 4 ≤ 100) ∧ I00 4 1 = I00 58 22 ∧ I00 1 14 = 0 ∧ I00 57 3 = nI 0 ∧ I00 6 2 = nI 0 ∧ I00 6 1 = nI 0 ∧ I00 51 1 = nI 0 ∧ I00 57 8 = nI 0 := by decide +kernel
theorem fst_s : ∀ s, s < 2 → I00 40 s = 0 ∧ I00 62 s = 0 := by decide +kernel
set_option maxRecDepth 1000000 in
theorem fst_65 : I00 65 = cS 65 := rfl
set_option maxRecDepth 1000000 in
theorem fst_66 : I00 66 = cS 66 := rfl
theorem Good_00 : Good I00 := by
  obtain ⟨a1, a2, a3, a4, a5, a6, a7, a8, a9, a10⟩ := fst_a
  obtain ⟨b1, b2, b3, b4, b5, b6, b7, b8⟩ := fst_b
  refine ⟨⟨0, 0, 0, 4, 8, 2, ⟨⟨a1, by omega, a2, by omega, a3, by omega, by omega, a4, by omega, a5, a6, by omega, by omega⟩, ⟨Or.inl a7, Or.inl a8, Or.inl a9, Or.inl a10⟩, fun j hj => absurd hj (by omega), fun q => absurd (a10.symm.trans q) (by decide), fun k hk => absurd hk (by omega), b1, fst_lv⟩, ⟨fst_T, fst_F, b2, fun k hk => absurd hk (by omega), fun k hk => absurd hk (by omega), fun q => absurd (a10.symm.trans q) (by decide), fun _ => b3⟩⟩, ⟨0, 0, by omega, by omega, b4, b5, b6, fun j hj => absurd hj (by omega)⟩, fun s hs => Or.inl (fst_s s hs), ⟨0, by omega, b7, b8, fun k hk => absurd hk (by omega)⟩, fst_65, fst_66⟩
theorem law_pure (L : Nat) (xs : Nat → Int32) (hL : L ≤ 1536) : ∃ r : Int32 × HI, f_law_L18 L xs 4000 0 I00 = some r ∧ r.1 = 1 :=
  law_run hL 1536 4000 0 I00 (by omega) (by omega) (by omega) Good_00
