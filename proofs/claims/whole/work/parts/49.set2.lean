theorem cS_lo {s : Nat} (hs : s < 10) : cS 65 s = [0, -100, 0, -100, -100, 1, 0, 0, 1, 0].getD s 0 := rfl
theorem rng {s : Nat} {v : Int32} (hs : s < 10) (h : cS 65 s ≤ v ∧ v ≤ cS 66 s) : -100 ≤ v ∧ v ≤ 100 := by
  have e1 : -100 ≤ cS 65 s := (show ∀ s, s < 10 → (-100 : Int32) ≤ cS 65 s by decide +kernel) s hs
  have e2 : cS 66 s ≤ 100 := (show ∀ s, s < 10 → cS 66 s ≤ (100 : Int32) by decide +kernel) s hs
  exact ⟨Int32.le_trans e1 h.1, Int32.le_trans h.2 e2⟩
/-- a number between two -/
theorem btw {v lo hi : Int32} {x y : Nat} (hlo : lo = nI x) (hhi : hi = nI y) (hy : y < 2 ^ 31) (hx : x ≤ y) (h : lo ≤ v ∧ v ≤ hi) : ∃ k : Nat, v = nI k ∧ x ≤ k ∧ k ≤ y := by
  subst hlo; subst hhi
  have h0 : ¬ v < 0 := by
    have := h.1
    rw [Int32.le_iff_toInt_le, nI_toInt (by omega)] at this
    rw [Int32.lt_iff_toInt_lt]
    have e0 : (0 : Int32).toInt = 0 := by decide
    omega
  obtain ⟨k, hk, rfl⟩ := nI_of2 (n := y) (by rw [nI_toInt hy]) h0 h.2
  exact ⟨k, rfl, (nI_leI (by omega) (by omega)).mp h.1, hk⟩
theorem rCuts_0 {a : Row} {n : Nat} : rCuts a n 0 = a := rfl
noncomputable def rSet (a : Row) (s : Nat) (v : Int32) : Row := if s ≤ 4 then upd (upd a s v) 11 0 else upd a s v
theorem rSet_s {a : Row} {s : Nat} {v : Int32} (hs : s < 10) : rSet a s v s = v := by
  unfold rSet
  split
  · rw [upd_n (by omega), upd_s]
  · rw [upd_s]
theorem rSet_n {a : Row} {s k : Nat} {v : Int32} (h : k ≠ s) (h11 : k ≠ 11) : rSet a s v k = a k := by
  unfold rSet
  split
  · rw [upd_n h11, upd_n h]
  · rw [upd_n h]
theorem rSet_11 {a : Row} {s : Nat} {v : Int32} (hs : s < 10) : rSet a s v 11 = if s ≤ 4 then 0 else a 11 := by
  unfold rSet
  split
  · rw [upd_s]
  · rw [upd_n (by omega)]
theorem ds_eq {J : HI} {a : Row} {v : Int32} {S n Z K D Q s K' : Nat} (R : RX a S n Z K D Q) (hs : s < 10) (h : okS a s v = 0) (hK' : rSet a s v 8 = nI K') (hK6 : K' ≤ 6) : f_X6_doSet (nI s) v (upR J 58 a) = some (a s + 1000, upR J 58 (rCuts (rSet a s v) n (n - K'))) := by
  obtain ⟨⟨h10, -, h22, hnK, h8, hK1, hK6', h16, hZ, h5, h6, hPD, hD⟩, ⟨k0, k11, k9, k17⟩, -, hcap, -, hlv⟩ := R
  unfold okS at h
  by_cases h1 : cS 65 s ≤ v ∧ v ≤ cS 66 s
  · rw [if_pos h1] at h
    by_cases h2 : (s = 3 → v < a 4) ∧ (s = 4 → a 3 < v) ∧ (s = 5 → a 17 = 0 ∧ a 6 < v) ∧ (s = 6 → a 17 = 0 ∧ v < a 5)
    · have hJ : ∀ b : Row, b = rSet a s v → f_X6_doSet_J158 (a s) (upR J 58 b) = some (a s + 1000, upR J 58 (rCuts (rSet a s v) n (n - K'))) := by
        rintro b rfl
        unfold f_X6_doSet_J158
        rw [r58s, hK', do_eq (K := K') (fun m hm => nI_leI (by omega) (by omega)) (by rw [rSet_n (by omega) (by omega)]; exact h22) (by omega), bs]
      have hM : f_X6_doSet_J130 (nI s) v (upR J 58 a) = some (a s + 1000, upR J 58 (rCuts (rSet a s v) n (n - K'))) := by
        unfold f_X6_doSet_J130
        rw [if_neg (ib (by omega) (by omega)), if_neg (ib (by omega) (by omega)), nc (by omega), r58s]
        simp only [uR]
        rw [l4]
        by_cases h4 : s ≤ 4
        · rw [if_neg (nI_nlt h4 (by decide)), hJ _ (by unfold rSet; rw [if_pos h4])]
        · rw [if_pos (nI_lt (by omega) (by omega)), hJ _ (by unfold rSet; rw [if_neg h4])]
      have nl : ∀ x y : Int32, x < y → ¬ y ≤ x := fun x y => Int32.not_le.mpr
      have h34 : a 3 < a 4 := hlv.1.2.1
      have h65 : a 6 < a 5 := by rw [h5, h6]; exact nI_lt hPD (by omega)
      have hN : ∀ (w3 lo hi de pr : Int32), lo < hi → pr < de → (w3 = 0 ∨ a 17 = 0) → f_X6_doSet_J96 (nI s) v w3 lo hi de pr (upR J 58 a) = some (a s + 1000, upR J 58 (rCuts (rSet a s v) n (n - K'))) := by
        intro w3 lo hi de pr q1 q2 q3
        unfold f_X6_doSet_J96
        rw [if_neg (nl _ _ q1), if_neg (nl _ _ q2), hM]
        by_cases q4 : w3 = 0
        · rw [if_pos q4]
        · rw [if_neg q4, r58s, if_neg (by rw [q3.resolve_left q4]; decide)]
      unfold f_X6_doSet
      rw [is_eq hs, bs]
      dsimp only
      rw [if_pos h1, if_neg n10]
      unfold f_X6_doSet_J27 f_X6_doSet_J43 f_X6_doSet_J60 f_X6_doSet_J77
      rcases (show s = 3 ∨ s = 4 ∨ s = 5 ∨ s = 6 ∨ (s ≠ 3 ∧ s ≠ 4 ∧ s ≠ 5 ∧ s ≠ 6) by omega) with rfl | rfl | rfl | rfl | ⟨n3, n4, n5, n6⟩
      · rw [if_neg (by decide), if_neg (by decide), if_pos (by decide), if_neg (by decide), if_neg (by decide), if_neg (by decide)]
        simp only [r58s]
        exact hN _ _ _ _ _ (h2.1 rfl) h65 (Or.inl rfl)
      · rw [if_neg (by decide), if_neg (by decide), if_neg (by decide), if_pos (by decide), if_neg (by decide), if_neg (by decide)]
        simp only [r58s]
        exact hN _ _ _ _ _ (h2.2.1 rfl) h65 (Or.inl rfl)
      · rw [if_pos (by decide), if_neg (by decide), if_neg (by decide), if_pos (by decide), if_neg (by decide)]
        simp only [r58s]
        exact hN _ _ _ _ _ h34 (h2.2.2.1 rfl).2 (Or.inr (h2.2.2.1 rfl).1)
      · rw [if_neg (by decide), if_pos (by decide), if_neg (by decide), if_neg (by decide), if_neg (by decide), if_pos (by decide)]
        simp only [r58s]
        exact hN _ _ _ _ _ h34 (h2.2.2.2 rfl).2 (Or.inr (h2.2.2.2 rfl).1)
      · rw [if_neg (show ¬ nI s = (5 : Int32) from nI_ne (b := 5) (by omega) (by decide) n5), if_neg (show ¬ nI s = (6 : Int32) from nI_ne (b := 6) (by omega) (by decide) n6), if_neg (show ¬ nI s = (3 : Int32) from nI_ne (b := 3) (by omega) (by decide) n3), if_neg (show ¬ nI s = (4 : Int32) from nI_ne (b := 4) (by omega) (by decide) n4), if_neg (show ¬ nI s = (5 : Int32) from nI_ne (b := 5) (by omega) (by decide) n5), if_neg (show ¬ nI s = (6 : Int32) from nI_ne (b := 6) (by omega) (by decide) n6)]
        simp only [r58s]
        exact hN _ _ _ _ _ h34 h65 (Or.inl rfl)
    · rw [if_neg h2] at h; exact absurd h (by decide)
  · rw [if_neg h1] at h; exact absurd h (by decide)
theorem ds_no {J : HI} {a : Row} {v : Int32} {S n Z K D Q s : Nat} (R : RX a S n Z K D Q) (hs : s < 10) (h : ¬ okS a s v = 0) : f_X6_doSet (nI s) v (upR J 58 a) = some (okS a s v, upR J 58 a) := by
  obtain ⟨⟨h10, -, h22, hnK, h8, hK1, hK6', h16, hZ, h5, h6, hPD, hD⟩, ⟨k0, k11, k9, k17⟩, -, hcap, -, hlv⟩ := R
  unfold f_X6_doSet
  rw [is_eq hs, bs]
  dsimp only
  unfold okS at h ⊢
  by_cases h1 : cS 65 s ≤ v ∧ v ≤ cS 66 s
  · rw [if_pos h1] at h
    rw [if_pos h1, if_pos h1, if_neg n10]
    by_cases h2 : (s = 3 → v < a 4) ∧ (s = 4 → a 3 < v) ∧ (s = 5 → a 17 = 0 ∧ a 6 < v) ∧ (s = 6 → a 17 = 0 ∧ v < a 5)
    · rw [if_pos h2] at h; exact absurd rfl h
    · rw [if_neg h2]
      have h34 : a 3 < a 4 := hlv.1.2.1
      have h65 : a 6 < a 5 := by rw [h5, h6]; exact nI_lt hPD (by omega)
      have nl : ∀ x y : Int32, x < y → ¬ y ≤ x := fun x y => Int32.not_le.mpr
      have ln : ∀ x y : Int32, ¬ x < y → y ≤ x := fun x y => Int32.not_lt.mp
      have hN : ∀ (w3 lo hi de pr : Int32), (hi ≤ lo ∨ de ≤ pr ∨ (w3 = 1 ∧ a 17 = 1)) → f_X6_doSet_J96 (nI s) v w3 lo hi de pr (upR J 58 a) = some (-5, upR J 58 a) := by
        intro w3 lo hi de pr q
        unfold f_X6_doSet_J96
        by_cases q1 : hi ≤ lo
        · rw [if_pos q1]
        · rw [if_neg q1]
          by_cases q2 : de ≤ pr
          · rw [if_pos q2]
          · rw [if_neg q2]
            obtain ⟨rfl, q4⟩ := (q.resolve_left q1).resolve_left q2
            rw [if_neg n10, r58s, if_pos q4]
      have h17 : ∀ {p : Prop}, ¬ (a 17 = 0 ∧ p) → a 17 = 1 ∨ ¬ p := fun q => by
        rcases k17 with z | z
        · exact Or.inr fun w => q ⟨z, w⟩
        · exact Or.inl z
      unfold f_X6_doSet_J27 f_X6_doSet_J43 f_X6_doSet_J60 f_X6_doSet_J77
      rcases (show s = 3 ∨ s = 4 ∨ s = 5 ∨ s = 6 ∨ (s ≠ 3 ∧ s ≠ 4 ∧ s ≠ 5 ∧ s ≠ 6) by omega) with rfl | rfl | rfl | rfl | ⟨n3, n4, n5, n6⟩
      · rw [if_neg (by decide), if_neg (by decide), if_pos (by decide), if_neg (by decide), if_neg (by decide), if_neg (by decide)]
        simp only [r58s]
        exact hN _ _ _ _ _ (Or.inl (ln _ _ fun q => h2 ⟨fun _ => q, fun e => absurd e (by decide), fun e => absurd e (by decide), fun e => absurd e (by decide)⟩))
      · rw [if_neg (by decide), if_neg (by decide), if_neg (by decide), if_pos (by decide), if_neg (by decide), if_neg (by decide)]
        simp only [r58s]
        exact hN _ _ _ _ _ (Or.inl (ln _ _ fun q => h2 ⟨fun e => absurd e (by decide), fun _ => q, fun e => absurd e (by decide), fun e => absurd e (by decide)⟩))
      · rw [if_pos (by decide), if_neg (by decide), if_neg (by decide), if_pos (by decide), if_neg (by decide)]
        simp only [r58s]
        refine hN _ _ _ _ _ (Or.inr ?_)
        rcases h17 (p := a 6 < v) (fun q => h2 ⟨fun e => absurd e (by decide), fun e => absurd e (by decide), fun _ => q, fun e => absurd e (by decide)⟩) with z | z
        · exact Or.inr ⟨rfl, z⟩
        · exact Or.inl (ln _ _ z)
      · rw [if_neg (by decide), if_pos (by decide), if_neg (by decide), if_neg (by decide), if_neg (by decide), if_pos (by decide)]
        simp only [r58s]
        refine hN _ _ _ _ _ (Or.inr ?_)
        rcases h17 (p := v < a 5) (fun q => h2 ⟨fun e => absurd e (by decide), fun e => absurd e (by decide), fun e => absurd e (by decide), fun _ => q⟩) with z | z
        · exact Or.inr ⟨rfl, z⟩
        · exact Or.inl (ln _ _ z)
      · exact absurd ⟨fun e => absurd e n3, fun e => absurd e n4, fun e => absurd e n5, fun e => absurd e n6⟩ h2
  · rw [if_neg h1, if_neg h1, if_pos rfl]
theorem ds_out {J : HI} {s v : Int32} (h : s < 0 ∨ nI 10 ≤ s) : f_X6_doSet s v J = some (-2, J) := by
  unfold f_X6_doSet
  rw [is_out h, bs, if_pos rfl]
