/-! ===== pure: settings ===== -/
def okS (a : Row) (s : Nat) (v : Int32) : Int32 :=
  if cS 65 s ≤ v ∧ v ≤ cS 66 s then
    (if (s = 3 → v < a 4) ∧ (s = 4 → a 3 < v) ∧ (s = 5 → a 17 = 0 ∧ a 6 < v) ∧ (s = 6 → a 17 = 0 ∧ v < a 5) then 0 else -5) else -2
theorem atS {J : HI} {F T P G N : Row} {s b : Nat} (hb : b = 65 ∨ b = 66) (hJ : J b = cS b) (hs : s < 10) : f_X5_at b (nI s) (sM J F T P G N) = some (cS b s, sM J F T P G N) := by
  have h1 : isI b = true := by rcases hb with rfl | rfl <;> rfl
  have h2 : ln b = 10 := by rcases hb with rfl | rfl <;> rfl
  rw [at_in b s h1 (by rw [h2]; exact hs), sM_n (by omega), hJ]
theorem fits_eq {F T P G N a : Row} {J : HI} {v : Int32} {S n Z K D Q s : Nat} (R : RX a S n Z K D Q) (M : MR F T P G N a S n) (hs : s < 10) : f_X1_fits (nI s) v (sM J F T P G N) = some (if (s = 3 → v < a 4) ∧ (s = 4 → a 3 < v) ∧ (s = 5 → a 17 = 0 ∧ a 6 < v) ∧ (s = 6 → a 17 = 0 ∧ v < a 5) then 1 else 0, sM J F T P G N) := by
  obtain ⟨⟨h10, -, h22, hnK, h8, hK1, hK6, h16, hZ, h5, h6, hPD, hD⟩, ⟨k0, k11, k9, k17⟩, -, hcap, -, -⟩ := R
  obtain ⟨hT, hF, hG, hN, hP, hc1, hc0⟩ := M
  have eY : F 14 = 0 ↔ a 17 = 0 := by
    rcases k17 with q | q
    · exact ⟨fun _ => q, fun _ => hc0 q⟩
    · obtain ⟨t, d, p, a18, a19, a20, q1, q2, q3, q4, q5⟩ := hcap q
      have h14 := (hc1 q).2
      rw [lk_n a18 a19 a20 h10 q3 (by omega)] at h14
      refine ⟨fun h => ?_, fun h => ?_⟩
      · rw [h14] at h
        exact absurd h (nI_ne0 (by omega) (by omega))
      · rw [q] at h; exact absurd h (by decide)
  unfold f_X1_fits
  simp only [so4, so3, so6, so5, bs, sM_2, sM_1, hT 4 (by decide), hT 3 (by decide), hT 6 (by decide), hT 5 (by decide)]
  have nl : ∀ x y : Int32, (x < y) ↔ ¬ y ≤ x := fun x y => Int32.not_le.symm
  rcases (show s = 3 ∨ s = 4 ∨ s = 5 ∨ s = 6 ∨ (s ≠ 3 ∧ s ≠ 4 ∧ s ≠ 5 ∧ s ≠ 6) by omega) with rfl | rfl | rfl | rfl | ⟨n3, n4, n5, n6⟩
  · rw [if_pos (show nI 3 = (3 : Int32) from rfl)]
    by_cases h : a 4 ≤ v
    · rw [if_pos h, if_neg (fun q => (nl _ _).mp (q.1 rfl) h)]
    · rw [if_neg h, if_pos ⟨fun _ => (nl _ _).mpr h, fun e => absurd e (by decide), fun e => absurd e (by decide), fun e => absurd e (by decide)⟩]
  · rw [if_neg (show ¬ nI 4 = (3 : Int32) by decide), if_pos (show nI 4 = (4 : Int32) from rfl)]
    by_cases h : v ≤ a 3
    · rw [if_pos h, if_neg (fun q => (nl _ _).mp (q.2.1 rfl) h)]
    · rw [if_neg h, if_pos ⟨fun e => absurd e (by decide), fun _ => (nl _ _).mpr h, fun e => absurd e (by decide), fun e => absurd e (by decide)⟩]
  · rw [if_neg (show ¬ nI 5 = (3 : Int32) by decide), if_neg (show ¬ nI 5 = (4 : Int32) by decide), if_pos (show nI 5 = (5 : Int32) from rfl)]
    by_cases h0 : F 14 = 0
    · rw [if_pos h0]
      by_cases h : v ≤ a 6
      · rw [if_pos h, if_neg (fun q => (nl _ _).mp (q.2.2.1 rfl).2 h)]
      · rw [if_neg h, if_pos ⟨fun e => absurd e (by decide), fun e => absurd e (by decide), fun _ => ⟨eY.mp h0, (nl _ _).mpr h⟩, fun e => absurd e (by decide)⟩]
    · rw [if_neg h0, if_neg (fun q => h0 (eY.mpr (q.2.2.1 rfl).1))]
  · rw [if_neg (show ¬ nI 6 = (3 : Int32) by decide), if_neg (show ¬ nI 6 = (4 : Int32) by decide), if_neg (show ¬ nI 6 = (5 : Int32) by decide), if_pos (show nI 6 = (6 : Int32) from rfl)]
    by_cases h0 : F 14 = 0
    · rw [if_pos h0]
      by_cases h : a 5 ≤ v
      · rw [if_pos h, if_neg (fun q => (nl _ _).mp (q.2.2.2 rfl).2 h)]
      · rw [if_neg h, if_pos ⟨fun e => absurd e (by decide), fun e => absurd e (by decide), fun e => absurd e (by decide), fun _ => ⟨eY.mp h0, (nl _ _).mpr h⟩⟩]
    · rw [if_neg h0, if_neg (fun q => h0 (eY.mpr (q.2.2.2 rfl).1))]
  · rw [if_neg (show ¬ nI s = (3 : Int32) from nI_ne (b := 3) (by omega) (by decide) n3), if_neg (show ¬ nI s = (4 : Int32) from nI_ne (b := 4) (by omega) (by decide) n4), if_neg (show ¬ nI s = (5 : Int32) from nI_ne (b := 5) (by omega) (by decide) n5), if_neg (show ¬ nI s = (6 : Int32) from nI_ne (b := 6) (by omega) (by decide) n6), if_pos ⟨fun e => absurd e n3, fun e => absurd e n4, fun e => absurd e n5, fun e => absurd e n6⟩]
theorem er_eq {F T P G N a : Row} {J : HI} {v : Int32} {S n Z K D Q s : Nat} (R : RX a S n Z K D Q) (M : MR F T P G N a S n) (hJ5 : J 65 = cS 65) (hJ6 : J 66 = cS 66) (hs : s < 10) : f_X1_errorOfSetting (nI s) v (sM J F T P G N) = some (okS a s v, sM J F T P G N) := by
  unfold f_X1_errorOfSetting okS
  rw [if_neg (nI_pos (by omega)), l10, if_pos (nI_lt hs (by decide)), atS (Or.inl rfl) hJ5 hs, bs]
  dsimp only
  have e1 : (cS 65 s ≤ v) ↔ ¬ v < cS 65 s := Int32.not_lt.symm
  by_cases h1 : v < cS 65 s
  · rw [if_pos h1, if_neg (by simp [e1, h1])]
  · rw [if_neg h1, atS (Or.inr rfl) hJ6 hs, bs]
    dsimp only
    by_cases h2 : v ≤ cS 66 s
    · rw [if_pos h2, if_pos (show cS 65 s ≤ v ∧ v ≤ cS 66 s from ⟨e1.mpr h1, h2⟩), fits_eq R M hs, bs]
      dsimp only
      by_cases h3 : (s = 3 → v < a 4) ∧ (s = 4 → a 3 < v) ∧ (s = 5 → a 17 = 0 ∧ a 6 < v) ∧ (s = 6 → a 17 = 0 ∧ v < a 5)
      · rw [if_pos h3, if_pos h3, if_neg n10]
      · rw [if_neg h3, if_neg h3, if_pos rfl]
    · rw [if_neg h2, if_neg (fun q => h2 q.2)]
theorem er_out {J : HI} {s v : Int32} (h : s < 0 ∨ nI 10 ≤ s) : f_X1_errorOfSetting s v J = some (-2, J) := by
  unfold f_X1_errorOfSetting
  by_cases h0 : s < 0
  · rw [if_pos h0]
  · rw [if_neg h0, if_neg (by rw [l10]; exact Int32.not_lt.mpr (h.resolve_left h0))]
/-- isSetting -/
theorem zo (p : Prop) [Decidable p] {I : HI} : (if (if p then (1 : Int32) else 0) = 0 ∨ (if p then (1 : Int32) else 0) = 1 then some ((if p then (1 : Int32) else 0), I) else none) = some (if p then 1 else 0, I) := by
  split <;> simp
theorem is_eq {J : HI} {v : Int32} {s : Nat} (hs : s < 10) : f_X6_isSetting (nI s) v J = some (if cS 65 s ≤ v ∧ v ≤ cS 66 s then 1 else 0, J) := by
  unfold f_X6_isSetting
  simp only [isSample_eq, show (0 : Int64) = (0 : Int32).toInt64 by decide, show (2 : Int64) = (2 : Int32).toInt64 by decide, show (50 : Int64) = (50 : Int32).toInt64 by decide, show (1 : Int64) = (1 : Int32).toInt64 by decide, show (32 : Int64) = (32 : Int32).toInt64 by decide, show (31 : Int64) = (31 : Int32).toInt64 by decide, show (60 : Int64) = (60 : Int32).toInt64 by decide, show (6 : Int64) = (6 : Int32).toInt64 by decide, in32, bs, zo]
  rcases (show s = 0 ∨ s = 1 ∨ s = 2 ∨ s = 3 ∨ s = 4 ∨ s = 5 ∨ s = 6 ∨ s = 7 ∨ s = 8 ∨ s = 9 by omega) with rfl | rfl | rfl | rfl | rfl | rfl | rfl | rfl | rfl | rfl
  · rw [if_pos (by decide)]; rfl
  · rw [if_neg (by decide), if_pos (by decide)]; rfl
  · rw [if_neg (by decide), if_neg (by decide), if_pos (by decide)]; rfl
  · rw [if_neg (by decide), if_neg (by decide), if_neg (by decide), if_pos (by decide)]; rfl
  · rw [if_neg (by decide), if_neg (by decide), if_neg (by decide), if_neg (by decide), if_pos (by decide)]; rfl
  · rw [if_neg (by decide), if_neg (by decide), if_neg (by decide), if_neg (by decide), if_neg (by decide), if_pos (by decide)]; rfl
  · rw [if_neg (by decide), if_neg (by decide), if_neg (by decide), if_neg (by decide), if_neg (by decide), if_neg (by decide), if_pos (by decide)]; rfl
  · rw [if_neg (by decide), if_neg (by decide), if_neg (by decide), if_neg (by decide), if_neg (by decide), if_neg (by decide), if_neg (by decide), if_pos (by decide)]; rfl
  · rw [if_neg (by decide), if_neg (by decide), if_neg (by decide), if_neg (by decide), if_neg (by decide), if_neg (by decide), if_neg (by decide), if_neg (by decide), if_pos (by decide)]; rfl
  · rw [if_neg (by decide), if_neg (by decide), if_neg (by decide), if_neg (by decide), if_neg (by decide), if_neg (by decide), if_neg (by decide), if_neg (by decide), if_neg (by decide), if_pos (by decide)]
    by_cases h : (0 : Int32) ≤ v ∧ v ≤ 1
    · rw [if_pos h, if_neg n10, if_pos (show cS 65 9 ≤ v ∧ v ≤ cS 66 9 from h)]
    · rw [if_neg h, if_pos rfl, if_neg (show ¬ (cS 65 9 ≤ v ∧ v ≤ cS 66 9) from h)]
theorem is_out {J : HI} {s v : Int32} (h : s < 0 ∨ nI 10 ≤ s) : f_X6_isSetting s v J = some (0, J) := by
  have ne : ∀ k : Nat, k < 10 → s ≠ nI k := by
    rintro k hk rfl
    rcases h with h | h
    · exact nI_pos (by omega) h
    · exact nI_ge hk (by decide) h
  unfold f_X6_isSetting
  rw [if_neg (show ¬ s = (0 : Int32) from ne 0 (by decide)), if_neg (show ¬ s = (1 : Int32) from ne 1 (by decide)), if_neg (show ¬ s = (2 : Int32) from ne 2 (by decide)), if_neg (show ¬ s = (3 : Int32) from ne 3 (by decide)), if_neg (show ¬ s = (4 : Int32) from ne 4 (by decide)), if_neg (show ¬ s = (5 : Int32) from ne 5 (by decide)), if_neg (show ¬ s = (6 : Int32) from ne 6 (by decide)), if_neg (show ¬ s = (7 : Int32) from ne 7 (by decide)), if_neg (show ¬ s = (8 : Int32) from ne 8 (by decide)), if_neg (show ¬ s = (9 : Int32) from ne 9 (by decide))]
