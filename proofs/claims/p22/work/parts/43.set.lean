/-! ===== pure: out of the proof of the whole ===== -/
def okS (a : Row) (s : Nat) (v : Int32) : Int32 :=
  if cS 65 s ≤ v ∧ v ≤ cS 66 s then
    (if (s = 3 → v < a 4) ∧ (s = 4 → a 3 < v) ∧ (s = 5 → a 17 = 0 ∧ a 6 < v) ∧ (s = 6 → a 17 = 0 ∧ v < a 5) then 0 else -5) else -2
theorem atS {J : HI} {F T P G N : Row} {s b : Nat} (hb : b = 65 ∨ b = 66) (hJ : J b = cS b) (hs : s < 10) : f_X5_at b (nI s) (sM J F T P G N) = some (cS b s, sM J F T P G N) := by
  have h1 : isI b = true := by rcases hb with rfl | rfl <;> rfl
  have h2 : ln b = 10 := by rcases hb with rfl | rfl <;> rfl
  rw [at_in b s h1 (by rw [h2]; exact hs), sM_n (by omega), hJ]
theorem fits_eq {F T P G N a : Row} {J : HI} {v : Int32} {S n Z K D Q s : Nat} (R : RX a S n Z K D Q) (M : MR F T P G N a S n) (hs : s < 10) : f_X1_fits (nI s) v (sM J F T P G N) = some (if (s = 3 → v < a 4) ∧ (s = 4 → a 3 < v) ∧ (s = 5 → a 17 = 0 ∧ a 6 < v) ∧ (s = 6 → a 17 = 0 ∧ v < a 5) then 1 else 0, sM J F T P G N) := by
  obtain ⟨⟨h10, -, h22, hnK, h8, hK1, hK6, h16, hZ, h5, h6, hPD, hD⟩, ⟨k0, k11, k9, k17⟩, -, hcap, -, -⟩ := R
  obtain ⟨hT, hF, hG, hN, hP, hc1, hc0⟩ := M
  have eY : F 14 = 0 ↔ a 17 = 0 := by
    rcases k17 with q | q
    · exact ⟨fun _ => q, fun _ => hc0 q⟩
    · obtain ⟨t, d, p, a18, a19, a20, q1, q2, q3, q4, q5⟩ := hcap q
      have h14 := (hc1 q).2
      rw [lk_n a18 a19 a20 h10 q3 (by omega)] at h14
      refine ⟨fun h => ?_, fun h => ?_⟩
      · rw [h14] at h
        exact absurd h (nI_ne0 (by omega) (by omega))
      · rw [q] at h; exact absurd h (by decide)
  unfold f_X1_fits
  simp only [so4, so3, so6, so5, bs, sM_2, sM_1, hT 4 (by decide), hT 3 (by decide), hT 6 (by decide), hT 5 (by decide)]
  have nl : ∀ x y : Int32, (x < y) ↔ ¬ y ≤ x := fun x y => Int32.not_le.symm
  rcases (show s = 3 ∨ s = 4 ∨ s = 5 ∨ s = 6 ∨ (s ≠ 3 ∧ s ≠ 4 ∧ s ≠ 5 ∧ s ≠ 6) by omega) with rfl | rfl | rfl | rfl | ⟨n3, n4, n5, n6⟩
  · rw [if_pos (show nI 3 = (3 : Int32) from rfl)]
    by_cases h : a 4 ≤ v
    · rw [if_pos h, if_neg (fun q => (nl _ _).mp (q.1 rfl) h)]
    · rw [if_neg h, if_pos ⟨fun _ => (nl _ _).mpr h, fun e => absurd e (by decide), fun e => absurd e (by decide), fun e => absurd e (by decide)⟩]
  · rw [if_neg (show ¬ nI 4 = (3 : Int32) by decide), if_pos (show nI 4 = (4 : Int32) from rfl)]
    by_cases h : v ≤ a 3
    · rw [if_pos h, if_neg (fun q => (nl _ _).mp (q.2.1 rfl) h)]
    · rw [if_neg h, if_pos ⟨fun e => absurd e (by decide), fun _ => (nl _ _).mpr h, fun e => absurd e (by decide), fun e => absurd e (by decide)⟩]
  · rw [if_neg (show ¬ nI 5 = (3 : Int32) by decide), if_neg (show ¬ nI 5 = (4 : Int32) by decide), if_pos (show nI 5 = (5 : Int32) from rfl)]
    by_cases h0 : F 14 = 0
    · rw [if_pos h0]
      by_cases h : v ≤ a 6
      · rw [if_pos h, if_neg (fun q => (nl _ _).mp (q.2.2.1 rfl).2 h)]
      · rw [if_neg h, if_pos ⟨fun e => absurd e (by decide), fun e => absurd e (by decide), fun _ => ⟨eY.mp h0, (nl _ _).mpr h⟩, fun e => absurd e (by decide)⟩]
    · rw [if_neg h0, if_neg (fun q => h0 (eY.mpr (q.2.2.1 rfl).1))]
  · rw [if_neg (show ¬ nI 6 = (3 : Int32) by decide), if_neg (show ¬ nI 6 = (4 : Int32) by decide), if_neg (show ¬ nI 6 = (5 : Int32) by decide), if_pos (show nI 6 = (6 : Int32) from rfl)]
    by_cases h0 : F 14 = 0
    · rw [if_pos h0]
      by_cases h : a 5 ≤ v
      · rw [if_pos h, if_neg (fun q => (nl _ _).mp (q.2.2.2 rfl).2 h)]
      · rw [if_neg h, if_pos ⟨fun e => absurd e (by decide), fun e => absurd e (by decide), fun e => absurd e (by decide), fun _ => ⟨eY.mp h0, (nl _ _).mpr h⟩⟩]
    · rw [if_neg h0, if_neg (fun q => h0 (eY.mpr (q.2.2.2 rfl).1))]
  · rw [if_neg (show ¬ nI s = (3 : Int32) from nI_ne (b := 3) (by omega) (by decide) n3), if_neg (show ¬ nI s = (4 : Int32) from nI_ne (b := 4) (by omega) (by decide) n4), if_neg (show ¬ nI s = (5 : Int32) from nI_ne (b := 5) (by omega) (by decide) n5), if_neg (show ¬ nI s = (6 : Int32) from nI_ne (b := 6) (by omega) (by decide) n6), if_pos ⟨fun e => absurd e n3, fun e => absurd e n4, fun e => absurd e n5, fun e => absurd e n6⟩]
theorem er_eq {F T P G N a : Row} {J : HI} {v : Int32} {S n Z K D Q s : Nat} (R : RX a S n Z K D Q) (M : MR F T P G N a S n) (hJ5 : J 65 = cS 65) (hJ6 : J 66 = cS 66) (hs : s < 10) : f_X1_errorOfSetting (nI s) v (sM J F T P G N) = some (okS a s v, sM J F T P G N) := by
  unfold f_X1_errorOfSetting okS
  rw [if_neg (nI_pos (by omega)), l10, if_pos (nI_lt hs (by decide)), atS (Or.inl rfl) hJ5 hs, bs]
  dsimp only
  have e1 : (cS 65 s ≤ v) ↔ ¬ v < cS 65 s := Int32.not_lt.symm
  by_cases h1 : v < cS 65 s
  · rw [if_pos h1, if_neg (by simp [e1, h1])]
  · rw [if_neg h1, atS (Or.inr rfl) hJ6 hs, bs]
    dsimp only
    by_cases h2 : v ≤ cS 66 s
    · rw [if_pos h2, if_pos (show cS 65 s ≤ v ∧ v ≤ cS 66 s from ⟨e1.mpr h1, h2⟩), fits_eq R M hs, bs]
      dsimp only
      by_cases h3 : (s = 3 → v < a 4) ∧ (s = 4 → a 3 < v) ∧ (s = 5 → a 17 = 0 ∧ a 6 < v) ∧ (s = 6 → a 17 = 0 ∧ v < a 5)
      · rw [if_pos h3, if_pos h3, if_neg n10]
      · rw [if_neg h3, if_neg h3, if_pos rfl]
    · rw [if_neg h2, if_neg (fun q => h2 q.2)]
theorem er_out {J : HI} {s v : Int32} (h : s < 0 ∨ nI 10 ≤ s) : f_X1_errorOfSetting s v J = some (-2, J) := by
  unfold f_X1_errorOfSetting
  by_cases h0 : s < 0
  · rw [if_pos h0]
  · rw [if_neg h0, if_neg (by rw [l10]; exact Int32.not_lt.mpr (h.resolve_left h0))]
theorem cS_lo {s : Nat} (hs : s < 10) : cS 65 s = [0, -100, 0, -100, -100, 1, 0, 0, 1, 0].getD s 0 := rfl
theorem rng {s : Nat} {v : Int32} (hs : s < 10) (h : cS 65 s ≤ v ∧ v ≤ cS 66 s) : -100 ≤ v ∧ v ≤ 100 := by
  have e1 : -100 ≤ cS 65 s := (show ∀ s, s < 10 → (-100 : Int32) ≤ cS 65 s by decide +kernel) s hs
  have e2 : cS 66 s ≤ 100 := (show ∀ s, s < 10 → cS 66 s ≤ (100 : Int32) by decide +kernel) s hs
  exact ⟨Int32.le_trans e1 h.1, Int32.le_trans h.2 e2⟩
/-- a number between two -/
theorem btw {v lo hi : Int32} {x y : Nat} (hlo : lo = nI x) (hhi : hi = nI y) (hy : y < 2 ^ 31) (hx : x ≤ y) (h : lo ≤ v ∧ v ≤ hi) : ∃ k : Nat, v = nI k ∧ x ≤ k ∧ k ≤ y := by
  subst hlo; subst hhi
  have h0 : ¬ v < 0 := by
    have := h.1
    rw [Int32.le_iff_toInt_le, nI_toInt (by omega)] at this
    rw [Int32.lt_iff_toInt_lt]
    have e0 : (0 : Int32).toInt = 0 := by decide
    omega
  obtain ⟨k, hk, rfl⟩ := nI_of2 (n := y) (by rw [nI_toInt hy]) h0 h.2
  exact ⟨k, rfl, (nI_leI (by omega) (by omega)).mp h.1, hk⟩
theorem rCuts_0 {a : Row} {n : Nat} : rCuts a n 0 = a := rfl
noncomputable def rSet (a : Row) (s : Nat) (v : Int32) : Row := if s ≤ 4 then upd (upd a s v) 11 0 else upd a s v
theorem rSet_s {a : Row} {s : Nat} {v : Int32} (hs : s < 10) : rSet a s v s = v := by
  unfold rSet
  split
  · rw [upd_n (by omega), upd_s]
  · rw [upd_s]
theorem rSet_n {a : Row} {s k : Nat} {v : Int32} (h : k ≠ s) (h11 : k ≠ 11) : rSet a s v k = a k := by
  unfold rSet
  split
  · rw [upd_n h11, upd_n h]
  · rw [upd_n h]
theorem rSet_11 {a : Row} {s : Nat} {v : Int32} (hs : s < 10) : rSet a s v 11 = if s ≤ 4 then 0 else a 11 := by
  unfold rSet
  split
  · rw [upd_s]
  · rw [upd_n (by omega)]
noncomputable def fSet (F : Row) (s : Nat) : Row := if s ≤ 4 then upd F 4 0 else F
theorem cs8_eq {F T P G N : Row} {J : HI} {v : Int32} {n s K' : Nat} (hs : s < 10) (hG : G 1 = nI n) (hn : n ≤ 6) (hv : s = 8 → v = nI K') (hK : s ≠ 8 → n ≤ K') (hK6 : K' ≤ 6) : f_X1_changeSetting (nI s) v (sM J F T P G N) = some (T s, sM J (fSet F s) (upd T s v) P (if n ≤ K' then G else upd G 1 (nI K')) (nCuts N n (n - K'))) := by
  have hJ : ∀ (F1 : Row) (x : Int32), f_X1_changeSetting_J25 (nI s) v x (sM J F1 (upd T s v) P G N) = some (x, sM J F1 (upd T s v) P (if n ≤ K' then G else upd G 1 (nI K')) (nCuts N n (n - K'))) := by
    intro F1 x
    unfold f_X1_changeSetting_J25
    by_cases h8 : s = 8
    · subst h8
      rw [if_pos (by decide), hv rfl, kl_eq (K := K') (fun m hm => nI_leI (by omega) (by omega)) hG hn, bs]
    · rw [if_neg (show ¬ nI s = (8 : Int32) from nI_ne (b := 8) (by omega) (by decide) h8), if_pos (hK h8), show n - K' = 0 from by have := hK h8; omega]
      rfl
  unfold f_X1_changeSetting
  rw [so s hs, bs]
  dsimp only
  rw [wr_in 2 s rfl hs, bs]
  simp only [sM_u2, sM_u1, sM_2]
  rw [l4]
  unfold fSet
  by_cases h4 : s ≤ 4
  · rw [if_neg (nI_nlt h4 (by decide)), hJ, if_pos h4]
  · rw [if_pos (nI_lt (by omega) (by omega)), hJ, if_neg h4]
theorem MR_set {F T P G N a : Row} {v : Int32} {S n Z K D Q s K' : Nat} (R : RX a S n Z K D Q) (M : MR F T P G N a S n) (hs : s < 10) (hK' : rSet a s v 8 = nI K') (hcap : a 17 = 1 → s ≠ 5 ∧ s ≠ 6 ∨ True) : MR (fSet F s) (upd T s v) P (if n ≤ K' then G else upd G 1 (nI K')) (nCuts N n (n - K')) (rCuts (rSet a s v) n (n - K')) S (n - (n - K')) := by
  obtain ⟨⟨h10, -, h22, hnK, h8, hK1, hK6, h16, hZ, h5, h6, hPD, hD⟩, ⟨k0, k11, k9, k17⟩, -, hcp, -, -⟩ := R
  obtain ⟨hT, hF, hG, hN, hP, hc1, hc0⟩ := M
  have o : ∀ k, k < 22 ∨ 47 ≤ k → rCuts (rSet a s v) n (n - K') k = rSet a s v k := fun k hk => rCuts_lo _ _ _ k hk (by omega)
  have eF : ∀ k, k ≠ 4 → fSet F s k = F k := fun k hk => by
    unfold fSet
    split
    · rw [upd_n hk]
    · rfl
  refine ⟨fun k hk => ?_, fun k hk => ?_, ?_, fun k hk => ?_, fun k hk => ?_, fun h17 => ?_, fun h17 => ?_⟩
  · rw [o _ (by omega)]
    by_cases e : k = s
    · subst e; rw [upd_s, rSet_s hs]
    · rw [upd_n e, rSet_n e (by omega)]; exact hT k hk
  · rw [o _ (by omega)]
    by_cases e : k = 1
    · subst e
      rw [rSet_11 hs]
      unfold fSet
      split
      · rw [upd_s]
      · exact hF 1 (by decide)
    · rw [eF _ (by omega), rSet_n (by omega) (by omega)]; exact hF k hk
  · rw [rCuts_22 _ _ _ (by rw [rSet_n (by omega) (by omega)]; exact h22) (by omega)]
    by_cases h : n ≤ K'
    · rw [if_pos h, hG, h22]; congr 1; omega
    · rw [if_neg h, upd_s]; congr 1; omega
  · rw [nCuts_seg _ _ _ k (by omega) (by omega), rCuts_seg _ _ _ k (by omega) (by omega), rSet_n (by omega) (by omega), hN _ (by omega)]
    congr 1
    omega
  · rw [o _ (by omega), rSet_n (by omega) (by omega)]; exact hP k hk
  · rw [o _ (by omega), rSet_n (by omega) (by omega)] at h17
    obtain ⟨hq, h14⟩ := hc1 h17
    refine ⟨fun k hk => ?_, ?_⟩
    · rw [eF _ (by omega), o _ (by omega), rSet_n (by omega) (by omega)]; exact hq k hk
    · rw [eF _ (by omega), h14]
      unfold rLk
      rw [o _ (by omega), o _ (by omega), o _ (by omega), o _ (by omega), rSet_n (by omega) (by omega), rSet_n (by omega) (by omega), rSet_n (by omega) (by omega), rSet_n (by omega) (by omega)]
  · rw [o _ (by omega), rSet_n (by omega) (by omega)] at h17
    rw [eF _ (by omega)]; exact hc0 h17
theorem RX_set {a : Row} {v : Int32} {S n Z K D Q s : Nat} (R : RX a S n Z K D Q) (hs : s < 10) (h : okS a s v = 0) : ∃ K' D' Q' : Nat, rSet a s v 8 = nI K' ∧ K' ≤ 6 ∧ (s = 8 → v = nI K') ∧ (s ≠ 8 → n ≤ K') ∧ RX (rCuts (rSet a s v) n (n - K')) S (n - (n - K')) Z K' D' Q' := by
  obtain ⟨⟨h10, hS, h22, hnK, h8, hK1, hK6, h16, hZ, h5, h6, hPD, hD⟩, ⟨k0, k11, k9, k17⟩, hsg, hcap, hsm, hlv⟩ := R
  unfold okS at h
  by_cases h1 : cS 65 s ≤ v ∧ v ≤ cS 66 s
  · rw [if_pos h1] at h
    by_cases h2 : (s = 3 → v < a 4) ∧ (s = 4 → a 3 < v) ∧ (s = 5 → a 17 = 0 ∧ a 6 < v) ∧ (s = 6 → a 17 = 0 ∧ v < a 5)
    · have main : ∀ K' D' Q' : Nat, rSet a s v 8 = nI K' → 1 ≤ K' → K' ≤ 6 → rSet a s v 5 = nI D' → rSet a s v 6 = nI Q' → Q' < D' → D' ≤ 32 → (rSet a s v 0 = 0 ∨ rSet a s v 0 = 1 ∨ rSet a s v 0 = 2) → (rSet a s v 9 = 0 ∨ rSet a s v 9 = 1) → (-100 ≤ rSet a s v 3 ∧ rSet a s v 3 < rSet a s v 4 ∧ rSet a s v 4 ≤ 100) → (s = 8 → v = nI K') → (s ≠ 8 → n ≤ K') → ∃ K' D' Q' : Nat, rSet a s v 8 = nI K' ∧ K' ≤ 6 ∧ (s = 8 → v = nI K') ∧ (s ≠ 8 → n ≤ K') ∧ RX (rCuts (rSet a s v) n (n - K')) S (n - (n - K')) Z K' D' Q' := by
        intro K' D' Q' e8 q1 q2 e5 e6 q3 q4 q5 q6 q7 q8 q9
        have o : ∀ k, k < 22 ∨ 47 ≤ k → rCuts (rSet a s v) n (n - K') k = rSet a s v k := fun k hk => rCuts_lo _ _ _ k hk (by omega)
        refine ⟨K', D', Q', e8, q2, q8, q9, ⟨by rw [o _ (by omega), rSet_n (by omega) (by omega)]; exact h10, hS, rCuts_22 _ _ _ (by rw [rSet_n (by omega) (by omega)]; exact h22) (by omega), by omega, by rw [o _ (by omega)]; exact e8, q1, q2, by rw [o _ (by omega), rSet_n (by omega) (by omega)]; exact h16, hZ, by rw [o _ (by omega)]; exact e5, by rw [o _ (by omega)]; exact e6, q3, q4⟩, ⟨by rw [o _ (by omega)]; exact q5, ?_, by rw [o _ (by omega)]; exact q6, by rw [o _ (by omega), rSet_n (by omega) (by omega)]; exact k17⟩, fun j hj => ?_, fun h17 => ?_, fun k hk => by rw [o _ (by omega), rSet_n (by omega) (by omega)]; exact hsm k hk, ?_, fun k hk => ?_⟩
        · rw [o _ (by omega), rSet_11 hs]
          split
          · exact Or.inl rfl
          · exact k11
        · obtain ⟨t, d, p, e1, e2, e3, z⟩ := hsg (j + (n - K')) (by omega)
          refine ⟨t, d, p, ?_, ?_, ?_, z⟩
          · rw [rCuts_seg _ _ _ (4 * j) (by omega) (by omega), rSet_n (by omega) (by omega), ← e1]; congr 1; omega
          · rw [show 23 + 4 * j + 1 = 23 + (4 * j + 1) by omega, rCuts_seg _ _ _ (4 * j + 1) (by omega) (by omega), rSet_n (by omega) (by omega), ← e2]; congr 1; omega
          · rw [show 23 + 4 * j + 2 = 23 + (4 * j + 2) by omega, rCuts_seg _ _ _ (4 * j + 2) (by omega) (by omega), rSet_n (by omega) (by omega), ← e3]; congr 1; omega
        · rw [o _ (by omega), rSet_n (by omega) (by omega)] at h17
          obtain ⟨t, d, p, e1, e2, e3, z⟩ := hcap h17
          exact ⟨t, d, p, by rw [o _ (by omega), rSet_n (by omega) (by omega)]; exact e1, by rw [o _ (by omega), rSet_n (by omega) (by omega)]; exact e2, by rw [o _ (by omega), rSet_n (by omega) (by omega)]; exact e3, z⟩
        · rw [o _ (by omega), o _ (by omega)]; exact q7
        · rw [o _ (by omega)]
          by_cases e : k = s
          · subst e; rw [rSet_s hs]; exact rng hs h1
          · rw [rSet_n e (by omega)]; exact hlv.2 k hk
      have hr := rng hs h1
      have N : ∀ k, k ≠ s → k ≠ 11 → rSet a s v k = a k := fun k q1 q2 => rSet_n q1 q2
      have V : rSet a s v s = v := rSet_s hs
      rcases (show s = 0 ∨ s = 1 ∨ s = 2 ∨ s = 3 ∨ s = 4 ∨ s = 5 ∨ s = 6 ∨ s = 7 ∨ s = 8 ∨ s = 9 by omega) with rfl | rfl | rfl | rfl | rfl | rfl | rfl | rfl | rfl | rfl
      · refine main K D Q (by rw [N 8 (by decide) (by decide)]; exact h8) hK1 hK6 (by rw [N 5 (by decide) (by decide)]; exact h5) (by rw [N 6 (by decide) (by decide)]; exact h6) hPD hD ?_ (by rw [N 9 (by decide) (by decide)]; exact k9) (by rw [N 3 (by decide) (by decide), N 4 (by decide) (by decide)]; exact hlv.1) (fun e => absurd e (by decide)) (fun _ => hnK)
        rw [V]
        obtain ⟨k, rfl, -, hk⟩ := btw (x := 0) (y := 2) rfl rfl (by decide) (by decide) h1
        rcases (show k = 0 ∨ k = 1 ∨ k = 2 by omega) with rfl | rfl | rfl
        · exact Or.inl rfl
        · exact Or.inr (Or.inl rfl)
        · exact Or.inr (Or.inr rfl)
      · exact main K D Q (by rw [N 8 (by decide) (by decide)]; exact h8) hK1 hK6 (by rw [N 5 (by decide) (by decide)]; exact h5) (by rw [N 6 (by decide) (by decide)]; exact h6) hPD hD (by rw [N 0 (by decide) (by decide)]; exact k0) (by rw [N 9 (by decide) (by decide)]; exact k9) (by rw [N 3 (by decide) (by decide), N 4 (by decide) (by decide)]; exact hlv.1) (fun e => absurd e (by decide)) (fun _ => hnK)
      · exact main K D Q (by rw [N 8 (by decide) (by decide)]; exact h8) hK1 hK6 (by rw [N 5 (by decide) (by decide)]; exact h5) (by rw [N 6 (by decide) (by decide)]; exact h6) hPD hD (by rw [N 0 (by decide) (by decide)]; exact k0) (by rw [N 9 (by decide) (by decide)]; exact k9) (by rw [N 3 (by decide) (by decide), N 4 (by decide) (by decide)]; exact hlv.1) (fun e => absurd e (by decide)) (fun _ => hnK)
      · exact main K D Q (by rw [N 8 (by decide) (by decide)]; exact h8) hK1 hK6 (by rw [N 5 (by decide) (by decide)]; exact h5) (by rw [N 6 (by decide) (by decide)]; exact h6) hPD hD (by rw [N 0 (by decide) (by decide)]; exact k0) (by rw [N 9 (by decide) (by decide)]; exact k9) (by rw [V, N 4 (by decide) (by decide)]; exact ⟨hr.1, h2.1 rfl, hlv.1.2.2⟩) (fun e => absurd e (by decide)) (fun _ => hnK)
      · exact main K D Q (by rw [N 8 (by decide) (by decide)]; exact h8) hK1 hK6 (by rw [N 5 (by decide) (by decide)]; exact h5) (by rw [N 6 (by decide) (by decide)]; exact h6) hPD hD (by rw [N 0 (by decide) (by decide)]; exact k0) (by rw [N 9 (by decide) (by decide)]; exact k9) (by rw [V, N 3 (by decide) (by decide)]; exact ⟨hlv.1.1, h2.2.1 rfl, hr.2⟩) (fun e => absurd e (by decide)) (fun _ => hnK)
      · obtain ⟨k, rfl, hk1, hk⟩ := btw (x := 1) (y := 32) rfl rfl (by decide) (by decide) h1
        have hq := (h2.2.2.1 rfl).2
        rw [h6, nI_ltI (by omega) (by omega)] at hq
        exact main K k Q (by rw [N 8 (by decide) (by decide)]; exact h8) hK1 hK6 V (by rw [N 6 (by decide) (by decide)]; exact h6) hq hk (by rw [N 0 (by decide) (by decide)]; exact k0) (by rw [N 9 (by decide) (by decide)]; exact k9) (by rw [N 3 (by decide) (by decide), N 4 (by decide) (by decide)]; exact hlv.1) (fun e => absurd e (by decide)) (fun _ => hnK)
      · obtain ⟨k, rfl, hk1, hk⟩ := btw (x := 0) (y := 31) rfl rfl (by decide) (by decide) h1
        have hq := (h2.2.2.2 rfl).2
        rw [h5, nI_ltI (by omega) (by omega)] at hq
        exact main K D k (by rw [N 8 (by decide) (by decide)]; exact h8) hK1 hK6 (by rw [N 5 (by decide) (by decide)]; exact h5) V hq hD (by rw [N 0 (by decide) (by decide)]; exact k0) (by rw [N 9 (by decide) (by decide)]; exact k9) (by rw [N 3 (by decide) (by decide), N 4 (by decide) (by decide)]; exact hlv.1) (fun e => absurd e (by decide)) (fun _ => hnK)
      · exact main K D Q (by rw [N 8 (by decide) (by decide)]; exact h8) hK1 hK6 (by rw [N 5 (by decide) (by decide)]; exact h5) (by rw [N 6 (by decide) (by decide)]; exact h6) hPD hD (by rw [N 0 (by decide) (by decide)]; exact k0) (by rw [N 9 (by decide) (by decide)]; exact k9) (by rw [N 3 (by decide) (by decide), N 4 (by decide) (by decide)]; exact hlv.1) (fun e => absurd e (by decide)) (fun _ => hnK)
      · obtain ⟨k, rfl, hk1, hk⟩ := btw (x := 1) (y := 6) rfl rfl (by decide) (by decide) h1
        exact main k D Q V hk1 hk (by rw [N 5 (by decide) (by decide)]; exact h5) (by rw [N 6 (by decide) (by decide)]; exact h6) hPD hD (by rw [N 0 (by decide) (by decide)]; exact k0) (by rw [N 9 (by decide) (by decide)]; exact k9) (by rw [N 3 (by decide) (by decide), N 4 (by decide) (by decide)]; exact hlv.1) (fun _ => rfl) (fun e => absurd rfl e)
      · refine main K D Q (by rw [N 8 (by decide) (by decide)]; exact h8) hK1 hK6 (by rw [N 5 (by decide) (by decide)]; exact h5) (by rw [N 6 (by decide) (by decide)]; exact h6) hPD hD (by rw [N 0 (by decide) (by decide)]; exact k0) ?_ (by rw [N 3 (by decide) (by decide), N 4 (by decide) (by decide)]; exact hlv.1) (fun e => absurd e (by decide)) (fun _ => hnK)
        rw [V]
        obtain ⟨k, rfl, -, hk⟩ := btw (x := 0) (y := 1) rfl rfl (by decide) (by decide) h1
        rcases (show k = 0 ∨ k = 1 by omega) with rfl | rfl
        · exact Or.inl rfl
        · exact Or.inr rfl
    · rw [if_neg h2] at h; exact absurd h (by decide)
  · rw [if_neg h1] at h; exact absurd h (by decide)
