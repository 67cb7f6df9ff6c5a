noncomputable def fSet (F : Row) (s : Nat) : Row := if s ≤ 4 then upd F 4 0 else F
theorem cs8_eq {F T P G N : Row} {J : HI} {v : Int32} {n s K' : Nat} (hs : s < 10) (hG : G 1 = nI n) (hn : n ≤ 6) (hv : s = 8 → v = nI K') (hK : s ≠ 8 → n ≤ K') (hK6 : K' ≤ 6) : f_X1_changeSetting (nI s) v (sM J F T P G N) = some (T s, sM J (fSet F s) (upd T s v) P (if n ≤ K' then G else upd G 1 (nI K')) (nCuts N n (n - K'))) := by
  have hJ : ∀ (F1 : Row) (x : Int32), f_X1_changeSetting_J25 (nI s) v x (sM J F1 (upd T s v) P G N) = some (x, sM J F1 (upd T s v) P (if n ≤ K' then G else upd G 1 (nI K')) (nCuts N n (n - K'))) := by
    intro F1 x
    unfold f_X1_changeSetting_J25
    by_cases h8 : s = 8
    · subst h8
      rw [if_pos (by decide), hv rfl, kl_eq (K := K') (fun m hm => nI_leI (by omega) (by omega)) hG hn, bs]
    · rw [if_neg (show ¬ nI s = (8 : Int32) from nI_ne (b := 8) (by omega) (by decide) h8), if_pos (hK h8), show n - K' = 0 from by have := hK h8; omega]
      rfl
  unfold f_X1_changeSetting
  rw [so s hs, bs]
  dsimp only
  rw [wr_in 2 s rfl hs, bs]
  simp only [sM_u2, sM_u1, sM_2]
  rw [l4]
  unfold fSet
  by_cases h4 : s ≤ 4
  · rw [if_neg (nI_nlt h4 (by decide)), hJ, if_pos h4]
  · rw [if_pos (nI_lt (by omega) (by omega)), hJ, if_neg h4]
theorem MR_set {F T P G N a : Row} {v : Int32} {S n Z K D Q s K' : Nat} (R : RX a S n Z K D Q) (M : MR F T P G N a S n) (hs : s < 10) (hK' : rSet a s v 8 = nI K') (hcap : a 17 = 1 → s ≠ 5 ∧ s ≠ 6 ∨ True) : MR (fSet F s) (upd T s v) P (if n ≤ K' then G else upd G 1 (nI K')) (nCuts N n (n - K')) (rCuts (rSet a s v) n (n - K')) S (n - (n - K')) := by
  obtain ⟨⟨h10, -, h22, hnK, h8, hK1, hK6, h16, hZ, h5, h6, hPD, hD⟩, ⟨k0, k11, k9, k17⟩, -, hcp, -, -⟩ := R
  obtain ⟨hT, hF, hG, hN, hP, hc1, hc0⟩ := M
  have o : ∀ k, k < 22 ∨ 47 ≤ k → rCuts (rSet a s v) n (n - K') k = rSet a s v k := fun k hk => rCuts_lo _ _ _ k hk (by omega)
  have eF : ∀ k, k ≠ 4 → fSet F s k = F k := fun k hk => by
    unfold fSet
    split
    · rw [upd_n hk]
    · rfl
  refine ⟨fun k hk => ?_, fun k hk => ?_, ?_, fun k hk => ?_, fun k hk => ?_, fun h17 => ?_, fun h17 => ?_⟩
  · rw [o _ (by omega)]
    by_cases e : k = s
    · subst e; rw [upd_s, rSet_s hs]
    · rw [upd_n e, rSet_n e (by omega)]; exact hT k hk
  · rw [o _ (by omega)]
    by_cases e : k = 1
    · subst e
      rw [rSet_11 hs]
      unfold fSet
      split
      · rw [upd_s]
      · exact hF 1 (by decide)
    · rw [eF _ (by omega), rSet_n (by omega) (by omega)]; exact hF k hk
  · rw [rCuts_22 _ _ _ (by rw [rSet_n (by omega) (by omega)]; exact h22) (by omega)]
    by_cases h : n ≤ K'
    · rw [if_pos h, hG, h22]; congr 1; omega
    · rw [if_neg h, upd_s]; congr 1; omega
  · rw [nCuts_seg _ _ _ k (by omega) (by omega), rCuts_seg _ _ _ k (by omega) (by omega), rSet_n (by omega) (by omega), hN _ (by omega)]
    congr 1
    omega
  · rw [o _ (by omega), rSet_n (by omega) (by omega)]; exact hP k hk
  · rw [o _ (by omega), rSet_n (by omega) (by omega)] at h17
    obtain ⟨hq, h14⟩ := hc1 h17
    refine ⟨fun k hk => ?_, ?_⟩
    · rw [eF _ (by omega), o _ (by omega), rSet_n (by omega) (by omega)]; exact hq k hk
    · rw [eF _ (by omega), h14]
      unfold rLk
      rw [o _ (by omega), o _ (by omega), o _ (by omega), o _ (by omega), rSet_n (by omega) (by omega), rSet_n (by omega) (by omega), rSet_n (by omega) (by omega), rSet_n (by omega) (by omega)]
  · rw [o _ (by omega), rSet_n (by omega) (by omega)] at h17
    rw [eF _ (by omega)]; exact hc0 h17
theorem RX_set {a : Row} {v : Int32} {S n Z K D Q s : Nat} (R : RX a S n Z K D Q) (hs : s < 10) (h : okS a s v = 0) : ∃ K' D' Q' : Nat, rSet a s v 8 = nI K' ∧ K' ≤ 6 ∧ (s = 8 → v = nI K') ∧ (s ≠ 8 → n ≤ K') ∧ RX (rCuts (rSet a s v) n (n - K')) S (n - (n - K')) Z K' D' Q' := by
  obtain ⟨⟨h10, hS, h22, hnK, h8, hK1, hK6, h16, hZ, h5, h6, hPD, hD⟩, ⟨k0, k11, k9, k17⟩, hsg, hcap, hsm, hlv⟩ := R
  unfold okS at h
  by_cases h1 : cS 65 s ≤ v ∧ v ≤ cS 66 s
  · rw [if_pos h1] at h
    by_cases h2 : (s = 3 → v < a 4) ∧ (s = 4 → a 3 < v) ∧ (s = 5 → a 17 = 0 ∧ a 6 < v) ∧ (s = 6 → a 17 = 0 ∧ v < a 5)
    · have main : ∀ K' D' Q' : Nat, rSet a s v 8 = nI K' → 1 ≤ K' → K' ≤ 6 → rSet a s v 5 = nI D' → rSet a s v 6 = nI Q' → Q' < D' → D' ≤ 32 → (rSet a s v 0 = 0 ∨ rSet a s v 0 = 1 ∨ rSet a s v 0 = 2) → (rSet a s v 9 = 0 ∨ rSet a s v 9 = 1) → (-100 ≤ rSet a s v 3 ∧ rSet a s v 3 < rSet a s v 4 ∧ rSet a s v 4 ≤ 100) → (s = 8 → v = nI K') → (s ≠ 8 → n ≤ K') → ∃ K' D' Q' : Nat, rSet a s v 8 = nI K' ∧ K' ≤ 6 ∧ (s = 8 → v = nI K') ∧ (s ≠ 8 → n ≤ K') ∧ RX (rCuts (rSet a s v) n (n - K')) S (n - (n - K')) Z K' D' Q' := by
        intro K' D' Q' e8 q1 q2 e5 e6 q3 q4 q5 q6 q7 q8 q9
        have o : ∀ k, k < 22 ∨ 47 ≤ k → rCuts (rSet a s v) n (n - K') k = rSet a s v k := fun k hk => rCuts_lo _ _ _ k hk (by omega)
        refine ⟨K', D', Q', e8, q2, q8, q9, ⟨by rw [o _ (by omega), rSet_n (by omega) (by omega)]; exact h10, hS, rCuts_22 _ _ _ (by rw [rSet_n (by omega) (by omega)]; exact h22) (by omega), by omega, by rw [o _ (by omega)]; exact e8, q1, q2, by rw [o _ (by omega), rSet_n (by omega) (by omega)]; exact h16, hZ, by rw [o _ (by omega)]; exact e5, by rw [o _ (by omega)]; exact e6, q3, q4⟩, ⟨by rw [o _ (by omega)]; exact q5, ?_, by rw [o _ (by omega)]; exact q6, by rw [o _ (by omega), rSet_n (by omega) (by omega)]; exact k17⟩, fun j hj => ?_, fun h17 => ?_, fun k hk => by rw [o _ (by omega), rSet_n (by omega) (by omega)]; exact hsm k hk, ?_, fun k hk => ?_⟩
        · rw [o _ (by omega), rSet_11 hs]
          split
          · exact Or.inl rfl
          · exact k11
        · obtain ⟨t, d, p, e1, e2, e3, z⟩ := hsg (j + (n - K')) (by omega)
          refine ⟨t, d, p, ?_, ?_, ?_, z⟩
          · rw [rCuts_seg _ _ _ (4 * j) (by omega) (by omega), rSet_n (by omega) (by omega), ← e1]; congr 1; omega
          · rw [show 23 + 4 * j + 1 = 23 + (4 * j + 1) by omega, rCuts_seg _ _ _ (4 * j + 1) (by omega) (by omega), rSet_n (by omega) (by omega), ← e2]; congr 1; omega
          · rw [show 23 + 4 * j + 2 = 23 + (4 * j + 2) by omega, rCuts_seg _ _ _ (4 * j + 2) (by omega) (by omega), rSet_n (by omega) (by omega), ← e3]; congr 1; omega
        · rw [o _ (by omega), rSet_n (by omega) (by omega)] at h17
          obtain ⟨t, d, p, e1, e2, e3, z⟩ := hcap h17
          exact ⟨t, d, p, by rw [o _ (by omega), rSet_n (by omega) (by omega)]; exact e1, by rw [o _ (by omega), rSet_n (by omega) (by omega)]; exact e2, by rw [o _ (by omega), rSet_n (by omega) (by omega)]; exact e3, z⟩
        · rw [o _ (by omega), o _ (by omega)]; exact q7
        · rw [o _ (by omega)]
          by_cases e : k = s
          · subst e; rw [rSet_s hs]; exact rng hs h1
          · rw [rSet_n e (by omega)]; exact hlv.2 k hk
      have hr := rng hs h1
      have N : ∀ k, k ≠ s → k ≠ 11 → rSet a s v k = a k := fun k q1 q2 => rSet_n q1 q2
      have V : rSet a s v s = v := rSet_s hs
      rcases (show s = 0 ∨ s = 1 ∨ s = 2 ∨ s = 3 ∨ s = 4 ∨ s = 5 ∨ s = 6 ∨ s = 7 ∨ s = 8 ∨ s = 9 by omega) with rfl | rfl | rfl | rfl | rfl | rfl | rfl | rfl | rfl | rfl
      · refine main K D Q (by rw [N 8 (by decide) (by decide)]; exact h8) hK1 hK6 (by rw [N 5 (by decide) (by decide)]; exact h5) (by rw [N 6 (by decide) (by decide)]; exact h6) hPD hD ?_ (by rw [N 9 (by decide) (by decide)]; exact k9) (by rw [N 3 (by decide) (by decide), N 4 (by decide) (by decide)]; exact hlv.1) (fun e => absurd e (by decide)) (fun _ => hnK)
        rw [V]
        obtain ⟨k, rfl, -, hk⟩ := btw (x := 0) (y := 2) rfl rfl (by decide) (by decide) h1
        rcases (show k = 0 ∨ k = 1 ∨ k = 2 by omega) with rfl | rfl | rfl
        · exact Or.inl rfl
        · exact Or.inr (Or.inl rfl)
        · exact Or.inr (Or.inr rfl)
      · exact main K D Q (by rw [N 8 (by decide) (by decide)]; exact h8) hK1 hK6 (by rw [N 5 (by decide) (by decide)]; exact h5) (by rw [N 6 (by decide) (by decide)]; exact h6) hPD hD (by rw [N 0 (by decide) (by decide)]; exact k0) (by rw [N 9 (by decide) (by decide)]; exact k9) (by rw [N 3 (by decide) (by decide), N 4 (by decide) (by decide)]; exact hlv.1) (fun e => absurd e (by decide)) (fun _ => hnK)
      · exact main K D Q (by rw [N 8 (by decide) (by decide)]; exact h8) hK1 hK6 (by rw [N 5 (by decide) (by decide)]; exact h5) (by rw [N 6 (by decide) (by decide)]; exact h6) hPD hD (by rw [N 0 (by decide) (by decide)]; exact k0) (by rw [N 9 (by decide) (by decide)]; exact k9) (by rw [N 3 (by decide) (by decide), N 4 (by decide) (by decide)]; exact hlv.1) (fun e => absurd e (by decide)) (fun _ => hnK)
      · exact main K D Q (by rw [N 8 (by decide) (by decide)]; exact h8) hK1 hK6 (by rw [N 5 (by decide) (by decide)]; exact h5) (by rw [N 6 (by decide) (by decide)]; exact h6) hPD hD (by rw [N 0 (by decide) (by decide)]; exact k0) (by rw [N 9 (by decide) (by decide)]; exact k9) (by rw [V, N 4 (by decide) (by decide)]; exact ⟨hr.1, h2.1 rfl, hlv.1.2.2⟩) (fun e => absurd e (by decide)) (fun _ => hnK)
      · exact main K D Q (by rw [N 8 (by decide) (by decide)]; exact h8) hK1 hK6 (by rw [N 5 (by decide) (by decide)]; exact h5) (by rw [N 6 (by decide) (by decide)]; exact h6) hPD hD (by rw [N 0 (by decide) (by decide)]; exact k0) (by rw [N 9 (by decide) (by decide)]; exact k9) (by rw [V, N 3 (by decide) (by decide)]; exact ⟨hlv.1.1, h2.2.1 rfl, hr.2⟩) (fun e => absurd e (by decide)) (fun _ => hnK)
      · obtain ⟨k, rfl, hk1, hk⟩ := btw (x := 1) (y := 32) rfl rfl (by decide) (by decide) h1
        have hq := (h2.2.2.1 rfl).2
        rw [h6, nI_ltI (by omega) (by omega)] at hq
        exact main K k Q (by rw [N 8 (by decide) (by decide)]; exact h8) hK1 hK6 V (by rw [N 6 (by decide) (by decide)]; exact h6) hq hk (by rw [N 0 (by decide) (by decide)]; exact k0) (by rw [N 9 (by decide) (by decide)]; exact k9) (by rw [N 3 (by decide) (by decide), N 4 (by decide) (by decide)]; exact hlv.1) (fun e => absurd e (by decide)) (fun _ => hnK)
      · obtain ⟨k, rfl, hk1, hk⟩ := btw (x := 0) (y := 31) rfl rfl (by decide) (by decide) h1
        have hq := (h2.2.2.2 rfl).2
        rw [h5, nI_ltI (by omega) (by omega)] at hq
        exact main K D k (by rw [N 8 (by decide) (by decide)]; exact h8) hK1 hK6 (by rw [N 5 (by decide) (by decide)]; exact h5) V hq hD (by rw [N 0 (by decide) (by decide)]; exact k0) (by rw [N 9 (by decide) (by decide)]; exact k9) (by rw [N 3 (by decide) (by decide), N 4 (by decide) (by decide)]; exact hlv.1) (fun e => absurd e (by decide)) (fun _ => hnK)
      · exact main K D Q (by rw [N 8 (by decide) (by decide)]; exact h8) hK1 hK6 (by rw [N 5 (by decide) (by decide)]; exact h5) (by rw [N 6 (by decide) (by decide)]; exact h6) hPD hD (by rw [N 0 (by decide) (by decide)]; exact k0) (by rw [N 9 (by decide) (by decide)]; exact k9) (by rw [N 3 (by decide) (by decide), N 4 (by decide) (by decide)]; exact hlv.1) (fun e => absurd e (by decide)) (fun _ => hnK)
      · obtain ⟨k, rfl, hk1, hk⟩ := btw (x := 1) (y := 6) rfl rfl (by decide) (by decide) h1
        exact main k D Q V hk1 hk (by rw [N 5 (by decide) (by decide)]; exact h5) (by rw [N 6 (by decide) (by decide)]; exact h6) hPD hD (by rw [N 0 (by decide) (by decide)]; exact k0) (by rw [N 9 (by decide) (by decide)]; exact k9) (by rw [N 3 (by decide) (by decide), N 4 (by decide) (by decide)]; exact hlv.1) (fun _ => rfl) (fun e => absurd rfl e)
      · refine main K D Q (by rw [N 8 (by decide) (by decide)]; exact h8) hK1 hK6 (by rw [N 5 (by decide) (by decide)]; exact h5) (by rw [N 6 (by decide) (by decide)]; exact h6) hPD hD (by rw [N 0 (by decide) (by decide)]; exact k0) ?_ (by rw [N 3 (by decide) (by decide), N 4 (by decide) (by decide)]; exact hlv.1) (fun e => absurd e (by decide)) (fun _ => hnK)
        rw [V]
        obtain ⟨k, rfl, -, hk⟩ := btw (x := 0) (y := 1) rfl rfl (by decide) (by decide) h1
        rcases (show k = 0 ∨ k = 1 by omega) with rfl | rfl
        · exact Or.inl rfl
        · exact Or.inr rfl
    · rw [if_neg h2] at h; exact absurd h (by decide)
  · rw [if_neg h1] at h; exact absurd h (by decide)
/-- set, on both sides, when it is well -/
theorem set_sim {F T P G N a : Row} {v : Int32} {J J2 : HI} {S n Z K D Q s : Nat} (R : RX a S n Z K D Q) (M : MR F T P G N a S n) (hs : s < 10) (h : okS a s v = 0) :
    ∃ (F' T' P' G' N' a' : Row) (S' n' Z' K' D' Q' : Nat), f_X1_changeSetting (nI s) v (sM J F T P G N) = some (a s, sM J F' T' P' G' N') ∧ f_X6_doSet (nI s) v (upR J2 58 a) = some (a s + 1000, upR J2 58 a') ∧ MR F' T' P' G' N' a' S' n' ∧ RX a' S' n' Z' K' D' Q' := by
  obtain ⟨K', D', Q', e8, q2, q8, q9, R'⟩ := RX_set R hs h
  have hb := R.1
  have hcs := cs8_eq (F := F) (T := T) (P := P) (G := G) (N := N) (J := J) (v := v) hs (by rw [M.2.2.1]; exact hb.2.2.1) (by omega) q8 q9 q2
  rw [M.1 s hs] at hcs
  exact ⟨_, _, _, _, _, _, _, _, _, _, _, _, hcs, ds_eq R hs h e8 q2, MR_set R M hs e8 (fun _ => Or.inr trivial), R'⟩
