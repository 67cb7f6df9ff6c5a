/-! ===== pure: clear and drop ===== -/
def rClr (a : Row) : Row := upd (upd (upd (upd (upd a 10 0) 11 0) 16 0) 17 0) 22 0
theorem dc_eq {J : HI} {a : Row} : f_X6_doClear (upR J 58 a) = some (a 22, upR J 58 (rClr a)) := by
  unfold f_X6_doClear
  simp only [r58s, uR]
  rfl
theorem fg_eq {F T P G N : Row} {J : HI} : f_X1_forget (sM J F T P G N) = some (G 1, sM J (upd (upd (upd (upd F 3 0) 9 0) 14 0) 4 0) T P (upd G 1 0) N) := by
  unfold f_X1_forget
  simp only [sM_4, sM_u4, sM_u1]
theorem rClr_n {a : Row} {k : Nat} (h : k < 10 ∨ (11 < k ∧ k < 16) ∨ (17 < k ∧ k < 22) ∨ 22 < k) : rClr a k = a k := by
  unfold rClr
  rw [upd_n (by omega), upd_n (by omega), upd_n (by omega), upd_n (by omega), upd_n (by omega)]
theorem clr_sim {F T P G N a : Row} {S n Z K D Q : Nat} (R : RX a S n Z K D Q) (M : MR F T P G N a S n) : MR (upd (upd (upd (upd F 3 0) 9 0) 14 0) 4 0) T P (upd G 1 0) N (rClr a) 0 0 ∧ RX (rClr a) 0 0 0 K D Q := by
  obtain ⟨⟨h10, hS, h22, hnK, h8, hK1, hK6, h16, hZ, h5, h6, hPD, hD⟩, ⟨k0, k11, k9, k17⟩, hsg, hcap, hsm, hlv⟩ := R
  obtain ⟨hT, hF, hG, hN, hP, hc1, hc0⟩ := M
  have e17 : rClr a 17 = 0 := by simp [rClr, upd]
  refine ⟨⟨fun k hk => by rw [rClr_n (by omega)]; exact hT k hk, fun k hk => ?_, by rw [upd_s]; simp [rClr, upd], fun k hk => absurd hk (by omega), fun k hk => absurd hk (by omega), fun h => ?_, fun _ => by simp [upd]⟩, ⟨by simp [rClr, upd]; rfl, by omega, by simp [rClr, upd]; rfl, by omega, by rw [rClr_n (by omega)]; exact h8, hK1, hK6, by simp [rClr, upd]; rfl, by omega, by rw [rClr_n (by omega)]; exact h5, by rw [rClr_n (by omega)]; exact h6, hPD, hD⟩, ⟨by rw [rClr_n (by omega)]; exact k0, Or.inl (by simp [rClr, upd]), by rw [rClr_n (by omega)]; exact k9, Or.inl e17⟩, fun j hj => absurd hj (by omega), fun h => ?_, fun k hk => absurd hk (by omega), LV_c (fun k hk => rClr_n (Or.inl hk)) hlv⟩
  · rcases (show k = 0 ∨ k = 1 ∨ k = 2 ∨ k = 3 ∨ k = 4 ∨ k = 5 ∨ k = 6 by omega) with rfl | rfl | rfl | rfl | rfl | rfl | rfl
    · simp [rClr, upd]
    · simp [rClr, upd]
    · rw [rClr_n (by omega), ← hF 2 (by decide)]; simp [upd]
    · rw [rClr_n (by omega), ← hF 3 (by decide)]; simp [upd]
    · rw [rClr_n (by omega), ← hF 4 (by decide)]; simp [upd]
    · rw [rClr_n (by omega), ← hF 5 (by decide)]; simp [upd]
    · simp [rClr, upd]
  · rw [e17] at h; exact absurd h (by decide)
  · rw [e17] at h; exact absurd h (by decide)
theorem drop_sim {F T P G N a : Row} {S n Z K D Q j : Nat} (R : RX a S n Z K D Q) (M : MR F T P G N a S n) (hj : j < n) : MR F T P (upd G 1 (nI (n - 1))) (nCut N n j) (rCut a n j) S (n - 1) ∧ RX (rCut a n j) S (n - 1) Z K D Q := by
  obtain ⟨⟨h10, hS, h22, hnK, h8, hK1, hK6, h16, hZ, h5, h6, hPD, hD⟩, ⟨k0, k11, k9, k17⟩, hsg, hcap, hsm, hlv⟩ := R
  obtain ⟨hT, hF, hG, hN, hP, hc1, hc0⟩ := M
  have o : ∀ k, k < 22 ∨ 47 ≤ k → rCut a n j k = a k := fun k hk => by
    unfold rCut
    rw [if_neg (by omega), if_neg (by omega)]
  have e22 : rCut a n j 22 = nI (n - 1) := by simp [rCut]
  have sgl : ∀ k, k < 4 * j → rCut a n j (23 + k) = a (23 + k) := fun k hk => by
    unfold rCut
    rw [if_neg (by omega), if_neg (by omega)]
  have sgh : ∀ k, 4 * j ≤ k → k < 4 * (n - 1) → rCut a n j (23 + k) = a (23 + k + 4) := fun k hk hk2 => by
    unfold rCut
    rw [if_neg (by omega), if_pos (by omega)]
  refine ⟨⟨fun k hk => by rw [o _ (by omega)]; exact hT k hk, fun k hk => by rw [o _ (by omega)]; exact hF k hk, by rw [upd_s, e22], fun k hk => ?_, fun k hk => by rw [o _ (by omega)]; exact hP k hk, fun h => ?_, fun h => ?_⟩, ⟨by rw [o _ (by omega)]; exact h10, hS, e22, by omega, by rw [o _ (by omega)]; exact h8, hK1, hK6, by rw [o _ (by omega)]; exact h16, hZ, by rw [o _ (by omega)]; exact h5, by rw [o _ (by omega)]; exact h6, hPD, hD⟩, ⟨by rw [o _ (by omega)]; exact k0, by rw [o _ (by omega)]; exact k11, by rw [o _ (by omega)]; exact k9, by rw [o _ (by omega)]; exact k17⟩, fun i hi => ?_, fun h => ?_, fun k hk => by rw [o _ (by omega)]; exact hsm k hk, LV_c (fun k hk => o k (by omega)) hlv⟩
  · unfold nCut
    by_cases h : 4 * j ≤ k ∧ k < 4 * (n - 1)
    · rw [if_pos h, sgh k h.1 h.2, hN _ (by omega)]; congr 1
    · rw [if_neg h, sgl k (by omega), hN _ (by omega)]
  · rw [o _ (by omega)] at h
    obtain ⟨hq, h14⟩ := hc1 h
    refine ⟨fun k hk => by rw [o _ (by omega)]; exact hq k hk, ?_⟩
    rw [h14]
    unfold rLk
    rw [o _ (by omega), o _ (by omega), o _ (by omega), o _ (by omega)]
  · rw [o _ (by omega)] at h; exact hc0 h
  · by_cases h : i < j
    · obtain ⟨t, d, p, e1, e2, e3, z⟩ := hsg i (by omega)
      exact ⟨t, d, p, by rw [sgl _ (by omega)]; exact e1, by rw [show 23 + 4 * i + 1 = 23 + (4 * i + 1) by omega, sgl _ (by omega)]; exact e2, by rw [show 23 + 4 * i + 2 = 23 + (4 * i + 2) by omega, sgl _ (by omega)]; exact e3, z⟩
    · obtain ⟨t, d, p, e1, e2, e3, z⟩ := hsg (i + 1) (by omega)
      refine ⟨t, d, p, ?_, ?_, ?_, z⟩
      · rw [sgh _ (by omega) (by omega), ← e1]; congr 1
      · rw [show 23 + 4 * i + 1 = 23 + (4 * i + 1) by omega, sgh _ (by omega) (by omega), ← e2]; congr 1
      · rw [show 23 + 4 * i + 2 = 23 + (4 * i + 2) by omega, sgh _ (by omega) (by omega), ← e3]; congr 1
  · rw [o _ (by omega)] at h
    obtain ⟨t, d, p, e1, e2, e3, z⟩ := hcap h
    exact ⟨t, d, p, by rw [o _ (by omega)]; exact e1, by rw [o _ (by omega)]; exact e2, by rw [o _ (by omega)]; exact e3, z⟩
/-! ===== pure: rows that are copied ===== -/
/-- the first 447 places are what counts -/
theorem MR_r {F T P G N a b : Row} {S n : Nat} (h : ∀ k, k < 447 → b k = a k) (hS : S ≤ 400) (hn : n ≤ 6) (M : MR F T P G N a S n) : MR F T P G N b S n := by
  obtain ⟨hT, hF, hG, hN, hP, hc1, hc0⟩ := M
  refine ⟨fun k hk => by rw [h _ (by omega)]; exact hT k hk, fun k hk => by rw [h _ (by omega)]; exact hF k hk, by rw [h _ (by omega)]; exact hG, fun k hk => by rw [h _ (by omega)]; exact hN k hk, fun k hk => by rw [h _ (by omega)]; exact hP k hk, fun q => ?_, fun q => ?_⟩
  · rw [h _ (by omega)] at q
    refine ⟨fun k hk => by rw [h _ (by omega)]; exact (hc1 q).1 k hk, ?_⟩
    rw [(hc1 q).2]
    unfold rLk
    rw [h _ (by omega), h _ (by omega), h _ (by omega), h _ (by omega)]
  · rw [h _ (by omega)] at q; exact hc0 q
theorem RX_r {a b : Row} {S n Z K D Q : Nat} (h : ∀ k, k < 447 → b k = a k) (R : RX a S n Z K D Q) : RX b S n Z K D Q := by
  obtain ⟨⟨h10, hS, h22, hnK, h8, hK1, hK6, h16, hZ, h5, h6, hPD, hD⟩, ⟨k0, k11, k9, k17⟩, hsg, hcap, hsm, hlv⟩ := R
  refine ⟨⟨by rw [h _ (by omega)]; exact h10, hS, by rw [h _ (by omega)]; exact h22, hnK, by rw [h _ (by omega)]; exact h8, hK1, hK6, by rw [h _ (by omega)]; exact h16, hZ, by rw [h _ (by omega)]; exact h5, by rw [h _ (by omega)]; exact h6, hPD, hD⟩, ⟨by rw [h _ (by omega)]; exact k0, by rw [h _ (by omega)]; exact k11, by rw [h _ (by omega)]; exact k9, by rw [h _ (by omega)]; exact k17⟩, fun j hj => ?_, fun q => ?_, fun k hk => by rw [h _ (by omega)]; exact hsm k hk, LV_c (fun k hk => h k (by omega)) hlv⟩
  · obtain ⟨t, d, p, e1, e2, e3, z⟩ := hsg j hj
    exact ⟨t, d, p, by rw [h _ (by omega)]; exact e1, by rw [h _ (by omega)]; exact e2, by rw [h _ (by omega)]; exact e3, z⟩
  · rw [h _ (by omega)] at q
    obtain ⟨t, d, p, e1, e2, e3, z⟩ := hcap q
    exact ⟨t, d, p, by rw [h _ (by omega)]; exact e1, by rw [h _ (by omega)]; exact e2, by rw [h _ (by omega)]; exact e3, z⟩
/-- the class's rows, when what counts of them is the same -/
theorem MR_l {F T P G N F' T' P' G' N' a : Row} {S n : Nat} (hS : S ≤ 400) (hn : n ≤ 6) (hF : ∀ k, 3 ≤ k → k < 15 → F' k = F k) (hT : ∀ k, k < 10 → T' k = T k) (hP : ∀ k, k < 400 → P' k = P k) (hG : G' 1 = G 1) (hN : ∀ k, k < 24 → N' k = N k) (M : MR F T P G N a S n) : MR F' T' P' G' N' a S n := by
  obtain ⟨qT, qF, qG, qN, qP, qc1, qc0⟩ := M
  exact ⟨fun k hk => by rw [hT _ hk]; exact qT k hk, fun k hk => by rw [hF _ (by omega) (by omega)]; exact qF k hk, by rw [hG]; exact qG, fun k hk => by rw [hN _ (by omega)]; exact qN k hk, fun k hk => by rw [hP _ (by omega)]; exact qP k hk, fun q => ⟨fun k hk => by rw [hF _ (by omega) (by omega)]; exact (qc1 q).1 k hk, by rw [hF _ (by omega) (by omega)]; exact (qc1 q).2⟩, fun q => by rw [hF _ (by omega) (by omega)]; exact qc0 q⟩
