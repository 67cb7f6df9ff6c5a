theorem cg_eq {F T P G N : Row} {J : HI} {n K : Nat} (h8 : T 8 = nI K) (hK : 1 ≤ K ∧ K ≤ 6) (hG : G 1 = nI n) (hn : n ≤ 6) : f_X1_completeSegment (sM J F T P G N) = some (0, sM J (upd (upd F 8 (F 8 + 1)) 9 0) T P (upd G 1 (nI (n - (n - (K - 1)) + 1))) (upd (upd (upd (upd (nCuts N n (n - (K - 1))) (4 * (n - (n - (K - 1)))) (F 10)) (4 * (n - (n - (K - 1))) + 1) (F 11)) (4 * (n - (n - (K - 1))) + 2) (F 12)) (4 * (n - (n - (K - 1))) + 3) (F 13))) := by
  unfold f_X1_completeSegment
  rw [so8, bs]
  simp only [sM_2]
  rw [h8, l1, pk_sub hK.1, kl_eq (K := K - 1) (fun m hm => nI_leI (by omega) (by omega)) hG hn, bs]
  simp only [sM_1]
  have hG' : (if n ≤ K - 1 then G else upd G 1 (nI (K - 1))) 1 = nI (n - (n - (K - 1))) := by
    by_cases h : n ≤ K - 1
    · rw [if_pos h, hG]; congr 1; omega
    · rw [if_neg h, upd_s]; congr 1; omega
  rw [ap_eq hG' (by omega), bs]
  simp only [sM_1, sM_u1]
  rw [← l1]
  congr 3
  by_cases h : n ≤ K - 1
  · rw [if_pos h]
  · rw [if_neg h]
    funext k
    by_cases hk : k = 1
    · subst hk; rw [upd_s, upd_s]
    · rw [upd_n hk, upd_n hk, upd_n hk]
theorem MR_cmp {F T P G N b : Row} {S n Z K D Q : Nat} (R : RW b S n Z K D Q) (M : MR F T P G N b S n) (h : rDone b) : MR (upd (upd F 8 (F 8 + 1)) 9 0) T P (upd G 1 (nI (n - (n - (K - 1)) + 1))) (upd (upd (upd (upd (nCuts N n (n - (K - 1))) (4 * (n - (n - (K - 1)))) (F 10)) (4 * (n - (n - (K - 1))) + 1) (F 11)) (4 * (n - (n - (K - 1))) + 2) (F 12)) (4 * (n - (n - (K - 1))) + 3) (F 13)) (rCmp b n K) S (n - (n - (K - 1)) + 1) := by
  obtain ⟨⟨h10, hS, h22, hnK, h8, hK1, hK6, h16, hZ, h5, h6, hPD, hD⟩, -, -, -, -, -⟩ := R
  obtain ⟨hT, hF, hG, hN, hP, hc1, hc0⟩ := M
  have o : ∀ k, k < 15 ∨ 47 ≤ k → rCmp b n K k = b k := fun k hk => rC_o (by omega) ⟨hK1, hK6⟩ hk
  obtain ⟨hq, h14⟩ := hc1 h.1
  refine ⟨fun k hk => by rw [o _ (by omega)]; exact hT k hk, fun k hk => ?_, by rw [upd_s, rC_22], fun k hk => ?_, fun k hk => by rw [o _ (by omega)]; exact hP k hk, fun h17 => ?_, fun _ => ?_⟩
  · rcases (show k = 0 ∨ k = 1 ∨ k = 2 ∨ k = 3 ∨ k = 4 ∨ k = 5 ∨ k = 6 by omega) with rfl | rfl | rfl | rfl | rfl | rfl | rfl
    · rw [o _ (by omega), ← hF 0 (by decide)]; simp [upd]
    · rw [o _ (by omega), ← hF 1 (by decide)]; simp [upd]
    · rw [o _ (by omega), ← hF 2 (by decide)]; simp [upd]
    · rw [o _ (by omega), ← hF 3 (by decide)]; simp [upd]
    · rw [o _ (by omega), ← hF 4 (by decide)]; simp [upd]
    · have := hF 5 (by decide)
      rw [rC_15, ← this]; simp [upd]
    · rw [rC_16]; simp [upd]
  · generalize hm : n - (n - (K - 1)) = m at *
    have q0 := hq 0 (by decide)
    have q1 := hq 1 (by decide)
    have q2 := hq 2 (by decide)
    have q3 := hq 3 (by decide)
    have c0 := rC_n (b := b) (n := n) (K := K) (k := 0) (by decide)
    have c1 := rC_n (b := b) (n := n) (K := K) (k := 1) (by decide)
    have c2 := rC_n (b := b) (n := n) (K := K) (k := 2) (by decide)
    have c3 := rC_n (b := b) (n := n) (K := K) (k := 3) (by decide)
    rw [hm] at c0 c1 c2 c3
    by_cases k3 : k = 4 * m + 3
    · subst k3; rw [upd_s, show 23 + (4 * m + 3) = 23 + 4 * m + 3 by omega, c3]; exact q3
    · rw [upd_n k3]
      by_cases k2 : k = 4 * m + 2
      · subst k2; rw [upd_s, show 23 + (4 * m + 2) = 23 + 4 * m + 2 by omega, c2]; exact q2
      · rw [upd_n k2]
        by_cases k1 : k = 4 * m + 1
        · subst k1; rw [upd_s, show 23 + (4 * m + 1) = 23 + 4 * m + 1 by omega, c1]; exact q1
        · rw [upd_n k1]
          by_cases k0 : k = 4 * m
          · subst k0; rw [upd_s, show 23 + 4 * m = 23 + 4 * m + 0 by omega, c0]; exact q0
          · rw [upd_n k0, nCuts_seg _ _ _ k (by omega) (by omega), rC_s (by omega), hN _ (by omega)]
            congr 1
            omega
  · rw [rC_17] at h17; exact absurd h17 (by decide)
  · have h0 := h.2
    rw [← h14] at h0
    simp [upd, h0]
/-- one sample, on both sides -/
theorem step_sim {F T P G N a : Row} {v : Int32} {J : HI} {S n Z K D Q : Nat} (R : RX a S n Z K D Q) (M : MR F T P G N a S n) (hS : S < 400) (hv : -100 ≤ v ∧ v ≤ 100) :
    ∃ (F' P' G' N' : Row) (n' Z' : Nat), MR F' T P' G' N' (rCome a v S n K) (S + 1) n' ∧ RX (rCome a v S n K) (S + 1) n' Z' K D Q ∧
      ((f_X1_takeSample v (sM J F T P G N) = some (0, sM J F' T P' G' N') ∧ rCome a v S n K 15 = a 15) ∨ (∃ F1 P1 : Row, f_X1_takeSample v (sM J F T P G N) = some (1, sM J F1 T P1 G N) ∧ f_X1_completeSegment (sM J F1 T P1 G N) = some (0, sM J F' T P' G' N') ∧ rCome a v S n K 15 = a 15 + 1)) := by
  have hts := ts_eq (J := J) (v := v) R M hS
  have hM := MR_pre (v := v) R M hS
  have hR := RW_pre R hS hv
  by_cases hd : rDone (rPre a v S)
  · rw [sel_t hd] at hts
    have hb := hR.1
    refine ⟨_, _, _, _, _, _, by rw [rCome_t hd]; exact MR_cmp hR hM hd, by rw [rCome_t hd]; exact RX_cmp hR hd, Or.inr ⟨_, _, hts, cg_eq (n := n) (K := K) ?_ ⟨by omega, by omega⟩ ?_ (by omega), ?_⟩⟩
    · rw [hM.1 8 (by decide)]; exact hb.2.2.2.2.1
    · rw [hM.2.2.1]; exact hb.2.2.1
    · rw [rCome_t hd, rC_15, rPre_k (by omega)]
  · rw [sel_f hd] at hts
    exact ⟨_, _, _, _, n, _, by rw [rCome_f hd]; exact hM, by rw [rCome_f hd]; exact RX_of hR hd, Or.inl ⟨hts, by rw [rCome_f hd, rPre_k (by omega)]⟩⟩
