/-! ===== pure: out of the proof of the whole ===== -/
theorem rP_10 {a : Row} {v : Int32} {S : Nat} : rPre a v S 10 = nI (S + 1) := by simp [rPre, rPut]
theorem rP_11 {a : Row} {v : Int32} {S : Nat} : rPre a v S 11 = rDn a v := by simp [rPre, rPut, rMid, show ¬ 11 = 47 + S by omega]
theorem rP_12 {a : Row} {v : Int32} {S : Nat} : rPre a v S 12 = a 12 + sel (rFi a v) 1 0 := by simp [rPre, rPut, rMid, show ¬ 12 = 47 + S by omega]
theorem rP_13 {a : Row} {v : Int32} {S : Nat} : rPre a v S 13 = a 13 + sel (rBg a v) 1 0 := by simp [rPre, rPut, rMid, show ¬ 13 = 47 + S by omega]
theorem rP_14 {a : Row} {v : Int32} {S : Nat} : rPre a v S 14 = a 14 + sel (rFi a v ∧ ¬ rBg a v) 1 0 := by simp [rPre, rPut, rMid, show ¬ 14 = 47 + S by omega]
theorem rP_16 {a : Row} {v : Int32} {S : Nat} : rPre a v S 16 = a 16 + 1 := by simp [rPre, rPut, rMid, show ¬ 16 = 47 + S by omega]
theorem rP_18 {a : Row} {v : Int32} {S : Nat} : rPre a v S 18 = sel (rBg a v) (a 10) (a 18) := by simp [rPre, rPut, rMid, show ¬ 18 = 47 + S by omega]
theorem rP_19 {a : Row} {v : Int32} {S : Nat} : rPre a v S 19 = sel (rBg a v) (a 5) (a 19) := by simp [rPre, rPut, rMid, show ¬ 19 = 47 + S by omega]
theorem rP_20 {a : Row} {v : Int32} {S : Nat} : rPre a v S 20 = sel (rBg a v) (a 6) (a 20) := by simp [rPre, rPut, rMid, show ¬ 20 = 47 + S by omega]
theorem rP_21 {a : Row} {v : Int32} {S : Nat} : rPre a v S 21 = sel (rBg a v) (a 0) (a 21) := by simp [rPre, rPut, rMid, show ¬ 21 = 47 + S by omega]
theorem rP_s {a : Row} {v : Int32} {S k : Nat} (h : 23 ≤ k) (h2 : k ≠ 47 + S) : rPre a v S k = a k := by
  unfold rPre rPut rMid
  rw [if_neg (by omega), if_neg (by omega), if_neg h2, if_neg (by omega), if_neg (by omega), if_neg (by omega), if_neg (by omega), if_neg (by omega), if_neg (by omega), if_neg (by omega), if_neg (by omega), if_neg (by omega)]
theorem rP_v {a : Row} {v : Int32} {S : Nat} : rPre a v S (47 + S) = v := by
  unfold rPre rPut
  rw [if_neg (by omega), if_neg (by omega), if_pos rfl]
theorem MR_pre {F T P G N a : Row} {v : Int32} {S n Z K D Q : Nat} (R : RX a S n Z K D Q) (M : MR F T P G N a S n) (hS : S < 400) : MR (fPre F T a v S) T (upd P S v) G N (rPre a v S) (S + 1) n := by
  obtain ⟨⟨h10, -, h22, hnK, h8, hK1, hK6, h16, hZ, h5, h6, hPD, hD⟩, ⟨k0, k11, k9, k17⟩, -, hcap, -, -⟩ := R
  obtain ⟨hT, hF, hG, hN, hP, hc1, hc0⟩ := M
  have f3 : F 3 = a 10 := hF 0 (by decide)
  refine ⟨fun k hk => by rw [rPre_k (Or.inl hk)]; exact hT k hk, fun k hk => ?_, by rw [rPre_k (by omega)]; exact hG, fun k hk => by rw [rP_s (by omega) (by omega)]; exact hN k hk, fun k hk => ?_, fun h17 => ?_, fun h17 => ?_⟩
  · rcases (show k = 0 ∨ k = 1 ∨ k = 2 ∨ k = 3 ∨ k = 4 ∨ k = 5 ∨ k = 6 by omega) with rfl | rfl | rfl | rfl | rfl | rfl | rfl
    · rw [rP_10]; simp [fPre]
    · rw [rP_11]; simp [fPre]
    · rw [rP_12, ← hF 2 (by decide)]; simp [fPre]
    · rw [rP_13, ← hF 3 (by decide)]; simp [fPre]
    · rw [rP_14, ← hF 4 (by decide)]; simp [fPre]
    · rw [rPre_k (by omega), ← hF 5 (by decide)]; simp [fPre]
    · rw [rP_16, ← hF 6 (by decide)]; simp [fPre]
  · by_cases hkS : k = S
    · subst hkS; rw [rP_v, upd_s]
    · rw [rP_s (by omega) (by omega), upd_n hkS]; exact hP k (by omega)
  · by_cases hB : rBg a v
    · refine ⟨fun k hk => ?_, ?_⟩
      · rcases (show k = 0 ∨ k = 1 ∨ k = 2 ∨ k = 3 by omega) with rfl | rfl | rfl | rfl
        · rw [rP_18, sel_t hB]; simp [fPre, sel_t hB, f3]
        · rw [rP_19, sel_t hB, ← hT 5 (by decide)]; simp [fPre, sel_t hB]
        · rw [rP_20, sel_t hB, ← hT 6 (by decide)]; simp [fPre, sel_t hB]
        · rw [rP_21, sel_t hB, ← hT 0 (by decide)]; simp [fPre, sel_t hB]
      · have hPS : Q ≤ Z := by
          have := hB.2.2.1.1
          rw [h6, h16] at this
          exact (nI_leI (by omega) (by omega)).mp this
        rw [rP_lk, sel_t hB, sel_t hB, sel_t hB]
        have e1 : fPre F T a v S 14 = T 5 - T 6 - 1 := by simp [fPre, sel_t hB]
        rw [e1, hT 5 (by decide), hT 6 (by decide), h10, h6, h5, pk_sub (show Q ≤ D by omega), l1, pk_sub (show 1 ≤ D - Q by omega), pk_sub (show Q ≤ S by omega), nI_add, pk_sub (by omega)]
        congr 1
        omega
    · rw [rP17, sel_f hB] at h17
      obtain ⟨t, d, p, a18, a19, a20, hpd, hd32, hpt, htS, hcS⟩ := hcap h17
      obtain ⟨hq, h14⟩ := hc1 h17
      refine ⟨fun k hk => ?_, ?_⟩
      · rcases (show k = 0 ∨ k = 1 ∨ k = 2 ∨ k = 3 by omega) with rfl | rfl | rfl | rfl
        · rw [rP_18, sel_f hB, ← hq 0 (by decide)]; simp [fPre, sel_f hB]
        · rw [rP_19, sel_f hB, ← hq 1 (by decide)]; simp [fPre, sel_f hB]
        · rw [rP_20, sel_f hB, ← hq 2 (by decide)]; simp [fPre, sel_f hB]
        · rw [rP_21, sel_f hB, ← hq 3 (by decide)]; simp [fPre, sel_f hB]
      · rw [rP_lk, sel_f hB, sel_f hB, sel_f hB]
        have e1 : fPre F T a v S 14 = F 14 - 1 := by simp [fPre, sel_f hB, h17]
        rw [e1, h14, lk_n a18 a19 a20 h10 hpt (by omega), a18, a19, a20, l1, pk_sub hpt, nI_add, pk_sub (by omega), pk_sub (by omega)]
        congr 1
        omega
  · rw [rP17] at h17
    by_cases hB : rBg a v
    · rw [sel_t hB] at h17; exact absurd h17 (by decide)
    · rw [sel_f hB] at h17
      simp [fPre, sel_f hB, h17, hc0 h17]
/-- what holds of a row when a sample has come, ahead of the segment's end -/
def Cw (a : Row) (S : Nat) : Prop := ∃ t d p : Nat, a 18 = nI t ∧ a 19 = nI d ∧ a 20 = nI p ∧ p < d ∧ d ≤ 32 ∧ p ≤ t ∧ t < S ∧ S + p ≤ t + d
def RW (a : Row) (S n Z K D P : Nat) : Prop :=
  (a 10 = nI S ∧ S ≤ 400 ∧ a 22 = nI n ∧ n ≤ K ∧ a 8 = nI K ∧ 1 ≤ K ∧ K ≤ 6 ∧ a 16 = nI Z ∧ Z ≤ S ∧ a 5 = nI D ∧ a 6 = nI P ∧ P < D ∧ D ≤ 32) ∧
  ((a 0 = 0 ∨ a 0 = 1 ∨ a 0 = 2) ∧ (a 11 = 0 ∨ a 11 = 1 ∨ a 11 = 2) ∧ (a 9 = 0 ∨ a 9 = 1) ∧ (a 17 = 0 ∨ a 17 = 1)) ∧
  (∀ j, j < n → Sg a (23 + 4 * j) S) ∧ (a 17 = 1 → Cw a S) ∧ (∀ k, k < S → -100 ≤ a (47 + k) ∧ a (47 + k) ≤ 100) ∧
  LV a
theorem RW_pre {a : Row} {v : Int32} {S n Z K D Q : Nat} (R : RX a S n Z K D Q) (hS : S < 400) (hv : -100 ≤ v ∧ v ≤ 100) : RW (rPre a v S) (S + 1) n (Z + 1) K D Q := by
  obtain ⟨⟨h10, -, h22, hnK, h8, hK1, hK6, h16, hZ, h5, h6, hPD, hD⟩, ⟨k0, k11, k9, k17⟩, hsg, hcap, hsm, hlv⟩ := R
  refine ⟨⟨rP_10, by omega, by rw [rPre_k (by omega)]; exact h22, hnK, by rw [rPre_k (by omega)]; exact h8, hK1, hK6, by rw [rP_16, h16, l1, nI_add], by omega, by rw [rPre_k (by omega)]; exact h5, by rw [rPre_k (by omega)]; exact h6, hPD, hD⟩, ⟨by rw [rPre_k (by omega)]; exact k0, by rw [rP_11]; exact dN_in k11, by rw [rPre_k (by omega)]; exact k9, ?_⟩, fun j hj => ?_, fun h17 => ?_, fun k hk => ?_, LV_c (fun k hk => rPre_k (Or.inl hk)) hlv⟩
  · rw [rP17]
    by_cases hB : rBg a v
    · rw [sel_t hB]; exact Or.inr rfl
    · rw [sel_f hB]; exact k17
  · obtain ⟨t, d, p, e1, e2, e3, q1, q2, q3, q4⟩ := hsg j hj
    exact ⟨t, d, p, by rw [rP_s (by omega) (by omega)]; exact e1, by rw [rP_s (by omega) (by omega)]; exact e2, by rw [rP_s (by omega) (by omega)]; exact e3, q1, q2, q3, by omega⟩
  · by_cases hB : rBg a v
    · have hPS : Q ≤ Z := by
        have := hB.2.2.1.1
        rw [h6, h16] at this
        exact (nI_leI (by omega) (by omega)).mp this
      exact ⟨S, D, Q, by rw [rP_18, sel_t hB, h10], by rw [rP_19, sel_t hB, h5], by rw [rP_20, sel_t hB, h6], hPD, hD, by omega, by omega, by omega⟩
    · rw [rP17, sel_f hB] at h17
      obtain ⟨t, d, p, a18, a19, a20, q1, q2, q3, q4, q5⟩ := hcap h17
      exact ⟨t, d, p, by rw [rP_18, sel_f hB, a18], by rw [rP_19, sel_f hB, a19], by rw [rP_20, sel_f hB, a20], q1, q2, q3, by omega, by omega⟩
  · by_cases hkS : k = S
    · subst hkS; rw [rP_v]; exact hv
    · rw [rP_s (by omega) (by omega)]; exact hsm k (by omega)
theorem RX_of {b : Row} {S n Z K D Q : Nat} (R : RW b S n Z K D Q) (h : ¬ rDone b) : RX b S n Z K D Q := by
  obtain ⟨hb, hk, hsg, hcap, hsm, hlv⟩ := R
  refine ⟨hb, hk, hsg, fun h17 => ?_, hsm, hlv⟩
  obtain ⟨t, d, p, a18, a19, a20, q1, q2, q3, q4, q5⟩ := hcap h17
  refine ⟨t, d, p, a18, a19, a20, q1, q2, q3, q4, ?_⟩
  rcases Nat.lt_or_ge (S + p) (t + d) with q | q
  · exact q
  · exact absurd ⟨h17, by rw [lk_n a18 a19 a20 hb.1 q3 (by omega), show t + d - p - S = 0 by omega]; rfl⟩ h
theorem rC_22 {b : Row} {n K : Nat} : rCmp b n K 22 = nI (n - (n - (K - 1)) + 1) := by simp [rCmp]
theorem rC_17 {b : Row} {n K : Nat} : rCmp b n K 17 = 0 := by simp [rCmp]
theorem rC_16 {b : Row} {n K : Nat} : rCmp b n K 16 = 0 := by simp [rCmp]
theorem rC_15 {b : Row} {n K : Nat} : rCmp b n K 15 = b 15 + 1 := by simp [rCmp]
theorem rC_o {b : Row} {n K k : Nat} (hn : n ≤ 6) (hK : 1 ≤ K ∧ K ≤ 6) (h : k < 15 ∨ 47 ≤ k) : rCmp b n K k = b k := by
  unfold rCmp
  rw [if_neg (by omega), if_neg (by omega), if_neg (by omega), if_neg (by omega), if_neg (by omega), rCuts_lo _ _ _ k (by omega) hn]
theorem rC_s {b : Row} {n K k : Nat} (h : k < 4 * (n - (n - (K - 1)))) : rCmp b n K (23 + k) = b (23 + k + 4 * (n - (K - 1))) := by
  unfold rCmp
  rw [if_neg (by omega), if_neg (by omega), if_neg (by omega), if_neg (by omega), if_neg (by omega), rCuts_seg _ _ _ k (by omega) (by omega)]
theorem rC_n {b : Row} {n K k : Nat} (h : k < 4) : rCmp b n K (23 + 4 * (n - (n - (K - 1))) + k) = b (18 + k) := by
  unfold rCmp
  rw [if_neg (by omega), if_neg (by omega), if_neg (by omega), if_neg (by omega), if_pos (by omega)]
  congr 1
  omega
theorem RX_cmp {b : Row} {S n Z K D Q : Nat} (R : RW b S n Z K D Q) (h : rDone b) : RX (rCmp b n K) S (n - (n - (K - 1)) + 1) 0 K D Q := by
  obtain ⟨⟨h10, hS, h22, hnK, h8, hK1, hK6, h16, hZ, h5, h6, hPD, hD⟩, ⟨k0, k11, k9, k17⟩, hsg, hcap, hsm, hlv⟩ := R
  have o : ∀ k, k < 15 ∨ 47 ≤ k → rCmp b n K k = b k := fun k hk => rC_o (by omega) ⟨hK1, hK6⟩ hk
  refine ⟨⟨by rw [o _ (by omega)]; exact h10, hS, rC_22, by omega, by rw [o _ (by omega)]; exact h8, hK1, hK6, rC_16, by omega, by rw [o _ (by omega)]; exact h5, by rw [o _ (by omega)]; exact h6, hPD, hD⟩, ⟨by rw [o _ (by omega)]; exact k0, by rw [o _ (by omega)]; exact k11, by rw [o _ (by omega)]; exact k9, Or.inl rC_17⟩, fun j hj => ?_, fun h17 => ?_, fun k hk => by rw [o _ (by omega)]; exact hsm k hk, LV_c (fun k hk => o k (Or.inl (by omega))) hlv⟩
  · by_cases hl : j < n - (n - (K - 1))
    · obtain ⟨t, d, p, e1, e2, e3, q1, q2, q3, q4⟩ := hsg (j + (n - (K - 1))) (by omega)
      refine ⟨t, d, p, ?_, ?_, ?_, q1, q2, q3, q4⟩
      · rw [rC_s (by omega), ← e1]; congr 1; omega
      · rw [show 23 + 4 * j + 1 = 23 + (4 * j + 1) by omega, rC_s (by omega), ← e2]; congr 1; omega
      · rw [show 23 + 4 * j + 2 = 23 + (4 * j + 2) by omega, rC_s (by omega), ← e3]; congr 1; omega
    · obtain rfl : j = n - (n - (K - 1)) := by omega
      obtain ⟨t, d, p, a18, a19, a20, q1, q2, q3, q4, q5⟩ := hcap h.1
      refine ⟨t, d, p, ?_, ?_, ?_, q1, q2, q3, ?_⟩
      · have := rC_n (b := b) (n := n) (K := K) (k := 0) (by decide)
        rw [Nat.add_zero] at this
        rw [this]; exact a18
      · rw [rC_n (by decide)]; exact a19
      · rw [rC_n (by decide)]; exact a20
      · have h0 := h.2
        rw [lk_n a18 a19 a20 h10 q3 (by omega)] at h0
        have := (nI_eq (b := 0) (by omega) (by decide)).mp h0
        omega
  · rw [rC_17] at h17; exact absurd h17 (by decide)
theorem cg_eq {F T P G N : Row} {J : HI} {n K : Nat} (h8 : T 8 = nI K) (hK : 1 ≤ K ∧ K ≤ 6) (hG : G 1 = nI n) (hn : n ≤ 6) : f_X1_completeSegment (sM J F T P G N) = some (0, sM J (upd (upd F 8 (F 8 + 1)) 9 0) T P (upd G 1 (nI (n - (n - (K - 1)) + 1))) (upd (upd (upd (upd (nCuts N n (n - (K - 1))) (4 * (n - (n - (K - 1)))) (F 10)) (4 * (n - (n - (K - 1))) + 1) (F 11)) (4 * (n - (n - (K - 1))) + 2) (F 12)) (4 * (n - (n - (K - 1))) + 3) (F 13))) := by
  unfold f_X1_completeSegment
  rw [so8, bs]
  simp only [sM_2]
  rw [h8, l1, pk_sub hK.1, kl_eq (K := K - 1) (fun m hm => nI_leI (by omega) (by omega)) hG hn, bs]
  simp only [sM_1]
  have hG' : (if n ≤ K - 1 then G else upd G 1 (nI (K - 1))) 1 = nI (n - (n - (K - 1))) := by
    by_cases h : n ≤ K - 1
    · rw [if_pos h, hG]; congr 1; omega
    · rw [if_neg h, upd_s]; congr 1; omega
  rw [ap_eq hG' (by omega), bs]
  simp only [sM_1, sM_u1]
  rw [← l1]
  congr 3
  by_cases h : n ≤ K - 1
  · rw [if_pos h]
  · rw [if_neg h]
    funext k
    by_cases hk : k = 1
    · subst hk; rw [upd_s, upd_s]
    · rw [upd_n hk, upd_n hk, upd_n hk]
theorem MR_cmp {F T P G N b : Row} {S n Z K D Q : Nat} (R : RW b S n Z K D Q) (M : MR F T P G N b S n) (h : rDone b) : MR (upd (upd F 8 (F 8 + 1)) 9 0) T P (upd G 1 (nI (n - (n - (K - 1)) + 1))) (upd (upd (upd (upd (nCuts N n (n - (K - 1))) (4 * (n - (n - (K - 1)))) (F 10)) (4 * (n - (n - (K - 1))) + 1) (F 11)) (4 * (n - (n - (K - 1))) + 2) (F 12)) (4 * (n - (n - (K - 1))) + 3) (F 13)) (rCmp b n K) S (n - (n - (K - 1)) + 1) := by
  obtain ⟨⟨h10, hS, h22, hnK, h8, hK1, hK6, h16, hZ, h5, h6, hPD, hD⟩, -, -, -, -, -⟩ := R
  obtain ⟨hT, hF, hG, hN, hP, hc1, hc0⟩ := M
  have o : ∀ k, k < 15 ∨ 47 ≤ k → rCmp b n K k = b k := fun k hk => rC_o (by omega) ⟨hK1, hK6⟩ hk
  obtain ⟨hq, h14⟩ := hc1 h.1
  refine ⟨fun k hk => by rw [o _ (by omega)]; exact hT k hk, fun k hk => ?_, by rw [upd_s, rC_22], fun k hk => ?_, fun k hk => by rw [o _ (by omega)]; exact hP k hk, fun h17 => ?_, fun _ => ?_⟩
  · rcases (show k = 0 ∨ k = 1 ∨ k = 2 ∨ k = 3 ∨ k = 4 ∨ k = 5 ∨ k = 6 by omega) with rfl | rfl | rfl | rfl | rfl | rfl | rfl
    · rw [o _ (by omega), ← hF 0 (by decide)]; simp [upd]
    · rw [o _ (by omega), ← hF 1 (by decide)]; simp [upd]
    · rw [o _ (by omega), ← hF 2 (by decide)]; simp [upd]
    · rw [o _ (by omega), ← hF 3 (by decide)]; simp [upd]
    · rw [o _ (by omega), ← hF 4 (by decide)]; simp [upd]
    · have := hF 5 (by decide)
      rw [rC_15, ← this]; simp [upd]
    · rw [rC_16]; simp [upd]
  · generalize hm : n - (n - (K - 1)) = m at *
    have q0 := hq 0 (by decide)
    have q1 := hq 1 (by decide)
    have q2 := hq 2 (by decide)
    have q3 := hq 3 (by decide)
    have c0 := rC_n (b := b) (n := n) (K := K) (k := 0) (by decide)
    have c1 := rC_n (b := b) (n := n) (K := K) (k := 1) (by decide)
    have c2 := rC_n (b := b) (n := n) (K := K) (k := 2) (by decide)
    have c3 := rC_n (b := b) (n := n) (K := K) (k := 3) (by decide)
    rw [hm] at c0 c1 c2 c3
    by_cases k3 : k = 4 * m + 3
    · subst k3; rw [upd_s, show 23 + (4 * m + 3) = 23 + 4 * m + 3 by omega, c3]; exact q3
    · rw [upd_n k3]
      by_cases k2 : k = 4 * m + 2
      · subst k2; rw [upd_s, show 23 + (4 * m + 2) = 23 + 4 * m + 2 by omega, c2]; exact q2
      · rw [upd_n k2]
        by_cases k1 : k = 4 * m + 1
        · subst k1; rw [upd_s, show 23 + (4 * m + 1) = 23 + 4 * m + 1 by omega, c1]; exact q1
        · rw [upd_n k1]
          by_cases k0 : k = 4 * m
          · subst k0; rw [upd_s, show 23 + 4 * m = 23 + 4 * m + 0 by omega, c0]; exact q0
          · rw [upd_n k0, nCuts_seg _ _ _ k (by omega) (by omega), rC_s (by omega), hN _ (by omega)]
            congr 1
            omega
  · rw [rC_17] at h17; exact absurd h17 (by decide)
  · have h0 := h.2
    rw [← h14] at h0
    simp [upd, h0]
/-- one sample, on both sides -/
theorem step_sim {F T P G N a : Row} {v : Int32} {J : HI} {S n Z K D Q : Nat} (R : RX a S n Z K D Q) (M : MR F T P G N a S n) (hS : S < 400) (hv : -100 ≤ v ∧ v ≤ 100) :
    ∃ (F' P' G' N' : Row) (n' Z' : Nat), MR F' T P' G' N' (rCome a v S n K) (S + 1) n' ∧ RX (rCome a v S n K) (S + 1) n' Z' K D Q ∧
      ((f_X1_takeSample v (sM J F T P G N) = some (0, sM J F' T P' G' N') ∧ rCome a v S n K 15 = a 15) ∨ (∃ F1 P1 : Row, f_X1_takeSample v (sM J F T P G N) = some (1, sM J F1 T P1 G N) ∧ f_X1_completeSegment (sM J F1 T P1 G N) = some (0, sM J F' T P' G' N') ∧ rCome a v S n K 15 = a 15 + 1)) := by
  have hts := ts_eq (J := J) (v := v) R M hS
  have hM := MR_pre (v := v) R M hS
  have hR := RW_pre R hS hv
  by_cases hd : rDone (rPre a v S)
  · rw [sel_t hd] at hts
    have hb := hR.1
    refine ⟨_, _, _, _, _, _, by rw [rCome_t hd]; exact MR_cmp hR hM hd, by rw [rCome_t hd]; exact RX_cmp hR hd, Or.inr ⟨_, _, hts, cg_eq (n := n) (K := K) ?_ ⟨by omega, by omega⟩ ?_ (by omega), ?_⟩⟩
    · rw [hM.1 8 (by decide)]; exact hb.2.2.2.2.1
    · rw [hM.2.2.1]; exact hb.2.2.1
    · rw [rCome_t hd, rC_15, rPre_k (by omega)]
  · rw [sel_f hd] at hts
    exact ⟨_, _, _, _, n, _, by rw [rCome_f hd]; exact hM, by rw [rCome_f hd]; exact RX_of hR hd, Or.inl ⟨hts, by rw [rCome_f hd, rPre_k (by omega)]⟩⟩
theorem acc1 (x h : Int32) : x - h + 1 = x + 1 - h := by
  rw [Int32.sub_eq_add_neg, Int32.sub_eq_add_neg, Int32.add_assoc, Int32.add_assoc, Int32.add_comm (-h) 1]
theorem sub_self32 (x : Int32) : (0 : Int32) = x - x := by
  rw [Int32.sub_self]
/-- errorOfSamples and the reference's tests -/
def okF (v t : Int32) (a10 : Int32) : Int32 := if -100 ≤ v ∧ v ≤ 100 then (if 1 ≤ t ∧ t ≤ 100 then (if a10 + t ≤ 400 then 0 else -4) else -2) else -2
theorem es_eq {F T P G N : Row} {J : HI} {v t : Int32} : f_X1_errorOfSamples v t (sM J F T P G N) = some (okF v t (F 3), sM J F T P G N) := by
  unfold f_X1_errorOfSamples okF
  have e1 : (-100 ≤ v) ↔ ¬ v < -100 := Int32.not_lt.symm
  have e2 : (v ≤ 100) ↔ ¬ 100 < v := Int32.not_lt.symm
  have e3 : (1 ≤ t) ↔ ¬ t < 1 := Int32.not_lt.symm
  simp only [sM_1]
  by_cases h1 : v < -100
  · rw [if_pos h1, if_neg (by simp [e1, h1])]
  · rw [if_neg h1]
    by_cases h2 : 100 < v
    · rw [if_pos h2, if_neg (by simp [e2, h2])]
    · rw [if_neg h2, if_pos (show -100 ≤ v ∧ v ≤ 100 from ⟨e1.mpr h1, e2.mpr h2⟩)]
      by_cases h3 : t < 1
      · rw [if_pos h3, if_neg (by simp [e3, h3])]
      · rw [if_neg h3]
        by_cases h4 : t ≤ 100
        · rw [if_pos h4, if_pos (show 1 ≤ t ∧ t ≤ 100 from ⟨e3.mpr h3, h4⟩)]
          by_cases h5 : F 3 + t ≤ 400
          · rw [if_pos h5, if_pos h5]
          · rw [if_neg h5, if_neg h5]
        · rw [if_neg h4, if_neg (fun q => h4 q.2)]
theorem ok_0 {v t : Int32} {S : Nat} (hS : S ≤ 400) (h : okF v t (nI S) = 0) : (-100 ≤ v ∧ v ≤ 100) ∧ ∃ k : Nat, t = nI k ∧ 1 ≤ k ∧ k ≤ 100 ∧ S + k ≤ 400 := by
  unfold okF at h
  by_cases h1 : -100 ≤ v ∧ v ≤ 100
  · rw [if_pos h1] at h
    by_cases h2 : 1 ≤ t ∧ t ≤ 100
    · rw [if_pos h2] at h
      have h0 : ¬ t < 0 := by
        have := h2.1
        rw [Int32.le_iff_toInt_le] at this
        rw [Int32.lt_iff_toInt_lt]
        have e1 : (1 : Int32).toInt = 1 := by decide
        have e0 : (0 : Int32).toInt = 0 := by decide
        omega
      obtain ⟨k, hk, rfl⟩ := nI_of2 (M := 100) (n := 100) (by decide) h0 h2.2
      by_cases h3 : nI S + nI k ≤ 400
      · refine ⟨h1, k, rfl, ?_, hk, ?_⟩
        · have := h2.1
          rw [l1, nI_leI (by decide) (by omega)] at this
          exact this
        · rw [nI_add, l400, nI_leI (by omega) (by decide)] at h3
          exact h3
      · rw [if_neg h3] at h; exact absurd h (by decide)
    · rw [if_neg h2] at h; exact absurd h (by decide)
  · rw [if_neg h1] at h; exact absurd h (by decide)
