/-! ===== pure: segment, sampleOf, sample, count ===== -/
theorem l1000 {I : HI} {x : Int32} {f : HI → Option (Int32 × HI)} (h : f I = some (x, I)) : ((f I).bind fun q => some (q.1, q.2)) = some (x, I) := by rw [h, bs]
theorem seg_k {I : HI} {S n Z K D Q j k : Nat} (R : RX (I 58) S n Z K D Q) (M : MR (I 1) (I (1 + 1)) (I (1 + 2)) (I (1 + 3)) (I (1 + 4)) (I 58) S n) (hj : j < n) (hk : k < 4) : ((f_X3_numberOf (nI j) (nI k) I).bind fun q => some (q.1, q.2)) = some (I 58 (23 + 4 * j + k), I) ∧ ((f_X6_of (nI j) (nI k) I).bind fun q => some (q.1, q.2)) = some (I 58 (23 + 4 * j + k), I) := by
  have h6 : n ≤ 6 := Nat.le_trans R.1.2.2.2.1 R.1.2.2.2.2.2.2.1
  constructor
  · rw [no_in (by omega), bs, show I 5 (4 * j + k) = I 58 (23 + (4 * j + k)) from M.2.2.2.1 _ (by omega), Nat.add_assoc]
  · rw [of_eq (by omega) hk, bs]
theorem segment_law (v1 v2 : Int32) {I : HI} (G : Good I) : Ok (f_X5_segment v1 v2) (f_X6_segment v1 v2) I := by
  obtain ⟨⟨S, n, Z, K, D, Q, R, M⟩, -⟩ := id G
  have h22 : I 58 22 = nI n := R.1.2.2.1
  have h6 : n ≤ 6 := Nat.le_trans R.1.2.2.2.1 R.1.2.2.2.2.2.2.1
  have h4 : I 4 1 = nI n := M.2.2.1.trans h22
  unfold Ok f_X5_segment f_X6_segment
  by_cases hin : 0 ≤ v1 ∧ v1 < nI n
  · obtain ⟨j, hj, rfl⟩ := in_n (by omega) hin
    obtain ⟨t, d, p, b, sg⟩ := seg_of R M hj
    have key : ∃ r : Int32, (if v2 = (0 : Int32) then (f_X3_numberOf (nI j) v2 I).bind fun q9 => some (q9.1, q9.2) else if v2 = (1 : Int32) then (f_X3_numberOf (nI j) v2 I).bind fun q11 => some (q11.1, q11.2) else if v2 = (2 : Int32) then (f_X3_numberOf (nI j) v2 I).bind fun q13 => some (q13.1, q13.2) else if v2 = (3 : Int32) then (f_X3_numberOf (nI j) v2 I).bind fun q15 => some (q15.1, q15.2) else if v2 = (4 : Int32) then (f_X1_leastOf (nI j) I).bind fun q17 => some (q17.1 + (1000 : Int32), q17.2) else if v2 = (5 : Int32) then (f_X1_greatestOf (nI j) I).bind fun q19 => some (q19.1 + (1000 : Int32), q19.2) else if v2 = (6 : Int32) then (f_X1_sumOf (nI j) I).bind fun q21 => some (q21.1 + (10000 : Int32), q21.2) else if v2 = (7 : Int32) then (f_X1_upsOf (nI j) I).bind fun q23 => some (q23.1, q23.2) else some ((-2 : Int32), I)) = some (r, I) ∧
        (if v2 = (0 : Int32) then (f_X6_of (nI j) v2 I).bind fun q9 => some (q9.1, q9.2) else if v2 = (1 : Int32) then (f_X6_of (nI j) v2 I).bind fun q11 => some (q11.1, q11.2) else if v2 = (2 : Int32) then (f_X6_of (nI j) v2 I).bind fun q13 => some (q13.1, q13.2) else if v2 = (3 : Int32) then (f_X6_of (nI j) v2 I).bind fun q15 => some (q15.1, q15.2) else if v2 = (4 : Int32) then (f_X6_least (nI j) I).bind fun q17 => some (q17.1 + (1000 : Int32), q17.2) else if v2 = (5 : Int32) then (f_X6_greatest (nI j) I).bind fun q19 => some (q19.1 + (1000 : Int32), q19.2) else if v2 = (6 : Int32) then (f_X6_sumOf (nI j) I).bind fun q21 => some (q21.1 + (10000 : Int32), q21.2) else if v2 = (7 : Int32) then (f_X6_risesIn (nI j) I).bind fun q23 => some (q23.1, q23.2) else some ((-2 : Int32), I)) = some (r, I) := by
      by_cases c0 : v2 = 0
      · rw [if_pos c0, if_pos c0, c0]
        exact ⟨_, seg_k (k := 0) R M hj (by decide)⟩
      rw [if_neg c0, if_neg c0]
      by_cases c1 : v2 = 1
      · rw [if_pos c1, if_pos c1, c1]
        exact ⟨_, seg_k (k := 1) R M hj (by decide)⟩
      rw [if_neg c1, if_neg c1]
      by_cases c2 : v2 = 2
      · rw [if_pos c2, if_pos c2, c2]
        exact ⟨_, seg_k (k := 2) R M hj (by decide)⟩
      rw [if_neg c2, if_neg c2]
      by_cases c3 : v2 = 3
      · rw [if_pos c3, if_pos c3, c3]
        exact ⟨_, seg_k (k := 3) R M hj (by decide)⟩
      rw [if_neg c3, if_neg c3]
      by_cases c4 : v2 = 4
      · rw [if_pos c4, if_pos c4]
        obtain ⟨y, e1, e2⟩ := least_sim sg
        rw [e1, e2, bs]
        exact ⟨_, rfl, rfl⟩
      rw [if_neg c4, if_neg c4]
      by_cases c5 : v2 = 5
      · rw [if_pos c5, if_pos c5]
        obtain ⟨y, e1, e2⟩ := greatest_sim sg
        rw [e1, e2, bs]
        exact ⟨_, rfl, rfl⟩
      rw [if_neg c5, if_neg c5]
      by_cases c6 : v2 = 6
      · rw [if_pos c6, if_pos c6]
        obtain ⟨y, e1, e2⟩ := sum_sim sg
        rw [e1, e2, bs]
        exact ⟨_, rfl, rfl⟩
      rw [if_neg c6, if_neg c6]
      by_cases c7 : v2 = 7
      · rw [if_pos c7, if_pos c7]
        obtain ⟨y, e1, e2⟩ := ups_sim sg
        rw [e1, e2, bs]
        exact ⟨_, rfl, rfl⟩
      rw [if_neg c7, if_neg c7]
      exact ⟨_, rfl, rfl⟩
    obtain ⟨r, e1, e2⟩ := key
    refine ⟨r, I, I, ?_, ?_, G⟩
    · rw [has_in (n := n) h4 (by omega) hj, bs, if_neg (show ¬ (1 : Int32) = 0 by decide)]
      exact e1
    · rw [isSegment_eq (n := n) h22 (by omega), if_pos hin, bs, if_neg (show ¬ (1 : Int32) = 0 by decide)]
      exact e2
  · refine ⟨-1, I, I, ?_, ?_, G⟩
    · rw [has_out (by rw [h4]; exact hin), bs, if_pos rfl]
    · rw [isSegment_eq (n := n) h22 (by omega), if_neg hin, bs, if_pos rfl]
theorem sampleOf_law (v1 v2 : Int32) {I : HI} (G : Good I) : Ok (f_X5_sampleOf v1 v2) (f_X6_sampleOf v1 v2) I := by
  obtain ⟨⟨S, n, Z, K, D, Q, R, M⟩, -⟩ := id G
  have h22 : I 58 22 = nI n := R.1.2.2.1
  have h6 : n ≤ 6 := Nat.le_trans R.1.2.2.2.1 R.1.2.2.2.2.2.2.1
  have h4 : I 4 1 = nI n := M.2.2.1.trans h22
  unfold Ok f_X5_sampleOf f_X6_sampleOf
  by_cases hin : 0 ≤ v1 ∧ v1 < nI n
  · obtain ⟨j, hj, rfl⟩ := in_n (by omega) hin
    obtain ⟨t, d, p, b, sg⟩ := seg_of R M hj
    have z := sg.2.2.1
    rw [has_in (n := n) h4 (by omega) hj, bs, if_neg (show ¬ (1 : Int32) = 0 by decide)]
    dsimp only
    by_cases h2 : 0 ≤ v2 ∧ v2 < nI d
    · obtain ⟨i, hi, rfl⟩ := in_n (by omega) h2
      refine ⟨I 58 (47 + (b + i)) + 1000, I, I, ?_, ?_, G⟩
      · rw [if_neg (nI_pos (by omega)), cn_1 sg, bs, if_pos h2.2]
        dsimp only
        rw [cfirst sg, bs]
        dsimp only
        rw [cs_at sg (by omega), bs]
      · rw [isSegment_eq (n := n) h22 (by omega), if_pos hin, bs, if_neg (show ¬ (1 : Int32) = 0 by decide)]
        dsimp only
        rw [ro_1 sg, bs]
        dsimp only
        rw [in_to (by omega), if_pos h2, bs, if_neg (show ¬ (1 : Int32) = 0 by decide)]
        dsimp only
        rw [rs_at sg (by omega), bs]
    · refine ⟨-1, I, I, ?_, ?_, G⟩
      · by_cases c : v2 < 0
        · rw [if_pos c]
        · rw [if_neg c, cn_1 sg, bs, if_neg (fun q => h2 ⟨Int32.not_lt.mp c, q⟩)]
      · rw [isSegment_eq (n := n) h22 (by omega), if_pos hin, bs, if_neg (show ¬ (1 : Int32) = 0 by decide)]
        dsimp only
        rw [ro_1 sg, bs]
        dsimp only
        rw [in_to (by omega), if_neg h2, bs, if_pos rfl]
  · refine ⟨-1, I, I, ?_, ?_, G⟩
    · rw [has_out (by rw [h4]; exact hin), bs, if_pos rfl]
    · rw [isSegment_eq (n := n) h22 (by omega), if_neg hin, bs, if_pos rfl]
theorem sample_law (v : Int32) {I : HI} (G : Good I) : Ok (f_X5_sample v) (f_X6_sample v) I := by
  obtain ⟨⟨S, n, Z, K, D, Q, R, M⟩, -⟩ := id G
  have h10 : I 58 10 = nI S := R.1.1
  have hS : S ≤ 400 := R.1.2.1
  have h3 : I 1 3 = nI S := (M.2.1 0 (by decide)).trans h10
  unfold Ok f_X5_sample f_X6_sample
  by_cases hin : 0 ≤ v ∧ v < nI S
  · obtain ⟨j, hj, rfl⟩ := in_n (by omega) hin
    refine ⟨I 58 (47 + j) + 1000, I, I, ?_, ?_, G⟩
    · rw [if_neg (nI_pos (by omega)), if_pos (by rw [h3]; exact hin.2), sa_in (by omega), bs]
      dsimp only
      rw [show I 3 j = I 58 (47 + j) from M.2.2.2.2.1 j hj]
    · rw [h10, in_to (by omega), if_pos hin, bs, if_neg (show ¬ (1 : Int32) = 0 by decide), l47, nI_add, if_neg (ib (by omega) (by decide)), nc (by omega)]
  · refine ⟨-1, I, I, ?_, ?_, G⟩
    · by_cases c : v < 0
      · rw [if_pos c]
      · rw [if_neg c, if_neg (by rw [h3]; exact fun q => hin ⟨Int32.not_lt.mp c, q⟩)]
    · rw [h10, in_to (by omega), if_neg hin, bs, if_pos rfl]
theorem phase_sim {I : HI} {S n Z K D Q : Nat} (R : RX (I 58) S n Z K D Q) (M : MR (I 1) (I (1 + 1)) (I (1 + 2)) (I (1 + 3)) (I (1 + 4)) (I 58) S n) : ∃ r : Int32, f_X1_phase I = some (r, I) ∧ f_X6_phase I = some (r, I) := by
  obtain ⟨⟨h10, hS, h22, hnK, h8, hK1, hK6, h16, hZ, h5, h6, hPD, hD⟩, ⟨k0, k11, k9, k17⟩, hsg, hcap, hsm, hlv⟩ := id R
  obtain ⟨hT, hF, hG, hN, hP, hc1, hc0⟩ := id M
  have ph := ph_eq (J := I) (F := I 1) (T := I 2) (P := I 3) (G := I 4) (N := I 5) (by rw [show I 2 9 = I 58 9 from hT 9 (by decide)]; exact k9)
  rw [sM_self, show I 2 8 = I 58 8 from hT 8 (by decide), show I 2 9 = I 58 9 from hT 9 (by decide), show I 2 6 = I 58 6 from hT 6 (by decide), show I 2 7 = I 58 7 from hT 7 (by decide), show I 1 9 = I 58 16 from hF 6 (by decide), show I 4 1 = I 58 22 from hG] at ph
  refine ⟨_, ph, ?_⟩
  have e58 : upR I 58 (I 58) = I := upR_self I 58
  have hr := hr_eq (J := I) (a := I 58)
  have lg := lg_eq (J := I) (a := I 58)
  rw [e58] at hr lg
  unfold f_X6_phase
  rcases k17 with c | c
  · rw [if_neg (by rw [c]; decide), if_pos (by rw [hc0 c]; decide), hr, bs]
    dsimp only
    by_cases c1 : I 58 22 < I 58 8 ∨ I 58 9 = 1
    · rw [sel_t (show rRm (I 58) from c1), if_neg (show ¬ (1 : Int32) = 0 by decide), if_pos c1, lg, bs]
      dsimp only
      by_cases c2 : I 58 6 ≤ I 58 16 ∧ I 58 7 ≤ I 58 16
      · rw [sel_t (show rLg (I 58) from c2), if_neg (show ¬ (1 : Int32) = 0 by decide), if_pos c2]
      · rw [sel_f (show ¬ rLg (I 58) from c2), if_pos rfl, if_neg c2]
    · rw [sel_f (show ¬ rRm (I 58) from c1), if_pos rfl, if_neg c1]
  · obtain ⟨t, d, p, a18, a19, a20, hpd, hd32, hpt, htS, hcS⟩ := hcap c
    rw [if_pos c, if_neg]
    rw [(hc1 c).2, lk_n a18 a19 a20 h10 hpt (by omega)]
    exact nI_nle (by omega) (by omega)
theorem count_law (v : Int32) {I : HI} (G : Good I) : Ok (f_X5_count v) (f_X6_count v) I := by
  obtain ⟨⟨S, n, Z, K, D, Q, R, M⟩, g2, g3, g4, g5⟩ := id G
  obtain ⟨hT, hF, hG, hN, hP, hc1, hc0⟩ := id M
  have k17 := R.2.1.2.2.2
  have e19 : f_X6_in v.toInt64 (10 : Int64) (19 : Int64) I = some (if 10 ≤ v ∧ v ≤ 19 then 1 else 0, I) := by
    rw [show (10 : Int64) = (10 : Int32).toInt64 by decide, show (19 : Int64) = (19 : Int32).toInt64 by decide, in32]
  by_cases hout : v < 0 ∨ 21 < v
  · refine ⟨-2, I, I, ?_, ?_, G⟩
    · unfold f_X5_count
      by_cases c : v < 0
      · rw [if_pos c]
      · rw [if_neg c, if_neg (Int32.not_le.mpr (hout.resolve_left c))]
    · unfold f_X6_count
      have no : ∀ k : Int32, 0 ≤ k → k ≤ 21 → ¬ v = k := fun k h1 h2 e => by
        subst e
        rcases hout with h | h
        · exact absurd h1 (Int32.not_le.mpr h)
        · exact absurd h2 (Int32.not_le.mpr h)
      have nin : ¬ (10 ≤ v ∧ v ≤ 19) := fun q => by
        rcases hout with h | h
        · exact absurd (Int32.le_trans (show (0 : Int32) ≤ 10 by decide) q.1) (Int32.not_le.mpr h)
        · exact absurd (Int32.le_trans q.2 (show (19 : Int32) ≤ 21 by decide)) (Int32.not_le.mpr h)
      rw [e19, if_neg nin, bs, if_pos rfl]
      simp only [no 0 (by decide) (by decide), no 1 (by decide) (by decide), no 2 (by decide) (by decide), no 3 (by decide) (by decide), no 4 (by decide) (by decide), no 5 (by decide) (by decide), no 6 (by decide) (by decide), no 7 (by decide) (by decide), no 8 (by decide) (by decide), no 9 (by decide) (by decide), no 10 (by decide) (by decide), no 11 (by decide) (by decide), no 12 (by decide) (by decide), no 13 (by decide) (by decide), no 14 (by decide) (by decide), no 15 (by decide) (by decide), no 16 (by decide) (by decide), no 17 (by decide) (by decide), no 18 (by decide) (by decide), no 19 (by decide) (by decide), no 20 (by decide) (by decide), no 21 (by decide) (by decide), if_false]
  · obtain ⟨s, hs, rfl⟩ : ∃ s : Nat, s < 22 ∧ v = nI s := by
      obtain ⟨s, hs, rfl⟩ := nI_of (x := v) (fun h => hout (Or.inl h))
      exact ⟨s, by
        have this : ¬ nI 21 < nI s := fun h => hout (Or.inr h)
        rw [nI_ltI (by decide) hs] at this
        omega, rfl⟩
    by_cases h10 : 10 ≤ s ∧ s < 20
    · have hin : 10 ≤ nI s ∧ nI s ≤ 19 := ⟨(nI_leI (a := 10) (by decide) (by omega)).mpr h10.1, (nI_leI (b := 19) (by omega) (by decide)).mpr (by omega)⟩
      have es : nI s - 10 = nI (s - 10) := by rw [l10, pk_sub h10.1]
      refine ⟨I 58 (s - 10) + 1000, I, I, ?_, ?_, G⟩
      · unfold f_X5_count
        rw [if_neg (nI_pos (by omega)), if_pos (show nI s ≤ (21 : Int32) from (nI_leI (b := 21) (by omega) (by decide)).mpr (by omega)), if_neg (show ¬ nI s = (21 : Int32) from nI_ne (b := 21) (by omega) (by decide) (by omega)), if_neg (show ¬ nI s = (20 : Int32) from nI_ne (b := 20) (by omega) (by decide) (by omega)), if_neg (Int32.not_lt.mpr hin.1), es, so _ (by omega), bs]
        dsimp only
        rw [show I 2 (s - 10) = I 58 (s - 10) from hT _ (by omega)]
      · unfold f_X6_count
        rw [e19, if_pos hin, bs, if_neg (show ¬ (1 : Int32) = 0 by decide), es, if_neg (ib (by omega) (by decide)), nc (by omega)]
    · have nin : ¬ (10 ≤ nI s ∧ nI s ≤ 19) := fun q => by
        have q1 := (nI_leI (a := 10) (by decide) (by omega)).mp q.1
        have q2 := (nI_leI (b := 19) (by omega) (by decide)).mp q.2
        omega
      have lk := lk_eq (J := I) (b := I 58)
      rw [upR_self] at lk
      have f9 : I 1 14 = if I 58 17 = 0 then 0 else rLk (I 58) := by
        rcases k17 with c | c
        · rw [if_pos c, hc0 c]
        · rw [if_neg (by rw [c]; decide), (hc1 c).2]
      obtain ⟨r, ep1, ep2⟩ := phase_sim R M
      obtain ⟨L, hL, a1, a2, -⟩ := g4
      obtain ⟨h, nx, hh, hx, d3, d2, -⟩ := g2
      have key : ∃ r : Int32, f_X5_count (nI s) I = some (r, I) ∧ (f_X6_count (nI s) I = some (r, I)) := by
        unfold f_X6_count
        rw [e19, if_neg nin, bs, if_pos rfl]
        rcases (show s = 0 ∨ s = 1 ∨ s = 2 ∨ s = 3 ∨ s = 4 ∨ s = 5 ∨ s = 6 ∨ s = 7 ∨ s = 8 ∨ s = 9 ∨ s = 20 ∨ s = 21 by omega) with rfl | rfl | rfl | rfl | rfl | rfl | rfl | rfl | rfl | rfl | rfl | rfl
        · exact ⟨I 58 10, (show _ = some (I 1 3, I) from rfl).trans (by rw [show I 1 3 = I 58 10 from hF 0 (by decide)]), rfl⟩
        · exact ⟨I 58 22, (show _ = some (I 4 1, I) from rfl).trans (by rw [show I 4 1 = I 58 22 from hG]), rfl⟩
        · exact ⟨r, (show _ = (f_X1_phase I).bind (fun q3 => some (q3.1, q3.2)) by rw [ep1]; exact (show _ = ((f_X1_phase I).bind (fun q3 => some (q3.1, q3.2))).bind (fun q3 => some (q3.1, q3.2)) from rfl).trans (by rw [ep1]; rfl)).trans (by rw [ep1, bs]), (show _ = (f_X6_phase I).bind (fun q8 => some (q8.1, q8.2)) from rfl).trans (by rw [ep2, bs])⟩
        · exact ⟨I 58 11, (show _ = some (I 1 4, I) from rfl).trans (by rw [show I 1 4 = I 58 11 from hF 1 (by decide)]), rfl⟩
        · exact ⟨I 58 12, (show _ = some (I 1 5, I) from rfl).trans (by rw [show I 1 5 = I 58 12 from hF 2 (by decide)]), rfl⟩
        · exact ⟨I 58 13, (show _ = some (I 1 6, I) from rfl).trans (by rw [show I 1 6 = I 58 13 from hF 3 (by decide)]), rfl⟩
        · exact ⟨I 58 14, (show _ = some (I 1 7, I) from rfl).trans (by rw [show I 1 7 = I 58 14 from hF 4 (by decide)]), rfl⟩
        · exact ⟨I 58 15, (show _ = some (I 1 8, I) from rfl).trans (by rw [show I 1 8 = I 58 15 from hF 5 (by decide)]), rfl⟩
        · exact ⟨I 58 16, (show _ = some (I 1 9, I) from rfl).trans (by rw [show I 1 9 = I 58 16 from hF 6 (by decide)]), rfl⟩
        · exact ⟨_, (show _ = some (I 1 14, I) from rfl).trans (by rw [f9]), (show _ = (f_X6_lacking I).bind (fun q8 => some (q8.1, q8.2)) from rfl).trans (by rw [lk, bs])⟩
        · exact ⟨nI L, (show _ = some (I 51 1, I) from rfl).trans (by rw [a1]), (show _ = some (I 57 8, I) from rfl).trans (by rw [a2])⟩
        · exact ⟨nI h, (show _ = some (I 6 2, I) from rfl).trans (by rw [d2]), (show _ = some (I 57 3, I) from rfl).trans (by rw [d3])⟩
      obtain ⟨r, e1, e2⟩ := key
      exact ⟨r, I, I, e1, e2, G⟩
