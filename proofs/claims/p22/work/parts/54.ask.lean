/-! ===== pure: what is asked, on both sides ===== -/
theorem ct_0 (I : HI) : f_X5_count 0 I = some (I 1 3, I) := rfl
theorem ct_1 (I : HI) : f_X5_count 1 I = some (I 4 1, I) := rfl
theorem ct_3 (I : HI) : f_X5_count 3 I = some (I 1 4, I) := rfl
theorem ct_4 (I : HI) : f_X5_count 4 I = some (I 1 5, I) := rfl
theorem ct_5 (I : HI) : f_X5_count 5 I = some (I 1 6, I) := rfl
theorem ct_6 (I : HI) : f_X5_count 6 I = some (I 1 7, I) := rfl
theorem ct_7 (I : HI) : f_X5_count 7 I = some (I 1 8, I) := rfl
theorem ct_8 (I : HI) : f_X5_count 8 I = some (I 1 9, I) := rfl
theorem ct_9 (I : HI) : f_X5_count 9 I = some (I 1 14, I) := rfl
theorem ct_21 (I : HI) : f_X5_count 21 I = some (I 6 2, I) := rfl
theorem ct_s {I : HI} {s : Nat} (hs : s < 10) : f_X5_count (nI (10 + s)) I = some (I 2 s + 1000, I) := by
  unfold f_X5_count
  rw [if_neg (nI_pos (by omega)), if_pos (show nI (10 + s) ≤ (21 : Int32) from (nI_leI (b := 21) (by omega) (by decide)).mpr (by omega)), if_neg (show ¬ nI (10 + s) = (21 : Int32) from nI_ne (b := 21) (by omega) (by decide) (by omega)), if_neg (show ¬ nI (10 + s) = (20 : Int32) from nI_ne (b := 20) (by omega) (by decide) (by omega)), if_neg (show ¬ nI (10 + s) < (10 : Int32) from nI_nlt (a := 10 + s) (b := 10) (by omega) (by omega)), l10, pk_sub (by omega), show 10 + s - 10 = s by omega, so s hs, bs]
def phs (I : HI) : Int32 := if I 1 14 ≤ 0 then (if I 4 1 < I 2 8 ∨ I 2 9 = 1 then (if I 2 6 ≤ I 1 9 ∧ I 2 7 ≤ I 1 9 then 1 else 0) else 2) else 3
theorem ct_2 {I : HI} (h9 : I 2 9 = 0 ∨ I 2 9 = 1) : f_X5_count 2 I = some (phs I, I) := by
  have ph := ph_eq (J := I) (F := I 1) (T := I 2) (P := I 3) (G := I 4) (N := I 5) h9
  rw [sM_self] at ph
  show (f_X1_numberOf 2 I).bind (fun q => some (q.1, q.2)) = _
  rw [show f_X1_numberOf 2 I = (f_X1_phase I).bind (fun q => some (q.1, q.2)) from rfl, ph, bs, bs]
  rfl
theorem f14_eq {F T P G N a : Row} {S n : Nat} (h17 : a 17 = 0 ∨ a 17 = 1) (M : MR F T P G N a S n) : F 14 = if a 17 = 1 then rLk a else 0 := by
  rcases h17 with h | h
  · rw [M.2.2.2.2.2.2 h, if_neg (by rw [h]; decide)]
  · rw [(M.2.2.2.2.2.1 h).2, if_pos h]
theorem count_two {I J : HI} {B w : Nat} (G : Inv I J B) (hw : w < 10) : ∃ r : Int32, f_X5_count (nI w) I = some (r, I) ∧ f_X5_count (nI w) J = some (r, J) := by
  obtain ⟨a, S, n, Z, K, D, P, R, W, M, M'⟩ := M2_to G.1
  have k9 := R.2.1.2.2.1
  have k17 := R.2.1.2.2.2
  have T : ∀ k, k < 10 → k ≠ 0 → k ≠ 1 → J 2 k = I 2 k := fun k hk h0 h1 => by rw [M'.1 k hk, M.1 k hk, mir_o (by omega)]
  have F : ∀ k, k < 7 → J 1 (3 + k) = I 1 (3 + k) := fun k hk => by rw [M'.2.1 k hk, M.2.1 k hk, mir_o (by omega)]
  have g4 : J 4 1 = I 4 1 := by rw [M'.2.2.1, M.2.2.1, mir_o (by omega)]
  have f14 : J 1 14 = I 1 14 := by
    rw [f14_eq k17 M, f14_eq (by rw [mir_o (by omega)]; exact k17) M', rLk_m, mir_o (by omega)]
  have h9 : I 2 9 = 0 ∨ I 2 9 = 1 := by rw [M.1 9 (by decide)]; exact k9
  have h9' : J 2 9 = 0 ∨ J 2 9 = 1 := by rw [T 9 (by decide) (by decide) (by decide)]; exact h9
  rcases (show w = 0 ∨ w = 1 ∨ w = 2 ∨ w = 3 ∨ w = 4 ∨ w = 5 ∨ w = 6 ∨ w = 7 ∨ w = 8 ∨ w = 9 by omega) with rfl | rfl | rfl | rfl | rfl | rfl | rfl | rfl | rfl | rfl
  · exact ⟨_, ct_0 I, by rw [show nI 0 = (0 : Int32) from rfl, ct_0 J, show J 1 3 = I 1 3 from F 0 (by decide)]⟩
  · exact ⟨_, ct_1 I, by rw [show nI 1 = (1 : Int32) from rfl, ct_1 J, g4]⟩
  · refine ⟨_, ct_2 h9, ?_⟩
    rw [show nI 2 = (2 : Int32) from rfl, ct_2 h9']
    unfold phs
    rw [f14, g4, T 8 (by decide) (by decide) (by decide), T 9 (by decide) (by decide) (by decide), T 6 (by decide) (by decide) (by decide), T 7 (by decide) (by decide) (by decide), show J 1 9 = I 1 9 from F 6 (by decide)]
  · exact ⟨_, ct_3 I, by rw [show nI 3 = (3 : Int32) from rfl, ct_3 J, show J 1 4 = I 1 4 from F 1 (by decide)]⟩
  · exact ⟨_, ct_4 I, by rw [show nI 4 = (4 : Int32) from rfl, ct_4 J, show J 1 5 = I 1 5 from F 2 (by decide)]⟩
  · exact ⟨_, ct_5 I, by rw [show nI 5 = (5 : Int32) from rfl, ct_5 J, show J 1 6 = I 1 6 from F 3 (by decide)]⟩
  · exact ⟨_, ct_6 I, by rw [show nI 6 = (6 : Int32) from rfl, ct_6 J, show J 1 7 = I 1 7 from F 4 (by decide)]⟩
  · exact ⟨_, ct_7 I, by rw [show nI 7 = (7 : Int32) from rfl, ct_7 J, show J 1 8 = I 1 8 from F 5 (by decide)]⟩
  · exact ⟨_, ct_8 I, by rw [show nI 8 = (8 : Int32) from rfl, ct_8 J, show J 1 9 = I 1 9 from F 6 (by decide)]⟩
  · exact ⟨_, ct_9 I, by rw [show nI 9 = (9 : Int32) from rfl, ct_9 J, f14]⟩
/-! ===== pure: one segment ===== -/
def SGc (I : HI) (j t d p b S : Nat) : Prop := j < 6 ∧ (I 5 (4 * j) = nI t ∧ I 5 (4 * j + 1) = nI d ∧ I 5 (4 * j + 2) = nI p) ∧ (t = b + p ∧ p < d ∧ d ≤ 32 ∧ b + d ≤ S ∧ S ≤ 400) ∧ ∀ k, k < S → -100 ≤ I 3 k ∧ I 3 k ≤ 100
theorem seg_of {I : HI} {a : Row} {S n Z K D Q j : Nat} (R : RX a S n Z K D Q) (M : MR (I 1) (I 2) (I 3) (I 4) (I 5) a S n) (hj : j < n) : ∃ t d p b : Nat, SGc I j t d p b S ∧ (a (23 + 4 * j) = nI t ∧ a (23 + 4 * j + 1) = nI d ∧ a (23 + 4 * j + 2) = nI p) := by
  obtain ⟨⟨h10, hS, h22, hnK, h8, hK1, hK6, h16, hZ, h5, h6, hPD, hD⟩, ⟨k0, k11, k9, k17⟩, hsg, hcap, hsm, hlv⟩ := R
  obtain ⟨hT, hF, hG, hN, hP, hc1, hc0⟩ := M
  obtain ⟨t, d, p, e1, e2, e3, z1, z2, z3, z4⟩ := hsg j hj
  refine ⟨t, d, p, t - p, ⟨by omega, ⟨?_, ?_, ?_⟩, ⟨by omega, z1, z2, by omega, hS⟩, fun k hk => by rw [hP k hk]; exact hsm k hk⟩, e1, e2, e3⟩
  · rw [← e1]; exact hN (4 * j) (by omega)
  · rw [← e2]; exact hN (4 * j + 1) (by omega)
  · rw [← e3]; exact hN (4 * j + 2) (by omega)
theorem cs_at {I : HI} {j t d p b S i : Nat} (h : SGc I j t d p b S) (hi : b + i < S) : f_X1_sampleAt (nI b + nI i) I = some (I 3 (b + i), I) := by
  rw [nI_add, sa_in (by have := h.2.2.1.2.2.2.2; omega)]
theorem cn_0 {I : HI} {j t d p b S : Nat} (h : SGc I j t d p b S) : f_X3_numberOf (nI j) 0 I = some (nI t, I) := by
  obtain ⟨hj, ⟨e, -⟩, -⟩ := h
  rw [l0, no_in (by omega), show 4 * j + 0 = 4 * j by omega, e]
theorem cn_1 {I : HI} {j t d p b S : Nat} (h : SGc I j t d p b S) : f_X3_numberOf (nI j) 1 I = some (nI d, I) := by
  obtain ⟨hj, ⟨-, e, -⟩, -⟩ := h
  rw [l1, no_in (by omega), e]
theorem cn_2 {I : HI} {j t d p b S : Nat} (h : SGc I j t d p b S) : f_X3_numberOf (nI j) 2 I = some (nI p, I) := by
  obtain ⟨hj, ⟨-, -, e⟩, -⟩ := h
  rw [l2, no_in (by omega), e]
theorem cfirst {I : HI} {j t d p b S : Nat} (h : SGc I j t d p b S) : f_X3_firstOf (nI j) I = some (nI b, I) := by
  have z := h.2.2.1
  unfold f_X3_firstOf
  rw [cn_0 h, bs]
  dsimp only
  rw [cn_2 h, bs]
  dsimp only
  rw [pk_sub (by omega), show t - p = b by omega]
/-- the least, the greatest, the sum, the rises -/
def vLe (I : HI) (b d : Nat) : Int32 := fo (fun x i => if I 3 (b + i) < x then I 3 (b + i) else x) (d - 1) 1 (I 3 (b + 0))
def vGr (I : HI) (b d : Nat) : Int32 := fo (fun x i => if x < I 3 (b + i) then I 3 (b + i) else x) (d - 1) 1 (I 3 (b + 0))
def vSu (I : HI) (b d : Nat) : Int32 := fo (fun x i => x + I 3 (b + i)) d 0 0
def vUp (I : HI) (b d : Nat) : Int32 := fo (fun x i => if I 3 (b + (i + 1)) ≤ I 3 (b + i) then x else x + 1) (d - 1) 0 0
theorem least_eq {I : HI} {j t d p b S : Nat} (h : SGc I j t d p b S) : f_X1_leastOf (nI j) I = some (vLe I b d, I) := by
  have z := h.2.2.1
  unfold f_X1_leastOf
  rw [cfirst h, bs]
  dsimp only
  rw [cn_1 h, bs]
  dsimp only
  have e0 := cs_at h (i := 0) (by omega)
  rw [show nI b + nI 0 = nI b from nI_add b 0] at e0
  rw [e0, bs]
  exact lp (fun f x i => f_X1_leastOf_L29 (nI b) (nI d) f x (nI i) I) (fun x i => if I 3 (b + i) < x then I 3 (b + i) else x) d (fun x => some (x, I)) (fun f i x hi => by
    show f_X1_leastOf_L29_b _ _ _ _ _ _ = _
    unfold f_X1_leastOf_L29_b
    rw [if_neg (nI_ge hi (by omega)), cs_at h (by omega), bs, nI_1]) (fun f x => by
    show f_X1_leastOf_L29_b _ _ _ _ _ _ = _
    unfold f_X1_leastOf_L29_b
    rw [if_pos (nI_le (Nat.le_refl _) (by omega))]) (d - 1) 4000 1 _ rfl (by omega) (by omega)
theorem greatest_eq {I : HI} {j t d p b S : Nat} (h : SGc I j t d p b S) : f_X1_greatestOf (nI j) I = some (vGr I b d, I) := by
  have z := h.2.2.1
  unfold f_X1_greatestOf
  rw [cfirst h, bs]
  dsimp only
  rw [cn_1 h, bs]
  dsimp only
  have e0 := cs_at h (i := 0) (by omega)
  rw [show nI b + nI 0 = nI b from nI_add b 0] at e0
  rw [e0, bs]
  exact lp (fun f x i => f_X1_greatestOf_L29 (nI b) (nI d) f x (nI i) I) (fun x i => if x < I 3 (b + i) then I 3 (b + i) else x) d (fun x => some (x, I)) (fun f i x hi => by
    show f_X1_greatestOf_L29_b _ _ _ _ _ _ = _
    unfold f_X1_greatestOf_L29_b
    rw [if_neg (nI_ge hi (by omega)), cs_at h (by omega), bs, nI_1]) (fun f x => by
    show f_X1_greatestOf_L29_b _ _ _ _ _ _ = _
    unfold f_X1_greatestOf_L29_b
    rw [if_pos (nI_le (Nat.le_refl _) (by omega))]) (d - 1) 4000 1 _ rfl (by omega) (by omega)
theorem sum_eq {I : HI} {j t d p b S : Nat} (h : SGc I j t d p b S) : f_X1_sumOf (nI j) I = some (vSu I b d, I) := by
  have z := h.2.2.1
  unfold f_X1_sumOf
  rw [cfirst h, bs]
  dsimp only
  rw [cn_1 h, bs]
  exact lp (fun f x i => f_X1_sumOf_L25 (nI b) (nI d) f x (nI i) I) (fun x i => x + I 3 (b + i)) d (fun x => some (x, I)) (fun f i x hi => by
    show f_X1_sumOf_L25_b _ _ _ _ _ _ = _
    unfold f_X1_sumOf_L25_b
    rw [if_neg (nI_ge hi (by omega)), cs_at h (by omega), bs, nI_1]) (fun f x => by
    show f_X1_sumOf_L25_b _ _ _ _ _ _ = _
    unfold f_X1_sumOf_L25_b
    rw [if_pos (nI_le (Nat.le_refl _) (by omega))]) d 4000 0 0 rfl (by omega) (by omega)
theorem ups_eq {I : HI} {j t d p b S : Nat} (h : SGc I j t d p b S) : f_X1_upsOf (nI j) I = some (vUp I b d, I) := by
  have z := h.2.2.1
  unfold f_X1_upsOf
  rw [cfirst h, bs]
  dsimp only
  rw [cn_1 h, bs]
  exact lp (fun f x i => f_X1_upsOf_L25 (nI b) (nI d) f x (nI (i + 1)) I) (fun x i => if I 3 (b + (i + 1)) ≤ I 3 (b + i) then x else x + 1) (d - 1) (fun x => some (x, I)) (fun f i x hi => by
    show f_X1_upsOf_L25_b _ _ _ _ _ _ = _
    unfold f_X1_upsOf_L25_b
    rw [if_neg (nI_ge (by omega) (by omega)), cs_at h (by omega), bs]
    dsimp only
    rw [show nI b + nI (i + 1) - 1 = nI b + nI i by rw [nI_add, nI_add]; exact nI_pred (b + i), cs_at h (by omega), bs, nI_1]
    dsimp only
    by_cases c : I 3 (b + (i + 1)) ≤ I 3 (b + i)
    · rw [if_pos c, if_pos c]
    · rw [if_neg c, if_neg c]) (fun f x => by
    show f_X1_upsOf_L25_b _ _ _ _ _ _ = _
    unfold f_X1_upsOf_L25_b
    rw [if_pos (nI_le (by omega) (by omega))]) (d - 1) 4000 0 0 rfl (by omega) (by omega)
/-- segment() of one that is kept -/
theorem sg_n {I : HI} {n j w : Nat} (h4 : I 4 1 = nI n) (hn : n ≤ 6) (hj : j < n) (hw : w < 4) : f_X5_segment (nI j) (nI w) I = some (I 5 (4 * j + w), I) := by
  unfold f_X5_segment
  rw [has_in (n := n) h4 (by omega) hj, bs, if_neg n10]
  dsimp only
  rcases (show w = 0 ∨ w = 1 ∨ w = 2 ∨ w = 3 by omega) with rfl | rfl | rfl | rfl
  · rw [if_pos (show nI 0 = (0 : Int32) from rfl), no_in (by omega), bs]
  · rw [if_neg (show ¬ nI 1 = (0 : Int32) by decide), if_pos (show nI 1 = (1 : Int32) from rfl), no_in (by omega), bs]
  · rw [if_neg (show ¬ nI 2 = (0 : Int32) by decide), if_neg (show ¬ nI 2 = (1 : Int32) by decide), if_pos (show nI 2 = (2 : Int32) from rfl), no_in (by omega), bs]
  · rw [if_neg (show ¬ nI 3 = (0 : Int32) by decide), if_neg (show ¬ nI 3 = (1 : Int32) by decide), if_neg (show ¬ nI 3 = (2 : Int32) by decide), if_pos (show nI 3 = (3 : Int32) from rfl), no_in (by omega), bs]
theorem sg_4 {I : HI} {n j t d p b S : Nat} (h4 : I 4 1 = nI n) (hn : n ≤ 6) (hj : j < n) (h : SGc I j t d p b S) : f_X5_segment (nI j) 4 I = some (vLe I b d + 1000, I) := by
  unfold f_X5_segment
  rw [has_in (n := n) h4 (by omega) hj, bs, if_neg n10]
  dsimp only
  rw [if_neg (show ¬ (4 : Int32) = 0 by decide), if_neg (show ¬ (4 : Int32) = 1 by decide), if_neg (show ¬ (4 : Int32) = 2 by decide), if_neg (show ¬ (4 : Int32) = 3 by decide), if_pos (show (4 : Int32) = 4 from rfl), least_eq h, bs]
theorem sg_5 {I : HI} {n j t d p b S : Nat} (h4 : I 4 1 = nI n) (hn : n ≤ 6) (hj : j < n) (h : SGc I j t d p b S) : f_X5_segment (nI j) 5 I = some (vGr I b d + 1000, I) := by
  unfold f_X5_segment
  rw [has_in (n := n) h4 (by omega) hj, bs, if_neg n10]
  dsimp only
  rw [if_neg (show ¬ (5 : Int32) = 0 by decide), if_neg (show ¬ (5 : Int32) = 1 by decide), if_neg (show ¬ (5 : Int32) = 2 by decide), if_neg (show ¬ (5 : Int32) = 3 by decide), if_neg (show ¬ (5 : Int32) = 4 by decide), if_pos (show (5 : Int32) = 5 from rfl), greatest_eq h, bs]
theorem sg_6 {I : HI} {n j t d p b S : Nat} (h4 : I 4 1 = nI n) (hn : n ≤ 6) (hj : j < n) (h : SGc I j t d p b S) : f_X5_segment (nI j) 6 I = some (vSu I b d + 10000, I) := by
  unfold f_X5_segment
  rw [has_in (n := n) h4 (by omega) hj, bs, if_neg n10]
  dsimp only
  rw [if_neg (show ¬ (6 : Int32) = 0 by decide), if_neg (show ¬ (6 : Int32) = 1 by decide), if_neg (show ¬ (6 : Int32) = 2 by decide), if_neg (show ¬ (6 : Int32) = 3 by decide), if_neg (show ¬ (6 : Int32) = 4 by decide), if_neg (show ¬ (6 : Int32) = 5 by decide), if_pos (show (6 : Int32) = 6 from rfl), sum_eq h, bs]
theorem sg_7 {I : HI} {n j t d p b S : Nat} (h4 : I 4 1 = nI n) (hn : n ≤ 6) (hj : j < n) (h : SGc I j t d p b S) : f_X5_segment (nI j) 7 I = some (vUp I b d, I) := by
  unfold f_X5_segment
  rw [has_in (n := n) h4 (by omega) hj, bs, if_neg n10]
  dsimp only
  rw [if_neg (show ¬ (7 : Int32) = 0 by decide), if_neg (show ¬ (7 : Int32) = 1 by decide), if_neg (show ¬ (7 : Int32) = 2 by decide), if_neg (show ¬ (7 : Int32) = 3 by decide), if_neg (show ¬ (7 : Int32) = 4 by decide), if_neg (show ¬ (7 : Int32) = 5 by decide), if_neg (show ¬ (7 : Int32) = 6 by decide), if_pos (show (7 : Int32) = 7 from rfl), ups_eq h, bs]
theorem sg_out {I : HI} {n : Nat} {w : Int32} (h4 : I 4 1 = nI n) : f_X5_segment (nI n) w I = some (-1, I) := by
  unfold f_X5_segment
  rw [has_out (by rw [h4]; exact fun q => Int32.lt_irrefl q.2), bs, if_pos rfl]
theorem so_in {I : HI} {n j t d p b S i : Nat} (h4 : I 4 1 = nI n) (hn : n ≤ 6) (hj : j < n) (h : SGc I j t d p b S) (hi : i < d) : f_X5_sampleOf (nI j) (nI i) I = some (I 3 (b + i) + 1000, I) := by
  have z := h.2.2.1
  unfold f_X5_sampleOf
  rw [has_in (n := n) h4 (by omega) hj, bs, if_neg n10]
  dsimp only
  rw [if_neg (nI_pos (by omega)), cn_1 h, bs, if_pos (nI_lt hi (by omega))]
  dsimp only
  rw [cfirst h, bs]
  dsimp only
  rw [cs_at h (by omega), bs]
theorem so_out {I : HI} {n j t d p b S : Nat} (h4 : I 4 1 = nI n) (hn : n ≤ 6) (hj : j < n) (h : SGc I j t d p b S) : f_X5_sampleOf (nI j) (nI d) I = some (-1, I) := by
  have z := h.2.2.1
  unfold f_X5_sampleOf
  rw [has_in (n := n) h4 (by omega) hj, bs, if_neg n10]
  dsimp only
  rw [if_neg (nI_pos (by omega)), cn_1 h, bs, if_neg (nI_nlt (Nat.le_refl _) (by omega))]
theorem sa_k {I : HI} {S k : Nat} (h3 : I 1 3 = nI S) (hS : S ≤ 400) (hk : k < S) : f_X5_sample (nI k) I = some (I 3 k + 1000, I) := by
  unfold f_X5_sample
  rw [if_neg (nI_pos (by omega)), if_pos (by rw [h3]; exact nI_lt hk (by omega)), sa_in (by omega), bs]
/-! ===== pure: in the mirror ===== -/
theorem fo_P {σ : Type} (P : σ → Prop) (g : σ → Nat → σ) (lo N : Nat) (h : ∀ x i, lo ≤ i → i < N → P x → P (g x i)) : ∀ (k i : Nat) (x : σ), i + k ≤ N → lo ≤ i → P x → P (fo g k i x) := by
  intro k
  induction k with
  | zero => intro i x _ _ p; exact p
  | succ k ih =>
    intro i x hk hi p
    exact ih (i + 1) _ (by omega) (by omega) (h x i hi (by omega) p)
theorem le_gr {I J : HI} {b d S : Nat} (hd : 1 ≤ d) (hb : b + d ≤ S) (hI : ∀ k, k < S → -100 ≤ I 3 k ∧ I 3 k ≤ 100) (hJ : ∀ k, k < S → J 3 k = -(I 3 k)) : (vLe J b d = -(vGr I b d) ∧ -100 ≤ vGr I b d ∧ vGr I b d ≤ 100) := by
  refine fo_rel (fun y x => y = -x ∧ -100 ≤ x ∧ x ≤ 100) (fun x i => if J 3 (b + i) < x then J 3 (b + i) else x) (fun x i => if x < I 3 (b + i) then I 3 (b + i) else x) 0 d (fun y x i _ hi r => ?_) (d - 1) 1 _ _ (by omega) (by omega) ⟨hJ _ (by omega), hI _ (by omega)⟩
  obtain ⟨rfl, r⟩ := r
  have hi2 := hI (b + i) (by omega)
  rw [hJ (b + i) (by omega)]
  by_cases c : x < I 3 (b + i)
  · rw [if_pos c, if_pos ((ng_lt hi2 r).mpr c)]
    exact ⟨rfl, hi2⟩
  · rw [if_neg c, if_neg (fun q => c ((ng_lt hi2 r).mp q))]
    exact ⟨rfl, r⟩
theorem su_m {I J : HI} {b d S : Nat} (hb : b + d ≤ S) (hJ : ∀ k, k < S → J 3 k = -(I 3 k)) : vSu J b d = -(vSu I b d) := by
  refine fo_rel (fun y x => y = -x) (fun x i => x + J 3 (b + i)) (fun x i => x + I 3 (b + i)) 0 d (fun y x i _ hi r => ?_) d 0 0 0 (by omega) (by omega) (by decide)
  subst r
  rw [hJ (b + i) (by omega), Int32.neg_add, Int32.sub_eq_add_neg]
theorem gr_le {I J : HI} {b d S : Nat} (hd : 1 ≤ d) (hb : b + d ≤ S) (hI : ∀ k, k < S → -100 ≤ I 3 k ∧ I 3 k ≤ 100) (hJ : ∀ k, k < S → J 3 k = -(I 3 k)) : (vGr J b d = -(vLe I b d) ∧ -100 ≤ vLe I b d ∧ vLe I b d ≤ 100) := by
  refine fo_rel (fun y x => y = -x ∧ -100 ≤ x ∧ x ≤ 100) (fun x i => if x < J 3 (b + i) then J 3 (b + i) else x) (fun x i => if I 3 (b + i) < x then I 3 (b + i) else x) 0 d (fun y x i _ hi r => ?_) (d - 1) 1 _ _ (by omega) (by omega) ⟨hJ _ (by omega), hI _ (by omega)⟩
  obtain ⟨rfl, r⟩ := r
  have hi2 := hI (b + i) (by omega)
  rw [hJ (b + i) (by omega)]
  by_cases c : I 3 (b + i) < x
  · rw [if_pos c, if_pos ((ng_lt r hi2).mpr c)]
    exact ⟨rfl, hi2⟩
  · rw [if_neg c, if_neg (fun q => c ((ng_lt r hi2).mp q))]
    exact ⟨rfl, r⟩
/-- every sample of it lies between -/
theorem fo_lo (s : Nat → Int32) : ∀ (k i : Nat) (x : Int32), fo (fun x i => if s i < x then s i else x) k i x ≤ x ∧ ∀ q, i ≤ q → q < i + k → fo (fun x i => if s i < x then s i else x) k i x ≤ s q := by
  intro k
  induction k with
  | zero => intro i x; exact ⟨Int32.le_refl _, fun q h1 h2 => absurd h2 (by omega)⟩
  | succ k ih =>
    intro i x
    obtain ⟨h1, h2⟩ := ih (i + 1) (if s i < x then s i else x)
    have m1 : (if s i < x then s i else x) ≤ x := by
      by_cases c : s i < x
      · rw [if_pos c]; exact Int32.le_of_lt c
      · rw [if_neg c]; exact Int32.le_refl _
    have m2 : (if s i < x then s i else x) ≤ s i := by
      by_cases c : s i < x
      · rw [if_pos c]; exact Int32.le_refl _
      · rw [if_neg c]; exact Int32.not_lt.mp c
    refine ⟨Int32.le_trans h1 m1, fun q g1 g2 => ?_⟩
    by_cases e : q = i
    · subst e; exact Int32.le_trans h1 m2
    · exact h2 q (by omega) (by omega)
theorem fo_hi (s : Nat → Int32) : ∀ (k i : Nat) (x : Int32), x ≤ fo (fun x i => if x < s i then s i else x) k i x ∧ ∀ q, i ≤ q → q < i + k → s q ≤ fo (fun x i => if x < s i then s i else x) k i x := by
  intro k
  induction k with
  | zero => intro i x; exact ⟨Int32.le_refl _, fun q h1 h2 => absurd h2 (by omega)⟩
  | succ k ih =>
    intro i x
    obtain ⟨h1, h2⟩ := ih (i + 1) (if x < s i then s i else x)
    have m1 : x ≤ (if x < s i then s i else x) := by
      by_cases c : x < s i
      · rw [if_pos c]; exact Int32.le_of_lt c
      · rw [if_neg c]; exact Int32.le_refl _
    have m2 : s i ≤ (if x < s i then s i else x) := by
      by_cases c : x < s i
      · rw [if_pos c]; exact Int32.le_refl _
      · rw [if_neg c]; exact Int32.not_lt.mp c
    refine ⟨Int32.le_trans m1 h1, fun q g1 g2 => ?_⟩
    by_cases e : q = i
    · subst e; exact Int32.le_trans m2 h1
    · exact h2 q (by omega) (by omega)
theorem vLe_le {I : HI} {b d i : Nat} (hi : i < d) : vLe I b d ≤ I 3 (b + i) := by
  obtain ⟨h1, h2⟩ := fo_lo (fun i => I 3 (b + i)) (d - 1) 1 (I 3 (b + 0))
  by_cases e : i = 0
  · subst e; exact h1
  · exact h2 i (by omega) (by omega)
theorem vGr_le {I : HI} {b d i : Nat} (hi : i < d) : I 3 (b + i) ≤ vGr I b d := by
  obtain ⟨h1, h2⟩ := fo_hi (fun i => I 3 (b + i)) (d - 1) 1 (I 3 (b + 0))
  by_cases e : i = 0
  · subst e; exact h1
  · exact h2 i (by omega) (by omega)
