/-! ===== pure: unlike and nearest ===== -/
def dab (x y : Int32) : Int32 := if 0 ≤ x - y then x - y else -(x - y)
theorem mn (a b : Nat) (ha : a < 2 ^ 31) (hb : b < 2 ^ 31) : (if nI b < nI a then nI b else nI a) = nI (min a b) := by
  by_cases h : b < a
  · rw [if_pos (nI_lt h ha), Nat.min_eq_right (by omega)]
  · rw [if_neg (nI_nlt (by omega) (by omega)), Nat.min_eq_left (by omega)]
theorem ix_le {i m e : Nat} (hi : i < 2 ^ 20) (hm : m < 2 ^ 20) (he : e < 2 ^ 20) : (nI e ≤ nI i - nI m) ↔ e + m ≤ i := by
  rw [Int32.le_iff_toInt_le, pk_sub_toInt (by omega) (by omega), nI_toInt (by omega)]
  omega
theorem add_sub' (t i m : Nat) (h : m ≤ t + i) : nI t + (nI i - nI m) = nI (t + i - m) := by
  rw [← pk_sub h, ← nI_add, Int32.sub_eq_add_neg, Int32.sub_eq_add_neg, Int32.add_assoc]
theorem like_sim {I : HI} {i j t1 d1 p1 b1 t2 d2 p2 b2 S : Nat} (h1 : SG I i t1 d1 p1 b1 S) (h2 : SG I j t2 d2 p2 b2 S) : ∃ y : Int32, f_X1_differenceOf (nI i) (nI j) I = some (y, I) ∧ f_X6_unlikeOf (nI i) (nI j) I = some (y, I) := by
  have z1 := h1.2.2.1
  have z2 := h2.2.2.1
  obtain ⟨m, hm⟩ : ∃ m : Nat, m = min p1 p2 := ⟨_, rfl⟩
  obtain ⟨e, he⟩ : ∃ e : Nat, e = min (d1 - p1) (d2 - p2) := ⟨_, rfl⟩
  have hm1 : m ≤ p1 := by omega
  have hm2 : m ≤ p2 := by omega
  have he1 : e ≤ d1 - p1 := by omega
  have he2 : e ≤ d2 - p2 := by omega
  have at1 : ∀ k, k < m + e → f_X1_sampleAt (nI t1 + (nI k - nI m)) I = some (I 58 (47 + (b1 + (p1 + k - m))), I) := fun k hk => by
    have := cs_at h1 (i := p1 + k - m) (by omega)
    rwa [nI_add, show b1 + (p1 + k - m) = t1 + k - m by omega, ← add_sub' t1 k m (by omega), show t1 + k - m = b1 + (p1 + k - m) by omega] at this
  have at2 : ∀ k, k < m + e → f_X1_sampleAt (nI t2 + (nI k - nI m)) I = some (I 58 (47 + (b2 + (p2 + k - m))), I) := fun k hk => by
    have := cs_at h2 (i := p2 + k - m) (by omega)
    rwa [nI_add, show b2 + (p2 + k - m) = t2 + k - m by omega, ← add_sub' t2 k m (by omega), show t2 + k - m = b2 + (p2 + k - m) by omega] at this
  have rt1 : ∀ k, k < m + e → f_X6_sampleAt (nI i) (nI p1 + (nI k - nI m)) I = some (I 58 (47 + (b1 + (p1 + k - m))), I) := fun k hk => by
    rw [add_sub' p1 k m (by omega)]
    exact rs_at h1 (by omega)
  have rt2 : ∀ k, k < m + e → f_X6_sampleAt (nI j) (nI p2 + (nI k - nI m)) I = some (I 58 (47 + (b2 + (p2 + k - m))), I) := fun k hk => by
    rw [add_sub' p2 k m (by omega)]
    exact rs_at h2 (by omega)
  have bh : ∀ {j t d p b : Nat}, SG I j t d p b S → f_X3_behindOf (nI j) I = some (nI (d - p - 1), I) := fun {j t d p b} h => by
    have z := h.2.2.1
    unfold f_X3_behindOf
    rw [cn_1 h, bs]
    dsimp only
    rw [cn_2 h, bs]
    dsimp only
    rw [pk_sub (by omega), l1, pk_sub (by omega)]
  have s0 : -nI m = nI 0 - nI m := (Int32.zero_sub _).symm
  refine ⟨fo (fun x k => x + dab (I 58 (47 + (b1 + (p1 + k - m)))) (I 58 (47 + (b2 + (p2 + k - m))))) (m + e) 0 0, ?_, ?_⟩
  · unfold f_X1_differenceOf
    rw [cn_2 h1, bs]
    dsimp only
    rw [cn_2 h2, bs]
    dsimp only
    rw [bh h1, bs]
    dsimp only
    rw [bh h2, bs]
    dsimp only
    rw [cn_0 h1, bs]
    dsimp only
    rw [cn_0 h2, bs]
    dsimp only
    rw [mn p1 p2 (by omega) (by omega), mn (d1 - p1 - 1) (d2 - p2 - 1) (by omega) (by omega), ← hm, show min (d1 - p1 - 1) (d2 - p2 - 1) = e - 1 by omega, s0]
    exact lp (fun f x k => f_X1_differenceOf_L72 (nI (e - 1)) (nI t1) (nI t2) f x (nI k - nI m) I) (fun x k => x + dab (I 58 (47 + (b1 + (p1 + k - m)))) (I 58 (47 + (b2 + (p2 + k - m))))) (m + e) (fun x => some (x, I)) (fun f k x hk => by
      show f_X1_differenceOf_L72_b _ _ _ _ _ _ _ = _
      unfold f_X1_differenceOf_L72_b
      rw [if_neg (fun q => by
        rw [Int32.lt_iff_toInt_lt, pk_sub_toInt (by omega) (by omega), nI_toInt (by omega)] at q
        omega), at1 k hk, bs]
      dsimp only
      rw [at2 k hk, bs, acc1, nI_1]
      dsimp only
      unfold dab
      rw [Int32.zero_sub]) (fun f x => by
      show f_X1_differenceOf_L72_b _ _ _ _ _ _ _ = _
      unfold f_X1_differenceOf_L72_b
      rw [if_pos (by
        rw [Int32.lt_iff_toInt_lt, pk_sub_toInt (by omega) (by omega), nI_toInt (by omega)]
        omega)]) (m + e) 4000 0 0 rfl (by omega) (by omega)
  · have loop : ∀ w : Nat, w = e → f_X6_unlikeOf_L84 (nI i) (nI j) (nI w) 4000 0 (-nI m) I = some (fo (fun x k => x + dab (I 58 (47 + (b1 + (p1 + k - m)))) (I 58 (47 + (b2 + (p2 + k - m))))) (m + e) 0 0, I) := fun w hw => by
      rw [hw, s0]
      exact lp (fun f x k => f_X6_unlikeOf_L84 (nI i) (nI j) (nI e) f x (nI k - nI m) I) (fun x k => x + dab (I 58 (47 + (b1 + (p1 + k - m)))) (I 58 (47 + (b2 + (p2 + k - m))))) (m + e) (fun x => some (x, I)) (fun f k x hk => by
        show f_X6_unlikeOf_L84_b _ _ _ _ _ _ _ = _
        unfold f_X6_unlikeOf_L84_b
        rw [if_neg (fun q => by have := (ix_le (by omega) (by omega) (by omega)).mp q; omega), ro_2 h1, bs]
        dsimp only
        rw [rt1 k hk, bs]
        dsimp only
        rw [ro_2 h2, bs]
        dsimp only
        rw [rt2 k hk, bs, acc1, nI_1]
        dsimp only
        unfold dab
        by_cases c : 0 ≤ I 58 (47 + (b1 + (p1 + k - m))) - I 58 (47 + (b2 + (p2 + k - m)))
        · rw [if_pos c, if_pos c]
        · rw [if_neg c, if_neg c]) (fun f x => by
        show f_X6_unlikeOf_L84_b _ _ _ _ _ _ _ = _
        unfold f_X6_unlikeOf_L84_b
        rw [if_pos ((ix_le (by omega) (by omega) (by omega)).mpr (by omega))]) (m + e) 4000 0 0 rfl (by omega) (by omega)
    have eJ : f_X6_unlikeOf_J30 (nI i) (nI j) (nI m) I = some (fo (fun x k => x + dab (I 58 (47 + (b1 + (p1 + k - m)))) (I 58 (47 + (b2 + (p2 + k - m))))) (m + e) 0 0, I) := by
      unfold f_X6_unlikeOf_J30
      rw [ro_1 h1, bs]
      dsimp only
      rw [ro_2 h1, bs]
      dsimp only
      rw [ro_1 h2, bs]
      dsimp only
      rw [ro_2 h2, bs]
      dsimp only
      rw [pk_sub (by omega), pk_sub (by omega)]
      by_cases c : d2 - p2 ≤ d1 - p1
      · rw [if_pos (nI_le c (by omega))]
        exact loop _ (by omega)
      · rw [if_neg (nI_ge (by omega) (by omega))]
        exact loop _ (by omega)
    unfold f_X6_unlikeOf
    rw [ro_2 h1, bs]
    dsimp only
    rw [ro_2 h2, bs]
    dsimp only
    by_cases c : p2 ≤ p1
    · rw [if_pos (nI_le c (by omega)), ro_2 h2, bs]
      dsimp only
      rw [show nI p2 = nI m by rw [show p2 = m by omega]]
      exact eJ
    · rw [if_neg (nI_ge (by omega) (by omega)), ro_2 h1, bs]
      dsimp only
      rw [show nI p1 = nI m by rw [show p1 = m by omega]]
      exact eJ
theorem unlike_law (v1 v2 : Int32) {I : HI} (G : Good I) : Ok (f_X5_unlike v1 v2) (f_X6_unlike v1 v2) I := by
  obtain ⟨⟨S, n, Z, K, D, Q, R, M⟩, -⟩ := id G
  have h22 : I 58 22 = nI n := R.1.2.2.1
  have h6 : n ≤ 6 := Nat.le_trans R.1.2.2.2.1 R.1.2.2.2.2.2.2.1
  have h4 : I 4 1 = nI n := M.2.2.1.trans h22
  unfold Ok f_X5_unlike f_X6_unlike
  by_cases hin : 0 ≤ v1 ∧ v1 < nI n
  · by_cases hin2 : 0 ≤ v2 ∧ v2 < nI n
    · obtain ⟨i, hi, rfl⟩ := in_n (by omega) hin
      obtain ⟨j, hj, rfl⟩ := in_n (by omega) hin2
      obtain ⟨t1, d1, p1, b1, g1⟩ := seg_of R M hi
      obtain ⟨t2, d2, p2, b2, g2⟩ := seg_of R M hj
      obtain ⟨y, e1, e2⟩ := like_sim g1 g2
      refine ⟨y, I, I, ?_, ?_, G⟩
      · rw [has_in (n := n) h4 (by omega) hi, bs, if_neg n10]
        dsimp only
        rw [has_in (n := n) h4 (by omega) hj, bs, if_neg n10]
        dsimp only
        rw [e1, bs]
      · rw [isSegment_eq (n := n) h22 (by omega), if_pos hin, bs, if_neg n10]
        dsimp only
        rw [isSegment_eq (n := n) h22 (by omega), if_pos hin2, bs, if_neg n10]
        dsimp only
        rw [e2, bs]
    · refine ⟨-1, I, I, ?_, ?_, G⟩
      · rw [has_eq, if_pos (by rw [h4]; exact hin), bs, if_neg n10]
        dsimp only
        rw [has_out (by rw [h4]; exact hin2), bs, if_pos rfl]
      · rw [isSegment_eq (n := n) h22 (by omega), if_pos hin, bs, if_neg n10]
        dsimp only
        rw [isSegment_eq (n := n) h22 (by omega), if_neg hin2, bs, if_pos rfl]
  · refine ⟨-1, I, I, ?_, ?_, G⟩
    · rw [has_out (by rw [h4]; exact hin), bs, if_pos rfl]
    · rw [isSegment_eq (n := n) h22 (by omega), if_neg hin, bs, if_pos rfl]
theorem nearest_law (v : Int32) {I : HI} (G : Good I) : Ok (f_X5_nearest v) (f_X6_nearest v) I := by
  obtain ⟨⟨S, n, Z, K, D, Q, R, M⟩, -⟩ := id G
  have h22 : I 58 22 = nI n := R.1.2.2.1
  have h6 : n ≤ 6 := Nat.le_trans R.1.2.2.2.1 R.1.2.2.2.2.2.2.1
  have h4 : I 4 1 = nI n := M.2.2.1.trans h22
  unfold Ok f_X5_nearest f_X6_nearest
  by_cases hin : 0 ≤ v ∧ v < nI n
  · obtain ⟨j, hj, rfl⟩ := in_n (by omega) hin
    obtain ⟨t1, d1, p1, b1, g1⟩ := seg_of R M hj
    have hD : ∃ F : Nat → Int32, ∀ i, i < n → f_X1_differenceOf (nI j) (nI i) I = some (F i, I) ∧ f_X6_unlikeOf (nI j) (nI i) I = some (F i, I) := by
      have hE : ∀ i, ∃ y : Int32, i < n → f_X1_differenceOf (nI j) (nI i) I = some (y, I) ∧ f_X6_unlikeOf (nI j) (nI i) I = some (y, I) := by
        intro i
        by_cases hi : i < n
        · obtain ⟨t2, d2, p2, b2, g2⟩ := seg_of R M hi
          obtain ⟨y, e⟩ := like_sim g1 g2
          exact ⟨y, fun _ => e⟩
        · exact ⟨0, fun h => absurd h hi⟩
      exact ⟨fun i => Classical.choose (hE i), fun i => Classical.choose_spec (hE i)⟩
    obtain ⟨F, hF⟩ := hD
    have eC := lp (fun f (x : Int32 × Int32) i => f_X5_nearest_L24 (nI j) f x.1 x.2 (nI i) I) (fun x i => if i = j then x else if x.1 = -6 then (nI i, F i) else if x.2 ≤ F i then x else (nI i, F i)) n (fun x => some (x.1, I)) (fun f i x hi => by
      show f_X5_nearest_L24_b _ _ _ _ _ _ = _
      unfold f_X5_nearest_L24_b
      rw [h4, if_neg (nI_ge hi (by omega)), nI_1]
      by_cases c : i = j
      · rw [if_pos (by rw [c]), if_pos c]
      · rw [if_neg (nI_ne (by omega) (by omega) c), if_neg c, (hF i hi).1, bs]
        dsimp only
        by_cases c2 : x.1 = -6
        · rw [if_pos c2, if_pos c2]
        · rw [if_neg c2, if_neg c2]
          by_cases c3 : x.2 ≤ F i
          · rw [if_pos c3, if_pos c3]
          · rw [if_neg c3, if_neg c3]) (fun f x => by
      show f_X5_nearest_L24_b _ _ _ _ _ _ = _
      unfold f_X5_nearest_L24_b
      rw [h4, if_pos (nI_le (Nat.le_refl _) (by omega))]) n 4000 0 (-6, 0) rfl (by omega) (by omega)
    have eR := lp (fun f (x : Int32 × Int32) i => f_X6_nearest_L18 (nI j) f x.1 x.2 (nI i) I) (fun x i => if i = j then x else if x.1 = -6 then (nI i, F i) else if x.2 ≤ F i then x else (nI i, F i)) n (fun x => some (x.1, I)) (fun f i x hi => by
      show f_X6_nearest_L18_b _ _ _ _ _ _ = _
      unfold f_X6_nearest_L18_b
      rw [h22, if_neg (nI_ge hi (by omega)), nI_1, (hF i hi).2, bs]
      dsimp only
      by_cases c : i = j
      · rw [if_pos (show nI i = nI j by rw [c]), if_pos c, if_pos rfl, if_pos rfl]
      · rw [if_neg (nI_ne (by omega) (by omega) c), if_neg c]
        by_cases c2 : x.1 = -6
        · rw [if_pos c2, if_pos c2, if_neg n10, if_neg n10]
        · rw [if_neg c2, if_neg c2]
          by_cases c3 : x.2 ≤ F i
          · rw [if_pos c3, if_pos c3, if_pos rfl, if_pos rfl]
          · rw [if_neg c3, if_neg c3, if_neg n10, if_neg n10]) (fun f x => by
      show f_X6_nearest_L18_b _ _ _ _ _ _ = _
      unfold f_X6_nearest_L18_b
      rw [h22, if_pos (nI_le (Nat.le_refl _) (by omega))]) n 4000 0 (-6, 0) rfl (by omega) (by omega)
    generalize fo (fun (x : Int32 × Int32) i => if i = j then x else if x.1 = -6 then (nI i, F i) else if x.2 ≤ F i then x else (nI i, F i)) n 0 (-6, 0) = X at eC eR
    refine ⟨X.1, I, I, ?_, ?_, G⟩
    rotate_left
    · rw [isSegment_eq (n := n) h22 (by omega), if_pos hin, bs, if_neg n10]
      exact eR
    · rw [has_in (n := n) h4 (by omega) hj, bs, if_neg n10]
      exact eC
  · refine ⟨-1, I, I, ?_, ?_, G⟩
    · rw [has_out (by rw [h4]; exact hin), bs, if_pos rfl]
    · rw [isSegment_eq (n := n) h22 (by omega), if_neg hin, bs, if_pos rfl]
