/-! ===== pure: what is asked of a segment ===== -/
def fo {σ : Type} (g : σ → Nat → σ) : Nat → Nat → σ → σ
  | 0, _, x => x
  | k + 1, i, x => fo g k (i + 1) (g x i)
theorem lp {σ β : Type} (L : Nat → σ → Nat → β) (g : σ → Nat → σ) (N : Nat) (E : σ → β) (step : ∀ (f i : Nat) (x : σ), i < N → L (f + 1) x i = L f (g x i) (i + 1)) (fin : ∀ (f : Nat) (x : σ), L (f + 1) x N = E x) : ∀ (k f i : Nat) (x : σ), N - i = k → i ≤ N → k < f → L f x i = E (fo g k i x) := by
  intro k
  induction k with
  | zero =>
    intro f i x hk hi hf
    obtain ⟨f, rfl⟩ : ∃ f', f = f' + 1 := ⟨f - 1, by omega⟩
    obtain rfl : i = N := by omega
    exact fin f x
  | succ k ih =>
    intro f i x hk hi hf
    obtain ⟨f, rfl⟩ : ∃ f', f = f' + 1 := ⟨f - 1, by omega⟩
    rw [step f i x (by omega)]
    exact ih f (i + 1) _ (by omega) (by omega) (by omega)
theorem fo_rel {σ τ : Type} (Rl : σ → τ → Prop) (g : σ → Nat → σ) (g' : τ → Nat → τ) (lo N : Nat) (h : ∀ x y i, lo ≤ i → i < N → Rl x y → Rl (g x i) (g' y i)) : ∀ (k i : Nat) (x : σ) (y : τ), i + k ≤ N → lo ≤ i → Rl x y → Rl (fo g k i x) (fo g' k i y) := by
  intro k
  induction k with
  | zero => intro i x y _ _ r; exact r
  | succ k ih =>
    intro i x y hk hi r
    exact ih (i + 1) _ _ (by omega) (by omega) (h x y i hi (by omega) r)
theorem fo_eq {σ : Type} (g g' : σ → Nat → σ) (lo N : Nat) (h : ∀ x i, lo ≤ i → i < N → g x i = g' x i) (k i : Nat) (x : σ) (hk : i + k ≤ N) (hi : lo ≤ i) : fo g k i x = fo g' k i x := fo_rel (fun a b => a = b) g g' lo N (fun x y i a b r => by rw [r]; exact h y i a b) k i x x hk hi rfl
theorem in_to {n : Nat} (h : n < 2 ^ 31) (v : Int32) (I : HI) : f_X6_in v.toInt64 (0 : Int64) ((nI n).toInt64 - (1 : Int64)) I = some (if 0 ≤ v ∧ v < nI n then 1 else 0, I) := by
  have e := isSegment_eq (I := fun _ _ => nI n) (n := n) rfl h v
  unfold f_X6_isSegment at e
  rw [in_eq, bs] at e
  rw [in_eq]
  by_cases c : (0 : Int64) ≤ v.toInt64 ∧ v.toInt64 ≤ (nI n).toInt64 - 1
  · rw [if_pos c] at e ⊢
    by_cases d : 0 ≤ v ∧ v < nI n
    · rw [if_pos d]
    · rw [if_neg d] at e
      exact absurd (congrArg (fun o => o.map Prod.fst) e) (by simp)
  · rw [if_neg c] at e ⊢
    by_cases d : 0 ≤ v ∧ v < nI n
    · rw [if_pos d] at e
      exact absurd (congrArg (fun o => o.map Prod.fst) e) (by simp)
    · rw [if_neg d]
/-- what holds of the j-th kept segment on both sides -/
def SG (I : HI) (j t d p b S : Nat) : Prop := (j < 6 ∧ I 58 (23 + 4 * j) = nI t ∧ I 58 (23 + 4 * j + 1) = nI d ∧ I 58 (23 + 4 * j + 2) = nI p) ∧ (I 5 (4 * j) = nI t ∧ I 5 (4 * j + 1) = nI d ∧ I 5 (4 * j + 2) = nI p) ∧ (t = b + p ∧ p < d ∧ d ≤ 32 ∧ b + d ≤ S ∧ S ≤ 400) ∧ ∀ k, k < S → I 3 k = I 58 (47 + k) ∧ -100 ≤ I 58 (47 + k) ∧ I 58 (47 + k) ≤ 100
theorem seg_of {I : HI} {S n Z K D Q j : Nat} (R : RX (I 58) S n Z K D Q) (M : MR (I 1) (I (1 + 1)) (I (1 + 2)) (I (1 + 3)) (I (1 + 4)) (I 58) S n) (hj : j < n) : ∃ t d p b : Nat, SG I j t d p b S := by
  obtain ⟨⟨h10, hS, h22, hnK, h8, hK1, hK6, h16, hZ, h5, h6, hPD, hD⟩, ⟨k0, k11, k9, k17⟩, hsg, hcap, hsm, hlv⟩ := R
  obtain ⟨hT, hF, hG, hN, hP, hc1, hc0⟩ := M
  obtain ⟨t, d, p, e1, e2, e3, z1, z2, z3, z4⟩ := hsg j hj
  refine ⟨t, d, p, t - p, ⟨by omega, e1, e2, e3⟩, ⟨?_, ?_, ?_⟩, ⟨by omega, z1, z2, by omega, hS⟩, fun k hk => ⟨hP k hk, hsm k hk⟩⟩
  · rw [← e1]; exact hN (4 * j) (by omega)
  · rw [← e2]; exact hN (4 * j + 1) (by omega)
  · rw [← e3]; exact hN (4 * j + 2) (by omega)
theorem of_eq {j k : Nat} (hj : j < 6) (hk : k < 4) (I : HI) : f_X6_of (nI j) (nI k) I = some (I 58 (23 + 4 * j + k), I) := by
  unfold f_X6_of
  rw [l23, l4, pk_mul, nI_add, nI_add, if_neg (ib (by omega) (by decide)), nc (by omega)]
theorem rs_at {I : HI} {j t d p b S i : Nat} (h : SG I j t d p b S) (hi : b + i < S) : f_X6_sampleAt (nI j) (nI i) I = some (I 58 (47 + (b + i)), I) := by
  obtain ⟨⟨hj, e1, e2, e3⟩, -, ⟨z0, z1, z2, z3, z4⟩, -⟩ := h
  unfold f_X6_sampleAt f_X6_numberOf
  rw [show f_X6_of (nI j) 0 I = _ from of_eq (k := 0) hj (by decide) I, bs]
  dsimp only
  rw [l2, of_eq hj (by decide), bs]
  dsimp only
  rw [show 23 + 4 * j + 0 = 23 + 4 * j by omega, e1, e3, bs]
  dsimp only
  rw [pk_sub (by omega), nI_add, l47, nI_add, if_neg (ib (by omega) (by decide)), nc (by omega), show 47 + (t - p + i) = 47 + (b + i) by omega]
theorem cs_at {I : HI} {j t d p b S i : Nat} (h : SG I j t d p b S) (hi : b + i < S) : f_X1_sampleAt (nI b + nI i) I = some (I 58 (47 + (b + i)), I) := by
  obtain ⟨-, -, ⟨z0, z1, z2, z3, z4⟩, q⟩ := h
  rw [nI_add, sa_in (by omega), (q _ hi).1]
theorem cn_0 {I : HI} {j t d p b S : Nat} (h : SG I j t d p b S) : f_X3_numberOf (nI j) 0 I = some (nI t, I) := by
  obtain ⟨⟨hj, -⟩, ⟨e, -⟩, -⟩ := h
  rw [l0, no_in (by omega), show 4 * j + 0 = 4 * j by omega, e]
theorem cn_1 {I : HI} {j t d p b S : Nat} (h : SG I j t d p b S) : f_X3_numberOf (nI j) 1 I = some (nI d, I) := by
  obtain ⟨⟨hj, -⟩, ⟨-, e, -⟩, -⟩ := h
  rw [l1, no_in (by omega), e]
theorem cn_2 {I : HI} {j t d p b S : Nat} (h : SG I j t d p b S) : f_X3_numberOf (nI j) 2 I = some (nI p, I) := by
  obtain ⟨⟨hj, -⟩, ⟨-, -, e⟩, -⟩ := h
  rw [l2, no_in (by omega), e]
theorem ro_1 {I : HI} {j t d p b S : Nat} (h : SG I j t d p b S) : f_X6_of (nI j) 1 I = some (nI d, I) := by
  obtain ⟨⟨hj, -, e, -⟩, -⟩ := h
  rw [l1, of_eq hj (by decide), e]
theorem ro_2 {I : HI} {j t d p b S : Nat} (h : SG I j t d p b S) : f_X6_of (nI j) 2 I = some (nI p, I) := by
  obtain ⟨⟨hj, -, -, e⟩, -⟩ := h
  rw [l2, of_eq hj (by decide), e]
theorem cfirst {I : HI} {j t d p b S : Nat} (h : SG I j t d p b S) : f_X3_firstOf (nI j) I = some (nI b, I) := by
  have z := h.2.2.1
  unfold f_X3_firstOf
  rw [cn_0 h, bs]
  dsimp only
  rw [cn_2 h, bs]
  dsimp only
  rw [pk_sub (by omega), show t - p = b by omega]
theorem least_sim {I : HI} {j t d p b S : Nat} (h : SG I j t d p b S) : ∃ y : Int32, f_X1_leastOf (nI j) I = some (y, I) ∧ f_X6_least (nI j) I = some (y, I) := by
  have z := h.2.2.1
  have s0 := (h.2.2.2 b (by omega)).2
  refine ⟨fo (fun x i => if I 58 (47 + (b + i)) < x then I 58 (47 + (b + i)) else x) (d - 1) 1 (I 58 (47 + (b + 0))), ?_, ?_⟩
  · unfold f_X1_leastOf
    rw [cfirst h, bs]
    dsimp only
    rw [cn_1 h, bs]
    dsimp only
    have e0 := cs_at h (i := 0) (by omega)
    rw [show nI b + nI 0 = nI b from nI_add b 0] at e0
    rw [e0, bs]
    exact lp (fun f x i => f_X1_leastOf_L29 (nI b) (nI d) f x (nI i) I) (fun x i => if I 58 (47 + (b + i)) < x then I 58 (47 + (b + i)) else x) d (fun x => some (x, I)) (fun f i x hi => by
      show f_X1_leastOf_L29_b _ _ _ _ _ _ = _
      unfold f_X1_leastOf_L29_b
      rw [if_neg (nI_ge hi (by omega)), cs_at h (by omega), bs, nI_1]) (fun f x => by
      show f_X1_leastOf_L29_b _ _ _ _ _ _ = _
      unfold f_X1_leastOf_L29_b
      rw [if_pos (nI_le (Nat.le_refl _) (by omega))]) (d - 1) 4000 1 _ rfl (by omega) (by omega)
  · unfold f_X6_least
    have e := lp (fun f x i => f_X6_least_L5 (nI j) f x (nI i) I) (fun x i => if x ≤ I 58 (47 + (b + i)) then x else I 58 (47 + (b + i))) d (fun x => some (x, I)) (fun f i x hi => by
      show f_X6_least_L5_b _ _ _ _ _ = _
      unfold f_X6_least_L5_b
      rw [ro_1 h, bs, if_neg (nI_ge hi (by omega)), rs_at h (by omega), bs, nI_1]
      dsimp only
      by_cases c : x ≤ I 58 (47 + (b + i))
      · rw [if_pos c, if_pos c]
      · rw [if_neg c, if_neg c]) (fun f x => by
      show f_X6_least_L5_b _ _ _ _ _ = _
      unfold f_X6_least_L5_b
      rw [ro_1 h, bs, if_pos (nI_le (Nat.le_refl _) (by omega))]) d 4000 0 100 rfl (by omega) (by omega)
    refine (show f_X6_least_L5 (nI j) 4000 100 0 I = _ from e).trans ?_
    congr 2
    obtain ⟨d', rfl⟩ : ∃ d', d = d' + 1 := ⟨d - 1, by omega⟩
    show fo _ d' (0 + 1) (if (100 : Int32) ≤ I 58 (47 + (b + 0)) then 100 else I 58 (47 + (b + 0))) = fo _ (d' + 1 - 1) 1 _
    rw [show d' + 1 - 1 = d' by omega, show (if (100 : Int32) ≤ I 58 (47 + (b + 0)) then 100 else I 58 (47 + (b + 0))) = I 58 (47 + (b + 0)) by
      split
      · rename_i c
        exact Int32.le_antisymm c s0.2
      · rfl]
    exact fo_eq _ _ 0 (d' + 1) (fun x i _ _ => by
      by_cases c : x ≤ I 58 (47 + (b + i))
      · rw [if_pos c, if_neg (Int32.not_lt.mpr c)]
      · rw [if_neg c, if_pos (Int32.not_le.mp c)]) d' 1 _ (by omega) (by omega)
theorem greatest_sim {I : HI} {j t d p b S : Nat} (h : SG I j t d p b S) : ∃ y : Int32, f_X1_greatestOf (nI j) I = some (y, I) ∧ f_X6_greatest (nI j) I = some (y, I) := by
  have z := h.2.2.1
  have s0 := (h.2.2.2 b (by omega)).2
  refine ⟨fo (fun x i => if x < I 58 (47 + (b + i)) then I 58 (47 + (b + i)) else x) (d - 1) 1 (I 58 (47 + (b + 0))), ?_, ?_⟩
  · unfold f_X1_greatestOf
    rw [cfirst h, bs]
    dsimp only
    rw [cn_1 h, bs]
    dsimp only
    have e0 := cs_at h (i := 0) (by omega)
    rw [show nI b + nI 0 = nI b from nI_add b 0] at e0
    rw [e0, bs]
    exact lp (fun f x i => f_X1_greatestOf_L29 (nI b) (nI d) f x (nI i) I) (fun x i => if x < I 58 (47 + (b + i)) then I 58 (47 + (b + i)) else x) d (fun x => some (x, I)) (fun f i x hi => by
      show f_X1_greatestOf_L29_b _ _ _ _ _ _ = _
      unfold f_X1_greatestOf_L29_b
      rw [if_neg (nI_ge hi (by omega)), cs_at h (by omega), bs, nI_1]) (fun f x => by
      show f_X1_greatestOf_L29_b _ _ _ _ _ _ = _
      unfold f_X1_greatestOf_L29_b
      rw [if_pos (nI_le (Nat.le_refl _) (by omega))]) (d - 1) 4000 1 _ rfl (by omega) (by omega)
  · unfold f_X6_greatest
    have e := lp (fun f x i => f_X6_greatest_L5 (nI j) f x (nI i) I) (fun x i => if I 58 (47 + (b + i)) ≤ x then x else I 58 (47 + (b + i))) d (fun x => some (x, I)) (fun f i x hi => by
      show f_X6_greatest_L5_b _ _ _ _ _ = _
      unfold f_X6_greatest_L5_b
      rw [ro_1 h, bs, if_neg (nI_ge hi (by omega)), rs_at h (by omega), bs, nI_1]
      dsimp only
      by_cases c : I 58 (47 + (b + i)) ≤ x
      · rw [if_pos c, if_pos c]
      · rw [if_neg c, if_neg c]) (fun f x => by
      show f_X6_greatest_L5_b _ _ _ _ _ = _
      unfold f_X6_greatest_L5_b
      rw [ro_1 h, bs, if_pos (nI_le (Nat.le_refl _) (by omega))]) d 4000 0 (-100) rfl (by omega) (by omega)
    refine (show f_X6_greatest_L5 (nI j) 4000 (-100) 0 I = _ from e).trans ?_
    congr 2
    obtain ⟨d', rfl⟩ : ∃ d', d = d' + 1 := ⟨d - 1, by omega⟩
    show fo _ d' (0 + 1) (if I 58 (47 + (b + 0)) ≤ (-100 : Int32) then -100 else I 58 (47 + (b + 0))) = fo _ (d' + 1 - 1) 1 _
    rw [show d' + 1 - 1 = d' by omega, show (if I 58 (47 + (b + 0)) ≤ (-100 : Int32) then -100 else I 58 (47 + (b + 0))) = I 58 (47 + (b + 0)) by
      split
      · rename_i c
        exact Int32.le_antisymm s0.1 c
      · rfl]
    exact fo_eq _ _ 0 (d' + 1) (fun x i _ _ => by
      by_cases c : I 58 (47 + (b + i)) ≤ x
      · rw [if_pos c, if_neg (Int32.not_lt.mpr c)]
      · rw [if_neg c, if_pos (Int32.not_le.mp c)]) d' 1 _ (by omega) (by omega)
theorem sum_sim {I : HI} {j t d p b S : Nat} (h : SG I j t d p b S) : ∃ y : Int32, f_X1_sumOf (nI j) I = some (y, I) ∧ f_X6_sumOf (nI j) I = some (y, I) := by
  have z := h.2.2.1
  refine ⟨fo (fun x i => x + I 58 (47 + (b + i))) d 0 0, ?_, ?_⟩
  · unfold f_X1_sumOf
    rw [cfirst h, bs]
    dsimp only
    rw [cn_1 h, bs]
    exact lp (fun f x i => f_X1_sumOf_L25 (nI b) (nI d) f x (nI i) I) (fun x i => x + I 58 (47 + (b + i))) d (fun x => some (x, I)) (fun f i x hi => by
      show f_X1_sumOf_L25_b _ _ _ _ _ _ = _
      unfold f_X1_sumOf_L25_b
      rw [if_neg (nI_ge hi (by omega)), cs_at h (by omega), bs, nI_1]) (fun f x => by
      show f_X1_sumOf_L25_b _ _ _ _ _ _ = _
      unfold f_X1_sumOf_L25_b
      rw [if_pos (nI_le (Nat.le_refl _) (by omega))]) d 4000 0 0 rfl (by omega) (by omega)
  · unfold f_X6_sumOf
    exact lp (fun f x i => f_X6_sumOf_L4 (nI j) f x (nI i) I) (fun x i => x + I 58 (47 + (b + i))) d (fun x => some (x, I)) (fun f i x hi => by
      show f_X6_sumOf_L4_b _ _ _ _ _ = _
      unfold f_X6_sumOf_L4_b
      rw [ro_1 h, bs, if_neg (nI_ge hi (by omega)), rs_at h (by omega), bs, nI_1]) (fun f x => by
      show f_X6_sumOf_L4_b _ _ _ _ _ = _
      unfold f_X6_sumOf_L4_b
      rw [ro_1 h, bs, if_pos (nI_le (Nat.le_refl _) (by omega))]) d 4000 0 0 rfl (by omega) (by omega)
theorem ups_sim {I : HI} {j t d p b S : Nat} (h : SG I j t d p b S) : ∃ y : Int32, f_X1_upsOf (nI j) I = some (y, I) ∧ f_X6_risesIn (nI j) I = some (y, I) := by
  have z := h.2.2.1
  have e := lp (fun f x i => f_X6_risesIn_L4 (nI j) f x (nI (i + 1)) I) (fun x i => if I 58 (47 + (b + (i + 1))) ≤ I 58 (47 + (b + i)) then x else x + 1) (d - 1) (fun x => some (x, I)) (fun f i x hi => by
      show f_X6_risesIn_L4_b _ _ _ _ _ = _
      unfold f_X6_risesIn_L4_b
      rw [ro_1 h, bs, if_neg (nI_ge (by omega) (by omega)), rs_at h (by omega), bs]
      dsimp only
      rw [show nI (i + 1) - 1 = nI i from nI_pred i, rs_at h (by omega), bs, nI_1]
      dsimp only
      by_cases c : I 58 (47 + (b + (i + 1))) ≤ I 58 (47 + (b + i))
      · rw [if_pos c, if_pos c, Int32.add_zero]
      · rw [if_neg c, if_neg c]) (fun f x => by
      show f_X6_risesIn_L4_b _ _ _ _ _ = _
      unfold f_X6_risesIn_L4_b
      rw [ro_1 h, bs, if_pos (nI_le (by omega) (by omega))]) (d - 1) 4000 0 0 rfl (by omega) (by omega)
  refine ⟨_, ?_, (show f_X6_risesIn (nI j) I = _ from e)⟩
  unfold f_X1_upsOf
  rw [cfirst h, bs]
  dsimp only
  rw [cn_1 h, bs]
  exact lp (fun f x i => f_X1_upsOf_L25 (nI b) (nI d) f x (nI (i + 1)) I) (fun x i => if I 58 (47 + (b + (i + 1))) ≤ I 58 (47 + (b + i)) then x else x + 1) (d - 1) (fun x => some (x, I)) (fun f i x hi => by
      show f_X1_upsOf_L25_b _ _ _ _ _ _ = _
      unfold f_X1_upsOf_L25_b
      rw [if_neg (nI_ge (by omega) (by omega)), cs_at h (by omega), bs]
      dsimp only
      rw [show nI b + nI (i + 1) - 1 = nI b + nI i by rw [nI_add, nI_add]; exact nI_pred (b + i), cs_at h (by omega), bs, nI_1]
      dsimp only
      by_cases c : I 58 (47 + (b + (i + 1))) ≤ I 58 (47 + (b + i))
      · rw [if_pos c, if_pos c]
      · rw [if_neg c, if_neg c]) (fun f x => by
      show f_X1_upsOf_L25_b _ _ _ _ _ _ = _
      unfold f_X1_upsOf_L25_b
      rw [if_pos (nI_le (by omega) (by omega))]) (d - 1) 4000 0 0 rfl (by omega) (by omega)
