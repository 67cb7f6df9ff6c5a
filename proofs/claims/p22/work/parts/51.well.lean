/-! ===== pure: what is well in a row ===== -/
def TRg (a : Row) (t : Nat) (k : Int32) : Prop := 0 < t ∧ (k = 0 ∨ k = 1) ∧ (k = 0 → a (47 + (t - 1)) < a (47 + t)) ∧ (k = 1 → a (47 + t) < a (47 + (t - 1)))
def SgW (a : Row) (i E : Nat) : Prop := ∃ t d p : Nat, a i = nI t ∧ a (i + 1) = nI d ∧ a (i + 2) = nI p ∧ p < d ∧ d ≤ 32 ∧ p ≤ t ∧ t + d ≤ E + p ∧ TRg a t (a (i + 3))
/-- where a segment begins, and where it has ended -/
def sgF (a : Row) (i : Nat) : Nat := (a i).toNatClampNeg - (a (i + 2)).toNatClampNeg
def sgE (a : Row) (i : Nat) : Nat := (a i).toNatClampNeg + (a (i + 1)).toNatClampNeg - (a (i + 2)).toNatClampNeg
def CNw (a : Row) (n B : Nat) : Prop := ∃ f g c : Nat, a 12 = nI f ∧ a 13 = nI g ∧ a 14 = nI (f - g) ∧ a 15 = nI c ∧ g ≤ f ∧ c ≤ g ∧ (a 17 = 1 → c + 1 ≤ g) ∧ n ≤ c ∧ f ≤ B
def ARw (a : Row) (S : Nat) : Prop := a 11 = 1 → 0 < S ∧ (a 0 = 0 → a (47 + (S - 1)) < a 1) ∧ (a 0 = 1 → a 1 < a (47 + (S - 1)))
def CPw (a : Row) (S E : Nat) : Prop := ∃ t d p : Nat, a 18 = nI t ∧ a 19 = nI d ∧ a 20 = nI p ∧ p < d ∧ d ≤ 32 ∧ t < S ∧ E + p ≤ t ∧ TRg a t (a 21)
def Wll (a : Row) (S n Z B : Nat) : Prop :=
  (a 0 = 0 ∨ a 0 = 1) ∧ 0 ≤ a 2 ∧ CNw a n B ∧ ARw a S ∧ (∀ j, j < n → SgW a (23 + 4 * j) (S - Z)) ∧ (∀ i j, i < j → j < n → sgE a (23 + 4 * i) ≤ sgF a (23 + 4 * j)) ∧ (a 17 = 1 → CPw a S (S - Z))
theorem TRg_c {a b : Row} {t : Nat} {k : Int32} (h1 : b (47 + t) = a (47 + t)) (h2 : b (47 + (t - 1)) = a (47 + (t - 1))) (q : TRg a t k) : TRg b t k := by
  unfold TRg
  rw [h1, h2]
  exact q
theorem SgW_c {a b : Row} {i i' E E' : Nat} (h : ∀ k, k < 4 → b (i' + k) = a (i + k)) (hs : ∀ k, k < E → b (47 + k) = a (47 + k)) (hE : E ≤ E') (q : SgW a i E) : SgW b i' E' := by
  obtain ⟨t, d, p, e1, e2, e3, q1, q2, q3, q4, q5⟩ := q
  have h0 := h 0 (by decide)
  refine ⟨t, d, p, h0.trans e1, (h 1 (by decide)).trans e2, (h 2 (by decide)).trans e3, q1, q2, q3, by omega, ?_⟩
  rw [h 3 (by decide)]
  exact TRg_c (hs t (by omega)) (hs (t - 1) (by omega)) q5
theorem sgF_c {a b : Row} {i i' : Nat} (h : ∀ k, k < 4 → b (i' + k) = a (i + k)) : sgF b i' = sgF a i := by
  have h0 : b i' = a i := h 0 (by decide)
  unfold sgF
  rw [h0, h 2 (by decide)]
theorem sgE_c {a b : Row} {i i' : Nat} (h : ∀ k, k < 4 → b (i' + k) = a (i + k)) : sgE b i' = sgE a i := by
  have h0 : b i' = a i := h 0 (by decide)
  unfold sgE
  rw [h0, h 1 (by decide), h 2 (by decide)]
theorem sgE_le {a : Row} {i E : Nat} (hE : E < 2 ^ 20) (q : SgW a i E) : sgE a i ≤ E := by
  obtain ⟨t, d, p, e1, e2, e3, q1, q2, q3, q4, -⟩ := q
  unfold sgE
  rw [e1, e2, e3, nc (by omega), nc (by omega), nc (by omega)]
  omega
theorem Wll_B {a : Row} {S n Z B B' : Nat} (h : B ≤ B') (W : Wll a S n Z B) : Wll a S n Z B' := by
  obtain ⟨w1, w2, ⟨f, g, c, c1, c2, c3, c4, c5, c6, c7, c8, c9⟩, w4⟩ := W
  exact ⟨w1, w2, ⟨f, g, c, c1, c2, c3, c4, c5, c6, c7, c8, by omega⟩, w4⟩
/-- who is armed has come from the other side -/
theorem dN_arm {k hy hi v was lv : Int32} (hk : k = 0 ∨ k = 1) (hv : -100 ≤ v ∧ v ≤ 100) (hl : -100 ≤ lv ∧ lv ≤ 100) (hh : -100 ≤ hy ∧ hy ≤ 100) (h0 : 0 ≤ hy) (h : dN k hy hi v was lv = 1) : (k = 0 → v < lv) ∧ (k = 1 → lv < v) := by
  have b1 := b100 hv
  have b2 := b100 hl
  have b3 := b100 hh
  have b4 : 0 ≤ hy.toInt := Int32.le_iff_toInt_le.mp h0
  rcases hk with rfl | rfl
  · refine ⟨fun _ => ?_, fun e => absurd e (by decide)⟩
    unfold dN at h
    rw [if_pos rfl] at h
    by_cases c : was = 1 ∧ lv ≤ v
    · rw [if_pos c] at h; exact absurd h (by decide)
    · rw [if_neg c] at h
      by_cases c2 : v < lv - hy
      · rw [Int32.lt_iff_toInt_lt, tI_sub (by omega) (by omega)] at c2
        rw [Int32.lt_iff_toInt_lt]
        omega
      · rw [if_neg c2] at h
        exact Int32.not_le.mp fun q => c ⟨h, q⟩
  · refine ⟨fun e => absurd e (by decide), fun _ => ?_⟩
    unfold dN at h
    rw [if_neg (show ¬ (1 : Int32) = 0 by decide), if_pos (show (1 : Int32) = 1 from rfl)] at h
    by_cases c : was = 1 ∧ v ≤ lv
    · rw [if_pos c] at h; exact absurd h (by decide)
    · rw [if_neg c] at h
      by_cases c2 : lv + hy < v
      · rw [Int32.lt_iff_toInt_lt, tI_add (by omega) (by omega)] at c2
        rw [Int32.lt_iff_toInt_lt]
        omega
      · rw [if_neg c2] at h
        exact Int32.not_le.mp fun q => c ⟨h, q⟩
theorem Wll_pre {a : Row} {v : Int32} {S n Z K D P B : Nat} (R : RX a S n Z K D P) (W : Wll a S n Z B) (hS : S < 400) (hv : -100 ≤ v ∧ v ≤ 100) : Wll (rPre a v S) (S + 1) n (Z + 1) (B + 1) := by
  obtain ⟨⟨h10, -, h22, hnK, h8, hK1, hK6, h16, hZ, h5, h6, hPD, hD⟩, ⟨k0, k11, k9, k17⟩, hsg, hcap, hsm, hlv⟩ := R
  obtain ⟨w1, w2, ⟨f, g, c, c1, c2, c3, c4, c5, c6, c7, c8, c9⟩, wA, wS, wO, wC⟩ := W
  have eE : S + 1 - (Z + 1) = S - Z := by omega
  have hl1 := hlv.2 1 (by decide)
  have hl2 := hlv.2 2 (by decide)
  have eL : lvl (a 0) (a 1) (a 3) = a 1 := lvl_k w1
  have e4 : ∀ j, j < n → ∀ k, k < 4 → rPre a v S (23 + 4 * j + k) = a (23 + 4 * j + k) := fun j hj k hk => rP_s (by omega) (by omega)
  rw [Wll, eE]
  refine ⟨?_, ?_, ?_, fun h11 => ?_, fun j hj => ?_, fun i j hij hj => ?_, fun h17 => ?_⟩
  · rw [rPre_k (by omega)]; exact w1
  · rw [rPre_k (by omega)]; exact w2
  · by_cases hB : rBg a v
    · refine ⟨f + 1, g + 1, c, ?_, ?_, ?_, ?_, by omega, by omega, fun _ => by omega, c8, by omega⟩
      · rw [rP_12, sel_t hB.1, c1, nI_1]
      · rw [rP_13, sel_t hB, c2, nI_1]
      · rw [rP_14, sel_f (fun q => q.2 hB), c3, Int32.add_zero, show f + 1 - (g + 1) = f - g by omega]
      · rw [rPre_k (by omega)]; exact c4
    · by_cases hF : rFi a v
      · refine ⟨f + 1, g, c, ?_, ?_, ?_, ?_, by omega, c6, fun h => c7 ?_, c8, by omega⟩
        · rw [rP_12, sel_t hF, c1, nI_1]
        · rw [rP_13, sel_f hB, c2, Int32.add_zero]
        · rw [rP_14, sel_t (show rFi a v ∧ ¬ rBg a v from ⟨hF, hB⟩), c3, nI_1, show f + 1 - g = f - g + 1 by omega]
        · rw [rPre_k (by omega)]; exact c4
        · rw [rP17, sel_f hB] at h; exact h
      · refine ⟨f, g, c, ?_, ?_, ?_, ?_, c5, c6, fun h => c7 ?_, c8, by omega⟩
        · rw [rP_12, sel_f hF, c1, Int32.add_zero]
        · rw [rP_13, sel_f hB, c2, Int32.add_zero]
        · rw [rP_14, sel_f (fun q => hF q.1), c3, Int32.add_zero]
        · rw [rPre_k (by omega)]; exact c4
        · rw [rP17, sel_f hB] at h; exact h
  · rw [rP_11] at h11
    have q := dN_arm w1 hv hl1 hl2 w2 (show dN (a 0) (a 2) (a 4) v (a 11) (a 1) = 1 by rw [← eL]; exact h11)
    rw [show S + 1 - 1 = S by omega, rP_v, rPre_k (k := 0) (by omega), rPre_k (k := 1) (by omega)]
    exact ⟨by omega, q.1, q.2⟩
  · exact SgW_c (e4 j hj) (fun k hk => rP_s (by omega) (by omega)) (Nat.le_refl _) (wS j hj)
  · rw [sgE_c (e4 i (by omega)), sgF_c (e4 j hj)]
    exact wO i j hij hj
  · by_cases hB : rBg a v
    · have hPZ : P ≤ Z := by
        have := hB.2.2.1.1
        rw [h6, h16] at this
        exact (nI_leI (by omega) (by omega)).mp this
      have hF := hB.1
      unfold rFi at hF
      rw [eL] at hF
      have hA : a 11 = 1 := by
        unfold dF at hF
        rcases w1 with h | h
        · rw [if_pos h] at hF; exact hF.1
        · rw [if_neg (by rw [h]; decide), if_pos h] at hF; exact hF.1
      obtain ⟨s0, sA, sB⟩ := wA hA
      refine ⟨S, D, P, by rw [rP_18, sel_t hB, h10], by rw [rP_19, sel_t hB, h5], by rw [rP_20, sel_t hB, h6], hPD, hD, by omega, by omega, ?_⟩
      rw [rP_21, sel_t hB]
      refine ⟨s0, w1, fun h => ?_, fun h => ?_⟩
      · rw [rP_v, rP_s (by omega) (by omega)]
        unfold dF at hF
        rw [if_pos h] at hF
        exact Int32.lt_of_lt_of_le (sA h) hF.2
      · rw [rP_v, rP_s (by omega) (by omega)]
        unfold dF at hF
        rw [if_neg (by rw [h]; decide), if_pos h] at hF
        exact Int32.lt_of_le_of_lt hF.2 (sB h)
    · rw [rP17, sel_f hB] at h17
      obtain ⟨t, d, p, a18, a19, a20, q1, q2, q3, q4, q5⟩ := wC h17
      refine ⟨t, d, p, by rw [rP_18, sel_f hB, a18], by rw [rP_19, sel_f hB, a19], by rw [rP_20, sel_f hB, a20], q1, q2, by omega, q4, ?_⟩
      rw [rP_21, sel_f hB]
      exact TRg_c (rP_s (by omega) (by omega)) (rP_s (by omega) (by omega)) q5
theorem Wll_cmp {b : Row} {S n Z K D P B : Nat} (R : RW b S n Z K D P) (W : Wll b S n Z B) (h : rDone b) : Wll (rCmp b n K) S (n - (n - (K - 1)) + 1) 0 B := by
  obtain ⟨⟨h10, hS, h22, hnK, h8, hK1, hK6, h16, hZ, h5, h6, hPD, hD⟩, ⟨k0, k11, k9, k17⟩, hsg, hcap, hsm, hlv⟩ := R
  obtain ⟨w1, w2, ⟨f, g, c, c1, c2, c3, c4, c5, c6, c7, c8, c9⟩, wA, wS, wO, wC⟩ := W
  have o : ∀ k, k < 15 ∨ 47 ≤ k → rCmp b n K k = b k := fun k hk => rC_o (by omega) ⟨hK1, hK6⟩ hk
  have e4 : ∀ j, j < n - (n - (K - 1)) → ∀ k, k < 4 → rCmp b n K (23 + 4 * j + k) = b (23 + 4 * (j + (n - (K - 1))) + k) := fun j hj k hk => by
    rw [show 23 + 4 * j + k = 23 + (4 * j + k) by omega, rC_s (by omega)]
    congr 1
    omega
  have hc1 := c7 h.1
  obtain ⟨t, d, p, a18, a19, a20, q1, q2, q3, q4, q5⟩ := wC h.1
  have hend : t + d = S + p := by
    obtain ⟨t', d', p', b18, b19, b20, z1, z2, z3, z4, z5⟩ := hcap h.1
    have h0 := h.2
    have et : t' = t := (nI_eq (by omega) (by omega)).mp (b18.symm.trans a18)
    have ed : d' = d := (nI_eq (by omega) (by omega)).mp (b19.symm.trans a19)
    have ep : p' = p := (nI_eq (by omega) (by omega)).mp (b20.symm.trans a20)
    subst et; subst ed; subst ep
    rw [lk_n b18 b19 b20 h10 z3 (by omega)] at h0
    have := (nI_eq (b := 0) (by omega) (by decide)).mp h0
    omega
  have n4 : ∀ k, k < 4 → rCmp b n K (23 + 4 * (n - (n - (K - 1))) + k) = b (18 + k) := fun k hk => rC_n hk
  refine ⟨?_, ?_, ⟨f, g, c + 1, ?_, ?_, ?_, ?_, c5, by omega, fun h => ?_, by omega, c9⟩, fun h11 => ?_, fun j hj => ?_, fun i j hij hj => ?_, fun h17 => ?_⟩
  · rw [o _ (by omega)]; exact w1
  · rw [o _ (by omega)]; exact w2
  · rw [o _ (by omega)]; exact c1
  · rw [o _ (by omega)]; exact c2
  · rw [o _ (by omega)]; exact c3
  · rw [rC_15, c4, nI_1]
  · rw [rC_17] at h; exact absurd h (by decide)
  · rw [o _ (by omega)] at h11
    rw [o _ (by omega), o _ (by omega), o _ (by omega)]
    exact wA h11
  · by_cases hl : j < n - (n - (K - 1))
    · exact SgW_c (e4 j hl) (fun k hk => o _ (by omega)) (by omega) (wS (j + (n - (K - 1))) (by omega))
    · obtain rfl : j = n - (n - (K - 1)) := by omega
      have n0 := n4 0 (by decide)
      refine ⟨t, d, p, n0.trans a18, (n4 1 (by decide)).trans a19, (n4 2 (by decide)).trans a20, q1, q2, by omega, by omega, ?_⟩
      rw [n4 3 (by decide)]
      exact TRg_c (o _ (by omega)) (o _ (by omega)) q5
  · by_cases hl : j < n - (n - (K - 1))
    · rw [sgE_c (e4 i (by omega)), sgF_c (e4 j hl)]
      exact wO _ _ (by omega) (by omega)
    · obtain rfl : j = n - (n - (K - 1)) := by omega
      rw [sgE_c (e4 i (by omega))]
      refine Nat.le_trans (sgE_le (by omega) (wS (i + (n - (K - 1))) (by omega))) ?_
      have n0 : rCmp b n K (23 + 4 * (n - (n - (K - 1)))) = b 18 := n4 0 (by decide)
      unfold sgF
      rw [n0, n4 2 (by decide), a18, a20, nc (by omega), nc (by omega)]
      omega
  · rw [rC_17] at h17; exact absurd h17 (by decide)
theorem okS_0 {a : Row} {s : Nat} {v : Int32} (h : okS a s v = 0) : cS 65 s ≤ v ∧ v ≤ cS 66 s := by
  unfold okS at h
  by_cases c : cS 65 s ≤ v ∧ v ≤ cS 66 s
  · exact c
  · rw [if_neg c] at h; exact absurd h (by decide)
theorem Wll_set {a : Row} {v : Int32} {S n Z K D P B s K' : Nat} (R : RX a S n Z K D P) (W : Wll a S n Z B) (hs : s < 10) (h : okS a s v = 0) (h0 : s = 0 → v = 0 ∨ v = 1) : Wll (rCuts (rSet a s v) n (n - K')) S (n - (n - K')) Z B := by
  obtain ⟨⟨h10, hS, h22, hnK, h8, hK1, hK6, h16, hZ, h5, h6, hPD, hD⟩, ⟨k0, k11, k9, k17⟩, hsg, hcap, hsm, hlv⟩ := R
  obtain ⟨w1, w2, ⟨f, g, c, c1, c2, c3, c4, c5, c6, c7, c8, c9⟩, wA, wS, wO, wC⟩ := W
  have o : ∀ k, k < 22 ∨ 47 ≤ k → rCuts (rSet a s v) n (n - K') k = rSet a s v k := fun k hk => rCuts_lo _ _ _ k hk (by omega)
  have o2 : ∀ k, (10 ≤ k ∧ k < 22 ∧ k ≠ 11) ∨ 47 ≤ k → rCuts (rSet a s v) n (n - K') k = a k := fun k hk => by rw [o _ (by omega), rSet_n (by omega) (by omega)]
  have e4 : ∀ j, j < n - (n - K') → ∀ k, k < 4 → rCuts (rSet a s v) n (n - K') (23 + 4 * j + k) = a (23 + 4 * (j + (n - K')) + k) := fun j hj k hk => by
    rw [show 23 + 4 * j + k = 23 + (4 * j + k) by omega, rCuts_seg _ _ _ _ (by omega) (by omega), rSet_n (by omega) (by omega)]
    congr 1
    omega
  refine ⟨?_, ?_, ⟨f, g, c, ?_, ?_, ?_, ?_, c5, c6, fun h => c7 ?_, by omega, c9⟩, fun h11 => ?_, fun j hj => ?_, fun i j hij hj => ?_, fun h17 => ?_⟩
  · rw [o _ (by omega)]
    by_cases e : s = 0
    · subst e; rw [rSet_s (by decide)]; exact h0 rfl
    · rw [rSet_n (fun q => e q.symm) (by decide)]; exact w1
  · rw [o _ (by omega)]
    by_cases e : s = 2
    · subst e; rw [rSet_s (by decide)]; exact (okS_0 h).1
    · rw [rSet_n (fun q => e q.symm) (by decide)]; exact w2
  · rw [o2 _ (by omega)]; exact c1
  · rw [o2 _ (by omega)]; exact c2
  · rw [o2 _ (by omega)]; exact c3
  · rw [o2 _ (by omega)]; exact c4
  · rw [o2 _ (by omega)] at h; exact h
  · rw [o _ (by omega), rSet_11 hs] at h11
    by_cases h4 : s ≤ 4
    · rw [if_pos h4] at h11; exact absurd h11 (by decide)
    · rw [if_neg h4] at h11
      rw [o 0 (by omega), o 1 (by omega), o2 (47 + (S - 1)) (by omega), rSet_n (k := 0) (by omega) (by omega), rSet_n (k := 1) (by omega) (by omega)]
      exact wA h11
  · exact SgW_c (e4 j hj) (fun k hk => o2 _ (by omega)) (Nat.le_refl _) (wS _ (by omega))
  · rw [sgE_c (e4 i (by omega)), sgF_c (e4 j hj)]
    exact wO _ _ (by omega) (by omega)
  · rw [o2 _ (by omega)] at h17
    obtain ⟨t, d, p, a18, a19, a20, q1, q2, q3, q4, q5⟩ := wC h17
    refine ⟨t, d, p, by rw [o2 _ (by omega), a18], by rw [o2 _ (by omega), a19], by rw [o2 _ (by omega), a20], q1, q2, q3, q4, ?_⟩
    rw [o2 _ (by omega)]
    exact TRg_c (o2 _ (by omega)) (o2 _ (by omega)) q5
theorem Wll_clr {a : Row} {S n Z B : Nat} (W : Wll a S n Z B) : Wll (rClr a) 0 0 0 B := by
  obtain ⟨w1, w2, ⟨f, g, c, c1, c2, c3, c4, c5, c6, c7, c8, c9⟩, wA, wS, wO, wC⟩ := W
  have e17 : rClr a 17 = 0 := by simp [rClr, upd]
  have e11 : rClr a 11 = 0 := by simp [rClr, upd]
  refine ⟨?_, ?_, ⟨f, g, c, ?_, ?_, ?_, ?_, c5, c6, fun h => ?_, by omega, c9⟩, fun h => ?_, fun j hj => absurd hj (by omega), fun i j _ hj => absurd hj (by omega), fun h => ?_⟩
  · rw [rClr_n (by omega)]; exact w1
  · rw [rClr_n (by omega)]; exact w2
  · rw [rClr_n (by omega)]; exact c1
  · rw [rClr_n (by omega)]; exact c2
  · rw [rClr_n (by omega)]; exact c3
  · rw [rClr_n (by omega)]; exact c4
  · rw [e17] at h; exact absurd h (by decide)
  · rw [e11] at h; exact absurd h (by decide)
  · rw [e17] at h; exact absurd h (by decide)
theorem rClr_m {a : Row} : rClr (mir a) = mir (rClr a) := by
  refine mir_ext (fun k h => ?_) (fun k h => ?_) (fun k h => ?_)
  · rw [rClr_n (by omega), rClr_n (by omega)]; exact mir_c h
  · rw [rClr_n (by omega), rClr_n (by omega)]; exact mir_g h
  · unfold rClr
    by_cases h1 : k = 22
    · subst h1; rw [upd_s, upd_s]
    · rw [upd_n h1, upd_n h1]
      by_cases h2 : k = 17
      · subst h2; rw [upd_s, upd_s]
      · rw [upd_n h2, upd_n h2]
        by_cases h3 : k = 16
        · subst h3; rw [upd_s, upd_s]
        · rw [upd_n h3, upd_n h3]
          by_cases h4 : k = 11
          · subst h4; rw [upd_s, upd_s]
          · rw [upd_n h4, upd_n h4]
            by_cases h5 : k = 10
            · subst h5; rw [upd_s, upd_s]
            · rw [upd_n h5, upd_n h5]
              exact mir_o h
theorem Wll_cut {a : Row} {S n Z K D P B j : Nat} (R : RX a S n Z K D P) (W : Wll a S n Z B) (hj : j < n) : Wll (rCut a n j) S (n - 1) Z B := by
  obtain ⟨⟨h10, hS, h22, hnK, h8, hK1, hK6, h16, hZ, h5, h6, hPD, hD⟩, -⟩ := R
  obtain ⟨w1, w2, ⟨f, g, c, c1, c2, c3, c4, c5, c6, c7, c8, c9⟩, wA, wS, wO, wC⟩ := W
  have o : ∀ k, k < 22 ∨ 47 ≤ k → rCut a n j k = a k := fun k hk => by
    unfold rCut
    rw [if_neg (by omega), if_neg (by omega)]
  have e4 : ∀ i, i < n - 1 → ∀ k, k < 4 → rCut a n j (23 + 4 * i + k) = a (23 + 4 * (if i < j then i else i + 1) + k) := fun i hi k hk => by
    unfold rCut
    by_cases h : i < j
    · rw [if_pos h, if_neg (by omega), if_neg (by omega)]
    · rw [if_neg h, if_neg (by omega), if_pos (by omega)]
      congr 1
      omega
  have lt : ∀ i, i < n - 1 → (if i < j then i else i + 1) < n := fun i hi => by split <;> omega
  refine ⟨?_, ?_, ⟨f, g, c, ?_, ?_, ?_, ?_, c5, c6, fun h => c7 ?_, by omega, c9⟩, fun h11 => ?_, fun i hi => ?_, fun i i' hij hi => ?_, fun h17 => ?_⟩
  · rw [o _ (by omega)]; exact w1
  · rw [o _ (by omega)]; exact w2
  · rw [o _ (by omega)]; exact c1
  · rw [o _ (by omega)]; exact c2
  · rw [o _ (by omega)]; exact c3
  · rw [o _ (by omega)]; exact c4
  · rw [o _ (by omega)] at h; exact h
  · rw [o _ (by omega)] at h11
    rw [o _ (by omega), o _ (by omega), o _ (by omega)]
    exact wA h11
  · exact SgW_c (e4 i hi) (fun k hk => o _ (by omega)) (Nat.le_refl _) (wS _ (lt i hi))
  · rw [sgE_c (e4 i (by omega)), sgF_c (e4 i' hi)]
    exact wO _ _ (by split <;> split <;> omega) (lt i' hi)
  · rw [o _ (by omega)] at h17
    obtain ⟨t, d, p, a18, a19, a20, q1, q2, q3, q4, q5⟩ := wC h17
    refine ⟨t, d, p, by rw [o _ (by omega), a18], by rw [o _ (by omega), a19], by rw [o _ (by omega), a20], q1, q2, q3, q4, ?_⟩
    rw [o _ (by omega)]
    exact TRg_c (o _ (by omega)) (o _ (by omega)) q5
theorem rSet_m {a : Row} {s : Nat} {v w : Int32} (hs : s < 10) (h0 : s = 0 → w = 1 - v) (h1 : s = 1 → w = -v) (h2 : s ≠ 0 → s ≠ 1 → w = v) : rSet (mir a) s w = mir (rSet a s v) := by
  refine mir_ext (fun k h => ?_) (fun k h => ?_) (fun k h => ?_)
  · by_cases e : k = s
    · subst e; rw [rSet_s hs, rSet_s hs]; exact h0 (by omega)
    · rw [rSet_n e (by omega), rSet_n e (by omega)]; exact mir_c h
  · by_cases e : k = s
    · subst e; rw [rSet_s hs, rSet_s hs]; exact h1 (by omega)
    · rw [rSet_n e (by omega), rSet_n e (by omega)]; exact mir_g h
  · by_cases e : k = s
    · subst e; rw [rSet_s hs, rSet_s hs]; exact h2 h.1 h.2.1
    · by_cases e11 : k = 11
      · subst e11
        rw [rSet_11 hs, rSet_11 hs, mir_o h]
      · rw [rSet_n e e11, rSet_n e e11]; exact mir_o h
theorem okS_m {a : Row} {s : Nat} {v w : Int32} (h0 : s = 0 → w = 1 - v ∧ (v = 0 ∨ v = 1)) (h1 : s = 1 → w = -v) (h2 : s ≠ 0 → s ≠ 1 → w = v) : okS (mir a) s w = okS a s v := by
  unfold okS
  rw [mir_o (k := 4) (by omega), mir_o (k := 3) (by omega), mir_o (k := 17) (by omega), mir_o (k := 6) (by omega), mir_o (k := 5) (by omega)]
  rcases (show s = 0 ∨ s = 1 ∨ (s ≠ 0 ∧ s ≠ 1) by omega) with rfl | rfl | h
  · obtain ⟨rfl, hv⟩ := h0 rfl
    rcases hv with rfl | rfl
    · rfl
    · rfl
  · obtain rfl := h1 rfl
    have e : (cS 65 1 ≤ -v ∧ -v ≤ cS 66 1) = (cS 65 1 ≤ v ∧ v ≤ cS 66 1) := by
      show (-100 ≤ -v ∧ -v ≤ 100) = (-100 ≤ v ∧ v ≤ 100)
      refine propext ⟨fun q => ?_, ng⟩
      have := ng q
      rwa [Int32.neg_neg] at this
    simp only [e]
    simp
  · rw [h2 h.1 h.2]
