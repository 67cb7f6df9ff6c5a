/-! ===== pure: fires and bestLevel, on both sides ===== -/
theorem cf_eq {I : HI} {a : Row} {S n Z K D Q : Nat} {lv : Int32} (R : RX a S n Z K D Q) (M : MR (I 1) (I 2) (I 3) (I 4) (I 5) a S n) : f_X1_firingsWith lv I = some (cF a S lv, I) := by
  have hS : S ≤ 400 := R.1.2.1
  have h3 : I 1 3 = nI S := (M.2.1 0 (by decide)).trans R.1.1
  have t0 : I 2 0 = a 0 := M.1 0 (by decide)
  have t2 : I 2 2 = a 2 := M.1 2 (by decide)
  have t4 : I 2 4 = a 4 := M.1 4 (by decide)
  have e := lpP (fun f x i => f_X1_firingsWith_L7 lv f x.1 x.2 (nI i) I) (gF a lv) S (fun x => some (x.1, I)) (fun i x => x.2 = 0 ∨ x.2 = 1 ∨ x.2 = 2) (fun f i x hi p => by
    show f_X1_firingsWith_L7_b _ _ _ _ _ _ = _
    unfold f_X1_firingsWith_L7_b
    rw [if_neg (by rw [h3]; exact nI_ge hi (by omega)), sa_in (by omega), bs]
    dsimp only
    rw [show I 3 i = a (47 + i) from M.2.2.2.2.1 i hi, cd_eq p, bs]
    dsimp only
    rw [t0, t2, t4, nI_1]
    obtain ⟨m1, m2, m3, m4⟩ := mk_eq (dN_in (k := a 0) (hy := a 2) (hi := a 4) (v := a (47 + i)) (lv := lv) p)
    unfold gF
    by_cases c : dF (a 0) (a (47 + i)) x.2 lv
    · rw [sel_t c, sel_t c, if_neg m2, m1]
    · rw [sel_f c, sel_f c, if_pos m4, m3, Int32.add_zero]) (fun i x hi p => dN_in p) (fun f x p => by
    show f_X1_firingsWith_L7_b _ _ _ _ _ _ = _
    unfold f_X1_firingsWith_L7_b
    rw [if_pos (by rw [h3]; exact nI_le (Nat.le_refl _) (by omega))]) S 4000 0 (0, 0) rfl (by omega) (by omega) (Or.inl rfl)
  exact e.1
theorem gl_100 {I : HI} (h : I 2 0 = 0 ∨ I 2 0 = 1) : f_X1_greatestLevel I = some (100, I) := by
  unfold f_X1_greatestLevel
  rw [so0, bs]
  dsimp only
  rw [if_neg (by rcases h with h | h <;> rw [h] <;> decide)]
theorem fires_eq {I : HI} {a : Row} {S n Z K D Q : Nat} {lv : Int32} (R : RX a S n Z K D Q) (M : MR (I 1) (I 2) (I 3) (I 4) (I 5) a S n) (hk : a 0 = 0 ∨ a 0 = 1) (hl : -100 ≤ lv ∧ lv ≤ 100) : f_X5_fires lv I = some (cF a S lv, I) := by
  unfold f_X5_fires
  rw [if_neg (Int32.not_lt.mpr hl.1), if_pos hl.2, gl_100 (by rw [M.1 0 (by decide)]; exact hk), bs]
  dsimp only
  rw [if_pos hl.2, cf_eq R M, bs]
theorem cF_m {a : Row} {S : Nat} {lv : Int32} (hk : a 0 = 0 ∨ a 0 = 1) (hh : -100 ≤ a 2 ∧ a 2 ≤ 100) (hs : ∀ k, k < S → -100 ≤ a (47 + k) ∧ a (47 + k) ≤ 100) (hl : -100 ≤ lv ∧ lv ≤ 100) : cF (mir a) S (-lv) = cF a S lv := by
  unfold cF
  rw [fo_eq (gF (mir a) (-lv)) (gF a lv) 0 S (fun x i _ hi => ?_) S 0 (0, 0) (by omega) (by omega)]
  unfold gF
  rw [mir_c (k := 0) (by omega), mir_o (k := 2) (by omega), mir_o (k := 4) (by omega), mir_g (k := 47 + i) (by omega), dF_m hk (hs i hi) hl, dN_m hk (hs i hi) hl hh]
theorem best_eq {I : HI} {a : Row} {S n Z K D Q : Nat} (R : RX a S n Z K D Q) (M : MR (I 1) (I 2) (I 3) (I 4) (I 5) a S n) (hk : a 0 = 0 ∨ a 0 = 1) : f_X5_bestLevel 1 I = some ((fo (gBv a S) 200 1 (-100, cF a S (nI 0 - nI 100))).2, I) := by
  have eB := lp (fun f (x : Int32 × Int32) i => f_X5_bestLevel_L37 1 (nI 200 - nI 100) f x.1 x.2 (nI i - nI 100) I) (gBv a S) 201 (fun x => some (x.2, I)) (fun f i x hi => by
    show f_X5_bestLevel_L37_b _ _ _ _ _ _ _ = _
    unfold f_X5_bestLevel_L37_b
    rw [if_neg (Int32.not_lt.mpr ((lv_le (by omega) (by omega)).mpr (by omega))), cf_eq R M, bs, lv_1]
    dsimp only
    unfold gBv
    by_cases h : cF a S (nI i - nI 100) ≤ x.2
    · rw [if_pos h, if_pos h]
    · rw [if_neg h, if_neg h]) (fun f x => by
    show f_X5_bestLevel_L37_b _ _ _ _ _ _ _ = _
    unfold f_X5_bestLevel_L37_b
    rw [if_pos (Int32.not_le.mp (fun q => absurd ((lv_le (by omega) (by omega)).mp q) (by omega))), if_neg (by decide)]) 200 4000 1 (-100, cF a S (nI 0 - nI 100)) rfl (by omega) (by omega)
  unfold f_X5_bestLevel
  rw [if_neg (by decide), if_pos rfl]
  unfold f_X5_bestLevel_J12
  rw [show (-100 : Int32) = nI 0 - nI 100 from rfl, cf_eq R M, bs]
  dsimp only
  rw [gl_100 (by rw [M.1 0 (by decide)]; exact hk), bs]
  exact eB
theorem mx_ge (a : Row) (S : Nat) : ∀ (k i : Nat) (x : Int32 × Int32), x.2 ≤ (fo (gBv a S) k i x).2 ∧ (∀ q, i ≤ q → q < i + k → cF a S (nI q - nI 100) ≤ (fo (gBv a S) k i x).2) ∧ ((fo (gBv a S) k i x).2 = x.2 ∨ ∃ q, i ≤ q ∧ q < i + k ∧ (fo (gBv a S) k i x).2 = cF a S (nI q - nI 100)) := by
  intro k
  induction k with
  | zero => intro i x; exact ⟨Int32.le_refl _, fun q h1 h2 => absurd h2 (by omega), Or.inl rfl⟩
  | succ k ih =>
    intro i x
    obtain ⟨h1, h2, h3⟩ := ih (i + 1) (gBv a S x i)
    show x.2 ≤ (fo (gBv a S) k (i + 1) (gBv a S x i)).2 ∧ (∀ q, i ≤ q → q < i + (k + 1) → cF a S (nI q - nI 100) ≤ (fo (gBv a S) k (i + 1) (gBv a S x i)).2) ∧ ((fo (gBv a S) k (i + 1) (gBv a S x i)).2 = x.2 ∨ ∃ q, i ≤ q ∧ q < i + (k + 1) ∧ (fo (gBv a S) k (i + 1) (gBv a S x i)).2 = cF a S (nI q - nI 100))
    have m : (cF a S (nI i - nI 100) ≤ x.2 ∧ gBv a S x i = x) ∨ (x.2 < cF a S (nI i - nI 100) ∧ gBv a S x i = (nI i - nI 100, cF a S (nI i - nI 100))) := by
      unfold gBv
      by_cases c : cF a S (nI i - nI 100) ≤ x.2
      · rw [if_pos c]; exact Or.inl ⟨c, rfl⟩
      · rw [if_neg c]; exact Or.inr ⟨Int32.not_le.mp c, rfl⟩
    rcases m with ⟨m1, m2⟩ | ⟨m1, m2⟩
    · rw [m2] at h1 h2 h3 ⊢
      refine ⟨h1, fun q g1 g2 => ?_, ?_⟩
      · by_cases e : q = i
        · subst e; exact Int32.le_trans m1 h1
        · exact h2 q (by omega) (by omega)
      · rcases h3 with h3 | ⟨q, g1, g2, g3⟩
        · exact Or.inl h3
        · exact Or.inr ⟨q, by omega, by omega, g3⟩
    · rw [m2] at h1 h2 h3 ⊢
      refine ⟨Int32.le_trans (Int32.le_of_lt m1) h1, fun q g1 g2 => ?_, ?_⟩
      · by_cases e : q = i
        · subst e; exact h1
        · exact h2 q (by omega) (by omega)
      · rcases h3 with h3 | ⟨q, g1, g2, g3⟩
        · exact Or.inr ⟨i, by omega, by omega, h3⟩
        · exact Or.inr ⟨q, by omega, by omega, g3⟩
theorem lv_m {i : Nat} (hi : i ≤ 200) : nI i - nI 100 = -(nI (200 - i) - nI 100) := by
  apply Int32.toInt_inj.mp
  have e : (nI (200 - i) - nI 100).toInt = ((200 - i : Nat) : Int) - (100 : Nat) := pk_sub_toInt (by omega) (by decide)
  rw [pk_sub_toInt (by omega) (by decide), tI_neg (by omega), e]
  omega
theorem lv_b {i : Nat} (hi : i ≤ 200) : -100 ≤ nI i - nI 100 ∧ nI i - nI 100 ≤ 100 := by
  have e : (nI i - nI 100).toInt = (i : Int) - (100 : Nat) := pk_sub_toInt (by omega) (by decide)
  exact b100' ⟨by omega, by omega⟩
theorem best_m {a : Row} {S : Nat} (hk : a 0 = 0 ∨ a 0 = 1) (hh : -100 ≤ a 2 ∧ a 2 ≤ 100) (hs : ∀ k, k < S → -100 ≤ a (47 + k) ∧ a (47 + k) ≤ 100) : (fo (gBv (mir a) S) 200 1 (-100, cF (mir a) S (nI 0 - nI 100))).2 = (fo (gBv a S) 200 1 (-100, cF a S (nI 0 - nI 100))).2 := by
  have u : ∀ i, i ≤ 200 → cF (mir a) S (nI i - nI 100) = cF a S (nI (200 - i) - nI 100) := fun i hi => by
    rw [lv_m hi]
    exact cF_m hk hh hs (lv_b (by omega))
  obtain ⟨g1, g2, g3⟩ := mx_ge a S 200 1 (-100, cF a S (nI 0 - nI 100))
  obtain ⟨k1, k2, k3⟩ := mx_ge (mir a) S 200 1 (-100, cF (mir a) S (nI 0 - nI 100))
  generalize (fo (gBv (mir a) S) 200 1 (-100, cF (mir a) S (nI 0 - nI 100))).2 = y at k1 k2 k3
  generalize (fo (gBv a S) 200 1 (-100, cF a S (nI 0 - nI 100))).2 = x at g1 g2 g3
  dsimp only at g1 g3 k1 k3
  have gx : ∀ q, q ≤ 200 → cF a S (nI q - nI 100) ≤ x := fun q hq => by
    by_cases e : q = 0
    · subst e; exact g1
    · exact g2 q (by omega) (by omega)
  have gy : ∀ q, q ≤ 200 → cF a S (nI (200 - q) - nI 100) ≤ y := fun q hq => by
    rw [← u q hq]
    by_cases e : q = 0
    · subst e; exact k1
    · exact k2 q (by omega) (by omega)
  apply Int32.le_antisymm
  · rcases k3 with h | ⟨q, h1, h2, h⟩
    · rw [h, u 0 (by decide)]; exact gx _ (by omega)
    · rw [h, u q (by omega)]; exact gx _ (by omega)
  · rcases g3 with h | ⟨q, h1, h2, h⟩
    · rw [h]
      have := gy 200 (by omega)
      rwa [show 200 - 200 = 0 from rfl] at this
    · rw [h]
      have := gy (200 - q) (by omega)
      rwa [show 200 - (200 - q) = q by omega] at this
/-! ===== pure: unlike and nearest, on both sides ===== -/
theorem dab_I {x y : Int32} (hx : -100 ≤ x ∧ x ≤ 100) (hy : -100 ≤ y ∧ y ≤ 100) : (dab x y).toInt = if y.toInt ≤ x.toInt then x.toInt - y.toInt else y.toInt - x.toInt := by
  have h1 := b100 hx
  have h2 := b100 hy
  have e : (x - y).toInt = x.toInt - y.toInt := tI_sub (by omega) (by omega)
  have e0 : (0 : Int32).toInt = 0 := by decide
  unfold dab
  by_cases c : (0 : Int32) ≤ x - y
  · rw [if_pos c, e]
    rw [Int32.le_iff_toInt_le, e, e0] at c
    rw [if_pos (by omega)]
  · rw [if_neg c, tI_neg (by omega), e]
    rw [Int32.le_iff_toInt_le, e, e0] at c
    rw [if_neg (by omega)]
    omega
theorem dab_m {x y : Int32} (hx : -100 ≤ x ∧ x ≤ 100) (hy : -100 ≤ y ∧ y ≤ 100) : dab (-x) (-y) = dab x y := by
  apply Int32.toInt_inj.mp
  have h1 := b100 hx
  have h2 := b100 hy
  have e1 : (-x).toInt = -x.toInt := tI_neg (by omega)
  have e2 : (-y).toInt = -y.toInt := tI_neg (by omega)
  rw [dab_I (ng hx) (ng hy), dab_I hx hy, e1, e2]
  by_cases c : y.toInt ≤ x.toInt
  · rw [if_pos c]
    by_cases c2 : -y.toInt ≤ -x.toInt
    · rw [if_pos c2]; omega
    · rw [if_neg c2]; omega
  · rw [if_neg c, if_pos (by omega)]; omega
def vDi (I : HI) (b1 p1 d1 b2 p2 d2 : Nat) : Int32 := fo (fun x k => x + dab (I 3 (b1 + (p1 + k - min p1 p2))) (I 3 (b2 + (p2 + k - min p1 p2)))) (min p1 p2 + min (d1 - p1) (d2 - p2)) 0 0
theorem di_m {I J : HI} {b1 p1 d1 b2 p2 d2 S : Nat} (h1 : p1 < d1 ∧ b1 + d1 ≤ S) (h2 : p2 < d2 ∧ b2 + d2 ≤ S) (hI : ∀ k, k < S → -100 ≤ I 3 k ∧ I 3 k ≤ 100) (hJ : ∀ k, k < S → J 3 k = -(I 3 k)) : vDi J b1 p1 d1 b2 p2 d2 = vDi I b1 p1 d1 b2 p2 d2 := by
  refine fo_eq _ _ 0 (min p1 p2 + min (d1 - p1) (d2 - p2)) (fun x k _ hk => ?_) _ 0 0 (by omega) (by omega)
  rw [hJ _ (by omega), hJ _ (by omega), dab_m (hI _ (by omega)) (hI _ (by omega))]
theorem diff_eq {I : HI} {i j t1 d1 p1 b1 t2 d2 p2 b2 S : Nat} (h1 : SGc I i t1 d1 p1 b1 S) (h2 : SGc I j t2 d2 p2 b2 S) : f_X1_differenceOf (nI i) (nI j) I = some (vDi I b1 p1 d1 b2 p2 d2, I) := by
  have z1 := h1.2.2.1
  have z2 := h2.2.2.1
  unfold vDi
  obtain ⟨m, hm⟩ : ∃ m : Nat, m = min p1 p2 := ⟨_, rfl⟩
  obtain ⟨e, he⟩ : ∃ e : Nat, e = min (d1 - p1) (d2 - p2) := ⟨_, rfl⟩
  rw [← hm, ← he]
  have hm1 : m ≤ p1 := by omega
  have hm2 : m ≤ p2 := by omega
  have he1 : e ≤ d1 - p1 := by omega
  have he2 : e ≤ d2 - p2 := by omega
  have at1 : ∀ k, k < m + e → f_X1_sampleAt (nI t1 + (nI k - nI m)) I = some (I 3 (b1 + (p1 + k - m)), I) := fun k hk => by
    have := cs_at h1 (i := p1 + k - m) (by omega)
    rwa [nI_add, show b1 + (p1 + k - m) = t1 + k - m by omega, ← add_sub' t1 k m (by omega), show t1 + k - m = b1 + (p1 + k - m) by omega] at this
  have at2 : ∀ k, k < m + e → f_X1_sampleAt (nI t2 + (nI k - nI m)) I = some (I 3 (b2 + (p2 + k - m)), I) := fun k hk => by
    have := cs_at h2 (i := p2 + k - m) (by omega)
    rwa [nI_add, show b2 + (p2 + k - m) = t2 + k - m by omega, ← add_sub' t2 k m (by omega), show t2 + k - m = b2 + (p2 + k - m) by omega] at this
  have bh : ∀ {j t d p b : Nat}, SGc I j t d p b S → f_X3_behindOf (nI j) I = some (nI (d - p - 1), I) := fun {j t d p b} h => by
    have z := h.2.2.1
    unfold f_X3_behindOf
    rw [cn_1 h, bs]
    dsimp only
    rw [cn_2 h, bs]
    dsimp only
    rw [pk_sub (by omega), l1, pk_sub (by omega)]
  have s0 : -nI m = nI 0 - nI m := (Int32.zero_sub _).symm
  unfold f_X1_differenceOf
  rw [cn_2 h1, bs]
  dsimp only
  rw [cn_2 h2, bs]
  dsimp only
  rw [bh h1, bs]
  dsimp only
  rw [bh h2, bs]
  dsimp only
  rw [cn_0 h1, bs]
  dsimp only
  rw [cn_0 h2, bs]
  dsimp only
  rw [mn p1 p2 (by omega) (by omega), mn (d1 - p1 - 1) (d2 - p2 - 1) (by omega) (by omega), ← hm, show min (d1 - p1 - 1) (d2 - p2 - 1) = e - 1 by omega, s0]
  exact lp (fun f x k => f_X1_differenceOf_L72 (nI (e - 1)) (nI t1) (nI t2) f x (nI k - nI m) I) (fun x k => x + dab (I 3 (b1 + (p1 + k - m))) (I 3 (b2 + (p2 + k - m)))) (m + e) (fun x => some (x, I)) (fun f k x hk => by
    show f_X1_differenceOf_L72_b _ _ _ _ _ _ _ = _
    unfold f_X1_differenceOf_L72_b
    rw [if_neg (fun q => by
      rw [Int32.lt_iff_toInt_lt, pk_sub_toInt (by omega) (by omega), nI_toInt (by omega)] at q
      omega), at1 k hk, bs]
    dsimp only
    rw [at2 k hk, bs, acc1, nI_1]
    dsimp only
    unfold dab
    rw [Int32.zero_sub]) (fun f x => by
    show f_X1_differenceOf_L72_b _ _ _ _ _ _ _ = _
    unfold f_X1_differenceOf_L72_b
    rw [if_pos (by
      rw [Int32.lt_iff_toInt_lt, pk_sub_toInt (by omega) (by omega), nI_toInt (by omega)]
      omega)]) (m + e) 4000 0 0 rfl (by omega) (by omega)
theorem un_eq {I : HI} {n i j t1 d1 p1 b1 t2 d2 p2 b2 S : Nat} (h4 : I 4 1 = nI n) (hn : n ≤ 6) (hi : i < n) (hj : j < n) (h1 : SGc I i t1 d1 p1 b1 S) (h2 : SGc I j t2 d2 p2 b2 S) : f_X5_unlike (nI i) (nI j) I = some (vDi I b1 p1 d1 b2 p2 d2, I) := by
  unfold f_X5_unlike
  rw [has_in (n := n) h4 (by omega) hi, bs, if_neg n10]
  dsimp only
  rw [has_in (n := n) h4 (by omega) hj, bs, if_neg n10]
  dsimp only
  rw [diff_eq h1 h2, bs]
theorem near_eq {I : HI} {n j : Nat} {F : Nat → Int32} (h4 : I 4 1 = nI n) (hn : n ≤ 6) (hj : j < n) (hF : ∀ i, i < n → f_X1_differenceOf (nI j) (nI i) I = some (F i, I)) : f_X5_nearest (nI j) I = some ((fo (fun (x : Int32 × Int32) i => if i = j then x else if x.1 = -6 then (nI i, F i) else if x.2 ≤ F i then x else (nI i, F i)) n 0 (-6, 0)).1, I) := by
  have eC := lp (fun f (x : Int32 × Int32) i => f_X5_nearest_L24 (nI j) f x.1 x.2 (nI i) I) (fun x i => if i = j then x else if x.1 = -6 then (nI i, F i) else if x.2 ≤ F i then x else (nI i, F i)) n (fun x => some (x.1, I)) (fun f i x hi => by
    show f_X5_nearest_L24_b _ _ _ _ _ _ = _
    unfold f_X5_nearest_L24_b
    rw [h4, if_neg (nI_ge hi (by omega)), nI_1]
    by_cases c : i = j
    · rw [if_pos (by rw [c]), if_pos c]
    · rw [if_neg (nI_ne (by omega) (by omega) c), if_neg c, hF i hi, bs]
      dsimp only
      by_cases c2 : x.1 = -6
      · rw [if_pos c2, if_pos c2]
      · rw [if_neg c2, if_neg c2]
        by_cases c3 : x.2 ≤ F i
        · rw [if_pos c3, if_pos c3]
        · rw [if_neg c3, if_neg c3]) (fun f x => by
    show f_X5_nearest_L24_b _ _ _ _ _ _ = _
    unfold f_X5_nearest_L24_b
    rw [h4, if_pos (nI_le (Nat.le_refl _) (by omega))]) n 4000 0 (-6, 0) rfl (by omega) (by omega)
  unfold f_X5_nearest
  rw [has_in (n := n) h4 (by omega) hj, bs, if_neg n10]
  exact eC
