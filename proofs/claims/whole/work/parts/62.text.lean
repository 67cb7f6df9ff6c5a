/-! ===== pure: texts: the characters, numbers and values on both sides ===== -/
def hT (I : HI) (s i x : Int32) (A V W E : Row) : HI := fun b => if b = 51 then (fun k => if k = 6 then s else if k = 7 then i else if k = 8 then x else I 51 k) else if b = 53 then A else if b = 54 then V else if b = 55 then W else if b = 56 then E else I b
section
variable {I : HI} {s i x v : Int32} {A V W E : Row} {k : Nat}
theorem hT_6 : hT I s i x A V W E 51 6 = s := by simp [hT]
theorem hT_7 : hT I s i x A V W E 51 7 = i := by simp [hT]
theorem hT_8 : hT I s i x A V W E 51 8 = x := by simp [hT]
theorem hT_1 : hT I s i x A V W E 51 1 = I 51 1 := by simp [hT]
theorem hT_53 : hT I s i x A V W E 53 = A := by simp [hT]
theorem hT_54 : hT I s i x A V W E 54 = V := by simp [hT]
theorem hT_55 : hT I s i x A V W E 55 = W := by simp [hT]
theorem hT_56 : hT I s i x A V W E 56 = E := by simp [hT]
theorem hT_n {b : Nat} (h : b < 51 ∨ b = 52 ∨ 56 < b) : hT I s i x A V W E b = I b := by
  unfold hT
  rw [if_neg (by omega), if_neg (by omega), if_neg (by omega), if_neg (by omega), if_neg (by omega)]
theorem hT_u6 : upI (hT I s i x A V W E) 51 6 v = hT I v i x A V W E := by
  funext b
  by_cases h : b = 51
  · subst h
    funext k
    by_cases hk : k = 6
    · subst hk; simp [upI, upd, hT]
    · simp [upI, upd, hT, hk]
  · simp [upI, hT, h]
theorem hT_u7 : upI (hT I s i x A V W E) 51 7 v = hT I s v x A V W E := by
  funext b
  by_cases h : b = 51
  · subst h
    funext k
    by_cases hk : k = 7
    · subst hk; simp [upI, upd, hT]
    · simp [upI, upd, hT, hk]
  · simp [upI, hT, h]
theorem hT_u8 : upI (hT I s i x A V W E) 51 8 v = hT I s i v A V W E := by
  funext b
  by_cases h : b = 51
  · subst h
    funext k
    by_cases hk : k = 8
    · subst hk; simp [upI, upd, hT]
    · simp [upI, upd, hT, hk]
  · simp [upI, hT, h]
theorem hT_u53 : upI (hT I s i x A V W E) 53 k v = hT I s i x (upd A k v) V W E := by
  funext b
  by_cases h : b = 53
  · subst h; simp [upI, hT]
  · simp [upI, hT, h]
theorem hT_u54 : upI (hT I s i x A V W E) 54 k v = hT I s i x A (upd V k v) W E := by
  funext b
  by_cases h : b = 54
  · subst h; simp [upI, hT]
  · simp [upI, hT, h]
theorem hT_u55 : upI (hT I s i x A V W E) 55 k v = hT I s i x A V (upd W k v) E := by
  funext b
  by_cases h : b = 55
  · subst h; simp [upI, hT]
  · simp [upI, hT, h]
theorem hT_u56 : upI (hT I s i x A V W E) 56 k v = hT I s i x A V W (upd E k v) := by
  funext b
  by_cases h : b = 56
  · subst h; simp [upI, hT]
  · simp [upI, hT, h]
theorem hT_self : hT I (I 51 6) (I 51 7) (I 51 8) (I 53) (I 54) (I 55) (I 56) = I := by
  funext b
  unfold hT
  by_cases h : b = 51
  · subst h
    rw [if_pos rfl]
    funext k
    by_cases h6 : k = 6
    · subst h6; simp
    · by_cases h7 : k = 7
      · subst h7; simp
      · by_cases h8 : k = 8
        · subst h8; simp
        · simp [h6, h7, h8]
  · rw [if_neg h]
    by_cases h3 : b = 53
    · subst h3; simp
    · rw [if_neg h3]
      by_cases h4 : b = 54
      · subst h4; simp
      · rw [if_neg h4]
        by_cases h5 : b = 55
        · subst h5; simp
        · rw [if_neg h5]
          by_cases h6 : b = 56
          · subst h6; simp
          · rw [if_neg h6]
end
/-- the reference's: where it reads, and the number -/
def hR (K : HI) (i x : Int32) : HI := fun b => if b = 57 then (fun k => if k = 9 then i else if k = 10 then x else K 57 k) else K b
section
variable {K : HI} {i x v : Int32} {k : Nat}
theorem hR_9 : hR K i x 57 9 = i := by simp [hR]
theorem hR_10 : hR K i x 57 10 = x := by simp [hR]
theorem hR_k (h : k ≠ 9) (h2 : k ≠ 10) : hR K i x 57 k = K 57 k := by simp [hR, h, h2]
theorem hR_n {b : Nat} (h : b ≠ 57) : hR K i x b = K b := by simp [hR, h]
theorem hR_u9 : upI (hR K i x) 57 9 v = hR K v x := by
  funext b
  by_cases h : b = 57
  · subst h
    funext k
    by_cases hk : k = 9
    · subst hk; simp [upI, upd, hR]
    · simp [upI, upd, hR, hk]
  · simp [upI, hR, h]
theorem hR_u10 : upI (hR K i x) 57 10 v = hR K i v := by
  funext b
  by_cases h : b = 57
  · subst h
    funext k
    by_cases hk : k = 10
    · subst hk; simp [upI, upd, hR]
    · simp [upI, upd, hR, hk]
  · simp [upI, hR, h]
theorem hR_self : hR K (K 57 9) (K 57 10) = K := by
  funext b
  by_cases h : b = 57
  · subst h
    funext k
    by_cases hk : k = 9
    · subst hk; simp [hR]
    · by_cases hk2 : k = 10
      · subst hk2; simp [hR]
      · simp [hR, hk, hk2]
  · simp [hR, h]
end
/-- the text on both sides -/
def TC (I : HI) (t : Row) (L : Nat) : Prop := L ≤ 80 ∧ I 51 1 = nI L ∧ (∀ k, k < L → I 52 k = t k) ∧ ∀ k, L ≤ k → t k = 0
def TR (K : HI) (t : Row) (L : Nat) : Prop := L ≤ 80 ∧ K 57 8 = nI L ∧ (∀ k, k < L → K 63 k = t k) ∧ ∀ k, L ≤ k → t k = 0
theorem code_eq {I : HI} {t : Row} {L i : Nat} {s x : Int32} {A V W E : Row} (H : TC I t L) (hi : i < 2 ^ 31) : f_X2_code (hT I s (nI i) x A V W E) = some (t i, hT I s (nI i) x A V W E) := by
  obtain ⟨hL, h1, h2, h3⟩ := H
  unfold f_X2_code
  simp only [hT_7, hT_1, h1]
  rw [if_neg (nI_pos hi)]
  by_cases c : L ≤ i
  · rw [if_pos (nI_le c hi), h3 i c]
  · rw [if_neg (nI_ge (by omega) (by omega)), if_neg (fun q : (80 : Int32) ≤ nI i => absurd ((nI_leI (a := 80) (by decide) hi).mp q) (by omega)), if_neg (ib (by omega) (by decide)), nc hi, hT_n (by omega), h2 i (by omega)]
theorem ish_eq {K : HI} {t : Row} {L i : Nat} {x lo hi : Int32} (H : TR K t L) (hi' : i < 2 ^ 31) (h0 : (0 : Int32) < lo) : f_X6_isHere lo hi (hR K (nI i) x) = some (if lo ≤ t i ∧ t i ≤ hi then 1 else 0, hR K (nI i) x) := by
  obtain ⟨hL, h1, h2, h3⟩ := H
  unfold f_X6_isHere
  simp only [hR_9, hR_k (show 8 ≠ 9 by decide) (show 8 ≠ 10 by decide), h1]
  by_cases c : L ≤ i
  · rw [if_pos (nI_le c hi'), h3 i c, if_neg (fun q => absurd q.1 (Int32.not_le.mpr h0))]
  · rw [if_neg (nI_ge (by omega) (by omega)), if_neg (ib (by omega) (by decide)), nc hi', hR_n (by decide), h2 i (by omega), in32, bs]
    dsimp only
    by_cases d : lo ≤ t i ∧ t i ≤ hi
    · rw [if_pos d, if_neg n10]
    · rw [if_neg d, if_pos rfl]
theorem tk_c {K : HI} {t : Row} {L i : Nat} {x c : Int32} (H : TR K t L) (hi' : i < 2 ^ 31) (h0 : (0 : Int32) < c) : f_X6_takes c (hR K (nI i) x) = some (if t i = c then 1 else 0, hR K (nI (if t i = c then i + 1 else i)) x) := by
  unfold f_X6_takes
  rw [ish_eq H hi' h0, bs]
  dsimp only
  have e : (c ≤ t i ∧ t i ≤ c) ↔ t i = c := ⟨fun q => Int32.le_antisymm q.2 q.1, fun q => by rw [q]; exact ⟨Int32.le_refl _, Int32.le_refl _⟩⟩
  by_cases h : t i = c
  · rw [if_pos (e.mpr h), if_pos h, if_pos h, if_neg n10, hR_9, nI_1, hR_u9, if_pos (Or.inr rfl)]
  · rw [if_neg (fun q => h (e.mp q)), if_neg h, if_neg h, if_pos rfl, hR_9, Int32.add_zero, hR_u9, if_pos (Or.inl rfl)]
abbrev dg (c : Int32) : Prop := 48 ≤ c ∧ c ≤ 57
theorem ibz {j N : Nat} (h : j < N) (hN : N < 2 ^ 31) : ¬ (nI j < 0 ∨ N ≤ j) := fun q => by
  rcases q with q | q
  · exact nI_pos (by omega) q
  · omega
theorem dig_eq (c : Int32) (I : HI) : f_X2_isDigit c I = some (if dg c then 1 else 0, I) := by
  unfold f_X2_isDigit
  by_cases h : c < 48
  · rw [if_pos h, if_neg (fun q => absurd q.1 (Int32.not_le.mpr h))]
  · rw [if_neg h]
    by_cases h2 : 57 < c
    · rw [if_pos h2, if_neg (fun q => absurd q.2 (Int32.not_le.mpr h2))]
    · rw [if_neg h2, if_pos ⟨Int32.not_lt.mp h, Int32.not_lt.mp h2⟩]
theorem dg_lt {t : Row} {L i : Nat} (h0 : ∀ k, L ≤ k → t k = 0) (h : dg (t i)) : i < L := by
  by_cases c : L ≤ i
  · rw [h0 i c] at h
    exact absurd h (by decide)
  · omega
theorem dg_n {c : Int32} (h : dg c) : ∃ d : Nat, d ≤ 9 ∧ c = nI (d + 48) := by
  have b1 := Int32.le_iff_toInt_le.mp h.1
  have b2 := Int32.le_iff_toInt_le.mp h.2
  rw [show (48 : Int32).toInt = 48 from rfl] at b1
  rw [show (57 : Int32).toInt = 57 from rfl] at b2
  refine ⟨(c.toInt - 48).toNat, by omega, ?_⟩
  apply Int32.toInt_inj.mp
  rw [nI_toInt (by omega)]
  omega
/-- the number from its first digit on: whether it stands, the number, where -/
def nlS (t : Row) : Nat → Int32 → Nat → Int32 × Int32 × Nat
  | 0, x, j => (1, x, j)
  | k + 1, x, j => if dg (t j) then (if x = 0 then (0, x, j) else if 10 * x + t j - 48 ≤ 100 then nlS t k (10 * x + t j - 48) (j + 1) else (0, x, j)) else (1, x, j)
theorem nl_facts {t : Row} {L : Nat} (h0 : ∀ k, L ≤ k → t k = 0) : ∀ (k j m : Nat), L - j = k → j ≤ L → m ≤ 100 → j ≤ (nlS t k (nI m) j).2.2 ∧ (nlS t k (nI m) j).2.2 ≤ L ∧ ((nlS t k (nI m) j).1 = 0 ∨ (nlS t k (nI m) j).1 = 1) ∧ ((nlS t k (nI m) j).1 = 0 → dg (t (nlS t k (nI m) j).2.2)) ∧ ∃ y : Nat, y ≤ 100 ∧ (nlS t k (nI m) j).2.1 = nI y := by
  intro k
  induction k with
  | zero => intro j m hk hj hm; exact ⟨Nat.le_refl _, hj, Or.inr rfl, fun h => absurd h (show ¬ (1 : Int32) = 0 by decide), m, hm, rfl⟩
  | succ k ih =>
    intro j m hk hj hm
    unfold nlS
    by_cases h : dg (t j)
    · rw [if_pos h]
      by_cases hx : nI m = 0
      · rw [if_pos hx]
        exact ⟨Nat.le_refl _, hj, Or.inl rfl, fun _ => h, m, hm, rfl⟩
      · rw [if_neg hx]
        obtain ⟨d, hd, e⟩ := dg_n h
        have ey : 10 * nI m + t j - 48 = nI (10 * m + d) := by
          rw [e, l10, pk_mul, nI_add, show (48 : Int32) = nI 48 from rfl, pk_sub (by omega)]
          congr 1
        by_cases hy : 10 * nI m + t j - 48 ≤ 100
        · rw [if_pos hy, ey]
          rw [ey] at hy
          have := (nI_leI (b := 100) (by omega) (by decide)).mp hy
          obtain ⟨a, b, c⟩ := ih (j + 1) (10 * m + d) (by omega) (by omega) this
          exact ⟨by omega, b, c⟩
        · rw [if_neg hy]
          exact ⟨Nat.le_refl _, hj, Or.inl rfl, fun _ => h, m, hm, rfl⟩
    · rw [if_neg h]
      exact ⟨Nat.le_refl _, hj, Or.inr rfl, fun h => absurd h (show ¬ (1 : Int32) = 0 by decide), m, hm, rfl⟩
theorem cnl {I : HI} {t : Row} {L : Nat} {s : Int32} {A V W E : Row} (H : TC I t L) : ∀ (k f j c : Nat) (x : Int32), L - j = k → j ≤ L → k < f → c + k < 80 → f_X2_readNumber_L35 f (nI c) (hT I s (nI j) x A V W E) = some ((nlS t k x j).1, hT I s (nI (nlS t k x j).2.2) (nlS t k x j).2.1 A V W E) := by
  intro k
  induction k with
  | zero =>
    intro f j c x hk hj hf hc
    obtain ⟨f, rfl⟩ : ∃ f', f = f' + 1 := ⟨f - 1, by omega⟩
    have hL := H.1
    show f_X2_readNumber_L35_b _ _ _ = _
    unfold f_X2_readNumber_L35_b
    rw [if_neg (fun q : (80 : Int32) ≤ nI c => absurd ((nI_leI (a := 80) (by decide) (by omega)).mp q) (by omega)), code_eq H (by omega), bs]
    dsimp only
    rw [dig_eq, bs, H.2.2.2 j (by omega), if_neg (show ¬ dg 0 by decide), if_pos rfl]
    rfl
  | succ k ih =>
    intro f j c x hk hj hf hc
    obtain ⟨f, rfl⟩ : ∃ f', f = f' + 1 := ⟨f - 1, by omega⟩
    have hL := H.1
    show f_X2_readNumber_L35_b _ _ _ = _
    unfold f_X2_readNumber_L35_b
    rw [if_neg (fun q : (80 : Int32) ≤ nI c => absurd ((nI_leI (a := 80) (by decide) (by omega)).mp q) (by omega)), code_eq H (by omega), bs]
    dsimp only
    rw [dig_eq, bs]
    unfold nlS
    by_cases h : dg (t j)
    · rw [if_pos h, if_pos h, if_neg n10]
      dsimp only
      rw [code_eq H (by omega), bs]
      simp only [hT_8, hT_7, hT_u8, hT_u7]
      by_cases hx : x = 0
      · rw [if_pos hx, if_pos hx]
      · rw [if_neg hx, if_neg hx, Int32.mul_comm x 10]
        by_cases hy : 10 * x + t j - 48 ≤ 100
        · rw [if_pos hy, if_pos hy, nI_1, nI_1]
          exact ih f (j + 1) (c + 1) _ (by omega) (by omega) (by omega) (by omega)
        · rw [if_neg hy, if_neg hy]
    · rw [if_neg h, if_neg h, if_pos rfl]
theorem rnl {K : HI} {t : Row} {L : Nat} (H : TR K t L) : ∀ (k f j m : Nat), L - j = k → j ≤ L → k < f → m ≤ 100 → f_X6_readsNumber_L39 f (hR K (nI j) (nI m)) = some (1, hR K (nI (nlS t k (nI m) j).2.2) (nlS t k (nI m) j).2.1) := by
  intro k
  induction k with
  | zero =>
    intro f j m hk hj hf hm
    obtain ⟨f, rfl⟩ : ∃ f', f = f' + 1 := ⟨f - 1, by omega⟩
    have hL := H.1
    show f_X6_readsNumber_L39_b _ _ = _
    unfold f_X6_readsNumber_L39_b
    split
    · rfl
    · rw [ish_eq H (by omega) (by decide), bs, H.2.2.2 j (by omega), if_neg (show ¬ ((48 : Int32) ≤ 0 ∧ (0 : Int32) ≤ 57) by decide), if_pos rfl]
      rfl
  | succ k ih =>
    intro f j m hk hj hf hm
    obtain ⟨f, rfl⟩ : ∃ f', f = f' + 1 := ⟨f - 1, by omega⟩
    have hL := H.1
    show f_X6_readsNumber_L39_b _ _ = _
    unfold f_X6_readsNumber_L39_b nlS
    rw [hR_10]
    by_cases hx : nI m = 0
    · rw [if_pos (by rw [hx]; decide)]
      by_cases h : dg (t j)
      · rw [if_pos h, if_pos hx]
      · rw [if_neg h]
    · have hm0 : m ≠ 0 := fun q => hx (by rw [q]; rfl)
      rw [if_neg (nI_nle (by omega) (by omega)), ish_eq H (by omega) (by decide), bs]
      by_cases h : dg (t j)
      · have hjL := dg_lt H.2.2.2 h
        obtain ⟨d, hd, e⟩ := dg_n h
        have ey : 10 * nI m + t j - 48 = nI (10 * m + d) := by
          rw [e, l10, pk_mul, nI_add, show (48 : Int32) = nI 48 from rfl, pk_sub (by omega)]
          congr 1
        rw [if_pos h, if_pos h, if_neg hx, if_neg n10]
        simp only [hR_9, hR_10, hR_n (show 63 ≠ 57 by decide), nc (show j < 2 ^ 31 by omega), H.2.2.1 j hjL]
        rw [if_neg (ibz (show j < 80 by omega) (by decide))]
        by_cases hy : 10 * nI m + t j - 48 ≤ 100
        · rw [if_pos hy, if_neg (Int32.not_lt.mpr hy), if_neg (ibz (show j < 80 by omega) (by decide)), hR_u10, hR_9, nI_1, hR_u9, ey]
          rw [ey] at hy
          exact ih f (j + 1) (10 * m + d) (by omega) (by omega) (by omega) ((nI_leI (b := 100) (by omega) (by decide)).mp hy)
        · rw [if_neg hy, if_pos (Int32.not_le.mp hy)]
      · rw [if_neg h, if_neg h, if_pos rfl]
def numS (t : Row) (L i : Nat) : Int32 × Int32 × Nat := if dg (t i) then nlS t (L - (i + 1)) (t i - 48) (i + 1) else (0, 0, i)
theorem dg_48 {c : Int32} (h : dg c) : ∃ m : Nat, m ≤ 9 ∧ c - 48 = nI m := by
  obtain ⟨d, hd, e⟩ := dg_n h
  exact ⟨d, hd, by rw [e, show (48 : Int32) = nI 48 from rfl, pk_sub (by omega)]; congr 1⟩
theorem num_facts {t : Row} {L i : Nat} (h0 : ∀ k, L ≤ k → t k = 0) (hi : i ≤ L) : i ≤ (numS t L i).2.2 ∧ (numS t L i).2.2 ≤ L ∧ ((numS t L i).1 = 0 ∨ (numS t L i).1 = 1) ∧ ((numS t L i).1 = 0 → dg (t i) → dg (t (numS t L i).2.2)) ∧ ((numS t L i).1 = 1 → dg (t i) ∧ i < (numS t L i).2.2 ∧ ∃ y : Nat, y ≤ 100 ∧ (numS t L i).2.1 = nI y) := by
  unfold numS
  by_cases h : dg (t i)
  · have := dg_lt h0 h
    obtain ⟨m, hm, e⟩ := dg_48 h
    rw [if_pos h, e]
    obtain ⟨a, b, c, d, f⟩ := nl_facts h0 (L - (i + 1)) (i + 1) m rfl (by omega) (by omega)
    exact ⟨by omega, b, c, fun q _ => d q, fun _ => ⟨h, by omega, f⟩⟩
  · rw [if_neg h]
    exact ⟨Nat.le_refl _, hi, Or.inl rfl, fun _ q => absurd q h, fun q => absurd q (show ¬ (0 : Int32) = 1 by decide)⟩
theorem cnum {I : HI} {t : Row} {L i : Nat} {s x : Int32} {A V W E : Row} (H : TC I t L) (hi : i ≤ L) : ∃ y : Int32, f_X2_readNumber (hT I s (nI i) x A V W E) = some ((numS t L i).1, hT I s (nI (numS t L i).2.2) y A V W E) ∧ ((numS t L i).1 = 1 → y = (numS t L i).2.1) := by
  have hL := H.1
  unfold f_X2_readNumber numS
  rw [code_eq H (by omega), bs]
  dsimp only
  rw [dig_eq, bs]
  by_cases h : dg (t i)
  · have := dg_lt H.2.2.2 h
    rw [if_pos h, if_pos h, if_neg n10]
    dsimp only
    rw [code_eq H (by omega), bs]
    simp only [hT_u8, hT_7, hT_u7, nI_1]
    have e := cnl (s := s) (A := A) (V := V) (W := W) (E := E) H (L - (i + 1)) 4000 (i + 1) 0 (t i - 48) rfl (by omega) (by omega) (by omega)
    exact ⟨_, e, fun _ => rfl⟩
  · rw [if_neg h, if_neg h, if_pos rfl]
    exact ⟨x, rfl, fun q => absurd q (show ¬ (0 : Int32) = 1 by decide)⟩
theorem rnum {K : HI} {t : Row} {L i : Nat} {x : Int32} (H : TR K t L) (hi : i ≤ L) : ∃ y : Int32, f_X6_readsNumber (hR K (nI i) x) = some (if dg (t i) then 1 else 0, hR K (nI (numS t L i).2.2) y) ∧ (dg (t i) → y = (numS t L i).2.1) := by
  have hL := H.1
  unfold f_X6_readsNumber numS
  rw [ish_eq H (by omega) (by decide), bs]
  by_cases h : dg (t i)
  · have hiL := dg_lt H.2.2.2 h
    obtain ⟨m, hm, e⟩ := dg_48 h
    rw [if_pos h, if_pos h, if_neg n10]
    simp only [hR_9, hR_n (show 63 ≠ 57 by decide), nc (show i < 2 ^ 31 by omega), H.2.2.1 i hiL]
    rw [if_neg (ibz (show i < 80 by omega) (by decide)), hR_u10, hR_9, nI_1, hR_u9, e, rnl H (L - (i + 1)) 4000 (i + 1) m rfl (by omega) (by omega) (by omega)]
    exact ⟨_, rfl, fun _ => rfl⟩
  · rw [if_neg h, if_neg h, if_pos rfl]
    exact ⟨x, rfl, fun q => absurd q h⟩
