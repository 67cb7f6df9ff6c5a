/-! ===== pure: loops that copy a row ===== -/
theorem cp_loop {c d N : Nat} {I : HI} {s : Nat → Int32} {E : Row → Option (Int32 × HI)} (L : Nat → Int32 → HI → Option (Int32 × HI)) (step : ∀ (f j : Nat) (g : Row), j < N → L (f + 1) (nI j) (upR I c g) = L f (nI (j + 1)) (upR I c (upd g (d + j) (s j)))) (fin : ∀ (f : Nat) (g : Row), L (f + 1) (nI N) (upR I c g) = E g) : ∀ (k f j : Nat) (g : Row), N - j = k → j ≤ N → k < f → L f (nI j) (upR I c g) = E (fun i => if d + j ≤ i ∧ i < d + N then s (i - d) else g i) := by
  intro k
  induction k with
  | zero =>
    intro f j g hk hj hf
    obtain ⟨f, rfl⟩ : ∃ f', f = f' + 1 := ⟨f - 1, by omega⟩
    obtain rfl : j = N := by omega
    rw [fin]
    congr 1
    funext i
    rw [if_neg (by omega)]
  | succ k ih =>
    intro f j g hk hj hf
    obtain ⟨f, rfl⟩ : ∃ f', f = f' + 1 := ⟨f - 1, by omega⟩
    rw [step f j g (by omega), ih f (j + 1) _ (by omega) (by omega) (by omega)]
    congr 1
    funext i
    by_cases h1 : i = d + j
    · subst h1
      rw [if_neg (by omega), upd_s, if_pos (by omega), show d + j - d = j by omega]
    · rw [upd_n h1]
      by_cases h2 : d + j ≤ i ∧ i < d + N
      · rw [if_pos h2, if_pos (by omega)]
      · rw [if_neg h2, if_neg (by omega)]
theorem sh_loop {c N : Nat} {I : HI} {E : Row → Option (Int32 × HI)} (L : Nat → Int32 → HI → Option (Int32 × HI)) (step : ∀ (f j : Nat) (g : Row), j < N → L (f + 1) (nI j) (upR I c g) = L f (nI (j + 1)) (upR I c (upd g j (g (j + 447))))) (fin : ∀ (f : Nat) (g : Row), L (f + 1) (nI N) (upR I c g) = E g) : ∀ (k f j : Nat) (g : Row), N - j = k → j ≤ N → k < f → L f (nI j) (upR I c g) = E (fun i => if j ≤ i ∧ i < N then g (i + 447) else g i) := by
  intro k
  induction k with
  | zero =>
    intro f j g hk hj hf
    obtain ⟨f, rfl⟩ : ∃ f', f = f' + 1 := ⟨f - 1, by omega⟩
    obtain rfl : j = N := by omega
    rw [fin]
    congr 1
    funext i
    rw [if_neg (by omega)]
  | succ k ih =>
    intro f j g hk hj hf
    obtain ⟨f, rfl⟩ : ∃ f', f = f' + 1 := ⟨f - 1, by omega⟩
    rw [step f j g (by omega), ih f (j + 1) _ (by omega) (by omega) (by omega)]
    congr 1
    funext i
    by_cases h1 : i = j
    · subst h1
      rw [if_neg (by omega), upd_s, if_pos (by omega)]
    · rw [upd_n h1]
      by_cases h2 : j ≤ i ∧ i < N
      · rw [if_pos h2, if_pos (by omega), upd_n (by omega)]
      · rw [if_neg h2, if_neg (by omega)]
theorem upR_self (I : HI) (c : Nat) : upR I c (I c) = I := by
  funext b
  by_cases h : b = c
  · subst h; simp [upR]
  · simp [upR, h]
theorem upR_upI {I : HI} {c k : Nat} {g : Row} {v : Int32} : upI (upR I c g) c k v = upR I c (upd g k v) := by
  funext b
  by_cases h : b = c
  · subst h; simp [upI, upR]
  · simp [upI, upR, h]
theorem upR_s' {I : HI} {c : Nat} {g : Row} : upR I c g c = g := by simp [upR]
theorem upR_n' {I : HI} {c b : Nat} {g : Row} (h : b ≠ c) : upR I c g b = I b := by simp [upR, h]
theorem uu_1 {I : HI} {g w : Row} {v v' : Int32} : upI (upR (upI (upR I 60 g) 57 3 v) 60 w) 57 3 v' = upI (upR I 60 w) 57 3 v' := by
  funext b
  by_cases hb : b = 57
  · subst hb
    funext k
    by_cases hk : k = 3
    · subst hk; simp [upI, upd]
    · simp [upI, upR, upd, hk]
  · by_cases hb2 : b = 60
    · subst hb2; simp [upI, upR]
    · simp [upI, upR, hb, hb2]
theorem keep_eq (I : HI) : f_X6_keep I = some (0, upR I 59 (fun i => if i < 447 then I 58 i else I 59 i)) := by
  have h := cp_loop (c := 59) (d := 0) (N := 447) (I := I) (s := fun j => I 58 j) (E := fun g => some (0, upR I 59 g)) f_X6_keep_L2 (fun f j g hj => by
    show f_X6_keep_L2_b _ _ _ = _
    unfold f_X6_keep_L2_b
    rw [l447, if_neg (nI_ge hj (by decide)), if_neg (ib hj (by decide)), if_neg (ib hj (by decide)), nc (by omega), nI_1]
    simp only [upR_upI, upR_n' (show 58 ≠ 59 by decide), Nat.zero_add]) (fun f g => by
    show f_X6_keep_L2_b _ _ _ = _
    unfold f_X6_keep_L2_b
    rw [l447, if_pos (nI_le (Nat.le_refl _) (by decide))]) 447 4000 0 (I 59) rfl (by decide) (by decide)
  rw [upR_self] at h
  unfold f_X6_keep
  exact (show f_X6_keep_L2 4000 0 I = _ from h).trans (by simp)
theorem chB_eq {I : HI} {h : Nat} (r : Int32) (h3 : I 57 3 = nI h) (hh : h < 6) : f_X6_changed_L52 r 4000 0 I = some (r, upI (upR I 60 (fun i => if 447 * h ≤ i ∧ i < 447 * h + 447 then I 59 (i - 447 * h) else I 60 i)) 57 3 (nI (h + 1))) := by
  have h' := cp_loop (c := 60) (d := 447 * h) (N := 447) (I := I) (s := fun j => I 59 j) (E := fun g => some (r, upI (upR I 60 g) 57 3 (nI (h + 1)))) (f_X6_changed_L52 r) (fun f j g hj => by
    show f_X6_changed_L52_b _ _ _ _ = _
    unfold f_X6_changed_L52_b
    simp only [upR_n' (show 57 ≠ 60 by decide), upR_n' (show 59 ≠ 60 by decide), h3]
    rw [l447, pk_mul, nI_add, if_neg (nI_ge hj (by decide)), if_neg (ib hj (by decide)), if_neg (ib (by omega) (by decide)), nc (by omega), nc (by omega), nI_1]
    simp only [upR_upI]) (fun f g => by
    show f_X6_changed_L52_b _ _ _ _ = _
    unfold f_X6_changed_L52_b
    simp only [upR_n' (show 57 ≠ 60 by decide), h3, nI_1]
    rw [l447, if_pos (nI_le (Nat.le_refl _) (by decide))]) 447 4000 0 (I 60) rfl (by decide) (by decide)
  rw [upR_self] at h'
  rw [l0, h']
  simp
theorem ch_eq {I : HI} {h : Nat} (r : Int32) (h3 : I 57 3 = nI h) (hh : h ≤ 6) : ∃ w : Row, f_X6_changed r I = some (r, upI (upR I 60 w) 57 3 (nI (if h < 6 then h + 1 else 6))) ∧ ∀ j k, j < (if h < 6 then h + 1 else 6) → k < 447 → w (447 * j + k) = if h < 6 then (if j < h then I 60 (447 * j + k) else I 59 k) else (if j < 5 then I 60 (447 * (j + 1) + k) else I 59 k) := by
  unfold f_X6_changed
  by_cases h6 : h < 6
  · rw [h3, l6, if_neg (nI_ne (by omega) (by decide) (by omega)), chB_eq r h3 h6]
    simp only [if_pos h6]
    refine ⟨_, rfl, fun j k hj hk => ?_⟩
    by_cases hj2 : j < h
    · have : 447 * j + 447 ≤ 447 * h := by
        have := Nat.mul_le_mul_left 447 (show j + 1 ≤ h from hj2)
        omega
      rw [if_neg (by omega), if_pos hj2]
    · obtain rfl : j = h := by omega
      rw [if_pos (by omega), if_neg hj2, show 447 * j + k - 447 * j = k by omega]
  · obtain rfl : h = 6 := by omega
    rw [h3, if_pos (show nI 6 = (6 : Int32) from rfl)]
    simp only [if_neg h6]
    have h' := sh_loop (c := 60) (N := 2235) (I := I) (E := fun g => f_X6_changed_L52 r 4000 0 (upI (upR I 60 g) 57 3 (nI 5))) (f_X6_changed_L11 r) (fun f j g hj => by
      show f_X6_changed_L11_b _ _ _ _ = _
      unfold f_X6_changed_L11_b
      rw [l447, show (2235 : Int32) = nI 2235 by decide, nI_add, if_neg (nI_ge hj (by decide)), if_neg (ib (by omega) (by decide)), if_neg (ib (by omega) (by decide)), nc (by omega), nc (by omega), nI_1]
      simp only [upR_upI, upR_s']) (fun f g => by
      show f_X6_changed_L11_b _ _ _ _ = _
      unfold f_X6_changed_L11_b
      simp only [upR_n' (show 57 ≠ 60 by decide), h3]
      rw [show (2235 : Int32) = nI 2235 by decide, if_pos (nI_le (Nat.le_refl _) (by decide)), l1, pk_sub (by decide)]) 2235 4000 0 (I 60) rfl (by decide) (by decide)
    rw [upR_self] at h'
    rw [show f_X6_changed_L11 r 4000 0 I = _ from h', chB_eq (h := 5) r (by rw [upI_s, upd_s]) (by decide)]
    generalize hg : (fun i => if 0 ≤ i ∧ i < 2235 then I 60 (i + 447) else I 60 i) = g
    rw [upI_n (show 60 ≠ 57 by decide), upI_n (show 59 ≠ 57 by decide), upR_s', upR_n' (show 59 ≠ 60 by decide), uu_1]
    refine ⟨fun i => if 447 * 5 ≤ i ∧ i < 447 * 5 + 447 then I 59 (i - 447 * 5) else g i, rfl, fun j k hj hk => ?_⟩
    dsimp only
    by_cases hj2 : j < 5
    · rw [if_neg (by omega), if_pos hj2, ← hg]
      dsimp only
      rw [if_pos (by omega), show 447 * j + k + 447 = 447 * (j + 1) + k by omega]
    · obtain rfl : j = 5 := by omega
      rw [if_pos (by omega), if_neg hj2, show 447 * 5 + k - 447 * 5 = k by omega]
