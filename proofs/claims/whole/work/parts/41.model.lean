/-! ===== pure: the reference's row ===== -/
theorem uR {J : HI} {a : Row} {k : Nat} {v : Int32} : upI (upR J 58 a) 58 k v = upR J 58 (upd a k v) := by
  funext b
  by_cases h : b = 58
  · subst h; rfl
  · simp [upI, upR, h]
theorem uR7 {J : HI} {a : Row} {k : Nat} {v : Int32} : upI (upR J 58 a) 57 k v = upR (upI J 57 k v) 58 a := by
  funext b
  by_cases h : b = 58
  · subst h; rfl
  · by_cases h2 : b = 57
    · subst h2; rfl
    · simp [upI, upR, h, h2]
theorem r58 {J : HI} {a : Row} : upR J 58 a 58 = a := rfl
theorem r57 {J : HI} {a : Row} : upR J 58 a 57 = J 57 := rfl
theorem u77 {J : HI} {k : Nat} {v w : Int32} : upI (upI J 57 k v) 57 k w = upI J 57 k w := by
  funext b
  by_cases h : b = 57
  · subst h
    funext j
    by_cases hj : j = k
    · simp [upI, upd, hj]
    · simp [upI, upd, hj]
  · simp [upI, h]
theorem upd_self {a : Row} {k : Nat} {v : Int32} (h : a k = v) : upd a k v = a := by
  funext j
  by_cases hj : j = k
  · subst hj; simp [upd, h]
  · simp [upd, hj]
theorem upd_s {a : Row} {k : Nat} {v : Int32} : upd a k v k = v := if_pos rfl
theorem upd_n {a : Row} {k j : Nat} {v : Int32} (h : j ≠ k) : upd a k v j = a j := if_neg h
def rCut (a : Row) (n j : Nat) : Row := fun k => if k = 22 then nI (n - 1) else if 23 + 4 * j ≤ k ∧ k < 23 + 4 * (n - 1) then a (k + 4) else a k
theorem tk_loop {J : HI} {n : Nat} (hn : n ≤ 6) : ∀ (d f k : Nat) (a : Row), a 22 = nI (n - 1) → 4 * (n - 1) - k = d → k ≤ 4 * (n - 1) → d < f → f_X6_takesOut_L15 f (nI k) (upR J 58 a) = some (0, upR J 58 (fun i => if 23 + k ≤ i ∧ i < 23 + 4 * (n - 1) then a (i + 4) else a i)) := by
  intro d
  induction d with
  | zero =>
    intro f k a ha hd hk hf
    obtain ⟨f, rfl⟩ : ∃ f', f = f' + 1 := ⟨f - 1, by omega⟩
    show f_X6_takesOut_L15_b _ _ _ = _
    unfold f_X6_takesOut_L15_b
    rw [r58, ha, l4, pk_mul, if_pos (nI_le (by omega) (by omega))]
    congr 3
    funext i
    rw [if_neg (by omega)]
  | succ d ih =>
    intro f k a ha hd hk hf
    obtain ⟨f, rfl⟩ : ∃ f', f = f' + 1 := ⟨f - 1, by omega⟩
    show f_X6_takesOut_L15_b _ _ _ = _
    unfold f_X6_takesOut_L15_b
    rw [r58, ha, l4, pk_mul, if_neg (nI_ge (by omega) (by omega)), l23, nI_add, nI_add, if_neg (ib (by omega) (by omega)), if_neg (ib (by omega) (by omega)), nc (by omega), nc (by omega), l1, nI_add]
    simp only [uR]
    rw [ih f (k + 1) _ (by rw [upd_n (by omega)]; exact ha) (by omega) (by omega) (by omega)]
    congr 3
    funext i
    by_cases h1 : 23 + k ≤ i ∧ i < 23 + 4 * (n - 1)
    · rw [if_pos h1]
      by_cases h2 : i = 23 + k
      · subst h2
        rw [if_neg (by omega), upd_s]
      · rw [if_pos (by omega), upd_n (by omega)]
    · rw [if_neg h1, if_neg (by omega), upd_n (by omega)]
theorem tk_eq {J : HI} {a : Row} {n j : Nat} (ha : a 22 = nI n) (hn : n ≤ 6) (hj : j < n) : f_X6_takesOut (nI j) (upR J 58 a) = some (0, upR J 58 (rCut a n j)) := by
  unfold f_X6_takesOut
  simp only [r58, ha, uR]
  rw [l4, pk_mul, l1, pk_sub (by omega), tk_loop hn (4 * (n - 1) - 4 * j) 4000 (4 * j) _ (by rw [upd_s]) rfl (by omega) (by omega)]
  congr 3
  funext i
  unfold rCut
  by_cases h : i = 22
  · subst h
    rw [if_neg (by omega), upd_s, if_pos rfl]
  · rw [if_neg h]
    by_cases h1 : 23 + 4 * j ≤ i ∧ i < 23 + 4 * (n - 1)
    · rw [if_pos h1, if_pos h1, upd_n (by omega)]
    · rw [if_neg h1, if_neg h1, upd_n h]
def rCuts (a : Row) (n : Nat) : Nat → Row
  | 0 => a
  | d + 1 => rCuts (rCut a n 0) (n - 1) d
theorem do_loop {J : HI} {w : Int32} {K : Nat} (hw : ∀ n : Nat, n ≤ 6 → (nI n ≤ w ↔ n ≤ K)) : ∀ (d f n : Nat) (a : Row), a 22 = nI n → n ≤ 6 → n - K = d → d < f → f_X6_dropsOldest_L0 w f (upR J 58 a) = some (0, upR J 58 (rCuts a n d)) := by
  intro d
  induction d with
  | zero =>
    intro f n a ha hn hd hf
    obtain ⟨f, rfl⟩ : ∃ f', f = f' + 1 := ⟨f - 1, by omega⟩
    show f_X6_dropsOldest_L0_b _ _ _ = _
    unfold f_X6_dropsOldest_L0_b
    rw [r58, ha, if_pos ((hw n hn).mpr (by omega))]
    rfl
  | succ d ih =>
    intro f n a ha hn hd hf
    obtain ⟨f, rfl⟩ : ∃ f', f = f' + 1 := ⟨f - 1, by omega⟩
    show f_X6_dropsOldest_L0_b _ _ _ = _
    unfold f_X6_dropsOldest_L0_b
    rw [r58, ha, if_neg (fun h => by have := (hw n hn).mp h; omega), l0, tk_eq ha hn (by omega), bs, ih f (n - 1) _ (by simp [rCut]) (by omega) (by omega) (by omega)]
    rfl
theorem do_eq {J : HI} {a : Row} {w : Int32} {K n : Nat} (hw : ∀ n : Nat, n ≤ 6 → (nI n ≤ w ↔ n ≤ K)) (ha : a 22 = nI n) (hn : n ≤ 6) : f_X6_dropsOldest w (upR J 58 a) = some (0, upR J 58 (rCuts a n (n - K))) := by
  unfold f_X6_dropsOldest
  exact do_loop hw (n - K) 4000 n a ha hn rfl (by omega)
theorem rCuts_22 : ∀ (d n : Nat) (a : Row), a 22 = nI n → d ≤ n → rCuts a n d 22 = nI (n - d) := by
  intro d
  induction d with
  | zero => intro n a ha _; exact ha
  | succ d ih =>
    intro n a ha hd
    rw [rCuts, ih (n - 1) _ (by simp [rCut]) (by omega), show n - 1 - d = n - (d + 1) by omega]
theorem rCuts_lo : ∀ (d n : Nat) (a : Row) (k : Nat), k < 22 ∨ 47 ≤ k → n ≤ 6 → rCuts a n d k = a k := by
  intro d
  induction d with
  | zero => intro n a k _ _; rfl
  | succ d ih =>
    intro n a k hk hn
    rw [rCuts, ih (n - 1) _ k hk (by omega), rCut, if_neg (by omega), if_neg (by omega)]
/-- the detector -/
def dN (k hy hi v was lv : Int32) : Int32 := if k = 0 then (if was = 1 ∧ lv ≤ v then 0 else if v < lv - hy then 1 else was) else if k = 1 then (if was = 1 ∧ v ≤ lv then 0 else if lv + hy < v then 1 else was) else (if v < lv then 1 else if hi ≤ v then 0 else if was = 0 then 0 else 2)
def dF (k v was lv : Int32) : Prop := if k = 0 then was = 1 ∧ lv ≤ v else if k = 1 then was = 1 ∧ v ≤ lv else v < lv ∧ was = 2
noncomputable def dB (k v was lv : Int32) : Int32 := by
  classical
  exact if dF k v was lv then 1 else 0
def lvl (k level low : Int32) : Int32 := if k = 0 ∨ k = 1 then level else low
theorem dB_t {k v was lv : Int32} (h : dF k v was lv) : dB k v was lv = 1 := by unfold dB; exact if_pos h
theorem dB_f {k v was lv : Int32} (h : ¬ dF k v was lv) : dB k v was lv = 0 := by unfold dB; exact if_neg h
theorem fi_eq {J : HI} {a : Row} (v was level low : Int32) : f_X6_isFiring v was level low (upR J 58 a) = some (dB (a 0) v was (lvl (a 0) level low), upR (upI J 57 6 (dN (a 0) (a 2) (a 4) v was (lvl (a 0) level low))) 58 a) := by
  unfold f_X6_isFiring
  simp only [uR7, r58]
  by_cases k0 : a 0 = 0
  · have e : lvl (a 0) level low = level := by simp [lvl, k0]
    rw [if_pos k0, e]
    by_cases h1 : was = 1
    · rw [if_pos h1]
      by_cases h2 : v < level
      · have h3 : ¬ level ≤ v := Int32.not_le.mpr h2
        have hF : ¬ dF (a 0) v was level := by simp [dF, k0, h3]
        rw [if_pos h2, f_X6_isFiring_J29, if_pos rfl, dB_f hF]
        simp only [r58, uR7, u77]
        have e3 : (level - a 2 ≤ v) ↔ ¬ v < level - a 2 := Int32.not_lt.symm
        by_cases h4 : v < level - a 2
        · rw [if_neg (by rw [e3]; simp [h4])]
          simp [dN, k0, h3, h4]
        · rw [if_pos (e3.mpr h4)]
          simp [dN, k0, h3, h4]
      · have h3 : level ≤ v := Int32.not_lt.mp h2
        have hF : dF (a 0) v was level := by simp [dF, k0, h3, h1]
        rw [if_neg h2, f_X6_isFiring_J29, if_neg n10, dB_t hF]
        simp only [r58, uR7, u77]
        simp [dN, k0, h3, h1]
    · have hF : ¬ dF (a 0) v was level := by simp [dF, k0, h1]
      rw [if_neg h1, f_X6_isFiring_J29, if_pos rfl, dB_f hF]
      simp only [r58, uR7, u77]
      have e3 : (level - a 2 ≤ v) ↔ ¬ v < level - a 2 := Int32.not_lt.symm
      by_cases h4 : v < level - a 2
      · rw [if_neg (by rw [e3]; simp [h4])]
        simp [dN, k0, h1, h4]
      · rw [if_pos (e3.mpr h4)]
        simp [dN, k0, h1, h4]
  · rw [if_neg k0]
    by_cases k1 : a 0 = 1
    · have e : lvl (a 0) level low = level := by simp [lvl, k1]
      rw [if_pos k1, e]
      by_cases h1 : was = 1
      · rw [if_pos h1]
        by_cases h2 : level < v
        · have h3 : ¬ v ≤ level := Int32.not_le.mpr h2
          have hF : ¬ dF (a 0) v was level := by simp [dF, k1, h3]
          rw [if_pos h2, f_X6_isFiring_J89, if_pos rfl, dB_f hF]
          simp only [r58, uR7, u77]
          have e3 : (v ≤ level + a 2) ↔ ¬ level + a 2 < v := Int32.not_lt.symm
          by_cases h4 : level + a 2 < v
          · rw [if_neg (by rw [e3]; simp [h4])]
            simp [dN, k1, h3, h4]
          · rw [if_pos (e3.mpr h4)]
            simp [dN, k1, h3, h4]
        · have h3 : v ≤ level := Int32.not_lt.mp h2
          have hF : dF (a 0) v was level := by simp [dF, k1, h3, h1]
          rw [if_neg h2, f_X6_isFiring_J89, if_neg n10, dB_t hF]
          simp only [r58, uR7, u77]
          simp [dN, k1, h3, h1]
      · have hF : ¬ dF (a 0) v was level := by simp [dF, k1, h1]
        rw [if_neg h1, f_X6_isFiring_J89, if_pos rfl, dB_f hF]
        simp only [r58, uR7, u77]
        have e3 : (v ≤ level + a 2) ↔ ¬ level + a 2 < v := Int32.not_lt.symm
        by_cases h4 : level + a 2 < v
        · rw [if_neg (by rw [e3]; simp [h4])]
          simp [dN, k1, h1, h4]
        · rw [if_pos (e3.mpr h4)]
          simp [dN, k1, h1, h4]
    · have e : lvl (a 0) level low = low := by simp [lvl, k0, k1]
      rw [if_neg k1, e]
      by_cases h1 : low ≤ v
      · have h2 : ¬ v < low := Int32.not_lt.mpr h1
        have hF : ¬ dF (a 0) v was low := by simp [dF, k0, k1, h2]
        rw [if_pos h1, dB_f hF]
        have e3 : (v < a 4) ↔ ¬ a 4 ≤ v := Int32.not_le.symm
        by_cases h3 : a 4 ≤ v
        · rw [if_neg (by rw [e3]; simp [h3]), f_X6_isFiring_J158, if_pos h1]
          simp [dN, k0, k1, h2, h3, uR7, u77]
        · rw [if_pos (e3.mpr h3)]
          by_cases h5 : was = 0
          · rw [if_pos h5, f_X6_isFiring_J158, if_pos h1]
            simp [dN, k0, k1, h2, h3, h5, uR7, u77]
          · rw [if_neg h5, f_X6_isFiring_J158, if_pos h1]
            simp [dN, k0, k1, h2, h3, h5, uR7, u77]
      · have h2 : v < low := Int32.not_le.mp h1
        rw [if_neg h1, f_X6_isFiring_J158, if_neg h1]
        by_cases h5 : was = 2
        · have hF : dF (a 0) v was low := by simp [dF, k0, k1, h2, h5]
          rw [if_pos h5, dB_t hF]
          simp [dN, k0, k1, h2, uR7, u77]
        · have hF : ¬ dF (a 0) v was low := by simp [dF, k0, k1, h5]
          rw [if_neg h5, dB_f hF]
          simp [dN, k0, k1, h2, uR7, u77]
