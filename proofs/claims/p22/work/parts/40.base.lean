/-! ===== pure: out of the proof of the whole ===== -/
abbrev Row : Type := Nat → Int32
theorem bs {α β : Type} (x : α) (k : α → Option β) : (some x).bind k = k x := rfl
theorem nc {n : Nat} (h : n < 2 ^ 31) : (nI n).toNatClampNeg = n := nI_clamp h
theorem n10 : ¬ (1 : Int32) = 0 := by decide
theorem l0 : (0 : Int32) = nI 0 := by decide
theorem l1 : (1 : Int32) = nI 1 := by decide
theorem l2 : (2 : Int32) = nI 2 := by decide
theorem l3 : (3 : Int32) = nI 3 := by decide
theorem l4 : (4 : Int32) = nI 4 := by decide
theorem l6 : (6 : Int32) = nI 6 := by decide
theorem l10 : (10 : Int32) = nI 10 := by decide
theorem l23 : (23 : Int32) = nI 23 := by decide
theorem l47 : (47 : Int32) = nI 47 := by decide
theorem l400 : (400 : Int32) = nI 400 := by decide
theorem l447 : (447 : Int32) = nI 447 := by decide
theorem nI_ne {a b : Nat} (ha : a < 2 ^ 31) (hb : b < 2 ^ 31) (h : a ≠ b) : nI a ≠ nI b := fun e => h ((nI_eq ha hb).mp e)
theorem ib {n N : Nat} (h : n < N) (hN : N < 2 ^ 31) : ¬ (nI n < 0 ∨ N ≤ (nI n).toNatClampNeg) := nI_in h hN
def sM (I : HI) (F T P G N : Row) : HI := fun b => if b = 1 then F else if b = 2 then T else if b = 3 then P else if b = 4 then G else if b = 5 then N else I b
theorem sM_1 {I : HI} {F T P G N : Row} : sM I F T P G N 1 = F := by simp [sM]
theorem sM_2 {I : HI} {F T P G N : Row} : sM I F T P G N 2 = T := by simp [sM]
theorem sM_3 {I : HI} {F T P G N : Row} : sM I F T P G N 3 = P := by simp [sM]
theorem sM_4 {I : HI} {F T P G N : Row} : sM I F T P G N 4 = G := by simp [sM]
theorem sM_5 {I : HI} {F T P G N : Row} : sM I F T P G N 5 = N := by simp [sM]
theorem sM_n {I : HI} {F T P G N : Row} {b : Nat} (h : b < 1 ∨ 5 < b) : sM I F T P G N b = I b := by
  unfold sM
  rw [if_neg (by omega), if_neg (by omega), if_neg (by omega), if_neg (by omega), if_neg (by omega)]
theorem sM_self (I : HI) : sM I (I 1) (I 2) (I 3) (I 4) (I 5) = I := by
  funext b
  unfold sM
  split
  · next h => rw [h]
  · split
    · next h => rw [h]
    · split
      · next h => rw [h]
      · split
        · next h => rw [h]
        · split
          · next h => rw [h]
          · rfl
theorem sM_u1 {I : HI} {F T P G N : Row} {k : Nat} {v : Int32} : upI (sM I F T P G N) 1 k v = sM I (upd F k v) T P G N := by
  funext b
  by_cases h : b = 1
  · subst h; rfl
  · simp [upI, sM, h]
theorem sM_u2 {I : HI} {F T P G N : Row} {k : Nat} {v : Int32} : upI (sM I F T P G N) 2 k v = sM I F (upd T k v) P G N := by
  funext b
  by_cases h : b = 2
  · subst h; rfl
  · simp [upI, sM, h]
theorem sM_u3 {I : HI} {F T P G N : Row} {k : Nat} {v : Int32} : upI (sM I F T P G N) 3 k v = sM I F T (upd P k v) G N := by
  funext b
  by_cases h : b = 3
  · subst h; rfl
  · simp [upI, sM, h]
theorem sM_u4 {I : HI} {F T P G N : Row} {k : Nat} {v : Int32} : upI (sM I F T P G N) 4 k v = sM I F T P (upd G k v) N := by
  funext b
  by_cases h : b = 4
  · subst h; rfl
  · simp [upI, sM, h]
theorem sM_u5 {I : HI} {F T P G N : Row} {k : Nat} {v : Int32} : upI (sM I F T P G N) 5 k v = sM I F T P G (upd N k v) := by
  funext b
  by_cases h : b = 5
  · subst h; rfl
  · simp [upI, sM, h]
theorem so (k : Nat) (h : k < 10) (I : HI) : f_X1_settingOf (nI k) I = some (I 2 k, I) := by
  unfold f_X1_settingOf
  rw [if_neg (nI_pos (by omega)), if_neg (by rw [l10]; exact nI_ge h (by omega)), if_neg (ib h (by omega)), nc (by omega)]
theorem so0 (I : HI) : f_X1_settingOf (0 : Int32) I = some (I 2 0, I) := so 0 (by decide) I
theorem so2 (I : HI) : f_X1_settingOf (2 : Int32) I = some (I 2 2, I) := so 2 (by decide) I
theorem so3 (I : HI) : f_X1_settingOf (3 : Int32) I = some (I 2 3, I) := so 3 (by decide) I
theorem so1 (I : HI) : f_X1_settingOf (1 : Int32) I = some (I 2 1, I) := so 1 (by decide) I
theorem so4 (I : HI) : f_X1_settingOf (4 : Int32) I = some (I 2 4, I) := so 4 (by decide) I
theorem so5 (I : HI) : f_X1_settingOf (5 : Int32) I = some (I 2 5, I) := so 5 (by decide) I
theorem so6 (I : HI) : f_X1_settingOf (6 : Int32) I = some (I 2 6, I) := so 6 (by decide) I
theorem so7 (I : HI) : f_X1_settingOf (7 : Int32) I = some (I 2 7, I) := so 7 (by decide) I
theorem so8 (I : HI) : f_X1_settingOf (8 : Int32) I = some (I 2 8, I) := so 8 (by decide) I
theorem so9 (I : HI) : f_X1_settingOf (9 : Int32) I = some (I 2 9, I) := so 9 (by decide) I
theorem at_in (a k : Nat) (ha : isI a = true) (h : k < ln a) (I : HI) : f_X5_at a (nI k) I = some (I a k, I) := by
  have h9 := ln_lt a
  unfold f_X5_at
  rw [if_pos ha, if_neg (nI_pos (by omega)), show Int32.ofNat (ln a) = nI (ln a) from rfl, if_neg (nI_ge h (by omega)), if_neg (ib h (by omega)), nc (by omega)]
theorem wr_in (a k : Nat) (ha : isD a = true) (h : k < ln a) (v : Int32) (I : HI) : f_X5_writeAt a (nI k) v I = some (0, upI I a k v) := by
  have h9 := ln_lt a
  unfold f_X5_writeAt
  rw [if_pos ha, if_neg (nI_pos (by omega)), show Int32.ofNat (ln a) = nI (ln a) from rfl, if_neg (nI_ge h (by omega)), if_neg (ib h (by omega)), nc (by omega)]
theorem has_eq (v : Int32) (I : HI) : f_X3_has v I = some (if 0 ≤ v ∧ v < I 4 1 then 1 else 0, I) := by
  unfold f_X3_has
  have e1 : (0 ≤ v) ↔ ¬ v < 0 := Int32.not_lt.symm
  have e2 : (v < I 4 1) ↔ ¬ I 4 1 ≤ v := Int32.not_le.symm
  simp only [e1, e2]
  by_cases h1 : v < 0
  · rw [if_pos h1, if_neg (by simp [h1])]
  · rw [if_neg h1]
    by_cases h2 : I 4 1 ≤ v
    · rw [if_pos h2, if_neg (by simp [h2])]
    · rw [if_neg h2, if_pos ⟨h1, h2⟩]
theorem has_in {I : HI} {n j : Nat} (hG : I 4 1 = nI n) (hn : n < 2 ^ 31) (hj : j < n) : f_X3_has (nI j) I = some (1, I) := by
  rw [has_eq, hG, if_pos ⟨nI_pos' (by omega), nI_lt hj (by omega)⟩]
theorem has_out {I : HI} {v : Int32} (h : ¬ (0 ≤ v ∧ v < I 4 1)) : f_X3_has v I = some (0, I) := by
  rw [has_eq, if_neg h]
theorem no_in {j k : Nat} (h : 4 * j + k < 24) (I : HI) : f_X3_numberOf (nI j) (nI k) I = some (I 5 (4 * j + k), I) := by
  unfold f_X3_numberOf
  rw [l4, pk_mul, nI_add, at_in 5 (j * 4 + k) rfl (by show _ < 24; omega), bs, Nat.mul_comm j 4]
theorem sa_in {k : Nat} (h : k < 400) (I : HI) : f_X1_sampleAt (nI k) I = some (I 3 k, I) := by
  unfold f_X1_sampleAt
  rw [at_in 3 k rfl h, bs]
/-- removeAt -/
def nCut (N : Row) (n j : Nat) : Row := fun k => if 4 * j ≤ k ∧ k < 4 * (n - 1) then N (k + 4) else N k
theorem rm_loop {F T P G : Row} {J : HI} {n : Nat} (hG : G 1 = nI (n - 1)) (hn : n ≤ 6) : ∀ (d f k : Nat) (N : Row), 4 * (n - 1) - k = d → k ≤ 4 * (n - 1) → d < f → f_X3_removeAt_L22 f (nI k) (sM J F T P G N) = some (0, sM J F T P G (fun i => if k ≤ i ∧ i < 4 * (n - 1) then N (i + 4) else N i)) := by
  intro d
  induction d with
  | zero =>
    intro f k N hd hk hf
    obtain ⟨f, rfl⟩ : ∃ f', f = f' + 1 := ⟨f - 1, by omega⟩
    show f_X3_removeAt_L22_b _ _ _ = _
    unfold f_X3_removeAt_L22_b
    rw [sM_4, hG, l4, pk_mul, if_pos (nI_le (by omega) (by omega))]
    congr 3
    funext i
    rw [if_neg (by omega)]
  | succ d ih =>
    intro f k N hd hk hf
    obtain ⟨f, rfl⟩ : ∃ f', f = f' + 1 := ⟨f - 1, by omega⟩
    show f_X3_removeAt_L22_b _ _ _ = _
    unfold f_X3_removeAt_L22_b
    rw [sM_4, hG, l4, pk_mul, if_neg (nI_ge (by omega) (by omega)), nI_add, at_in 5 (k + 4) rfl (by show _ < 24; omega), bs, wr_in 5 k rfl (by show _ < 24; omega), bs, sM_5, sM_u5, nI_1, ih f (k + 1) _ (by omega) (by omega) (by omega)]
    congr 3
    funext i
    by_cases h1 : k ≤ i ∧ i < 4 * (n - 1)
    · rw [if_pos h1]
      by_cases h2 : i = k
      · subst h2
        rw [if_neg (by omega), upd, if_pos rfl]
      · rw [if_pos (by omega), upd, if_neg (by omega)]
    · rw [if_neg h1, if_neg (by omega), upd, if_neg (by omega)]
theorem rm_eq {F T P G N : Row} {J : HI} {n j : Nat} (hG : G 1 = nI n) (hn : n ≤ 6) (hj : j < n) : f_X3_removeAt (nI j) (sM J F T P G N) = some (0, sM J F T P (upd G 1 (nI (n - 1))) (nCut N n j)) := by
  unfold f_X3_removeAt
  rw [has_in (n := n) hG (by omega) hj, bs, if_neg n10]
  simp only [sM_4, hG, sM_u4]
  rw [l4, pk_mul, l1, pk_sub (by omega), rm_loop (n := n) (by simp [upd]) hn (4 * (n - 1) - j * 4) 4000 (j * 4) N rfl (by omega) (by omega), Nat.mul_comm j 4]
  rfl
/-- keepLatest: the first ones go -/
def nCuts (N : Row) (n : Nat) : Nat → Row
  | 0 => N
  | d + 1 => nCuts (nCut N n 0) (n - 1) d
theorem kl_loop {F T P : Row} {J : HI} {w : Int32} {K : Nat} (hw : ∀ n : Nat, n ≤ 6 → (nI n ≤ w ↔ n ≤ K)) : ∀ (d f i n : Nat) (G N : Row), G 1 = nI n → n ≤ 6 → n - K = d → i + n ≤ 6 → d < f → f_X3_keepLatest_L2 w f (nI i) (sM J F T P G N) = some (0, sM J F T P (if n ≤ K then G else upd G 1 (nI K)) (nCuts N n d)) := by
  intro d
  induction d with
  | zero =>
    intro f i n G N hG hn hd hi hf
    obtain ⟨f, rfl⟩ : ∃ f', f = f' + 1 := ⟨f - 1, by omega⟩
    show f_X3_keepLatest_L2_b _ _ _ _ = _
    unfold f_X3_keepLatest_L2_b
    rw [sM_4, hG, if_pos ((hw n hn).mpr (by omega)), if_pos (show n ≤ K by omega)]
    split <;> rfl
  | succ d ih =>
    intro f i n G N hG hn hd hi hf
    obtain ⟨f, rfl⟩ : ∃ f', f = f' + 1 := ⟨f - 1, by omega⟩
    show f_X3_keepLatest_L2_b _ _ _ _ = _
    unfold f_X3_keepLatest_L2_b
    rw [sM_4, hG, l6, if_neg (nI_ge (by omega) (by omega)), if_neg (fun h => by have := (hw n hn).mp h; omega), l0, rm_eq hG hn (by omega), bs, l1, nI_add, ih f (i + 1) (n - 1) _ _ (by simp [upd]) (by omega) (by omega) (by omega) (by omega)]
    rw [if_neg (show ¬ n ≤ K by omega)]
    congr 3
    split
    · rw [show n - 1 = K by omega]
    · funext q
      by_cases hq : q = 1
      · simp [upd, hq]
      · simp [upd, hq]
theorem kl_eq {F T P G N : Row} {J : HI} {w : Int32} {K n : Nat} (hw : ∀ n : Nat, n ≤ 6 → (nI n ≤ w ↔ n ≤ K)) (hG : G 1 = nI n) (hn : n ≤ 6) : f_X3_keepLatest w (sM J F T P G N) = some (0, sM J F T P (if n ≤ K then G else upd G 1 (nI K)) (nCuts N n (n - K))) := by
  unfold f_X3_keepLatest
  exact kl_loop hw (n - K) 4000 0 n G N hG hn rfl (by omega) (by omega)
theorem ap_eq {F T P G N : Row} {J : HI} {n : Nat} (hG : G 1 = nI n) (hn : n < 6) (x0 x1 x2 x3 : Int32) : f_X3_append x0 x1 x2 x3 (sM J F T P G N) = some (0, sM J F T P (upd G 1 (nI (n + 1))) (upd (upd (upd (upd N (4 * n) x0) (4 * n + 1) x1) (4 * n + 2) x2) (4 * n + 3) x3)) := by
  unfold f_X3_append
  rw [sM_4, hG, l6, if_neg (nI_ge hn (by omega))]
  simp only [l4, pk_mul, l0, l1, l2, l3, nI_add]
  rw [wr_in 5 _ rfl (by show _ < 24; omega), bs, wr_in 5 _ rfl (by show _ < 24; omega), bs, wr_in 5 _ rfl (by show _ < 24; omega), bs, wr_in 5 _ rfl (by show _ < 24; omega), bs]
  simp only [sM_u5, sM_4, sM_u4, hG, nI_add, Nat.mul_comm n 4, Nat.add_zero]
theorem upd_self {a : Row} {k : Nat} {v : Int32} (h : a k = v) : upd a k v = a := by
  funext j
  by_cases hj : j = k
  · subst hj; simp [upd, h]
  · simp [upd, hj]
theorem upd_s {a : Row} {k : Nat} {v : Int32} : upd a k v k = v := if_pos rfl
theorem upd_n {a : Row} {k j : Nat} {v : Int32} (h : j ≠ k) : upd a k v j = a j := if_neg h
def rCut (a : Row) (n j : Nat) : Row := fun k => if k = 22 then nI (n - 1) else if 23 + 4 * j ≤ k ∧ k < 23 + 4 * (n - 1) then a (k + 4) else a k
def rCuts (a : Row) (n : Nat) : Nat → Row
  | 0 => a
  | d + 1 => rCuts (rCut a n 0) (n - 1) d
theorem rCuts_22 : ∀ (d n : Nat) (a : Row), a 22 = nI n → d ≤ n → rCuts a n d 22 = nI (n - d) := by
  intro d
  induction d with
  | zero => intro n a ha _; exact ha
  | succ d ih =>
    intro n a ha hd
    rw [rCuts, ih (n - 1) _ (by simp [rCut]) (by omega), show n - 1 - d = n - (d + 1) by omega]
theorem rCuts_lo : ∀ (d n : Nat) (a : Row) (k : Nat), k < 22 ∨ 47 ≤ k → n ≤ 6 → rCuts a n d k = a k := by
  intro d
  induction d with
  | zero => intro n a k _ _; rfl
  | succ d ih =>
    intro n a k hk hn
    rw [rCuts, ih (n - 1) _ k hk (by omega), rCut, if_neg (by omega), if_neg (by omega)]
/-- the detector -/
def dN (k hy hi v was lv : Int32) : Int32 := if k = 0 then (if was = 1 ∧ lv ≤ v then 0 else if v < lv - hy then 1 else was) else if k = 1 then (if was = 1 ∧ v ≤ lv then 0 else if lv + hy < v then 1 else was) else (if v < lv then 1 else if hi ≤ v then 0 else if was = 0 then 0 else 2)
def dF (k v was lv : Int32) : Prop := if k = 0 then was = 1 ∧ lv ≤ v else if k = 1 then was = 1 ∧ v ≤ lv else v < lv ∧ was = 2
def lvl (k level low : Int32) : Int32 := if k = 0 ∨ k = 1 then level else low
noncomputable def sel (p : Prop) (x y : Int32) : Int32 := by
  classical
  exact if p then x else y
theorem sel_t {p : Prop} {x y : Int32} (h : p) : sel p x y = x := by unfold sel; exact if_pos h
theorem sel_f {p : Prop} {x y : Int32} (h : ¬ p) : sel p x y = y := by unfold sel; exact if_neg h
theorem rCuts_seg : ∀ (d n : Nat) (a : Row) (k : Nat), d ≤ n → k < 4 * (n - d) → rCuts a n d (23 + k) = a (23 + k + 4 * d) := by
  intro d
  induction d with
  | zero => intro n a k _ _; rfl
  | succ d ih =>
    intro n a k hd hk
    rw [rCuts, ih (n - 1) _ k (by omega) (by omega), rCut, if_neg (by omega), if_pos (by omega)]
    congr 1
theorem nCuts_seg : ∀ (d n : Nat) (N : Row) (k : Nat), d ≤ n → k < 4 * (n - d) → nCuts N n d k = N (k + 4 * d) := by
  intro d
  induction d with
  | zero => intro n a k _ _; rfl
  | succ d ih =>
    intro n a k hd hk
    rw [nCuts, ih (n - 1) _ k (by omega) (by omega), nCut, if_pos (by omega)]
    congr 1
def rFi (a : Row) (v : Int32) : Prop := dF (a 0) v (a 11) (lvl (a 0) (a 1) (a 3))
def rLg (a : Row) : Prop := a 6 ≤ a 16 ∧ a 7 ≤ a 16
def rRm (a : Row) : Prop := a 22 < a 8 ∨ a 9 = 1
def rBg (a : Row) (v : Int32) : Prop := rFi a v ∧ a 17 = 0 ∧ rLg a ∧ rRm a
def rDn (a : Row) (v : Int32) : Int32 := dN (a 0) (a 2) (a 4) v (a 11) (lvl (a 0) (a 1) (a 3))
noncomputable def rMid (a : Row) (v : Int32) : Row := fun k => if k = 11 then rDn a v else if k = 12 then a 12 + sel (rFi a v) 1 0 else if k = 13 then a 13 + sel (rBg a v) 1 0 else if k = 14 then a 14 + sel (rFi a v ∧ ¬ rBg a v) 1 0 else if k = 17 then sel (rBg a v) 1 (a 17) else if k = 18 then sel (rBg a v) (a 10) (a 18) else if k = 19 then sel (rBg a v) (a 5) (a 19) else if k = 20 then sel (rBg a v) (a 6) (a 20) else if k = 21 then sel (rBg a v) (a 0) (a 21) else a k
/-- the sample itself -/
def rPut (b : Row) (v : Int32) (S : Nat) : Row := fun k => if k = 10 then nI (S + 1) else if k = 16 then b 16 + 1 else if k = 47 + S then v else b k
def rLk (b : Row) : Int32 := b 18 - b 20 + b 19 - b 10
def rCmp (b : Row) (n K : Nat) : Row := fun k => if k = 22 then nI (n - (n - (K - 1)) + 1) else if k = 17 then 0 else if k = 16 then 0 else if k = 15 then b 15 + 1 else if 23 + 4 * (n - (n - (K - 1))) ≤ k ∧ k < 23 + 4 * (n - (n - (K - 1))) + 4 then b (18 + (k - (23 + 4 * (n - (n - (K - 1)))))) else rCuts b n (n - (K - 1)) k
/-- all of a sample -/
noncomputable def rPre (a : Row) (v : Int32) (S : Nat) : Row := rPut (rMid a v) v S
noncomputable def rDone (b : Row) : Prop := b 17 = 1 ∧ rLk b = 0
noncomputable def rCome (a : Row) (v : Int32) (S n K : Nat) : Row := by
  classical
  exact if rDone (rPre a v S) then rCmp (rPre a v S) n K else rPre a v S
theorem rCome_t {a : Row} {v : Int32} {S n K : Nat} (h : rDone (rPre a v S)) : rCome a v S n K = rCmp (rPre a v S) n K := by unfold rCome; exact if_pos h
theorem rCome_f {a : Row} {v : Int32} {S n K : Nat} (h : ¬ rDone (rPre a v S)) : rCome a v S n K = rPre a v S := by unfold rCome; exact if_neg h
theorem rPre_k {a : Row} {v : Int32} {S k : Nat} (h : k < 10 ∨ k = 15 ∨ k = 22) : rPre a v S k = a k := by
  unfold rPre rPut rMid
  rw [if_neg (by omega), if_neg (by omega), if_neg (by omega), if_neg (by omega), if_neg (by omega), if_neg (by omega), if_neg (by omega), if_neg (by omega), if_neg (by omega), if_neg (by omega), if_neg (by omega), if_neg (by omega)]
