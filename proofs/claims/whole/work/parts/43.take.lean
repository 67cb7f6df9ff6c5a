/-! ===== pure: the class takes a sample ===== -/
theorem cd_eq {I : HI} {v was lv : Int32} (hw : was = 0 ∨ was = 1 ∨ was = 2) : f_X1_detectorAfter v was lv I = some (dN (I 2 0) (I 2 2) (I 2 4) v was lv + sel (dF (I 2 0) v was lv) 4 0, I) := by
  unfold f_X1_detectorAfter
  rw [so0, bs]
  have eJ : f_X1_detectorAfter_J44 v was lv I = some (if v < lv - I 2 2 then 1 else was, I) := by
    unfold f_X1_detectorAfter_J44
    rw [so2, bs]
    have e3 : (lv - I 2 2 ≤ v) ↔ ¬ v < lv - I 2 2 := Int32.not_lt.symm
    by_cases h : v < lv - I 2 2
    · rw [if_neg (by rw [e3]; simp [h]), if_pos h]
    · rw [if_pos (e3.mpr h), if_neg h]
  have eK : f_X1_detectorAfter_J73 v was lv I = some (if lv + I 2 2 < v then 1 else was, I) := by
    unfold f_X1_detectorAfter_J73
    rw [so2, bs]
    have e3 : (v ≤ lv + I 2 2) ↔ ¬ lv + I 2 2 < v := Int32.not_lt.symm
    by_cases h : lv + I 2 2 < v
    · rw [if_neg (by rw [e3]; simp [h]), if_pos h]
    · rw [if_pos (e3.mpr h), if_neg h]
  dsimp only
  by_cases k0 : I 2 0 = 0
  · rw [if_pos k0, eJ]
    by_cases h1 : was = 1
    · rw [if_pos h1]
      by_cases h2 : v < lv
      · have h3 : ¬ lv ≤ v := Int32.not_le.mpr h2
        rw [if_pos h2, sel_f (by simp [dF, k0, h3])]
        simp [dN, k0, h3]
      · have h3 : lv ≤ v := Int32.not_lt.mp h2
        rw [if_neg h2, sel_t (by simp [dF, k0, h3, h1])]
        simp [dN, k0, h3, h1]
    · rw [if_neg h1, sel_f (by simp [dF, k0, h1])]
      simp [dN, k0, h1]
  · rw [if_neg k0]
    by_cases k1 : I 2 0 = 1
    · rw [if_pos k1, eK]
      by_cases h1 : was = 1
      · rw [if_pos h1]
        by_cases h2 : lv < v
        · have h3 : ¬ v ≤ lv := Int32.not_le.mpr h2
          rw [if_pos h2, sel_f (by simp [dF, k1, h3])]
          simp [dN, k1, h3]
        · have h3 : v ≤ lv := Int32.not_lt.mp h2
          rw [if_neg h2, sel_t (by simp [dF, k1, h3, h1])]
          simp [dN, k1, h3, h1]
      · rw [if_neg h1, sel_f (by simp [dF, k1, h1])]
        simp [dN, k1, h1]
    · rw [if_neg k1]
      by_cases h1 : lv ≤ v
      · have h2 : ¬ v < lv := Int32.not_lt.mpr h1
        rw [if_pos h1, so4, bs, sel_f (by simp [dF, k0, k1, h2])]
        dsimp only
        have e3 : (v < I 2 4) ↔ ¬ I 2 4 ≤ v := Int32.not_le.symm
        by_cases h3 : I 2 4 ≤ v
        · rw [if_neg (by rw [e3]; simp [h3])]
          simp [dN, k0, k1, h2, h3]
        · rw [if_pos (e3.mpr h3)]
          rcases hw with rfl | rfl | rfl
          · simp [dN, k0, k1, h2, h3]
          · simp [dN, k0, k1, h2, h3]
          · simp [dN, k0, k1, h2, h3]
      · have h2 : v < lv := Int32.not_le.mp h1
        rw [if_neg h1]
        by_cases h5 : was = 2
        · rw [if_pos h5, sel_t (by simp [dF, k0, k1, h2, h5])]
          simp [dN, k0, k1, h2]
        · rw [if_neg h5, sel_f (by simp [dF, k0, k1, h5])]
          simp [dN, k0, k1, h2]
theorem dN_in {k hy hi v was lv : Int32} (hw : was = 0 ∨ was = 1 ∨ was = 2) : dN k hy hi v was lv = 0 ∨ dN k hy hi v was lv = 1 ∨ dN k hy hi v was lv = 2 := by
  unfold dN
  split
  · split
    · simp
    · split
      · simp
      · exact hw
  · split
    · split
      · simp
      · split
        · simp
        · exact hw
    · split
      · simp
      · split
        · simp
        · split <;> simp
theorem mk_eq {x : Int32} (h : x = 0 ∨ x = 1 ∨ x = 2) : (x + 4) &&& (-5) = x ∧ ¬ (x + 4) &&& 4 = 0 ∧ (x + 0) &&& (-5) = x ∧ (x + 0) &&& 4 = 0 := by
  rcases h with rfl | rfl | rfl <;> decide
/-- the kind's level -/
theorem de_eq {F T P G N : Row} {J : HI} {v : Int32} (hk : T 0 = 0 ∨ T 0 = 1 ∨ T 0 = 2) (hw : F 4 = 0 ∨ F 4 = 1 ∨ F 4 = 2) : f_X1_detect v (sM J F T P G N) = some (sel (dF (T 0) v (F 4) (lvl (T 0) (T 1) (T 3))) 1 0, sM J (upd (upd F 4 (dN (T 0) (T 2) (T 4) v (F 4) (lvl (T 0) (T 1) (T 3)))) 5 (F 5 + sel (dF (T 0) v (F 4) (lvl (T 0) (T 1) (T 3))) 1 0)) T P G N) := by
  have key : ∀ w0 lv : Int32, f_X1_settingOf w0 (sM J F T P G N) = some (lv, sM J F T P G N) → f_X1_detect_J15 v w0 (sM J F T P G N) = some (sel (dF (T 0) v (F 4) lv) 1 0, sM J (upd (upd F 4 (dN (T 0) (T 2) (T 4) v (F 4) lv)) 5 (F 5 + sel (dF (T 0) v (F 4) lv) 1 0)) T P G N) := by
    intro w0 lv h0
    unfold f_X1_detect_J15
    rw [h0, bs]
    dsimp only
    rw [sM_1, cd_eq hw, bs]
    dsimp only
    rw [sM_2]
    obtain ⟨m1, m2, m3, m4⟩ := mk_eq (dN_in (k := T 0) (hy := T 2) (hi := T 4) (v := v) (lv := lv) hw)
    by_cases hF : dF (T 0) v (F 4) lv
    · rw [sel_t hF, sel_t hF, if_neg m2, m1]
      simp only [sM_u1, sM_1]
      simp [upd]
    · rw [sel_f hF, sel_f hF, if_pos m4, m3]
      simp only [sM_u1]
      rw [upd_self (k := 5) (by simp [upd])]
  unfold f_X1_detect
  rw [so0, bs]
  dsimp only
  rw [sM_2]
  rcases hk with h | h | h
  · rw [if_neg (by rw [h]; decide), key 1 (T 1) (so1 _)]
    simp [lvl, h]
  · rw [if_neg (by rw [h]; decide), key 1 (T 1) (so1 _)]
    simp [lvl, h]
  · rw [if_pos h, key 3 (T 3) (so3 _)]
    simp [lvl, h]
theorem ph_eq {F T P G N : Row} {J : HI} (h9 : T 9 = 0 ∨ T 9 = 1) : f_X1_phase (sM J F T P G N) = some (if F 14 ≤ 0 then (if G 1 < T 8 ∨ T 9 = 1 then (if T 6 ≤ F 9 ∧ T 7 ≤ F 9 then 1 else 0) else 2) else 3, sM J F T P G N) := by
  have eJ : f_X1_phase_J36 (sM J F T P G N) = some (if T 6 ≤ F 9 ∧ T 7 ≤ F 9 then 1 else 0, sM J F T P G N) := by
    unfold f_X1_phase_J36
    rw [so6, bs]
    simp only [sM_1, sM_2]
    have e1 : (T 6 ≤ F 9) ↔ ¬ F 9 < T 6 := Int32.not_lt.symm
    by_cases h1 : F 9 < T 6
    · rw [if_pos h1, if_neg (by simp [e1, h1])]
    · rw [if_neg h1, so7, bs]
      dsimp only
      rw [sM_2]
      by_cases h2 : T 7 ≤ F 9
      · rw [if_pos h2, if_pos ⟨e1.mpr h1, h2⟩]
      · rw [if_neg h2, if_neg (fun q => h2 q.2)]
  unfold f_X1_phase
  rw [sM_1]
  by_cases h1 : F 14 ≤ 0
  · rw [if_pos h1, if_pos h1, so8, bs]
    dsimp only
    rw [sM_4, sM_2, eJ]
    by_cases h2 : G 1 < T 8
    · rw [if_pos h2, if_pos (Or.inl h2)]
    · rw [if_neg h2, so9, bs]
      dsimp only
      rw [sM_2, eJ]
      rcases h9 with h | h
      · rw [if_pos h, if_neg (by rw [h]; simp [h2])]
      · rw [if_neg (by rw [h]; decide), if_pos (Or.inr h)]
  · rw [if_neg h1, if_neg h1]
theorem bg_eq {F T P G N : Row} {J : HI} : f_X1_beginSegment (sM J F T P G N) = some (0, sM J (upd (upd (upd (upd (upd (upd F 6 (F 6 + 1)) 10 (F 3)) 11 (T 5)) 12 (T 6)) 13 (T 0)) 14 (T 5 - T 6 - 1)) T P G N) := by
  unfold f_X1_beginSegment
  simp only [sM_1, sM_u1, so5, so6, so0, bs, sM_2]
  congr 2
/-! ===== pure: what holds of a row, and of the class's rows beside it ===== -/
def Sg (a : Row) (i S : Nat) : Prop := ∃ t d p : Nat, a i = nI t ∧ a (i + 1) = nI d ∧ a (i + 2) = nI p ∧ p < d ∧ d ≤ 32 ∧ p ≤ t ∧ t + d ≤ S + p
def Cg (a : Row) (S : Nat) : Prop := ∃ t d p : Nat, a 18 = nI t ∧ a 19 = nI d ∧ a 20 = nI p ∧ p < d ∧ d ≤ 32 ∧ p ≤ t ∧ t < S ∧ S + p < t + d
def LV (a : Row) : Prop := (-100 ≤ a 3 ∧ a 3 < a 4 ∧ a 4 ≤ 100) ∧ ∀ k, k < 10 → -100 ≤ a k ∧ a k ≤ 100
theorem LV_c {a b : Row} (h : ∀ k, k < 10 → b k = a k) (q : LV a) : LV b := by
  refine ⟨by rw [h 3 (by decide), h 4 (by decide)]; exact q.1, fun k hk => by rw [h k hk]; exact q.2 k hk⟩
def RX (a : Row) (S n Z K D P : Nat) : Prop :=
  (a 10 = nI S ∧ S ≤ 400 ∧ a 22 = nI n ∧ n ≤ K ∧ a 8 = nI K ∧ 1 ≤ K ∧ K ≤ 6 ∧ a 16 = nI Z ∧ Z ≤ S ∧ a 5 = nI D ∧ a 6 = nI P ∧ P < D ∧ D ≤ 32) ∧
  ((a 0 = 0 ∨ a 0 = 1 ∨ a 0 = 2) ∧ (a 11 = 0 ∨ a 11 = 1 ∨ a 11 = 2) ∧ (a 9 = 0 ∨ a 9 = 1) ∧ (a 17 = 0 ∨ a 17 = 1)) ∧
  (∀ j, j < n → Sg a (23 + 4 * j) S) ∧ (a 17 = 1 → Cg a S) ∧ (∀ k, k < S → -100 ≤ a (47 + k) ∧ a (47 + k) ≤ 100) ∧
  LV a
def MR (F T P G N : Row) (a : Row) (S n : Nat) : Prop :=
  (∀ k, k < 10 → T k = a k) ∧ (∀ k, k < 7 → F (3 + k) = a (10 + k)) ∧ G 1 = a 22 ∧ (∀ k, k < 4 * n → N k = a (23 + k)) ∧ (∀ k, k < S → P k = a (47 + k)) ∧
  (a 17 = 1 → (∀ k, k < 4 → F (10 + k) = a (18 + k)) ∧ F 14 = rLk a) ∧ (a 17 = 0 → F 14 = 0)
noncomputable def fPre (F T : Row) (a : Row) (v : Int32) (S : Nat) : Row := fun k => if k = 3 then nI (S + 1) else if k = 4 then rDn a v else if k = 5 then F 5 + sel (rFi a v) 1 0 else if k = 6 then F 6 + sel (rBg a v) 1 0 else if k = 7 then F 7 + sel (rFi a v ∧ ¬ rBg a v) 1 0 else if k = 9 then F 9 + 1 else if k = 10 then sel (rBg a v) (F 3) (F 10) else if k = 11 then sel (rBg a v) (T 5) (F 11) else if k = 12 then sel (rBg a v) (T 6) (F 12) else if k = 13 then sel (rBg a v) (T 0) (F 13) else if k = 14 then sel (rBg a v) (T 5 - T 6 - 1) (if a 17 = 1 then F 14 - 1 else F 14) else F k
theorem lk_n {a : Row} {S t d p : Nat} (h18 : a 18 = nI t) (h19 : a 19 = nI d) (h20 : a 20 = nI p) (h10 : a 10 = nI S) (hp : p ≤ t) (hS : S + p ≤ t + d) : rLk a = nI (t + d - p - S) := by
  unfold rLk
  rw [h18, h19, h20, h10, pk_sub hp, nI_add, pk_sub (by omega), show t - p + d - S = t + d - p - S by omega]
theorem j83 {F T P G N : Row} {J : HI} {S : Nat} {v c g : Int32} (h3 : F 3 = nI S) (hS : S < 400) : f_X1_takeSample_J83 v c g (sM J F T P G N) = some (if (c = 0 ∧ g = 0) then 0 else if F 14 = 0 then 1 else 0, sM J (upd (upd F 3 (nI (S + 1))) 9 (F 9 + 1)) T (upd P S v) G N) := by
  have eZ : ∀ X : Row, X 14 = F 14 → f_X1_takeSample_J124 (sM J X T (upd P S v) G N) = some (if F 14 = 0 then 1 else 0, sM J X T (upd P S v) G N) := by
    intro X hX
    unfold f_X1_takeSample_J124
    simp only [sM_1, hX]
    split <;> rfl
  unfold f_X1_takeSample_J83
  simp only [sM_1, h3]
  rw [wr_in 3 S rfl hS, bs]
  simp only [sM_u3, sM_1, sM_u1, h3]
  rw [show nI S + 1 = nI (S + 1) from nI_1 S, show upd F 3 (nI (S + 1)) 9 = F 9 by simp [upd]]
  by_cases h1 : c = 0
  · by_cases h2 : g = 0
    · rw [if_pos h1, if_pos h2, if_pos ⟨h1, h2⟩]
    · rw [if_pos h1, if_neg h2, if_neg (fun q => h2 q.2), eZ _ (by simp [upd])]
  · rw [if_neg h1, if_neg (fun q => h1 q.1), eZ _ (by simp [upd])]
theorem sub_sub1 (x y : Int32) : x - (y + 1) = x - y - 1 := by
  rw [Int32.sub_eq_add_neg, Int32.sub_eq_add_neg, Int32.sub_eq_add_neg, Int32.neg_add, Int32.sub_eq_add_neg, Int32.add_assoc]
theorem fun_fPre {F T : Row} {a : Row} {v : Int32} {S : Nat} {X : Row} (h : ∀ k, X k = fPre F T a v S k) : X = fPre F T a v S := funext h
