/-! ===== pure: numbers that stay small, and their opposites ===== -/
theorem b100 {x : Int32} (h : -100 ≤ x ∧ x ≤ 100) : -100 ≤ x.toInt ∧ x.toInt ≤ 100 := by
  have h1 : -100 ≤ x.toInt := Int32.le_iff_toInt_le.mp h.1
  have h2 : x.toInt ≤ 100 := Int32.le_iff_toInt_le.mp h.2
  exact ⟨h1, h2⟩
theorem b100' {x : Int32} (h : -100 ≤ x.toInt ∧ x.toInt ≤ 100) : -100 ≤ x ∧ x ≤ 100 := by
  refine ⟨Int32.le_iff_toInt_le.mpr ?_, Int32.le_iff_toInt_le.mpr ?_⟩
  · exact h.1
  · exact h.2
theorem tI_neg {x : Int32} (h : -100000 ≤ x.toInt ∧ x.toInt ≤ 100000) : (-x).toInt = -x.toInt := by
  rw [Int32.toInt_neg, Int.bmod_eq_of_le (by omega) (by omega)]
theorem tI_sub {x y : Int32} (hx : -100000 ≤ x.toInt ∧ x.toInt ≤ 100000) (hy : -100000 ≤ y.toInt ∧ y.toInt ≤ 100000) : (x - y).toInt = x.toInt - y.toInt := by
  rw [Int32.toInt_sub, Int.bmod_eq_of_le (by omega) (by omega)]
theorem tI_add {x y : Int32} (hx : -100000 ≤ x.toInt ∧ x.toInt ≤ 100000) (hy : -100000 ≤ y.toInt ∧ y.toInt ≤ 100000) : (x + y).toInt = x.toInt + y.toInt := by
  rw [Int32.toInt_add, Int.bmod_eq_of_le (by omega) (by omega)]
theorem ng {x : Int32} (h : -100 ≤ x ∧ x ≤ 100) : -100 ≤ -x ∧ -x ≤ 100 := by
  have := b100 h
  refine b100' ?_
  rw [tI_neg (by omega)]
  omega
theorem ng_le {x y : Int32} (hx : -100 ≤ x ∧ x ≤ 100) (hy : -100 ≤ y ∧ y ≤ 100) : (-x ≤ -y) ↔ y ≤ x := by
  have h1 := b100 hx
  have h2 := b100 hy
  rw [Int32.le_iff_toInt_le, Int32.le_iff_toInt_le, tI_neg (by omega), tI_neg (by omega)]
  omega
theorem ng_lt {x y : Int32} (hx : -100 ≤ x ∧ x ≤ 100) (hy : -100 ≤ y ∧ y ≤ 100) : (-x < -y) ↔ y < x := by
  have h1 := b100 hx
  have h2 := b100 hy
  rw [Int32.lt_iff_toInt_lt, Int32.lt_iff_toInt_lt, tI_neg (by omega), tI_neg (by omega)]
  omega
theorem ng_hy {v lv hy : Int32} (hv : -100 ≤ v ∧ v ≤ 100) (hl : -100 ≤ lv ∧ lv ≤ 100) (hh : -100 ≤ hy ∧ hy ≤ 100) : (-lv + hy < -v) ↔ v < lv - hy := by
  have h1 := b100 hv
  have h2 := b100 hl
  have h3 := b100 hh
  have e1 : (-lv).toInt = -lv.toInt := tI_neg (by omega)
  rw [Int32.lt_iff_toInt_lt, Int32.lt_iff_toInt_lt, tI_neg (x := v) (by omega), tI_add (by omega) (by omega), tI_sub (by omega) (by omega), e1]
  omega
theorem ng_hy' {v lv hy : Int32} (hv : -100 ≤ v ∧ v ≤ 100) (hl : -100 ≤ lv ∧ lv ≤ 100) (hh : -100 ≤ hy ∧ hy ≤ 100) : (-v < -lv - hy) ↔ lv + hy < v := by
  have h1 := b100 hv
  have h2 := b100 hl
  have h3 := b100 hh
  have e1 : (-lv).toInt = -lv.toInt := tI_neg (by omega)
  rw [Int32.lt_iff_toInt_lt, Int32.lt_iff_toInt_lt, tI_neg (x := v) (by omega), tI_add (by omega) (by omega), tI_sub (by omega) (by omega), e1]
  omega
/-! ===== pure: the detector in the mirror ===== -/
theorem dF_m {k v was lv : Int32} (hk : k = 0 ∨ k = 1) (hv : -100 ≤ v ∧ v ≤ 100) (hl : -100 ≤ lv ∧ lv ≤ 100) : dF (1 - k) (-v) was (-lv) = dF k v was lv := by
  rcases hk with rfl | rfl
  · unfold dF
    rw [if_neg (by decide), if_pos (by decide), if_pos rfl]
    exact propext ⟨fun h => ⟨h.1, (ng_le hv hl).mp h.2⟩, fun h => ⟨h.1, (ng_le hv hl).mpr h.2⟩⟩
  · unfold dF
    rw [if_pos (by decide), if_neg (by decide), if_pos rfl]
    exact propext ⟨fun h => ⟨h.1, (ng_le hl hv).mp h.2⟩, fun h => ⟨h.1, (ng_le hl hv).mpr h.2⟩⟩
theorem dN_m {k hy hi v was lv : Int32} (hk : k = 0 ∨ k = 1) (hv : -100 ≤ v ∧ v ≤ 100) (hl : -100 ≤ lv ∧ lv ≤ 100) (hh : -100 ≤ hy ∧ hy ≤ 100) : dN (1 - k) hy hi (-v) was (-lv) = dN k hy hi v was lv := by
  rcases hk with rfl | rfl
  · have e1 : (-v ≤ -lv) = (lv ≤ v) := propext (ng_le hv hl)
    have e2 : (-lv + hy < -v) = (v < lv - hy) := propext (ng_hy hv hl hh)
    unfold dN
    rw [if_neg (by decide), if_pos (by decide), if_pos rfl]
    simp only [e1, e2]
  · have e1 : (-lv ≤ -v) = (v ≤ lv) := propext (ng_le hl hv)
    have e2 : (-v < -lv - hy) = (lv + hy < v) := propext (ng_hy' hv hl hh)
    unfold dN
    rw [if_pos (show (1 : Int32) - 1 = 0 by decide), if_neg (show ¬ (1 : Int32) = 0 by decide), if_pos rfl]
    simp only [e1, e2]
theorem lvl_k {k x y : Int32} (hk : k = 0 ∨ k = 1) : lvl k x y = x := by
  unfold lvl
  rw [if_pos hk]
theorem k1 {k : Int32} (hk : k = 0 ∨ k = 1) : 1 - k = 0 ∨ 1 - k = 1 := by
  rcases hk with rfl | rfl
  · exact Or.inr (by decide)
  · exact Or.inl (by decide)
/-! ===== pure: the row in the mirror ===== -/
def mir (a : Row) : Row := fun k => if k = 0 ∨ k = 21 ∨ (23 ≤ k ∧ k < 47 ∧ (k - 23) % 4 = 3) then 1 - a k else if k = 1 ∨ 47 ≤ k then -(a k) else a k
theorem mir_c {a : Row} {k : Nat} (h : k = 0 ∨ k = 21 ∨ (23 ≤ k ∧ k < 47 ∧ (k - 23) % 4 = 3)) : mir a k = 1 - a k := if_pos h
theorem mir_g {a : Row} {k : Nat} (h : k = 1 ∨ 47 ≤ k) : mir a k = -(a k) := by
  unfold mir
  rw [if_neg (by omega), if_pos h]
theorem mir_o {a : Row} {k : Nat} (h : k ≠ 0 ∧ k ≠ 1 ∧ k ≠ 21 ∧ k < 47 ∧ (k < 23 ∨ (k - 23) % 4 ≠ 3)) : mir a k = a k := by
  unfold mir
  rw [if_neg (by omega), if_neg (by omega)]
theorem mir_k (k : Nat) : (k = 0 ∨ k = 21 ∨ (23 ≤ k ∧ k < 47 ∧ (k - 23) % 4 = 3)) ∨ (k = 1 ∨ 47 ≤ k) ∨ (k ≠ 0 ∧ k ≠ 1 ∧ k ≠ 21 ∧ k < 47 ∧ (k < 23 ∨ (k - 23) % 4 ≠ 3)) := by omega
/-- two rows are mirrored, place by place -/
theorem mir_ext {a b : Row} (h1 : ∀ k, (k = 0 ∨ k = 21 ∨ (23 ≤ k ∧ k < 47 ∧ (k - 23) % 4 = 3)) → b k = 1 - a k) (h2 : ∀ k, (k = 1 ∨ 47 ≤ k) → b k = -(a k)) (h3 : ∀ k, (k ≠ 0 ∧ k ≠ 1 ∧ k ≠ 21 ∧ k < 47 ∧ (k < 23 ∨ (k - 23) % 4 ≠ 3)) → b k = a k) : b = mir a := by
  funext k
  rcases mir_k k with h | h | h
  · rw [mir_c h]; exact h1 k h
  · rw [mir_g h]; exact h2 k h
  · rw [mir_o h]; exact h3 k h
theorem rFi_m {a : Row} {v : Int32} (hk : a 0 = 0 ∨ a 0 = 1) (hv : -100 ≤ v ∧ v ≤ 100) (hl : -100 ≤ a 1 ∧ a 1 ≤ 100) : rFi (mir a) (-v) = rFi a v := by
  unfold rFi
  rw [mir_c (k := 0) (by omega), mir_o (k := 11) (by omega), mir_g (k := 1) (by omega), lvl_k (k1 hk), lvl_k hk, dF_m hk hv hl]
theorem rDn_m {a : Row} {v : Int32} (hk : a 0 = 0 ∨ a 0 = 1) (hv : -100 ≤ v ∧ v ≤ 100) (hl : -100 ≤ a 1 ∧ a 1 ≤ 100) (hh : -100 ≤ a 2 ∧ a 2 ≤ 100) : rDn (mir a) (-v) = rDn a v := by
  unfold rDn
  rw [mir_c (k := 0) (by omega), mir_o (k := 11) (by omega), mir_g (k := 1) (by omega), mir_o (k := 2) (by omega), mir_o (k := 4) (by omega), lvl_k (k1 hk), lvl_k hk, dN_m hk hv hl hh]
theorem rLg_m {a : Row} : rLg (mir a) = rLg a := by
  unfold rLg
  rw [mir_o (k := 6) (by omega), mir_o (k := 16) (by omega), mir_o (k := 7) (by omega)]
theorem rRm_m {a : Row} : rRm (mir a) = rRm a := by
  unfold rRm
  rw [mir_o (k := 22) (by omega), mir_o (k := 8) (by omega), mir_o (k := 9) (by omega)]
theorem rBg_m {a : Row} {v : Int32} (hk : a 0 = 0 ∨ a 0 = 1) (hv : -100 ≤ v ∧ v ≤ 100) (hl : -100 ≤ a 1 ∧ a 1 ≤ 100) : rBg (mir a) (-v) = rBg a v := by
  unfold rBg
  rw [rFi_m hk hv hl, rLg_m, rRm_m, mir_o (k := 17) (by omega)]
theorem rMid_m {a : Row} {v : Int32} (hk : a 0 = 0 ∨ a 0 = 1) (hv : -100 ≤ v ∧ v ≤ 100) (hl : -100 ≤ a 1 ∧ a 1 ≤ 100) (hh : -100 ≤ a 2 ∧ a 2 ≤ 100) : rMid (mir a) (-v) = mir (rMid a v) := by
  refine mir_ext (fun k h => ?_) (fun k h => ?_) (fun k h => ?_)
  · unfold rMid
    rw [rFi_m hk hv hl, rBg_m hk hv hl, rDn_m hk hv hl hh]
    by_cases h21 : k = 21
    · subst h21
      rw [mir_c (k := 0) (by omega), mir_c (k := 21) (by omega)]
      by_cases hB : rBg a v
      · simp [sel_t hB]
      · simp [sel_f hB]
    · rw [if_neg (by omega), if_neg (by omega), if_neg (by omega), if_neg (by omega), if_neg (by omega), if_neg (by omega), if_neg (by omega), if_neg (by omega), if_neg (by omega), if_neg (by omega), if_neg (by omega), if_neg (by omega), if_neg (by omega), if_neg (by omega), if_neg (by omega), if_neg (by omega), if_neg (by omega), if_neg (by omega)]
      exact mir_c h
  · unfold rMid
    rw [if_neg (by omega), if_neg (by omega), if_neg (by omega), if_neg (by omega), if_neg (by omega), if_neg (by omega), if_neg (by omega), if_neg (by omega), if_neg (by omega), if_neg (by omega), if_neg (by omega), if_neg (by omega), if_neg (by omega), if_neg (by omega), if_neg (by omega), if_neg (by omega), if_neg (by omega), if_neg (by omega)]
    exact mir_g h
  · unfold rMid
    rw [rFi_m hk hv hl, rBg_m hk hv hl, rDn_m hk hv hl hh, mir_o (k := 12) (by omega), mir_o (k := 13) (by omega), mir_o (k := 14) (by omega), mir_o (k := 17) (by omega), mir_o (k := 10) (by omega), mir_o (k := 18) (by omega), mir_o (k := 5) (by omega), mir_o (k := 19) (by omega), mir_o (k := 6) (by omega), mir_o (k := 20) (by omega), if_neg h.2.2.1, if_neg h.2.2.1, mir_o h]
theorem rPut_m {b : Row} {v : Int32} {S : Nat} : rPut (mir b) (-v) S = mir (rPut b v S) := by
  refine mir_ext (fun k h => ?_) (fun k h => ?_) (fun k h => ?_)
  · unfold rPut
    rw [if_neg (by omega), if_neg (by omega), if_neg (by omega), if_neg (by omega), if_neg (by omega), if_neg (by omega)]
    exact mir_c h
  · unfold rPut
    by_cases hS : k = 47 + S
    · rw [if_neg (by omega), if_neg (by omega), if_pos hS, if_neg (by omega), if_neg (by omega), if_pos hS]
    · rw [if_neg (by omega), if_neg (by omega), if_neg hS, if_neg (by omega), if_neg (by omega), if_neg hS]
      exact mir_g h
  · unfold rPut
    rw [mir_o (k := 16) (by omega), mir_o h, if_neg (show ¬ k = 47 + S by omega), if_neg (show ¬ k = 47 + S by omega)]
theorem rLk_m {b : Row} : rLk (mir b) = rLk b := by
  unfold rLk
  rw [mir_o (k := 18) (by omega), mir_o (k := 20) (by omega), mir_o (k := 19) (by omega), mir_o (k := 10) (by omega)]
theorem rCut_m {a : Row} {n j : Nat} (hn : n ≤ 6) : rCut (mir a) n j = mir (rCut a n j) := by
  refine mir_ext (fun k h => ?_) (fun k h => ?_) (fun k h => ?_)
  · unfold rCut
    have h22 : ¬ k = 22 := by omega
    by_cases c : 23 + 4 * j ≤ k ∧ k < 23 + 4 * (n - 1)
    · rw [if_neg h22, if_pos c, if_neg h22, if_pos c]
      exact mir_c (by omega)
    · rw [if_neg h22, if_neg c, if_neg h22, if_neg c]
      exact mir_c h
  · unfold rCut
    rw [if_neg (by omega), if_neg (by omega), if_neg (by omega), if_neg (by omega)]
    exact mir_g h
  · unfold rCut
    by_cases h22 : k = 22
    · rw [if_pos h22, if_pos h22]
    · by_cases c : 23 + 4 * j ≤ k ∧ k < 23 + 4 * (n - 1)
      · rw [if_neg h22, if_pos c, if_neg h22, if_pos c]
        exact mir_o (by omega)
      · rw [if_neg h22, if_neg c, if_neg h22, if_neg c]
        exact mir_o h
theorem rCuts_m : ∀ (d n : Nat) (a : Row), n ≤ 6 → rCuts (mir a) n d = mir (rCuts a n d) := by
  intro d
  induction d with
  | zero => intro n a _; rfl
  | succ d ih =>
    intro n a hn
    show rCuts (rCut (mir a) n 0) (n - 1) d = mir (rCuts (rCut a n 0) (n - 1) d)
    rw [rCut_m hn, ih (n - 1) _ (by omega)]
theorem rCmp_m {b : Row} {n K : Nat} (hn : n ≤ 6) (hK : K ≤ 6) : rCmp (mir b) n K = mir (rCmp b n K) := by
  have hC := rCuts_m (n - (K - 1)) n b hn
  refine mir_ext (fun k h => ?_) (fun k h => ?_) (fun k h => ?_)
  · unfold rCmp
    by_cases c : 23 + 4 * (n - (n - (K - 1))) ≤ k ∧ k < 23 + 4 * (n - (n - (K - 1))) + 4
    · rw [if_neg (by omega), if_neg (by omega), if_neg (by omega), if_neg (by omega), if_pos c, if_neg (by omega), if_neg (by omega), if_neg (by omega), if_neg (by omega), if_pos c]
      exact mir_c (by omega)
    · rw [if_neg (by omega), if_neg (by omega), if_neg (by omega), if_neg (by omega), if_neg c, if_neg (by omega), if_neg (by omega), if_neg (by omega), if_neg (by omega), if_neg c, hC]
      exact mir_c h
  · unfold rCmp
    rw [if_neg (by omega), if_neg (by omega), if_neg (by omega), if_neg (by omega), if_neg (by omega), if_neg (by omega), if_neg (by omega), if_neg (by omega), if_neg (by omega), if_neg (by omega), hC]
    exact mir_g h
  · unfold rCmp
    by_cases c : 23 + 4 * (n - (n - (K - 1))) ≤ k ∧ k < 23 + 4 * (n - (n - (K - 1))) + 4
    · rw [if_pos c, if_pos c, mir_o (k := 15) (by omega), mir_o (k := 18 + (k - (23 + 4 * (n - (n - (K - 1)))))) (by omega)]
    · rw [if_neg c, if_neg c, mir_o (k := 15) (by omega), hC, mir_o h]
theorem rPre_m {a : Row} {v : Int32} {S : Nat} (hk : a 0 = 0 ∨ a 0 = 1) (hv : -100 ≤ v ∧ v ≤ 100) (hl : -100 ≤ a 1 ∧ a 1 ≤ 100) (hh : -100 ≤ a 2 ∧ a 2 ≤ 100) : rPre (mir a) (-v) S = mir (rPre a v S) := by
  unfold rPre
  rw [rMid_m hk hv hl hh, rPut_m]
theorem rDone_m {b : Row} : rDone (mir b) = rDone b := by
  unfold rDone
  rw [rLk_m, mir_o (k := 17) (by omega)]
theorem rCome_m {a : Row} {v : Int32} {S n K : Nat} (hn : n ≤ 6) (hK : K ≤ 6) (hk : a 0 = 0 ∨ a 0 = 1) (hv : -100 ≤ v ∧ v ≤ 100) (hl : -100 ≤ a 1 ∧ a 1 ≤ 100) (hh : -100 ≤ a 2 ∧ a 2 ≤ 100) : rCome (mir a) (-v) S n K = mir (rCome a v S n K) := by
  have hP := rPre_m (S := S) hk hv hl hh
  by_cases h : rDone (rPre a v S)
  · rw [rCome_t h, rCome_t (by rw [hP, rDone_m]; exact h), hP, rCmp_m hn hK]
  · rw [rCome_f h, rCome_f (by rw [hP, rDone_m]; exact h), hP]
/-- what holds of a row holds of it in the mirror -/
theorem RX_m {a : Row} {S n Z K D P : Nat} (R : RX a S n Z K D P) (hk : a 0 = 0 ∨ a 0 = 1) : RX (mir a) S n Z K D P := by
  obtain ⟨⟨h10, hS, h22, hnK, h8, hK1, hK6, h16, hZ, h5, h6, hPD, hD⟩, ⟨k0, k11, k9, k17⟩, hsg, hcap, hsm, hlv⟩ := R
  refine ⟨⟨?_, hS, ?_, hnK, ?_, hK1, hK6, ?_, hZ, ?_, ?_, hPD, hD⟩, ⟨?_, ?_, ?_, ?_⟩, fun j hj => ?_, fun h => ?_, fun k hk2 => ?_, ⟨?_, fun k hk2 => ?_⟩⟩
  · rw [mir_o (by omega)]; exact h10
  · rw [mir_o (by omega)]; exact h22
  · rw [mir_o (by omega)]; exact h8
  · rw [mir_o (by omega)]; exact h16
  · rw [mir_o (by omega)]; exact h5
  · rw [mir_o (by omega)]; exact h6
  · rw [mir_c (by omega)]
    rcases k1 hk with h | h
    · exact Or.inl h
    · exact Or.inr (Or.inl h)
  · rw [mir_o (by omega)]; exact k11
  · rw [mir_o (by omega)]; exact k9
  · rw [mir_o (by omega)]; exact k17
  · obtain ⟨t, d, p, e1, e2, e3, q⟩ := hsg j hj
    exact ⟨t, d, p, by rw [mir_o (by omega)]; exact e1, by rw [mir_o (by omega)]; exact e2, by rw [mir_o (by omega)]; exact e3, q⟩
  · rw [mir_o (by omega)] at h
    obtain ⟨t, d, p, e1, e2, e3, q⟩ := hcap h
    exact ⟨t, d, p, by rw [mir_o (by omega)]; exact e1, by rw [mir_o (by omega)]; exact e2, by rw [mir_o (by omega)]; exact e3, q⟩
  · rw [mir_g (by omega)]; exact ng (hsm k hk2)
  · rw [mir_o (by omega), mir_o (by omega)]; exact hlv.1
  · rcases (show k = 0 ∨ k = 1 ∨ (k ≠ 0 ∧ k ≠ 1) by omega) with rfl | rfl | h
    · rw [mir_c (by omega)]
      rcases k1 hk with h | h <;> rw [h] <;> decide
    · rw [mir_g (by omega)]; exact ng (hlv.2 1 (by decide))
    · rw [mir_o (by omega)]; exact hlv.2 k hk2
