noncomputable def sel (p : Prop) (x y : Int32) : Int32 := by
  classical
  exact if p then x else y
theorem sel_t {p : Prop} {x y : Int32} (h : p) : sel p x y = x := by unfold sel; exact if_pos h
theorem sel_f {p : Prop} {x y : Int32} (h : ¬ p) : sel p x y = y := by unfold sel; exact if_neg h
theorem rCuts_seg : ∀ (d n : Nat) (a : Row) (k : Nat), d ≤ n → k < 4 * (n - d) → rCuts a n d (23 + k) = a (23 + k + 4 * d) := by
  intro d
  induction d with
  | zero => intro n a k _ _; rfl
  | succ d ih =>
    intro n a k hd hk
    rw [rCuts, ih (n - 1) _ k (by omega) (by omega), rCut, if_neg (by omega), if_pos (by omega)]
    congr 1
theorem nCuts_seg : ∀ (d n : Nat) (N : Row) (k : Nat), d ≤ n → k < 4 * (n - d) → nCuts N n d k = N (k + 4 * d) := by
  intro d
  induction d with
  | zero => intro n a k _ _; rfl
  | succ d ih =>
    intro n a k hd hk
    rw [nCuts, ih (n - 1) _ k (by omega) (by omega), nCut, if_pos (by omega)]
    congr 1
def rFi (a : Row) (v : Int32) : Prop := dF (a 0) v (a 11) (lvl (a 0) (a 1) (a 3))
def rLg (a : Row) : Prop := a 6 ≤ a 16 ∧ a 7 ≤ a 16
def rRm (a : Row) : Prop := a 22 < a 8 ∨ a 9 = 1
def rBg (a : Row) (v : Int32) : Prop := rFi a v ∧ a 17 = 0 ∧ rLg a ∧ rRm a
def rDn (a : Row) (v : Int32) : Int32 := dN (a 0) (a 2) (a 4) v (a 11) (lvl (a 0) (a 1) (a 3))
noncomputable def rMid (a : Row) (v : Int32) : Row := fun k => if k = 11 then rDn a v else if k = 12 then a 12 + sel (rFi a v) 1 0 else if k = 13 then a 13 + sel (rBg a v) 1 0 else if k = 14 then a 14 + sel (rFi a v ∧ ¬ rBg a v) 1 0 else if k = 17 then sel (rBg a v) 1 (a 17) else if k = 18 then sel (rBg a v) (a 10) (a 18) else if k = 19 then sel (rBg a v) (a 5) (a 19) else if k = 20 then sel (rBg a v) (a 6) (a 20) else if k = 21 then sel (rBg a v) (a 0) (a 21) else a k
theorem lg_eq {J : HI} {a : Row} : f_X6_isLongEnough (upR J 58 a) = some (sel (rLg a) 1 0, upR J 58 a) := by
  unfold f_X6_isLongEnough
  rw [r58]
  have e1 : (a 6 ≤ a 16) ↔ ¬ a 16 < a 6 := Int32.not_lt.symm
  have e2 : (a 7 ≤ a 16) ↔ ¬ a 16 < a 7 := Int32.not_lt.symm
  by_cases h1 : a 16 < a 6
  · rw [if_pos h1, sel_f (by simp [rLg, e1, h1])]
  · rw [if_neg h1]
    by_cases h2 : a 16 < a 7
    · rw [if_pos h2, sel_f (by simp [rLg, e2, h2])]
    · rw [if_neg h2, sel_t ⟨e1.mpr h1, e2.mpr h2⟩]
theorem hr_eq {J : HI} {a : Row} : f_X6_hasRoom (upR J 58 a) = some (sel (rRm a) 1 0, upR J 58 a) := by
  unfold f_X6_hasRoom
  rw [r58]
  by_cases h1 : a 22 < a 8
  · rw [if_pos h1, sel_t (show rRm a from Or.inl h1)]
  · rw [if_neg h1]
    by_cases h2 : a 9 = 1
    · rw [if_pos h2, sel_t (show rRm a from Or.inr h2)]
    · rw [if_neg h2, sel_f (by simp [rRm, h1, h2])]
theorem cp_eq {J : HI} {a : Row} : f_X6_captures (upR J 58 a) = some (0, upR J 58 (fun k => if k = 13 then a 13 + 1 else if k = 17 then 1 else if k = 18 then a 10 else if k = 19 then a 5 else if k = 20 then a 6 else if k = 21 then a 0 else a k)) := by
  unfold f_X6_captures
  simp only [uR, r58]
  congr 3
  funext k
  by_cases h1 : k = 13
  · subst h1; simp [upd]
  · by_cases h2 : k = 21
    · subst h2; simp [upd]
    · by_cases h3 : k = 20
      · subst h3; simp [upd]
      · by_cases h4 : k = 19
        · subst h4; simp [upd]
        · by_cases h5 : k = 18
          · subst h5; simp [upd]
          · by_cases h6 : k = 17
            · subst h6; simp [upd]
            · simp [upd, h1, h2, h3, h4, h5, h6]
theorem dB_sel {k v was lv : Int32} : dB k v was lv = sel (dF k v was lv) 1 0 := by
  by_cases h : dF k v was lv
  · rw [dB_t h, sel_t h]
  · rw [dB_f h, sel_f h]
theorem n12 : (12 : Int32).toNatClampNeg = 12 := by decide
theorem ib12 : ¬ ((12 : Int32) < 0 ∨ 447 ≤ (12 : Int32).toNatClampNeg) := by decide
theorem rw_c {a : Row} {k : Nat} : (if k = 17 then a 17 else if k = 18 then a 18 else if k = 19 then a 19 else if k = 20 then a 20 else if k = 21 then a 21 else a k) = a k := by
  split
  · next h => rw [h]
  · split
    · next h => rw [h]
    · split
      · next h => rw [h]
      · split
        · next h => rw [h]
        · split
          · next h => rw [h]
          · rfl
theorem rMid_n {a : Row} {v : Int32} (hF : ¬ rFi a v) : rMid a v = upd (upd (upd a 11 (rDn a v)) 12 (a 12 + 0)) 14 (a 14 + 0) := by
  have hB : ¬ rBg a v := fun q => hF q.1
  funext k
  simp only [rMid, sel_f hB, sel_f hF, sel_f (show ¬ (rFi a v ∧ ¬ rBg a v) from fun q => hF q.1), rw_c]
  by_cases h1 : k = 11
  · subst h1; simp [upd]
  · by_cases h2 : k = 12
    · subst h2; simp [upd]
    · by_cases h3 : k = 14
      · subst h3; simp [upd]
      · simp [upd, h1, h2, h3]
        intro h4
        rw [h4]
theorem rMid_f {a : Row} {v : Int32} (hF : rFi a v) (hB : ¬ rBg a v) : rMid a v = upd (upd (upd a 11 (rDn a v)) 12 (a 12 + 1)) 14 (a 14 + 1) := by
  funext k
  simp only [rMid, sel_f hB, sel_t hF, sel_t (show (rFi a v ∧ ¬ rBg a v) from ⟨hF, hB⟩), rw_c]
  by_cases h1 : k = 11
  · subst h1; simp [upd]
  · by_cases h2 : k = 12
    · subst h2; simp [upd]
    · by_cases h3 : k = 14
      · subst h3; simp [upd]
      · simp [upd, h1, h2, h3]
        intro h4
        rw [h4]
theorem rMid_b {a : Row} {v : Int32} (hB : rBg a v) : rMid a v = fun k => if k = 13 then a 13 + 1 else if k = 17 then 1 else if k = 18 then a 10 else if k = 19 then a 5 else if k = 20 then a 6 else if k = 21 then a 0 else upd (upd a 11 (rDn a v)) 12 (a 12 + 1) k := by
  funext k
  simp only [rMid, sel_t hB, sel_t hB.1, sel_f (show ¬ (rFi a v ∧ ¬ rBg a v) from fun q => q.2 hB)]
  by_cases h1 : k = 11
  · subst h1; simp [upd]
  · by_cases h2 : k = 12
    · subst h2; simp [upd]
    · by_cases h3 : k = 14
      · subst h3; simp [upd]
      · simp [upd, h1, h2, h3]
theorem cm1 {J : HI} {a : Row} (v : Int32) : f_X6_comes v (upR J 58 a) = f_X6_comes_J109 v (upR (upI J 57 6 (rDn a v)) 58 (rMid a v)) := by
  unfold f_X6_comes
  rw [r58, fi_eq, bs]
  simp only [r57, uR, r58]
  have eD : (upI J 57 6 (dN (a 0) (a 2) (a 4) v (a 11) (lvl (a 0) (a 1) (a 3)))) 57 6 = rDn a v := by simp [upI, upd, rDn]
  have eS : dN (a 0) (a 2) (a 4) v (a 11) (lvl (a 0) (a 1) (a 3)) = rDn a v := rfl
  rw [dB_sel]
  rw [show (dF (a 0) v (a 11) (lvl (a 0) (a 1) (a 3))) = rFi a v from rfl]
  by_cases hF : rFi a v
  · rw [sel_t hF, if_neg n10, eD, eS]
    unfold f_X6_comes_J53
    rw [if_neg ib12, n12]
    simp only [uR, r58]
    rw [if_neg n10]
    have e12 : upd a 11 (rDn a v) 12 = a 12 := by simp [upd]
    rw [e12]
    have e17 : upd (upd a 11 (rDn a v)) 12 (a 12 + 1) 17 = a 17 := by simp [upd]
    rw [e17]
    have hJ : ¬ rBg a v → f_X6_comes_J90 v 1 (upR (upI J 57 6 (rDn a v)) 58 (upd (upd a 11 (rDn a v)) 12 (a 12 + 1))) = f_X6_comes_J109 v (upR (upI J 57 6 (rDn a v)) 58 (rMid a v)) := by
      intro hB
      unfold f_X6_comes_J90
      rw [if_neg n10, rMid_f hF hB]
      simp only [uR, r58]
      rw [show upd (upd a 11 (rDn a v)) 12 (a 12 + 1) 14 = a 14 by simp [upd]]
    by_cases h0 : a 17 = 0
    · rw [if_pos h0, lg_eq, bs]
      have eL : rLg (upd (upd a 11 (rDn a v)) 12 (a 12 + 1)) = rLg a := by simp [rLg, upd]
      have eR : rRm (upd (upd a 11 (rDn a v)) 12 (a 12 + 1)) = rRm a := by simp [rRm, upd]
      rw [eL]
      by_cases hL : rLg a
      · rw [sel_t hL, if_neg n10, hr_eq, bs, eR]
        by_cases hR : rRm a
        · have hB : rBg a v := ⟨hF, h0, hL, hR⟩
          rw [sel_t hR, if_neg n10, cp_eq, bs, rMid_b hB]
          simp [upd]
        · rw [sel_f hR, if_pos rfl]
          exact hJ fun q => hR q.2.2.2
      · rw [sel_f hL, if_pos rfl]
        exact hJ fun q => hL q.2.2.1
    · rw [if_neg h0]
      exact hJ fun q => h0 q.2.1
  · rw [sel_f hF, if_pos rfl, eD, eS]
    unfold f_X6_comes_J53
    rw [if_neg ib12, n12]
    simp only [uR, r58]
    rw [if_pos trivial]
    unfold f_X6_comes_J90
    rw [if_pos rfl, rMid_n hF]
    simp only [uR, r58]
    rw [show upd a 11 (rDn a v) 12 = a 12 by simp [upd], show upd (upd a 11 (rDn a v)) 12 (a 12 + 0) 14 = a 14 by simp [upd]]
/-- the sample itself -/
def rPut (b : Row) (v : Int32) (S : Nat) : Row := fun k => if k = 10 then nI (S + 1) else if k = 16 then b 16 + 1 else if k = 47 + S then v else b k
def rLk (b : Row) : Int32 := b 18 - b 20 + b 19 - b 10
def rCmp (b : Row) (n K : Nat) : Row := fun k => if k = 22 then nI (n - (n - (K - 1)) + 1) else if k = 17 then 0 else if k = 16 then 0 else if k = 15 then b 15 + 1 else if 23 + 4 * (n - (n - (K - 1))) ≤ k ∧ k < 23 + 4 * (n - (n - (K - 1))) + 4 then b (18 + (k - (23 + 4 * (n - (n - (K - 1)))))) else rCuts b n (n - (K - 1)) k
theorem lk_eq {J : HI} {b : Row} : f_X6_lacking (upR J 58 b) = some (if b 17 = 0 then 0 else rLk b, upR J 58 b) := by
  unfold f_X6_lacking
  rw [r58]
  split <;> rfl
theorem lk_1 {J : HI} {b : Row} (h : b 17 = 1) : f_X6_lacking (upR J 58 b) = some (rLk b, upR J 58 b) := by
  rw [lk_eq, if_neg (by rw [h]; exact n10)]
theorem cl_loop {J : HI} {b : Row} {n' : Nat} (hn : n' < 6) : ∀ (d f i : Nat) (c : Row), c 22 = nI n' → (∀ k, k < 23 → c k = b k ∨ k = 22) → (∀ k, k < i → c (23 + 4 * n' + k) = b (18 + k)) → i + d = 4 → d < f → ∃ c' : Row, f_X6_completes_L15 f (nI i) (upR J 58 c) = some (0, upR J 58 (upd (upd (upd (upd c' 22 (nI (n' + 1))) 17 0) 16 0) 15 (b 15 + 1))) ∧ (∀ k, k < 4 → c' (23 + 4 * n' + k) = b (18 + k)) ∧ (∀ k, (k < 23 + 4 * n' ∨ 23 + 4 * n' + 4 ≤ k) → c' k = c k) := by
  intro d
  induction d with
  | zero =>
    intro f i c h22 hlo hdone hi hf
    obtain ⟨f, rfl⟩ : ∃ f', f = f' + 1 := ⟨f - 1, by omega⟩
    obtain rfl : i = 4 := by omega
    refine ⟨c, ?_, hdone, fun k _ => rfl⟩
    show f_X6_completes_L15_b _ _ _ = _
    unfold f_X6_completes_L15_b
    rw [l4, if_pos (nI_le (by omega) (by omega))]
    simp only [uR, r58]
    have e15 : c 15 = b 15 := (hlo 15 (by decide)).resolve_right (by decide)
    simp only [h22, l1, nI_add]
    congr 4
    simp [upd, e15]
  | succ d ih =>
    intro f i c h22 hlo hdone hi hf
    obtain ⟨f, rfl⟩ : ∃ f', f = f' + 1 := ⟨f - 1, by omega⟩
    have hci : c (18 + i) = b (18 + i) := (hlo (18 + i) (by omega)).resolve_right (by omega)
    obtain ⟨c', h1, h2, h3⟩ := ih f (i + 1) (upd c (23 + 4 * n' + i) (c (18 + i))) (by rw [upd_n (by omega)]; exact h22) (fun k hk => by rw [upd_n (by omega)]; exact hlo k hk) (fun k hk => by
      by_cases hki : k = i
      · subst hki; rw [upd_s, hci]
      · rw [upd_n (by omega)]; exact hdone k (by omega)) (by omega) (by omega)
    refine ⟨c', ?_, h2, fun k hk => by rw [h3 k hk, upd_n (by omega)]⟩
    rw [← h1]
    show f_X6_completes_L15_b _ _ _ = _
    unfold f_X6_completes_L15_b
    have l18 : (18 : Int32) = nI 18 := by decide
    rw [r58, h22, l4, pk_mul, l18, l23, nI_add, nI_add, nI_add, if_neg (nI_ge (by omega) (by omega)), if_neg (ib (by omega) (by omega)), if_neg (ib (by omega) (by omega)), nc (by omega), nc (by omega), l1, nI_add]
    simp only [uR]
theorem cs_eq {J : HI} {b : Row} {n K : Nat} (h22 : b 22 = nI n) (hn : n ≤ 6) (h8 : b 8 = nI K) (hK : 1 ≤ K ∧ K ≤ 6) : f_X6_completes (upR J 58 b) = some (0, upR J 58 (rCmp b n K)) := by
  unfold f_X6_completes
  rw [r58, h8, l1, pk_sub hK.1, do_eq (K := K - 1) (fun m hm => nI_leI (by omega) (by omega)) h22 hn, bs]
  obtain ⟨c', h1, h2, h3⟩ := cl_loop (J := J) (b := b) (n' := n - (n - (K - 1))) (by omega) 4 4000 0 (rCuts b n (n - (K - 1))) (rCuts_22 _ _ _ h22 (by omega)) (fun k hk => by
    by_cases h : k = 22
    · exact Or.inr h
    · exact Or.inl (rCuts_lo _ _ _ k (by omega) hn)) (fun k hk => by omega) (by omega) (by omega)
  rw [l0, h1]
  congr 3
  funext k
  unfold rCmp
  by_cases e22 : k = 22
  · subst e22; simp [upd]
  · by_cases e17 : k = 17
    · subst e17; simp [upd]
    · by_cases e16 : k = 16
      · subst e16; simp [upd]
      · by_cases e15 : k = 15
        · subst e15; simp [upd]
        · rw [upd_n e15, upd_n e16, upd_n e17, upd_n e22, if_neg e22, if_neg e17, if_neg e16, if_neg e15]
          by_cases hr : 23 + 4 * (n - (n - (K - 1))) ≤ k ∧ k < 23 + 4 * (n - (n - (K - 1))) + 4
          · rw [if_pos hr]
            have := h2 (k - (23 + 4 * (n - (n - (K - 1))))) (by omega)
            rw [← this]
            congr 1
            omega
          · rw [if_neg hr, h3 k (by omega)]
/-- all of a sample -/
noncomputable def rPre (a : Row) (v : Int32) (S : Nat) : Row := rPut (rMid a v) v S
noncomputable def rDone (b : Row) : Prop := b 17 = 1 ∧ rLk b = 0
noncomputable def rCome (a : Row) (v : Int32) (S n K : Nat) : Row := by
  classical
  exact if rDone (rPre a v S) then rCmp (rPre a v S) n K else rPre a v S
theorem rCome_t {a : Row} {v : Int32} {S n K : Nat} (h : rDone (rPre a v S)) : rCome a v S n K = rCmp (rPre a v S) n K := by unfold rCome; exact if_pos h
theorem rCome_f {a : Row} {v : Int32} {S n K : Nat} (h : ¬ rDone (rPre a v S)) : rCome a v S n K = rPre a v S := by unfold rCome; exact if_neg h
theorem rPre_k {a : Row} {v : Int32} {S k : Nat} (h : k < 10 ∨ k = 15 ∨ k = 22) : rPre a v S k = a k := by
  unfold rPre rPut rMid
  rw [if_neg (by omega), if_neg (by omega), if_neg (by omega), if_neg (by omega), if_neg (by omega), if_neg (by omega), if_neg (by omega), if_neg (by omega), if_neg (by omega), if_neg (by omega), if_neg (by omega), if_neg (by omega)]
theorem cm2 {J : HI} {a : Row} {v : Int32} {S n K : Nat} (h10 : a 10 = nI S) (hS : S < 400) (h22 : a 22 = nI n) (hn : n ≤ 6) (h8 : a 8 = nI K) (hK : 1 ≤ K ∧ K ≤ 6) (h17 : a 17 = 0 ∨ a 17 = 1) : f_X6_comes_J109 v (upR J 58 (rMid a v)) = some (0, upR J 58 (rCome a v S n K)) := by
  have e10 : rMid a v 10 = nI S := by simp [rMid, h10]
  unfold f_X6_comes_J109
  rw [r58, e10, l47, nI_add, if_neg (ib (by omega) (by omega)), nc (by omega)]
  simp only [uR, r58]
  have eR : upd (upd (upd (rMid a v) (47 + S) v) 10 (upd (rMid a v) (47 + S) v 10 + 1)) 16 (upd (upd (rMid a v) (47 + S) v) 10 (upd (rMid a v) (47 + S) v 10 + 1) 16 + 1) = rPre a v S := by
    funext k
    have h1 : upd (rMid a v) (47 + S) v 10 = nI S := by rw [upd_n (by omega)]; exact e10
    have h2 : upd (upd (rMid a v) (47 + S) v) 10 (nI S + 1) 16 = rMid a v 16 := by rw [upd_n (by omega), upd_n (by omega)]
    rw [h1, h2, l1, nI_add]
    unfold rPre rPut
    by_cases k16 : k = 16
    · subst k16; rw [upd_s, if_neg (by omega), if_pos rfl, l1]
    · rw [upd_n k16]
      by_cases k10 : k = 10
      · subst k10; rw [upd_s, if_pos rfl]
      · rw [upd_n k10, if_neg k10, if_neg k16]
        by_cases kS : k = 47 + S
        · subst kS; rw [upd_s, if_pos rfl]
        · rw [upd_n kS, if_neg kS]
  rw [eR]
  have e17 : rPre a v S 17 = 0 ∨ rPre a v S 17 = 1 := by
    have : rPre a v S 17 = sel (rBg a v) 1 (a 17) := by
      unfold rPre rPut
      rw [if_neg (by omega), if_neg (by omega), if_neg (by omega)]
      simp [rMid]
    rw [this]
    by_cases hB : rBg a v
    · rw [sel_t hB]; exact Or.inr rfl
    · rw [sel_f hB]; exact h17
  by_cases h1 : rPre a v S 17 = 1
  · rw [if_pos h1, lk_1 h1, bs]
    by_cases h2 : rLk (rPre a v S) = 0
    · rw [if_pos h2, cs_eq (n := n) (K := K) (by rw [rPre_k (by omega)]; exact h22) hn (by rw [rPre_k (by omega)]; exact h8) hK, bs, rCome_t ⟨h1, h2⟩]
    · rw [if_neg h2, rCome_f fun q => h2 q.2]
  · rw [if_neg h1, rCome_f fun q => h1 q.1]
