/-! ===== pure: fires and bestLevel ===== -/
theorem lpP {σ β : Type} (L : Nat → σ → Nat → β) (g : σ → Nat → σ) (N : Nat) (E : σ → β) (P : Nat → σ → Prop) (step : ∀ (f i : Nat) (x : σ), i < N → P i x → L (f + 1) x i = L f (g x i) (i + 1)) (pres : ∀ (i : Nat) (x : σ), i < N → P i x → P (i + 1) (g x i)) (fin : ∀ (f : Nat) (x : σ), P N x → L (f + 1) x N = E x) : ∀ (k f i : Nat) (x : σ), N - i = k → i ≤ N → k < f → P i x → L f x i = E (fo g k i x) ∧ P N (fo g k i x) := by
  intro k
  induction k with
  | zero =>
    intro f i x hk hi hf p
    obtain ⟨f, rfl⟩ : ∃ f', f = f' + 1 := ⟨f - 1, by omega⟩
    obtain rfl : i = N := by omega
    exact ⟨fin f x p, p⟩
  | succ k ih =>
    intro f i x hk hi hf p
    obtain ⟨f, rfl⟩ : ∃ f', f = f' + 1 := ⟨f - 1, by omega⟩
    rw [step f i x (by omega) p]
    exact ih f (i + 1) _ (by omega) (by omega) (by omega) (pres i x (by omega) p)
theorem lvl_s (k v : Int32) : lvl k v v = v := by unfold lvl; split <;> rfl
/-- one sample under a level: how many fired, and what the detector was -/
noncomputable def gF (a : Row) (lv : Int32) : Int32 × Int32 → Nat → Int32 × Int32 := fun x i => (x.1 + sel (dF (a 0) (a (47 + i)) x.2 lv) 1 0, dN (a 0) (a 2) (a 4) (a (47 + i)) x.2 lv)
noncomputable def cF (a : Row) (S : Nat) (lv : Int32) : Int32 := (fo (gF a lv) S 0 (0, 0)).1
theorem cf_eq {I : HI} {S n Z K D Q : Nat} {lv : Int32} (R : RX (I 58) S n Z K D Q) (M : MR (I 1) (I (1 + 1)) (I (1 + 2)) (I (1 + 3)) (I (1 + 4)) (I 58) S n) : f_X1_firingsWith lv I = some (cF (I 58) S lv, I) ∧ ∃ c : Nat, c ≤ S ∧ cF (I 58) S lv = nI c := by
  have hS : S ≤ 400 := R.1.2.1
  have h3 : I 1 3 = nI S := (M.2.1 0 (by decide)).trans R.1.1
  have t0 : I 2 0 = I 58 0 := M.1 0 (by decide)
  have t2 : I 2 2 = I 58 2 := M.1 2 (by decide)
  have t4 : I 2 4 = I 58 4 := M.1 4 (by decide)
  have e := lpP (fun f x i => f_X1_firingsWith_L7 lv f x.1 x.2 (nI i) I) (gF (I 58) lv) S (fun x => some (x.1, I)) (fun i x => (x.2 = 0 ∨ x.2 = 1 ∨ x.2 = 2) ∧ ∃ c : Nat, c ≤ i ∧ x.1 = nI c) (fun f i x hi p => by
    show f_X1_firingsWith_L7_b _ _ _ _ _ _ = _
    unfold f_X1_firingsWith_L7_b
    rw [if_neg (by rw [h3]; exact nI_ge hi (by omega)), sa_in (by omega), bs]
    dsimp only
    rw [show I 3 i = I 58 (47 + i) from M.2.2.2.2.1 i hi, cd_eq p.1, bs]
    dsimp only
    rw [t0, t2, t4, nI_1]
    obtain ⟨m1, m2, m3, m4⟩ := mk_eq (dN_in (k := I 58 0) (hy := I 58 2) (hi := I 58 4) (v := I 58 (47 + i)) (lv := lv) p.1)
    unfold gF
    by_cases c : dF (I 58 0) (I 58 (47 + i)) x.2 lv
    · rw [sel_t c, sel_t c, if_neg m2, m1]
    · rw [sel_f c, sel_f c, if_pos m4, m3, Int32.add_zero]) (fun i x hi p => by
    refine ⟨dN_in p.1, ?_⟩
    obtain ⟨c, hc, e⟩ := p.2
    unfold gF
    dsimp only
    by_cases h : dF (I 58 0) (I 58 (47 + i)) x.2 lv
    · exact ⟨c + 1, by omega, by rw [sel_t h, e, nI_1]⟩
    · exact ⟨c, by omega, by rw [sel_f h, e, Int32.add_zero]⟩) (fun f x p => by
    show f_X1_firingsWith_L7_b _ _ _ _ _ _ = _
    unfold f_X1_firingsWith_L7_b
    rw [if_pos (by rw [h3]; exact nI_le (Nat.le_refl _) (by omega))]) S 4000 0 (0, 0) rfl (by omega) (by omega) ⟨Or.inl rfl, 0, Nat.le_refl _, rfl⟩
  exact ⟨e.1, e.2.2⟩
theorem uu_6 {I : HI} {a : Row} {w w' : Int32} : upR (upI (upI I 57 6 w) 57 6 w') 58 a = upR (upI I 57 6 w') 58 a := by
  rw [upI_R', upI_R', upI_R', upR_s', upR_R']
  congr 2
  funext k
  by_cases h : k = 6
  · subst h; simp [upd]
  · simp [upd, h]
theorem upI_self {I : HI} {c k : Nat} : upI I c k (I c k) = I := by
  rw [upI_R', upd_self rfl, upR_self]
theorem rf_eq {I J : HI} {S n Z K D Q : Nat} {lv : Int32} (R : RX (I 58) S n Z K D Q) (hq : Jq I J) : ∃ J' : HI, f_X6_firings lv J = some (cF (I 58) S lv, J') ∧ Jq I J' := by
  have hS : S ≤ 400 := R.1.2.1
  have h10 : I 58 10 = nI S := R.1.1
  have e := lp (fun f x i => f_X6_firings_L7 lv f x.2.1 x.1 (nI i) (upR (upI J 57 6 x.2.2) 58 (I 58))) (fun (x : Int32 × Int32 × Int32) i => (x.1 + sel (dF (I 58 0) (I 58 (47 + i)) x.2.1 lv) 1 0, dN (I 58 0) (I 58 2) (I 58 4) (I 58 (47 + i)) x.2.1 lv, dN (I 58 0) (I 58 2) (I 58 4) (I 58 (47 + i)) x.2.1 lv)) S (fun x => some (x.1, upR (upI J 57 6 x.2.2) 58 (I 58))) (fun f i x hi => by
    show f_X6_firings_L7_b _ _ _ _ _ _ = _
    unfold f_X6_firings_L7_b
    rw [r58s, h10, if_neg (nI_ge hi (by omega)), l47, nI_add, if_neg (ib (by omega) (by decide)), nc (by omega), fi_eq, bs, lvl_s, uu_6, nI_1]
    dsimp only
    by_cases c : dF (I 58 0) (I 58 (47 + i)) x.2.1 lv
    · rw [dB_t c, if_neg n10, sel_t c, upR_n' (by decide), upI_s, upd_s]
    · rw [dB_f c, if_pos rfl, sel_f c, upR_n' (by decide), upI_s, upd_s]) (fun f x => by
    show f_X6_firings_L7_b _ _ _ _ _ _ = _
    unfold f_X6_firings_L7_b
    rw [r58s, h10, if_pos (nI_le (Nat.le_refl _) (by omega))]) S 4000 0 (0, 0, J 57 6) rfl (by omega) (by omega)
  dsimp only at e
  rw [upI_self, upR_at (hq.1 58 (by decide))] at e
  have key := (fo_rel (fun (x : Int32 × Int32 × Int32) (y : Int32 × Int32) => x.1 = y.1 ∧ x.2.1 = y.2) (fun (x : Int32 × Int32 × Int32) i => (x.1 + sel (dF (I 58 0) (I 58 (47 + i)) x.2.1 lv) 1 0, dN (I 58 0) (I 58 2) (I 58 4) (I 58 (47 + i)) x.2.1 lv, dN (I 58 0) (I 58 2) (I 58 4) (I 58 (47 + i)) x.2.1 lv)) (gF (I 58) lv) 0 S (fun x y i _ _ r => by
      unfold gF
      dsimp only
      rw [r.1, r.2]
      exact ⟨rfl, rfl⟩) S 0 (0, 0, J 57 6) (0, 0) (by omega) (by omega) ⟨rfl, rfl⟩).1
  generalize fo (fun (x : Int32 × Int32 × Int32) i => (x.1 + sel (dF (I 58 0) (I 58 (47 + i)) x.2.1 lv) 1 0, dN (I 58 0) (I 58 2) (I 58 4) (I 58 (47 + i)) x.2.1 lv, dN (I 58 0) (I 58 2) (I 58 4) (I 58 (47 + i)) x.2.1 lv)) S 0 (0, 0, J 57 6) = X at e key
  refine ⟨upR (upI J 57 6 X.2.2) 58 (I 58), (show f_X6_firings lv J = _ from e).trans ?_, hq.tr ⟨fun b hb => ?_, fun k hk => ?_⟩⟩
  · rw [key]; rfl
  · by_cases h58 : b = 58
    · subst h58; rw [upR_s']; exact (hq.1 58 (by decide)).symm
    · rw [upR_n' h58, upI_n hb]
  · rw [upR_n' (by decide), upI_s, upd_n hk]
theorem Good_j {I J : HI} (h : Jq I J) (G : Good I) : Good J := Good_q (fun c h1 _ => h.1 c h1) (h.2 3 (by decide)) (h.2 8 (by decide)) G
/-- the greatest level: as many as g above -100 -/
theorem gl_eq {I : HI} {S n Z K D Q : Nat} (R : RX (I 58) S n Z K D Q) (M : MR (I 1) (I (1 + 1)) (I (1 + 2)) (I (1 + 3)) (I (1 + 4)) (I 58) S n) : ∃ g : Nat, g ≤ 200 ∧ f_X1_greatestLevel I = some (nI g - nI 100, I) ∧ ∀ J : HI, Jq I J → ∀ i : Nat, i ≤ 200 → f_X6_isLevel (nI i - nI 100) J = some (if i ≤ g then 1 else 0, J) := by
  obtain ⟨-, ⟨k0, -⟩, -, -, -, hlv⟩ := R
  have t0 : I 2 0 = I 58 0 := M.1 0 (by decide)
  have t4 : I 2 4 = I 58 4 := M.1 4 (by decide)
  unfold f_X1_greatestLevel f_X6_isLevel
  rw [so0, bs]
  dsimp only
  have one : (I 58 0 = 0 ∨ I 58 0 = 1) → ∃ g : Nat, g ≤ 200 ∧ (if I 2 0 = (2 : Int32) then (f_X1_settingOf (4 : Int32) I).bind fun q4 => some (q4.1 - (1 : Int32), q4.2) else some ((100 : Int32), I)) = some (nI g - nI 100, I) ∧ ∀ J : HI, Jq I J → ∀ i : Nat, i ≤ 200 → (if J 58 0 ≤ (1 : Int32) then some ((1 : Int32), J) else if J 58 4 ≤ nI i - nI 100 then some ((0 : Int32), J) else some ((1 : Int32), J)) = some (if i ≤ g then 1 else 0, J) := fun hk => by
    refine ⟨200, Nat.le_refl _, ?_, fun J hq i hi => ?_⟩
    · rw [t0, if_neg (by rcases hk with h | h <;> rw [h] <;> decide)]
      rfl
    · rw [hq.1 58 (by decide), if_pos (by rcases hk with h | h <;> rw [h] <;> decide), if_pos hi]
  rcases k0 with h | h | h
  · exact one (Or.inl h)
  · exact one (Or.inr h)
  · obtain ⟨⟨a1, a2, a3⟩, -⟩ := hlv
    obtain ⟨g, hg, eg⟩ : ∃ g : Nat, g < 200 ∧ I 58 4 = nI (g + 1) - nI 100 := by
      have b1 : -100 ≤ (I 58 3).toInt := by have := Int32.le_iff_toInt_le.mp a1; exact this
      have b2 := Int32.lt_iff_toInt_lt.mp a2
      have b3 : (I 58 4).toInt ≤ 100 := by have := Int32.le_iff_toInt_le.mp a3; exact this
      refine ⟨((I 58 4).toInt + 99).toNat, by omega, ?_⟩
      apply Int32.toInt_inj.mp
      rw [pk_sub_toInt (by omega) (by decide)]
      omega
    refine ⟨g, by omega, ?_, fun J hq i hi => ?_⟩
    · rw [t0, if_pos h, so4, bs]
      dsimp only
      rw [t4, eg, ← nI_1]
      congr 2
      rw [Int32.sub_eq_add_neg, Int32.sub_eq_add_neg, Int32.sub_eq_add_neg, Int32.add_assoc, Int32.add_assoc, Int32.add_comm (-nI 100) (-1), ← Int32.add_assoc 1, show (1 : Int32) + -1 = 0 by decide, Int32.zero_add]
    · rw [hq.1 58 (by decide), h, if_neg (by decide), eg]
      have e1 : (nI (g + 1) - nI 100 ≤ nI i - nI 100) ↔ ¬ i ≤ g := by
        rw [Int32.le_iff_toInt_le, pk_sub_toInt (by omega) (by decide), pk_sub_toInt (by omega) (by decide)]
        omega
      by_cases c : i ≤ g
      · rw [if_neg (fun q => e1.mp q c), if_pos c]
      · rw [if_pos (e1.mpr c), if_neg c]
theorem lv_of {v : Int32} (h : -100 ≤ v ∧ v ≤ 100) : ∃ i : Nat, i ≤ 200 ∧ v = nI i - nI 100 := by
  have b1 : -100 ≤ v.toInt := Int32.le_iff_toInt_le.mp h.1
  have b3 : v.toInt ≤ 100 := Int32.le_iff_toInt_le.mp h.2
  refine ⟨(v.toInt + 100).toNat, by omega, ?_⟩
  apply Int32.toInt_inj.mp
  rw [pk_sub_toInt (by omega) (by decide)]
  omega
theorem lv_le {i g : Nat} (hi : i ≤ 300) (hg : g ≤ 300) : (nI i - nI 100 ≤ nI g - nI 100) ↔ i ≤ g := by
  rw [Int32.le_iff_toInt_le, pk_sub_toInt (by omega) (by decide), pk_sub_toInt (by omega) (by decide)]
  omega
theorem fires_law (v : Int32) {I : HI} (G : Good I) : Ok (f_X5_fires v) (f_X6_fires v) I := by
  obtain ⟨⟨S, n, Z, K, D, Q, R, M⟩, -⟩ := id G
  unfold Ok f_X5_fires f_X6_fires
  by_cases hin : -100 ≤ v ∧ v ≤ 100
  · obtain ⟨i, hi, rfl⟩ := lv_of hin
    obtain ⟨g, hg, e1, e2⟩ := gl_eq R M
    rw [if_neg (Int32.not_lt.mpr hin.1), if_pos hin.2, e1, bs]
    by_cases c : i ≤ g
    · obtain ⟨J, eJ, hq⟩ := rf_eq (lv := nI i - nI 100) R (J := I) Jq.rf
      refine ⟨cF (I 58) S (nI i - nI 100), I, J, ?_, ?_, Good_j hq G⟩
      · rw [if_pos ((lv_le (by omega) (by omega)).mpr c), (cf_eq R M).1, bs]
      · rw [isSample_eq, if_pos hin, bs, if_neg (show ¬ (1 : Int32) = 0 by decide)]
        dsimp only
        rw [e2 I Jq.rf i hi, if_pos c, bs, if_neg (show ¬ (1 : Int32) = 0 by decide)]
        dsimp only
        rw [eJ, bs]
    · refine ⟨-5, I, I, ?_, ?_, G⟩
      · rw [if_neg (fun q => c ((lv_le (by omega) (by omega)).mp q))]
      · rw [isSample_eq, if_pos hin, bs, if_neg (show ¬ (1 : Int32) = 0 by decide)]
        dsimp only
        rw [e2 I Jq.rf i hi, if_neg c, bs, if_pos rfl]
  · refine ⟨-2, I, I, ?_, ?_, G⟩
    · by_cases c : v < -100
      · rw [if_pos c]
      · rw [if_neg c, if_neg (fun q => hin ⟨Int32.not_lt.mp c, q⟩)]
    · rw [isSample_eq, if_neg hin, bs, if_pos rfl]
theorem lv_1 (i : Nat) : nI i - nI 100 + 1 = nI (i + 1) - nI 100 := by rw [acc1, nI_1]
noncomputable def gB (a : Row) (S : Nat) : Int32 × Int32 → Nat → Int32 × Int32 := fun x i => if cF a S (nI i - nI 100) ≤ x.2 then x else (nI i - nI 100, cF a S (nI i - nI 100))
theorem rb_loop {I : HI} {S n Z K D Q g : Nat} {v1 : Int32} (R : RX (I 58) S n Z K D Q) (hg : g ≤ 200) (e2 : ∀ J : HI, Jq I J → ∀ i : Nat, i ≤ 200 → f_X6_isLevel (nI i - nI 100) J = some (if i ≤ g then 1 else 0, J)) : ∀ (k f i : Nat) (x : Int32 × Int32) (J : HI), g + 1 - i = k → i ≤ g + 1 → k < f → Jq I J → ∃ J' : HI, f_X6_bestLevel_L23 v1 f x.1 x.2 (nI i - nI 100) J = f_X6_bestLevel_J79 v1 (fo (gB (I 58) S) k i x).1 (fo (gB (I 58) S) k i x).2 J' ∧ Jq I J' := by
  intro k
  induction k with
  | zero =>
    intro f i x J hk hi hf hq
    obtain ⟨f, rfl⟩ : ∃ f', f = f' + 1 := ⟨f - 1, by omega⟩
    refine ⟨J, ?_, hq⟩
    show f_X6_bestLevel_L23_b _ _ _ _ _ _ = _
    unfold f_X6_bestLevel_L23_b
    by_cases c : (100 : Int32) < nI i - nI 100
    · rw [if_pos c]; rfl
    · have hi2 : i ≤ 200 := by
        rw [Int32.lt_iff_toInt_lt, pk_sub_toInt (by omega) (by decide), show (100 : Int32).toInt = 100 from rfl] at c
        omega
      rw [if_neg c, e2 J hq i hi2, if_neg (by omega), bs, if_pos rfl]; rfl
  | succ k ih =>
    intro f i x J hk hi hf hq
    obtain ⟨f, rfl⟩ : ∃ f', f = f' + 1 := ⟨f - 1, by omega⟩
    obtain ⟨J1, eJ, hq1⟩ := rf_eq (lv := nI i - nI 100) R hq
    obtain ⟨J', e', hq'⟩ := ih f (i + 1) (gB (I 58) S x i) J1 (by omega) (by omega) (by omega) hq1
    refine ⟨J', ?_, hq'⟩
    have c : ¬ (100 : Int32) < nI i - nI 100 := by
      rw [Int32.lt_iff_toInt_lt, pk_sub_toInt (by omega) (by decide), show (100 : Int32).toInt = 100 from rfl]
      omega
    refine Eq.trans ?_ e'
    show f_X6_bestLevel_L23_b _ _ _ _ _ _ = _
    unfold f_X6_bestLevel_L23_b
    rw [if_neg c, e2 J hq i (by omega), if_pos (by omega), bs, if_neg n10]
    dsimp only
    rw [eJ, bs, lv_1]
    dsimp only
    unfold gB
    by_cases h : cF (I 58) S (nI i - nI 100) ≤ x.2
    · rw [if_pos h, if_pos h, if_pos h]
    · rw [if_neg h, if_neg h, if_neg h]
theorem cb_loop {I : HI} {S n Z K D Q g : Nat} {v1 : Int32} (R : RX (I 58) S n Z K D Q) (M : MR (I 1) (I (1 + 1)) (I (1 + 2)) (I (1 + 3)) (I (1 + 4)) (I 58) S n) (hg : g ≤ 200) : ∀ (k f i : Nat) (x : Int32 × Int32), g + 1 - i = k → i ≤ g + 1 → k < f → f_X5_bestLevel_L37 v1 (nI g - nI 100) f x.1 x.2 (nI i - nI 100) I = (if v1 = 0 then some ((fo (gB (I 58) S) k i x).1 + 1000, I) else some ((fo (gB (I 58) S) k i x).2, I)) := by
  intro k f i x hk hi hf
  refine lp (fun f x i => f_X5_bestLevel_L37 v1 (nI g - nI 100) f x.1 x.2 (nI i - nI 100) I) (gB (I 58) S) (g + 1) (fun x => if v1 = 0 then some (x.1 + 1000, I) else some (x.2, I)) (fun f i x hi => ?_) (fun f x => ?_) k f i x hk hi hf
  · show f_X5_bestLevel_L37_b _ _ _ _ _ _ _ = _
    unfold f_X5_bestLevel_L37_b
    rw [if_neg (Int32.not_lt.mpr ((lv_le (by omega) (by omega)).mpr (by omega))), (cf_eq R M).1, bs, lv_1]
    dsimp only
    unfold gB
    by_cases h : cF (I 58) S (nI i - nI 100) ≤ x.2
    · rw [if_pos h, if_pos h]
    · rw [if_neg h, if_neg h]
  · show f_X5_bestLevel_L37_b _ _ _ _ _ _ _ = _
    unfold f_X5_bestLevel_L37_b
    rw [if_pos (Int32.not_le.mp (fun q => absurd ((lv_le (by omega) (by omega)).mp q) (by omega)))]
theorem bestLevel_law (v : Int32) {I : HI} (G : Good I) : Ok (f_X5_bestLevel v) (f_X6_bestLevel v) I := by
  obtain ⟨⟨S, n, Z, K, D, Q, R, M⟩, -⟩ := id G
  unfold Ok f_X5_bestLevel f_X6_bestLevel
  obtain ⟨g, hg, e1, e2⟩ := gl_eq R M
  by_cases h01 : v = 0 ∨ v = 1
  · have hin : 0 ≤ v ∧ v ≤ 1 := by rcases h01 with h | h <;> rw [h] <;> decide
    have eC : (if v = (0 : Int32) then f_X5_bestLevel_J12 v I else if v = (1 : Int32) then f_X5_bestLevel_J12 v I else some ((-2 : Int32), I)) = f_X5_bestLevel_J12 v I := by
      rcases h01 with h | h
      · rw [if_pos h]
      · by_cases h' : v = 0
        · rw [if_pos h']
        · rw [if_neg h', if_pos h]
    rw [eC]
    obtain ⟨J', eR, hq⟩ := rb_loop (v1 := v) (g := g) R hg e2 (g + 1) 4000 0 (-6, -6) I rfl (by omega) (by omega) Jq.rf
    obtain ⟨c, hc, ec⟩ := (cf_eq (lv := nI 0 - nI 100) R M).2
    have eg0 : gB (I 58) S (-6, -6) 0 = (-100, cF (I 58) S (nI 0 - nI 100)) := by
      unfold gB
      rw [if_neg]
      · rfl
      · dsimp only
        have hS := R.1.2.1
        rw [ec, Int32.not_le, Int32.lt_iff_toInt_lt, nI_toInt (by omega), show (-6 : Int32).toInt = -6 from rfl]
        omega
    have e3 : fo (gB (I 58) S) (g + 1) 0 (-6, -6) = fo (gB (I 58) S) g 1 (-100, cF (I 58) S (nI 0 - nI 100)) := by
      show fo (gB (I 58) S) g (0 + 1) (gB (I 58) S (-6, -6) 0) = _
      rw [eg0]
    rw [e3] at eR
    have eB := cb_loop (v1 := v) R M hg g 4000 1 (-100, cF (I 58) S (nI 0 - nI 100)) (by omega) (by omega) (by omega)
    have eJ : f_X5_bestLevel_J12 v I = f_X5_bestLevel_L37 v (nI g - nI 100) 4000 (-100) (cF (I 58) S (nI 0 - nI 100)) (nI 1 - nI 100) I := by
      unfold f_X5_bestLevel_J12
      rw [show (-100 : Int32) = nI 0 - nI 100 from rfl, (cf_eq R M).1, bs]
      dsimp only
      rw [e1, bs]
      rfl
    rw [eJ]
    dsimp only at eB eR
    rw [eB]
    have eK : f_X6_bestLevel_L23 v 4000 (-6) (-6) (-100) I = f_X6_bestLevel_L23 v 4000 (-6) (-6) (nI 0 - nI 100) I := rfl
    by_cases h0 : v = 0
    · refine ⟨_, I, J', if_pos h0, ?_, Good_j hq G⟩
      rw [in01, if_pos hin, bs, if_neg n10]
      refine (eK.trans eR).trans ?_
      unfold f_X6_bestLevel_J79
      rw [if_pos h0]
    · refine ⟨_, I, J', if_neg h0, ?_, Good_j hq G⟩
      rw [in01, if_pos hin, bs, if_neg n10]
      refine (eK.trans eR).trans ?_
      unfold f_X6_bestLevel_J79
      rw [if_neg h0]
  · refine ⟨-2, I, I, ?_, ?_, G⟩
    · rw [if_neg (fun q => h01 (Or.inl q)), if_neg (fun q => h01 (Or.inr q))]
    · rw [in01, if_neg, bs, if_pos rfl]
      intro q
      have b1 := Int32.le_iff_toInt_le.mp q.1
      have b2 := Int32.le_iff_toInt_le.mp q.2
      rw [show (0 : Int32).toInt = 0 from rfl] at b1
      rw [show (1 : Int32).toInt = 1 from rfl] at b2
      rcases (show v.toInt = 0 ∨ v.toInt = 1 by omega) with h | h
      · exact h01 (Or.inl (Int32.toInt_inj.mp (h.trans rfl)))
      · exact h01 (Or.inr (Int32.toInt_inj.mp (h.trans rfl)))
