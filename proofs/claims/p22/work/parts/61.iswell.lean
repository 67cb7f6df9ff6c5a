/-! ===== pure: the law's look at one object ===== -/
theorem sgw_of {I : HI} {a : Row} {S n Z K D Q B j : Nat} (R : RX a S n Z K D Q) (W : Wll a S n Z B) (M : MR (I 1) (I 2) (I 3) (I 4) (I 5) a S n) (hj : j < n) : ∃ t d p b : Nat, SGc I j t d p b S ∧ b + d ≤ S - Z ∧ 0 < t ∧ (I 5 (4 * j + 3) = 0 ∨ I 5 (4 * j + 3) = 1) ∧ (I 5 (4 * j + 3) = 0 → I 3 (t - 1) < I 3 t) ∧ (I 5 (4 * j + 3) = 1 → I 3 t < I 3 (t - 1)) ∧ sgF a (23 + 4 * j) = b ∧ sgE a (23 + 4 * j) = b + d := by
  obtain ⟨w1, w2, wN, wA, wS, wO, wC⟩ := W
  obtain ⟨t, d, p, e1, e2, e3, q1, q2, q3, q4, q5⟩ := wS j hj
  obtain ⟨t', d', p', b, sg, f1, f2, f3⟩ := seg_of R M hj
  have hS := R.1.2.1
  have z := sg.2.2.1
  have et : t' = t := (nI_eq (by omega) (by omega)).mp (f1.symm.trans e1)
  have ed : d' = d := (nI_eq (by omega) (by omega)).mp (f2.symm.trans e2)
  have ep : p' = p := (nI_eq (by omega) (by omega)).mp (f3.symm.trans e3)
  subst et; subst ed; subst ep
  have e4 : I 5 (4 * j + 3) = a (23 + 4 * j + 3) := M.2.2.2.1 (4 * j + 3) (by omega)
  have s1 : I 3 t' = a (47 + t') := M.2.2.2.2.1 t' (by omega)
  have s2 : I 3 (t' - 1) = a (47 + (t' - 1)) := M.2.2.2.2.1 (t' - 1) (by omega)
  refine ⟨t', d', p', b, sg, by omega, q5.1, by rw [e4]; exact q5.2.1, by rw [e4, s1, s2]; exact q5.2.2.1, by rw [e4, s1, s2]; exact q5.2.2.2, ?_, ?_⟩
  · unfold sgF
    rw [f1, f3, nc (by omega), nc (by omega)]
    omega
  · unfold sgE
    rw [f1, f2, f3, nc (by omega), nc (by omega), nc (by omega)]
    omega
theorem ad_lt {x y : Int32} (hx : -100 ≤ x ∧ x ≤ 100) (hy : -100 ≤ y ∧ y ≤ 100) : (x + 1000 < y + 1000) ↔ x < y := by
  have h1 := b100 hx
  have h2 := b100 hy
  have e3 : (1000 : Int32).toInt = 1000 := by decide
  rw [Int32.lt_iff_toInt_lt, Int32.lt_iff_toInt_lt, tI_add (by omega) (by omega), tI_add (by omega) (by omega)]
  omega
theorem ad_le {x y : Int32} (hx : -100 ≤ x ∧ x ≤ 100) (hy : -100 ≤ y ∧ y ≤ 100) : (x + 1000 ≤ y + 1000) ↔ x ≤ y := by
  have h1 := b100 hx
  have h2 := b100 hy
  have e3 : (1000 : Int32).toInt = 1000 := by decide
  rw [Int32.le_iff_toInt_le, Int32.le_iff_toInt_le, tI_add (by omega) (by omega), tI_add (by omega) (by omega)]
  omega
/-- sums and rises, as the law counts them -/
def gW (I : HI) (b : Nat) : Int32 × Int32 → Nat → Int32 × Int32 := fun x j => (x.1 + I 3 (b + j), if j = 0 then x.2 else if I 3 (b + j) ≤ I 3 (b + (j - 1)) then x.2 else x.2 + 1)
theorem fo_sh {σ : Type} (g g' : σ → Nat → σ) (N : Nat) (h : ∀ x i, i < N → g x (i + 1) = g' x i) : ∀ (k i : Nat) (x : σ), i + k ≤ N → fo g k (i + 1) x = fo g' k i x := by
  intro k
  induction k with
  | zero => intro i x _; rfl
  | succ k ih =>
    intro i x hk
    show fo g k (i + 1 + 1) (g x (i + 1)) = fo g' k (i + 1) (g' x i)
    rw [ih (i + 1) _ (by omega), h x i (by omega)]
theorem gW_1 {I : HI} {b d : Nat} : (fo (gW I b) d 0 (0, 0)).1 = vSu I b d := fo_rel (fun (x : Int32 × Int32) (y : Int32) => x.1 = y) (gW I b) (fun x i => x + I 3 (b + i)) 0 d (fun x y i _ _ r => by subst r; rfl) d 0 (0, 0) 0 (by omega) (by omega) rfl
theorem gW_2 {I : HI} {b d : Nat} (hd : 1 ≤ d) : (fo (gW I b) d 0 (0, 0)).2 = vUp I b d := by
  obtain ⟨d', rfl⟩ : ∃ d', d = d' + 1 := ⟨d - 1, by omega⟩
  have e := fo_rel (fun (x : Int32 × Int32) (y : Int32) => x.2 = y) (gW I b) (fun x j => if j = 0 then x else if I 3 (b + j) ≤ I 3 (b + (j - 1)) then x else x + 1) 0 (d' + 1) (fun x y i _ _ r => by subst r; rfl) (d' + 1) 0 (0, 0) 0 (by omega) (by omega) rfl
  refine e.trans ?_
  show fo (fun x j => if j = 0 then x else if I 3 (b + j) ≤ I 3 (b + (j - 1)) then x else x + 1) d' (0 + 1) (0 : Int32) = _
  exact fo_sh _ _ d' (fun x i _ => by
    rw [if_neg (by omega), show i + 1 - 1 = i by omega]) d' 0 0 (by omega)
theorem wl_288 {I J : HI} {kk : Int32 → Int32 → Int32 → HJ → Option (Int32 × HJ)} {S n j t d p b : Nat} {v1 v2 : Int32} (h3 : I 1 3 = nI S) (h4 : I 4 1 = nI n) (hn : n ≤ 6) (hj : j < n) (sg : SGc I j t d p b S) (ht : 0 < t) (hk : I 5 (4 * j + 3) = 0 ∨ I 5 (4 * j + 3) = 1) (hr : I 5 (4 * j + 3) = 0 → I 3 (t - 1) < I 3 t) (hf : I 5 (4 * j + 3) = 1 → I 3 t < I 3 (t - 1)) : f_L_isWell_L288 kk v1 v2 (nI j) (nI t) (nI d) (nI b) 4000 1 0 0 0 (I, J) = kk (nI (b + d) - 1) 1 (nI (j + 1)) (I, J) := by
  have z := sg.2.2.1
  have hS : S ≤ 400 := z.2.2.2.2
  have sm := sg.2.2.2
  obtain ⟨-, b1, b2⟩ := gr_le (J := fun c k => -(I c k)) (show 1 ≤ d by omega) z.2.2.2.1 sm (fun k _ => rfl)
  obtain ⟨-, b3, b4⟩ := le_gr (J := fun c k => -(I c k)) (show 1 ≤ d by omega) z.2.2.2.1 sm (fun k _ => rfl)
  have eC := lp (fun f (x : Int32 × Int32) i => f_L_isWell_L288 kk v1 v2 (nI j) (nI t) (nI d) (nI b) f 1 x.1 x.2 (nI i) (I, J)) (gW I b) d (fun x => if ¬ (x.1 = vSu I b d) then none else if ¬ (x.2 = vUp I b d) then none else kk (nI (b + d) - 1) 1 (nI (j + 1)) (I, J)) (fun f i x hi => by
    show f_L_isWell_L288_b _ _ _ _ _ _ _ _ _ _ _ _ _ = _
    have s1 := sm (b + i) (by omega)
    have s2 := sm (b + (i - 1)) (by omega)
    unfold f_L_isWell_L288_b
    rw [if_neg (nI_ge hi (by omega)), if_neg n10]
    dsimp only
    rw [so_in h4 hn hj sg hi, bs]
    dsimp only
    rw [nI_add, sa_k h3 hS (show b + i < S by omega), bs]
    dsimp only
    rw [if_neg (no_no rfl), sg_4 h4 hn hj sg, bs]
    dsimp only
    rw [if_neg (fun q => Int32.not_lt.mpr (vLe_le hi) ((ad_lt s1 ⟨b1, b2⟩).mp q)), sg_5 h4 hn hj sg, bs]
    dsimp only
    rw [if_neg (fun q => Int32.not_lt.mpr (vGr_le hi) ((ad_lt ⟨b3, b4⟩ s1).mp q)), Int32.add_sub_cancel]
    unfold gW
    by_cases i0 : i = 0
    · subst i0
      rw [if_pos (show nI 0 ≤ (0 : Int32) by decide), Int32.add_zero, nI_1]
      rfl
    · rw [if_neg (nI_nle (by omega) (by omega)), l1, pk_sub (by omega), so_in h4 hn hj sg (show i - 1 < d by omega), bs]
      dsimp only
      rw [if_neg i0]
      by_cases c : I 3 (b + i) ≤ I 3 (b + (i - 1))
      · rw [if_pos ((ad_le s1 s2).mpr c), if_pos c, Int32.add_zero, nI_add]
      · rw [if_neg (fun q => c ((ad_le s1 s2).mp q)), if_neg c, nI_add]) (fun f x => by
    show f_L_isWell_L288_b _ _ _ _ _ _ _ _ _ _ _ _ _ = _
    unfold f_L_isWell_L288_b
    rw [if_pos (nI_le (Nat.le_refl _) (by omega)), if_neg n10]
    dsimp only
    rw [sg_6 h4 hn hj sg, bs]
    dsimp only
    rw [Int32.add_sub_cancel]
    by_cases c1 : x.1 = vSu I b d
    · rw [if_neg (no_no c1), if_neg (no_no c1), sg_7 h4 hn hj sg, bs]
      dsimp only
      by_cases c2 : x.2 = vUp I b d
      · rw [if_neg (no_no c2), if_neg (no_no c2), so_out h4 hn hj sg, bs]
        dsimp only
        rw [if_neg (no_no rfl), if_neg n10, if_neg (nI_nle ht (by omega)), l3, sg_n h4 hn hj (by decide), bs]
        dsimp only
        have e1 := sa_k h3 hS (show t < S by omega)
        have e2 := sa_k h3 hS (show t - 1 < S by omega)
        have s1 := sm t (by omega)
        have s2 := sm (t - 1) (by omega)
        rcases hk with hk | hk
        · rw [if_pos hk, e1, bs]
          dsimp only
          rw [l1, pk_sub (by omega), e2, bs]
          dsimp only
          rw [if_neg (fun q => Int32.not_le.mpr (hr hk) ((ad_le s1 s2).mp q)), nI_add, nI_add]
        · rw [if_neg (by rw [hk]; decide), e1, bs]
          dsimp only
          rw [l1, pk_sub (by omega), e2, bs]
          dsimp only
          rw [if_neg (fun q => Int32.not_le.mpr (hf hk) ((ad_le s2 s1).mp q)), nI_add, nI_add]
      · rw [if_pos c2, if_pos c2]
    · rw [if_pos c1, if_pos c1]) d 4000 0 (0, 0) rfl (by omega) (by omega)
  refine (show f_L_isWell_L288 kk v1 v2 (nI j) (nI t) (nI d) (nI b) 4000 1 0 0 0 (I, J) = _ from eC).trans ?_
  rw [if_neg (no_no gW_1), if_neg (no_no (gW_2 (by omega)))]
theorem wl_204 {I J : HI} {a : Row} {S n Z K D Q B : Nat} (R : RX a S n Z K D Q) (W : Wll a S n Z B) (M : MR (I 1) (I 2) (I 3) (I 4) (I 5) a S n) : ∀ (k f i e : Nat), n - i = k → i ≤ n → k < f → (∀ j, i ≤ j → j < n → e ≤ sgF a (23 + 4 * j)) → e ≤ S - Z → f_L_isWell_L204 (nI n) (nI S) f (nI e - 1) 1 (nI i) (I, J) = some (1, (I, J)) := by
  have hn : n ≤ 6 := Nat.le_trans R.1.2.2.2.1 R.1.2.2.2.2.2.2.1
  have hS := R.1.2.1
  have h3 : I 1 3 = nI S := (M.2.1 0 (by decide)).trans R.1.1
  have h4 : I 4 1 = nI n := M.2.2.1.trans R.1.2.2.1
  have h9 : I 1 9 = nI Z := (M.2.1 6 (by decide)).trans R.1.2.2.2.2.2.2.2.1
  have hZ := R.1.2.2.2.2.2.2.2.2.1
  have e559 : f_L_isWell_J559 (nI n) (I, J) = some (1, (I, J)) := by
    unfold f_L_isWell_J559
    dsimp only
    rw [sg_out h4, bs]
    dsimp only
    rw [if_neg (no_no rfl)]
  intro k
  induction k with
  | zero =>
    intro f i e hk hi hf he heZ
    obtain ⟨f, rfl⟩ : ∃ f', f = f' + 1 := ⟨f - 1, by omega⟩
    obtain rfl : i = n := by omega
    show f_L_isWell_L204_b _ _ _ _ _ _ _ = _
    unfold f_L_isWell_L204_b
    rw [if_pos (nI_le (Nat.le_refl _) (by omega)), if_neg n10]
    by_cases c : nI i = 0
    · rw [if_pos c]; exact e559
    · rw [if_neg c]
      dsimp only
      rw [ct_8, bs]
      dsimp only
      rw [h9, if_neg ?_]
      · exact e559
      · have g1 : (nI e - 1).toInt = (e : Int) - (1 : Nat) := pk_sub_toInt (b := 1) (by omega) (by decide)
        have g2 : (nI S).toInt = (S : Int) := nI_toInt (by omega)
        have g3 : (nI S - (nI e - 1)).toInt = (S : Int) - ((e : Int) - (1 : Nat)) := by rw [tI_sub (by omega) (by omega), g1, g2]
        have g4 : (1 : Int32).toInt = 1 := by decide
        rw [Int32.lt_iff_toInt_lt, tI_sub (by omega) (by omega), g3, g4, nI_toInt (by omega)]
        omega
  | succ k ih =>
    intro f i e hk hi hf he heZ
    obtain ⟨f, rfl⟩ : ∃ f', f = f' + 1 := ⟨f - 1, by omega⟩
    obtain ⟨t, d, p, b, sg, z1, z2, z3, z4, z5, z6, z7⟩ := sgw_of R W M (show i < n by omega)
    have z := sg.2.2.1
    have he0 := he i (by omega) (by omega)
    rw [z6] at he0
    show f_L_isWell_L204_b _ _ _ _ _ _ _ = _
    unfold f_L_isWell_L204_b
    rw [if_neg (nI_ge (by omega) (by omega)), if_neg n10]
    dsimp only
    have g0 : f_X5_segment (nI i) (0 : Int32) I = some (nI t, I) := by
      rw [l0, sg_n h4 hn (by omega) (by decide), show 4 * i + 0 = 4 * i by omega, sg.2.1.1]
    have g1 : f_X5_segment (nI i) (1 : Int32) I = some (nI d, I) := by
      rw [l1, sg_n h4 hn (by omega) (by decide), sg.2.1.2.1]
    have g2 : f_X5_segment (nI i) (2 : Int32) I = some (nI p, I) := by
      rw [l2, sg_n h4 hn (by omega) (by decide), sg.2.1.2.2]
    rw [g0, bs]
    dsimp only
    rw [g1, bs]
    dsimp only
    rw [g2, bs]
    dsimp only
    rw [pk_sub (show p ≤ t by omega), show t - p = b by omega, if_neg (nI_ge (show p < d by omega) (by omega)), if_neg ?_, if_neg (show ¬ nI S < nI b + nI d by rw [nI_add]; exact nI_nlt (by omega) (by omega)), wl_288 h3 h4 hn (by omega) sg z2 z3 z4 z5]
    · refine ih f (i + 1) (b + d) (by omega) (by omega) (by omega) (fun j h1 h2 => ?_) z1
      have := W.2.2.2.2.2.1 i j (by omega) h2
      rw [z7] at this
      exact this
    · have g1 : (nI e - 1).toInt = (e : Int) - (1 : Nat) := pk_sub_toInt (b := 1) (by omega) (by decide)
      rw [Int32.le_iff_toInt_le, g1, nI_toInt (by omega)]
      omega
theorem well_ok {I J : HI} {B : Nat} (G : Inv I J B) (hB : B < 2 ^ 20) : f_L_isWell (I, J) = some (1, (I, J)) := by
  obtain ⟨a, S, n, Z, K, D, Q, R, W, M, -⟩ := M2_to G.1
  have hn : n ≤ 6 := Nat.le_trans R.1.2.2.2.1 R.1.2.2.2.2.2.2.1
  have hK6 : K ≤ 6 := R.1.2.2.2.2.2.2.1
  have hnK : n ≤ K := R.1.2.2.2.1
  have hS := R.1.2.1
  have h3 : I 1 3 = nI S := (M.2.1 0 (by decide)).trans R.1.1
  have h4 : I 4 1 = nI n := M.2.2.1.trans R.1.2.2.1
  have h9 : I 1 9 = nI Z := (M.2.1 6 (by decide)).trans R.1.2.2.2.2.2.2.2.1
  have hZ := R.1.2.2.2.2.2.2.2.2.1
  have h28 : I 2 8 = nI K := (M.1 8 (by decide)).trans R.1.2.2.2.2.1
  have k9 : I 2 9 = 0 ∨ I 2 9 = 1 := by rw [M.1 9 (by decide)]; exact R.2.1.2.2.1
  obtain ⟨f, g, c, c1, c2, c3, c4, c5, c6, c7, c8, c9⟩ := W.2.2.1
  have h5 : I 1 5 = nI f := (M.2.1 2 (by decide)).trans c1
  have h6 : I 1 6 = nI g := (M.2.1 3 (by decide)).trans c2
  have h7 : I 1 7 = nI (f - g) := (M.2.1 4 (by decide)).trans c3
  have h8 : I 1 8 = nI c := (M.2.1 5 (by decide)).trans c4
  have eL : f_L_isWell_L204 (nI n) (nI S) 4000 (-1) 1 0 (I, J) = some (1, (I, J)) := wl_204 (J := J) R W M n 4000 0 0 (by omega) (by omega) (by omega) (fun _ _ _ => Nat.zero_le _) (Nat.zero_le _)
  have ct : ∀ s, s < 10 → f_X5_count (nI (10 + s)) I = some (I 2 s + 1000, I) := fun s hs => ct_s hs
  have e151 : f_L_isWell_J151 (nI n) (nI S) (phs I) (-1) (I, J) = some (1, (I, J)) := by
    unfold f_L_isWell_J151
    by_cases p1 : phs I = 1
    · have hl : I 2 6 ≤ I 1 9 ∧ I 2 7 ≤ I 1 9 := by
        unfold phs at p1
        by_cases q1 : I 1 14 ≤ 0
        · rw [if_pos q1] at p1
          by_cases q2 : I 4 1 < I 2 8 ∨ I 2 9 = 1
          · rw [if_pos q2] at p1
            by_cases q3 : I 2 6 ≤ I 1 9 ∧ I 2 7 ≤ I 1 9
            · exact q3
            · rw [if_neg q3] at p1; exact absurd p1 (by decide)
          · rw [if_neg q2] at p1; exact absurd p1 (by decide)
        · rw [if_neg q1] at p1; exact absurd p1 (by decide)
      rw [if_pos p1]
      dsimp only
      rw [ct_8, bs]
      dsimp only
      rw [show (16 : Int32) = nI (10 + 6) from rfl, ct 6 (by decide), bs]
      dsimp only
      rw [Int32.add_sub_cancel, if_neg (Int32.not_lt.mpr hl.1), ct_8, bs]
      dsimp only
      rw [show (17 : Int32) = nI (10 + 7) from rfl, ct 7 (by decide), bs]
      dsimp only
      rw [Int32.add_sub_cancel, if_neg (Int32.not_lt.mpr hl.2)]
      exact eL
    · rw [if_neg p1]
      exact eL
  have e117 : ∀ w : Int32, f_L_isWell_J117 (nI n) (nI S) (phs I) (-1) w w (I, J) = some (1, (I, J)) := fun w => by
    unfold f_L_isWell_J117
    rw [if_neg (no_no rfl)]
    by_cases p2 : phs I = 2
    · have hl : ¬ (I 4 1 < I 2 8 ∨ I 2 9 = 1) := by
        unfold phs at p2
        by_cases q1 : I 1 14 ≤ 0
        · rw [if_pos q1] at p2
          by_cases q2 : I 4 1 < I 2 8 ∨ I 2 9 = 1
          · rw [if_pos q2] at p2
            by_cases q3 : I 2 6 ≤ I 1 9 ∧ I 2 7 ≤ I 1 9
            · rw [if_pos q3] at p2; exact absurd p2 (by decide)
            · rw [if_neg q3] at p2; exact absurd p2 (by decide)
          · exact q2
        · rw [if_neg q1] at p2; exact absurd p2 (by decide)
      have eK : n = K := by
        by_cases q : n < K
        · exact absurd (Or.inl (by rw [h4, h28]; exact nI_lt q (by omega))) hl
        · omega
      have e9 : I 2 9 = 0 := k9.resolve_right fun q => hl (Or.inr q)
      rw [if_pos p2]
      dsimp only
      rw [show (18 : Int32) = nI (10 + 8) from rfl, ct 8 (by decide), bs]
      dsimp only
      rw [Int32.add_sub_cancel, h28, if_neg (no_no (by rw [eK])), show (19 : Int32) = nI (10 + 9) from rfl, ct 9 (by decide), bs]
      dsimp only
      rw [e9, if_neg (no_no (by decide))]
      exact e151
    · rw [if_neg p2]
      exact e151
  have e28 : ∀ w : Int32, (w = if I 1 14 ≤ 0 then 0 else 1) → f_L_isWell_J28 (nI n) (nI S) (phs I) w (I, J) = some (1, (I, J)) := fun w hw => by
    unfold f_L_isWell_J28
    dsimp only
    rw [ct_4, bs]
    dsimp only
    rw [ct_5, bs]
    dsimp only
    rw [ct_6, bs]
    dsimp only
    rw [h5, h6, h7, nI_add, if_neg (no_no (by rw [show g + (f - g) = f by omega])), ct_5, bs]
    dsimp only
    rw [ct_7, bs]
    dsimp only
    rw [h6, h8, if_neg (nI_nlt c6 (by omega)), show (18 : Int32) = nI (10 + 8) from rfl, ct 8 (by decide), bs]
    dsimp only
    rw [Int32.add_sub_cancel, h28, if_neg (nI_nlt hnK (by omega)), ct_7, bs]
    dsimp only
    rw [h8, if_neg (nI_nlt c8 (by omega)), ct_8, bs]
    dsimp only
    rw [h9, if_neg (nI_nlt hZ (by omega)), ct_9, bs]
    dsimp only
    by_cases q : I 1 14 ≤ 0
    · rw [if_pos q] at hw
      rw [if_pos q, hw]
      exact e117 0
    · rw [if_neg q] at hw
      rw [if_neg q, hw]
      exact e117 1
  unfold f_L_isWell
  dsimp only
  rw [ct_1, bs]
  dsimp only
  rw [ct_0, bs]
  dsimp only
  rw [ct_2 k9, bs]
  dsimp only
  rw [h3, h4]
  have e3 : phs I = 3 ↔ ¬ I 1 14 ≤ 0 := by
    unfold phs
    by_cases q1 : I 1 14 ≤ 0
    · rw [if_pos q1]
      refine ⟨fun p => ?_, fun p => absurd q1 p⟩
      by_cases q2 : I 4 1 < I 2 8 ∨ I 2 9 = 1
      · rw [if_pos q2] at p
        by_cases q3 : I 2 6 ≤ I 1 9 ∧ I 2 7 ≤ I 1 9
        · rw [if_pos q3] at p; exact absurd p (by decide)
        · rw [if_neg q3] at p; exact absurd p (by decide)
      · rw [if_neg q2] at p; exact absurd p (by decide)
    · rw [if_neg q1]
      exact ⟨fun _ => q1, fun _ => rfl⟩
  by_cases p3 : phs I = 3
  · rw [if_pos p3]
    exact e28 1 (by rw [if_neg (e3.mp p3)])
  · rw [if_neg p3]
    exact e28 0 (by rw [if_pos (Classical.not_not.mp fun q => p3 (e3.mpr q))])
