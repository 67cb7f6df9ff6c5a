/-! ===== pure: the law's look at both objects ===== -/
theorem cc_m (x c : Int32) : c - (-x + c) = x := by
  rw [Int32.sub_eq_add_neg, Int32.neg_add, Int32.neg_neg, Int32.add_comm, Int32.sub_add_cancel]
theorem seg_2 {I J : HI} {a : Row} {S n Z K D Q B j : Nat} (R : RX a S n Z K D Q) (W : Wll a S n Z B) (M : MR (I 1) (I 2) (I 3) (I 4) (I 5) a S n) (M' : MR (J 1) (J 2) (J 3) (J 4) (J 5) (mir a) S n) (hj : j < n) : ∃ t d p b : Nat, SGc I j t d p b S ∧ SGc J j t d p b S ∧ I 5 (4 * j + 3) = 1 - J 5 (4 * j + 3) := by
  have hn : n ≤ 6 := Nat.le_trans R.1.2.2.2.1 R.1.2.2.2.2.2.2.1
  obtain ⟨t, d, p, b, sg, f1, f2, f3⟩ := seg_of R M hj
  obtain ⟨t', d', p', b', sg', g1, g2, g3⟩ := seg_of (RX_m R W.1) M' hj
  have z := sg.2.2.1
  have z' := sg'.2.2.1
  rw [mir_o (by omega)] at g1 g2 g3
  have et : t' = t := (nI_eq (by omega) (by omega)).mp (g1.symm.trans f1)
  have ed : d' = d := (nI_eq (by omega) (by omega)).mp (g2.symm.trans f2)
  have ep : p' = p := (nI_eq (by omega) (by omega)).mp (g3.symm.trans f3)
  subst et; subst ed; subst ep
  have eb : b' = b := by omega
  subst eb
  refine ⟨t', d', p', b', sg, sg', ?_⟩
  have e4 : I 5 (4 * j + 3) = a (23 + (4 * j + 3)) := M.2.2.2.1 (4 * j + 3) (by omega)
  have e4' : J 5 (4 * j + 3) = mir a (23 + (4 * j + 3)) := M'.2.2.2.1 (4 * j + 3) (by omega)
  obtain ⟨_, _, _, _, _, _, _, _, _, _, w⟩ := W.2.2.2.2.1 j hj
  have w2 := w.2.1
  rw [e4, e4', mir_c (by omega)]
  rw [show 23 + 4 * j + 3 = 23 + (4 * j + 3) by omega] at w2
  rcases w2 with h | h
  · rw [h]; decide
  · rw [h]; decide
theorem al_269 {I J : HI} {kk : Int32 → Int32 → HJ → Option (Int32 × HJ)} {n k : Nat} {F : Nat → Int32} (hn : n ≤ 6) (hF : ∀ i, i < n → f_X5_unlike (nI k) (nI i) I = some (F i, I)) (hF' : ∀ i, i < n → f_X5_unlike (nI k) (nI i) J = some (F i, J)) : f_L_areAlike_L269 kk (nI n) (nI k) 4000 1 0 (I, J) = kk 1 (nI (k + 1)) (I, J) :=
  lp (fun f (x : Unit) i => f_L_areAlike_L269 kk (nI n) (nI k) f 1 (nI i) (I, J)) (fun x _ => x) n (fun _ => kk 1 (nI (k + 1)) (I, J)) (fun f i x hi => by
    show f_L_areAlike_L269_b _ _ _ _ _ _ _ = _
    unfold f_L_areAlike_L269_b
    rw [if_neg (nI_ge hi (by omega)), if_neg n10]
    dsimp only
    rw [hF i hi, bs]
    dsimp only
    rw [hF' i hi, bs]
    dsimp only
    rw [if_neg (no_no rfl), nI_1]) (fun f x => by
    show f_L_areAlike_L269_b _ _ _ _ _ _ _ = _
    unfold f_L_areAlike_L269_b
    rw [if_pos (nI_le (Nat.le_refl _) (by omega)), nI_1]) n 4000 0 () rfl (by omega) (by omega)
theorem alike_ok {I J : HI} {B : Nat} {v : Int32} (G : Inv I J B) (hv : -100 ≤ v ∧ v ≤ 100) : f_L_areAlike v (I, J) = some (1, (I, J)) := by
  obtain ⟨a, S, n, Z, K, D, Q, R, W, M, M'⟩ := M2_to G.1
  have R' := RX_m R W.1
  have hk := W.1
  have hk' := k1 hk
  have hn : n ≤ 6 := Nat.le_trans R.1.2.2.2.1 R.1.2.2.2.2.2.2.1
  have h4 : I 4 1 = nI n := M.2.2.1.trans R.1.2.2.1
  have h4' : J 4 1 = nI n := M'.2.2.1.trans R'.1.2.2.1
  have hh := R.2.2.2.2.2.2 2 (by decide)
  have hs := R.2.2.2.2.1
  have sm : ∀ k, k < S → -100 ≤ I 3 k ∧ I 3 k ≤ 100 := fun k hk => by rw [M.2.2.2.2.1 k hk]; exact hs k hk
  have sn : ∀ k, k < S → J 3 k = -(I 3 k) := fun k hk => by rw [M.2.2.2.2.1 k hk, M'.2.2.2.2.1 k hk, mir_g (by omega)]
  have e86 : f_L_areAlike_L86 (nI n) 4000 1 0 (I, J) = some (1, (I, J)) :=
    lp (fun f (x : Unit) i => f_L_areAlike_L86 (nI n) f 1 (nI i) (I, J)) (fun x _ => x) n (fun _ => some (1, (I, J))) (fun f k x hkn => by
      show f_L_areAlike_L86_b _ _ _ _ _ = _
      obtain ⟨t, d, p, b, sg, sg', ek⟩ := seg_2 R W M M' hkn
      have z := sg.2.2.1
      obtain ⟨m1, -⟩ := le_gr (show 1 ≤ d by omega) z.2.2.2.1 sm sn
      obtain ⟨m2, -⟩ := gr_le (show 1 ≤ d by omega) z.2.2.2.1 sm sn
      have m3 := su_m (d := d) z.2.2.2.1 sn
      have hE : ∀ i, ∃ y : Int32, i < n → (f_X1_differenceOf (nI k) (nI i) I = some (y, I) ∧ f_X1_differenceOf (nI k) (nI i) J = some (y, J)) ∧ (f_X5_unlike (nI k) (nI i) I = some (y, I) ∧ f_X5_unlike (nI k) (nI i) J = some (y, J)) := by
        intro i
        by_cases hi : i < n
        · obtain ⟨t2, d2, p2, b2, sg2, sg2', -⟩ := seg_2 R W M M' hi
          have z2 := sg2.2.2.1
          have em := di_m (b1 := b) (p1 := p) (d1 := d) (b2 := b2) (p2 := p2) (d2 := d2) ⟨z.2.1, z.2.2.2.1⟩ ⟨z2.2.1, z2.2.2.2.1⟩ sm sn
          exact ⟨vDi I b p d b2 p2 d2, fun _ => ⟨⟨diff_eq sg sg2, by rw [← em]; exact diff_eq sg' sg2'⟩, ⟨un_eq h4 hn hkn hi sg sg2, by rw [← em]; exact un_eq h4' hn hkn hi sg' sg2'⟩⟩⟩
        · exact ⟨0, fun h => absurd h hi⟩
      obtain ⟨F, hF⟩ : ∃ F : Nat → Int32, ∀ i, i < n → (f_X1_differenceOf (nI k) (nI i) I = some (F i, I) ∧ f_X1_differenceOf (nI k) (nI i) J = some (F i, J)) ∧ (f_X5_unlike (nI k) (nI i) I = some (F i, I) ∧ f_X5_unlike (nI k) (nI i) J = some (F i, J)) := ⟨fun i => Classical.choose (hE i), fun i => Classical.choose_spec (hE i)⟩
      have n0 : ∀ {H : HI}, H 4 1 = nI n → SGc H k t d p b S → f_X5_segment (nI k) (0 : Int32) H = some (nI t, H) ∧ f_X5_segment (nI k) (1 : Int32) H = some (nI d, H) ∧ f_X5_segment (nI k) (2 : Int32) H = some (nI p, H) ∧ f_X5_segment (nI k) (3 : Int32) H = some (H 5 (4 * k + 3), H) := fun {H} h s => by
        refine ⟨?_, ?_, ?_, ?_⟩
        · rw [l0, sg_n h hn hkn (by decide), show 4 * k + 0 = 4 * k by omega, s.2.1.1]
        · rw [l1, sg_n h hn hkn (by decide), s.2.1.2.1]
        · rw [l2, sg_n h hn hkn (by decide), s.2.1.2.2]
        · rw [l3, sg_n h hn hkn (by decide)]
      obtain ⟨o0, o1, o2, o3⟩ := n0 h4 sg
      obtain ⟨p0, p1, p2, p3⟩ := n0 h4' sg'
      unfold f_L_areAlike_L86_b
      rw [if_neg (nI_ge hkn (by omega)), if_neg n10]
      dsimp only
      rw [o0, bs]
      dsimp only
      rw [p0, bs]
      dsimp only
      rw [if_neg (no_no rfl), o1, bs]
      dsimp only
      rw [p1, bs]
      dsimp only
      rw [if_neg (no_no rfl), o2, bs]
      dsimp only
      rw [p2, bs]
      dsimp only
      rw [if_neg (no_no rfl), o3, bs]
      dsimp only
      rw [p3, bs]
      dsimp only
      rw [if_neg (no_no ek), sg_4 h4 hn hkn sg, bs]
      dsimp only
      rw [sg_5 h4' hn hkn sg', bs]
      dsimp only
      rw [if_neg (no_no (by rw [m2, Int32.add_sub_cancel, cc_m])), sg_5 h4 hn hkn sg, bs]
      dsimp only
      rw [sg_4 h4' hn hkn sg', bs]
      dsimp only
      rw [if_neg (no_no (by rw [m1, Int32.add_sub_cancel, cc_m])), sg_6 h4 hn hkn sg, bs]
      dsimp only
      rw [sg_6 h4' hn hkn sg', bs]
      dsimp only
      rw [if_neg (no_no (by rw [m3, Int32.add_sub_cancel, cc_m])), near_eq h4 hn hkn (fun i hi => (hF i hi).1.1), bs]
      dsimp only
      rw [near_eq h4' hn hkn (fun i hi => (hF i hi).1.2), bs]
      dsimp only
      rw [if_neg (no_no rfl), al_269 hn (fun i hi => (hF i hi).2.1) (fun i hi => (hF i hi).2.2)]) (fun f x => by
      show f_L_areAlike_L86_b _ _ _ _ _ = _
      unfold f_L_areAlike_L86_b
      rw [if_pos (nI_le (Nat.le_refl _) (by omega)), if_pos (Or.inr rfl)]) n 4000 0 () rfl (by omega) (by omega)
  have e43 : f_L_areAlike_L43 (nI n) 4000 1 0 (I, J) = f_L_areAlike_L86 (nI n) 4000 1 0 (I, J) :=
    lp (fun f (x : Unit) i => f_L_areAlike_L43 (nI n) f 1 (nI i) (I, J)) (fun x _ => x) 10 (fun _ => f_L_areAlike_L86 (nI n) 4000 1 0 (I, J)) (fun f i x hi => by
      show f_L_areAlike_L43_b _ _ _ _ _ = _
      obtain ⟨r, e1, e2⟩ := count_two G hi
      unfold f_L_areAlike_L43_b
      rw [if_neg (show ¬ (10 : Int32) ≤ nI i from nI_ge (b := 10) hi (by decide)), if_neg n10]
      dsimp only
      rw [e1, bs]
      dsimp only
      rw [e2, bs]
      dsimp only
      rw [if_neg (no_no rfl), nI_1]) (fun f x => by
      show f_L_areAlike_L43_b _ _ _ _ _ = _
      unfold f_L_areAlike_L43_b
      rw [if_pos (show (10 : Int32) ≤ nI 10 by decide)]) 10 4000 0 () rfl (by omega) (by omega)
  obtain ⟨y, b1, b2⟩ : ∃ y : Int32, f_X5_bestLevel 1 I = some (y, I) ∧ f_X5_bestLevel 1 J = some (y, J) := ⟨_, best_eq R M hk, by rw [best_eq R' M' (by rw [mir_c (by omega)]; exact hk'), best_m hk hh hs]⟩
  unfold f_L_areAlike
  dsimp only
  rw [ct_1, bs]
  dsimp only
  rw [fires_eq R M hk hv, bs]
  dsimp only
  rw [fires_eq R' M' (by rw [mir_c (by omega)]; exact hk') (ng hv), bs]
  dsimp only
  rw [cF_m hk hh hs hv, if_neg (no_no rfl), b1, bs]
  dsimp only
  rw [b2, bs]
  dsimp only
  rw [if_neg (no_no rfl), h4]
  exact e43.trans e86
