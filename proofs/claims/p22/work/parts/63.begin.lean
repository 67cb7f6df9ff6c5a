/-! ===== pure: how the law begins ===== -/
def a00 : Row := fun k => if k < 10 then cS 64 k else 0
theorem z_T : ∀ k, k < 10 → I57 2 k = a00 k := by decide +kernel
theorem z_F : ∀ k, k < 7 → I57 1 (3 + k) = a00 (10 + k) := by decide +kernel
theorem z_o : I57 4 1 = 0 ∧ I57 1 14 = 0 ∧ I57 6 2 = nI 0 ∧ I57 6 1 = nI 0 := by decide +kernel
set_option maxRecDepth 1000000 in
theorem z_65 : I57 65 = cS 65 := rfl
set_option maxRecDepth 1000000 in
theorem z_66 : I57 66 = cS 66 := rfl
theorem z_a : a00 10 = nI 0 ∧ a00 22 = nI 0 ∧ a00 8 = nI 4 ∧ a00 16 = nI 0 ∧ a00 5 = nI 8 ∧ a00 6 = nI 2 ∧ a00 0 = 0 ∧ a00 11 = 0 ∧ a00 9 = 0 ∧ a00 17 = 0 := by decide +kernel
theorem z_l : (-100 ≤ a00 3 ∧ a00 3 < a00 4 ∧ a00 4 ≤ 100) ∧ ∀ k, k < 10 → -100 ≤ a00 k ∧ a00 k ≤ 100 := by decide +kernel
theorem R00 : RX a00 0 0 0 4 8 2 := by
  obtain ⟨a1, a2, a3, a4, a5, a6, a7, a8, a9, a10⟩ := z_a
  exact ⟨⟨a1, by omega, a2, by omega, a3, by omega, by omega, a4, by omega, a5, a6, by omega, by omega⟩, ⟨Or.inl a7, Or.inl a8, Or.inl a9, Or.inl a10⟩, fun j hj => absurd hj (by omega), fun q => absurd (a10.symm.trans q) (by decide), fun k hk => absurd hk (by omega), z_l⟩
theorem M00 : MR (I57 1) (I57 2) (I57 3) (I57 4) (I57 5) a00 0 0 := by
  have h17 := z_a.2.2.2.2.2.2.2.2.2
  exact ⟨z_T, z_F, z_o.1.trans z_a.2.1.symm, fun k hk => absurd hk (by omega), fun k hk => absurd hk (by omega), fun q => absurd (h17.symm.trans q) (by decide), fun _ => z_o.2.1⟩
/-- set(), of one object that is new -/
theorem set_00 {s : Nat} {v : Int32} (hs : s < 10) (h8 : s ≠ 8) (c : okS a00 s v = 0) : ∃ (I' : HI) (K D P : Nat), f_X5_set (nI s) v I57 = some (a00 s + 1000, I') ∧ MR (I' 1) (I' 2) (I' 3) (I' 4) (I' 5) (rSet a00 s v) 0 0 ∧ RX (rSet a00 s v) 0 0 0 K D P ∧ (I' 6 2 = nI 1 ∧ I' 6 1 = nI 1) ∧ I' 65 = cS 65 ∧ I' 66 = cS 66 := by
  have er := er_eq (J := I57) (v := v) R00 M00 z_65 z_66 hs
  rw [sM_self, c] at er
  obtain ⟨J, e, o, q, e2, e1⟩ := rec_eq (I := I57) (h := 0) (nx := 0) z_o.2.2.1 z_o.2.2.2 (by decide) (by decide)
  have M := M00
  rw [← o 1 (by decide) (by decide), ← o 2 (by decide) (by decide), ← o 3 (by decide) (by decide), ← o 4 (by decide) (by decide), ← o 5 (by decide) (by decide)] at M
  obtain ⟨K', D', Q', e8, q2, q8, q9, R1⟩ := RX_set R00 hs c
  have g1 := cs8_eq (F := J 1) (T := J 2) (P := J 3) (G := J 4) (N := J 5) (J := J) (v := v) hs (by rw [M.2.2.1]; exact R00.1.2.2.1) (by decide) q8 q9 q2
  have m1 := MR_set (v := v) R00 M hs e8 (fun _ => Or.inr trivial)
  rw [sM_self, M.1 s hs] at g1
  rw [Nat.zero_sub] at R1 m1 g1
  refine ⟨sM J (fSet (J 1) s) (upd (J 2) s v) (J 3) (if 0 ≤ K' then J 4 else upd (J 4) 1 (nI K')) (nCuts (J 5) 0 0), K', D', Q', ?_, ?_, R1, ⟨?_, ?_⟩, ?_, ?_⟩
  · unfold f_X5_set
    rw [er, bs, if_pos rfl]
    dsimp only
    rw [e, bs]
    dsimp only
    rw [g1, bs]
  · exact m1
  · rw [sM_n (by decide)]; exact e2
  · rw [sM_n (by decide)]; exact e1
  · rw [sM_n (by decide), o 65 (by decide) (by decide)]; exact z_65
  · rw [sM_n (by decide), o 66 (by decide) (by decide)]; exact z_66
theorem z_m : (∀ k, k < 10 → rSet a00 0 1 k = mir (rSet a00 9 0) k) ∧ (∀ k, k < 7 → rSet a00 0 1 (10 + k) = mir (rSet a00 9 0) (10 + k)) ∧ rSet a00 0 1 22 = mir (rSet a00 9 0) 22 ∧ rSet a00 0 1 17 = 0 ∧ mir (rSet a00 9 0) 17 = 0 := by decide +kernel
theorem z_w : rSet a00 9 0 0 = 0 ∧ 0 ≤ rSet a00 9 0 2 ∧ rSet a00 9 0 12 = nI 0 ∧ rSet a00 9 0 13 = nI 0 ∧ rSet a00 9 0 14 = nI 0 ∧ rSet a00 9 0 15 = nI 0 ∧ rSet a00 9 0 11 = 0 ∧ rSet a00 9 0 17 = 0 := by decide +kernel
theorem z_c : okS a00 9 0 = 0 ∧ okS a00 0 1 = 0 ∧ a00 9 + 1000 = 1000 ∧ a00 0 + 1000 = 1000 := by decide +kernel
theorem begin_ok : ∃ X Y : HI, f_X5_set 0 1 I57 = some (1000, Y) ∧ f_X5_set 9 0 I57 = some (1000, X) ∧ Inv X Y 0 := by
  obtain ⟨Y, K, D, P, f1, m1, -, ⟨h1, h2⟩, h3, h4⟩ := set_00 (s := 0) (v := 1) (by decide) (by decide) z_c.2.1
  obtain ⟨X, K', D', P', f2, m2, R2, ⟨g1, g2⟩, g3, g4⟩ := set_00 (s := 9) (v := 0) (by decide) (by decide) z_c.1
  rw [z_c.2.2.2] at f1
  rw [z_c.2.2.1] at f2
  obtain ⟨t1, t2, t3, t4, t5⟩ := z_m
  obtain ⟨w1, w2, w3, w4, w5, w6, w7, w8⟩ := z_w
  refine ⟨X, Y, f1, f2, ⟨rSet a00 9 0, 0, 0, 0, K', D', P', R2, ?_, m2, ?_⟩, ⟨1, 1, by decide, by decide, ⟨g1, g2⟩, ⟨h1, h2⟩, fun j a b => absurd b (by omega)⟩, ⟨g3, g4⟩, ⟨h3, h4⟩⟩
  · exact ⟨Or.inl w1, w2, ⟨0, 0, 0, w3, w4, w5, w6, Nat.le_refl _, Nat.le_refl _, fun q => absurd (w8.symm.trans q) (by decide), Nat.le_refl _, Nat.le_refl _⟩, fun q => absurd (w7.symm.trans q) (by decide), fun j hj => absurd hj (by omega), fun i j _ hj => absurd hj (by omega), fun q => absurd (w8.symm.trans q) (by decide)⟩
  · exact ⟨fun k hk => (m1.1 k hk).trans (t1 k hk), fun k hk => (m1.2.1 k hk).trans (t2 k hk), m1.2.2.1.trans t3, fun k hk => absurd hk (by omega), fun k hk => absurd hk (by omega), fun q => absurd (t5.symm.trans q) (by decide), fun _ => m1.2.2.2.2.2.2 t4⟩
/-! ===== pure: the law ===== -/
theorem cell_ok {L i : Nat} {xs : Nat → Int32} (hL : L ≤ 260) (hi : i ≤ 60) : ∃ c : Int32, f_L_cell L xs (nI i) = some c := by
  unfold f_L_cell
  by_cases h : Int32.ofNat L ≤ nI i
  · exact ⟨_, if_pos h⟩
  · have hl : i < L := by
      refine Nat.lt_of_not_le fun q => h ?_
      exact nI_le q (by omega)
    exact ⟨_, by rw [if_neg h, if_neg (ib hl (by omega))]⟩
theorem law_run {L : Nat} {xs : Nat → Int32} (hL : L ≤ 260) : ∀ (k f i : Nat) (X Y : HI), 60 - i = k → i ≤ 60 → k < f → Inv X Y (6 * i) → ∃ r : Int32 × HJ, f_L_law_L50 L xs f 1 (nI i) (X, Y) = some r := by
  intro k
  induction k with
  | zero =>
    intro f i X Y hk hi hf G
    obtain ⟨f, rfl⟩ : ∃ f', f = f' + 1 := ⟨f - 1, by omega⟩
    obtain rfl : i = 60 := by omega
    obtain ⟨c, hc⟩ := cell_ok (xs := xs) hL (Nat.le_refl 60)
    obtain ⟨r, hr, er⟩ := up_l c 61 (c := 61) rfl (by decide) (by decide) (X, Y)
    have ea := alike_ok (v := nI r - nI 30) G (sub_b (by decide) (by omega))
    refine ⟨(1, (X, Y)), ?_⟩
    · show f_L_law_L50_b _ _ _ _ _ _ = _
      unfold f_L_law_L50_b
      rw [if_pos (show (60 : Int32) ≤ nI 60 by decide), if_neg n10, well_ok G (by omega), bs]
      dsimp only
      rw [if_neg n10, show f_L_cell L xs (60 : Int32) = some c from hc, bs]
      rw [er, bs]
      dsimp only
      rw [show (30 : Int32) = nI 30 from rfl, ea, bs]
      dsimp only
      rw [if_neg n10]
  | succ k ih =>
    intro f i X Y hk hi hf G
    obtain ⟨f, rfl⟩ : ∃ f', f = f' + 1 := ⟨f - 1, by omega⟩
    obtain ⟨c, hc⟩ := cell_ok (xs := xs) hL hi
    obtain ⟨X', Y', es, G'⟩ := step_ok c G
    obtain ⟨r, er⟩ := ih f (i + 1) X' Y' (by omega) (by omega) (by omega) (by rw [show 6 * (i + 1) = 6 * i + 6 by omega]; exact G')
    refine ⟨r, ?_⟩
    show f_L_law_L50_b _ _ _ _ _ _ = _
    unfold f_L_law_L50_b
    rw [if_neg (show ¬ (60 : Int32) ≤ nI i from nI_ge (b := 60) (by omega) (by decide)), if_neg n10, hc, bs]
    rw [es, bs]
    dsimp only
    rw [if_neg n10, nI_1]
    by_cases h : (0 : Int32) < nI i - nI i / 4 * 4
    · rw [if_pos h]
      exact er
    · rw [if_neg h, well_ok G' (by omega), bs]
      dsimp only
      rw [if_neg n10]
      exact er
theorem law_pure (L : Nat) (xs : Nat → Int32) (hL : L ≤ 260) : ∃ r : Int32 × HJ, f_L_law L xs (I57, I57) = some r := by
  obtain ⟨X, Y, e1, e2, G⟩ := begin_ok
  obtain ⟨r, er⟩ := law_run (xs := xs) hL 60 4000 0 X Y (by omega) (by omega) (by omega) G
  refine ⟨r, ?_⟩
  unfold f_L_law
  dsimp only
  rw [e1, bs]
  dsimp only
  rw [if_neg (no_no rfl), e2, bs]
  dsimp only
  rw [if_neg (no_no rfl)]
  exact er
