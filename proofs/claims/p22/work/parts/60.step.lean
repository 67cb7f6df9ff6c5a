/-! ===== pure: a step of the law ===== -/
theorem up_l (v : Int32) (m : Nat) {c : Int32} (hc : c = nI m) (h0 : 0 < m) (hm : m < 2 ^ 20) (I : HJ) : ∃ r : Nat, r < m ∧ f_L_up v c I = some (nI r, I) := by
  subst hc
  obtain ⟨j, hj, e⟩ := pk_andE v (m := 2147483647) 31 (by decide)
  refine ⟨j % m, Nat.mod_lt _ h0, ?_⟩
  unfold f_L_up
  rw [if_neg (nI_ne0 h0 (by omega)), e, pk_rem hj h0 (by omega)]
theorem nz_1000 {x : Int32} (h : -100 ≤ x ∧ x ≤ 100) : ¬ x + 1000 < 900 ∧ ¬ x + 1000 < 0 := by
  have b := b100 h
  have e3 : (1000 : Int32).toInt = 1000 := by decide
  have e9 : (900 : Int32).toInt = 900 := by decide
  have e0 : (0 : Int32).toInt = 0 := by decide
  have e : (x + 1000).toInt = x.toInt + 1000 := by rw [tI_add (by omega) (by omega), e3]
  constructor
  · rw [Int32.lt_iff_toInt_lt, e, e9]; omega
  · rw [Int32.lt_iff_toInt_lt, e, e0]; omega
theorem no_no {p : Prop} (h : p) : ¬ ¬ p := fun q => q h
theorem st_575 {Io Ip : HI} {B s : Nat} {v : Int32} (G : Inv Io Ip B) (hs : s = 2 ∨ (5 ≤ s ∧ s < 10)) (hr : cS 65 s ≤ v ∧ v ≤ cS 66 s) : ∃ X Y : HI, f_L_isStep_J575 (nI s) v (Io, Ip) = some (1, (X, Y)) ∧ Inv X Y B := by
  unfold f_L_isStep_J575
  rcases set_two (w := v) G (show s < 10 by omega) (fun e => absurd e (by omega)) (fun e => absurd e (by omega)) (fun _ _ => rfl) with ⟨e, he, e1, e2⟩ | ⟨x, x', I', J', hx, hx', hxx, e1, e2, G', e3, -⟩
  · refine ⟨Io, Ip, ?_, G⟩
    rcases he with ⟨rfl, h⟩ | ⟨rfl, h⟩
    · exact absurd hr h
    · rw [e1, bs]
      dsimp only
      rw [e2, bs]
      dsimp only
      rw [if_neg (no_no rfl), if_pos (by decide), if_neg (no_no rfl)]
      rcases (show s = 5 ∨ s = 6 by omega) with rfl | rfl
      · rw [if_pos (show nI 5 = (5 : Int32) from rfl)]
      · rw [if_neg (show ¬ nI 6 = (5 : Int32) by decide), if_neg (no_no (show nI 6 = (6 : Int32) from rfl))]
  · have h := hxx (by omega) (by omega)
    subst h
    refine ⟨I', J', ?_, G'⟩
    rw [e1, bs]
    dsimp only
    rw [e2, bs]
    dsimp only
    rw [if_neg (no_no rfl), if_neg (nz_1000 hx).2, l10, nI_add, ct_s (by omega), bs]
    dsimp only
    rw [e3, if_neg (no_no rfl)]
theorem rg {s x lo hi : Nat} (e1 : cS 65 s = nI lo) (e2 : cS 66 s = nI hi) (hh : hi < 2 ^ 20) (h1 : lo ≤ x) (h2 : x ≤ hi) : cS 65 s ≤ nI x ∧ nI x ≤ cS 66 s := by
  rw [e1, e2]
  exact ⟨nI_le h1 (by omega), nI_le h2 (by omega)⟩
theorem st_474 {Io Ip : HI} {B s : Nat} {v : Int32} (G : Inv Io Ip B) (hs : s = 2 ∨ (5 ≤ s ∧ s < 10)) : ∃ X Y : HI, f_L_isStep_J474 v (nI s) (Io, Ip) = some (1, (X, Y)) ∧ Inv X Y B := by
  unfold f_L_isStep_J474
  rcases (show s = 2 ∨ s = 5 ∨ s = 6 ∨ s = 7 ∨ s = 8 ∨ s = 9 by omega) with rfl | rfl | rfl | rfl | rfl | rfl
  · obtain ⟨r, hr, e⟩ := up_l (v >>> ((3 : Int32) &&& 31)) 20 (c := 20) rfl (by decide) (by decide) (Io, Ip)
    obtain ⟨X, Y, e2, G'⟩ := st_575 (s := 2) (v := nI r) G (by omega) (rg (lo := 0) (hi := 50) rfl rfl (by decide) (by omega) (by omega))
    refine ⟨X, Y, ?_, G'⟩
    rw [if_pos (show nI 2 = (2 : Int32) from rfl), e, bs]
    exact e2
  · obtain ⟨r, hr, e⟩ := up_l (v >>> ((3 : Int32) &&& 31)) 12 (c := 12) rfl (by decide) (by decide) (Io, Ip)
    obtain ⟨X, Y, e2, G'⟩ := st_575 (s := 5) (v := nI (1 + r)) G (by omega) (rg (lo := 1) (hi := 32) rfl rfl (by decide) (by omega) (by omega))
    refine ⟨X, Y, ?_, G'⟩
    rw [if_neg (show ¬ nI 5 = (2 : Int32) by decide), if_pos (show nI 5 = (5 : Int32) from rfl), e, bs]
    dsimp only
    rw [l1, nI_add]
    exact e2
  · obtain ⟨r, hr, e⟩ := up_l (v >>> ((3 : Int32) &&& 31)) 6 (c := 6) rfl (by decide) (by decide) (Io, Ip)
    obtain ⟨X, Y, e2, G'⟩ := st_575 (s := 6) (v := nI r) G (by omega) (rg (lo := 0) (hi := 31) rfl rfl (by decide) (by omega) (by omega))
    refine ⟨X, Y, ?_, G'⟩
    rw [if_neg (show ¬ nI 6 = (2 : Int32) by decide), if_neg (show ¬ nI 6 = (5 : Int32) by decide), if_pos (show nI 6 = (6 : Int32) from rfl), e, bs]
    exact e2
  · obtain ⟨r, hr, e⟩ := up_l (v >>> ((3 : Int32) &&& 31)) 10 (c := 10) rfl (by decide) (by decide) (Io, Ip)
    obtain ⟨X, Y, e2, G'⟩ := st_575 (s := 7) (v := nI r) G (by omega) (rg (lo := 0) (hi := 60) rfl rfl (by decide) (by omega) (by omega))
    refine ⟨X, Y, ?_, G'⟩
    rw [if_neg (show ¬ nI 7 = (2 : Int32) by decide), if_neg (show ¬ nI 7 = (5 : Int32) by decide), if_neg (show ¬ nI 7 = (6 : Int32) by decide), if_pos (show nI 7 = (7 : Int32) from rfl), e, bs]
    exact e2
  · obtain ⟨r, hr, e⟩ := up_l (v >>> ((3 : Int32) &&& 31)) 6 (c := 6) rfl (by decide) (by decide) (Io, Ip)
    obtain ⟨X, Y, e2, G'⟩ := st_575 (s := 8) (v := nI (1 + r)) G (by omega) (rg (lo := 1) (hi := 6) rfl rfl (by decide) (by omega) (by omega))
    refine ⟨X, Y, ?_, G'⟩
    rw [if_neg (show ¬ nI 8 = (2 : Int32) by decide), if_neg (show ¬ nI 8 = (5 : Int32) by decide), if_neg (show ¬ nI 8 = (6 : Int32) by decide), if_neg (show ¬ nI 8 = (7 : Int32) by decide), if_pos (show nI 8 = (8 : Int32) from rfl), e, bs]
    dsimp only
    rw [l1, nI_add]
    exact e2
  · obtain ⟨r, hr, e⟩ := up_l (v >>> ((3 : Int32) &&& 31)) 2 (c := 2) rfl (by decide) (by decide) (Io, Ip)
    obtain ⟨X, Y, e2, G'⟩ := st_575 (s := 9) (v := nI r) G (by omega) (rg (lo := 0) (hi := 1) rfl rfl (by decide) (by omega) (by omega))
    refine ⟨X, Y, ?_, G'⟩
    rw [if_neg (show ¬ nI 9 = (2 : Int32) by decide), if_neg (show ¬ nI 9 = (5 : Int32) by decide), if_neg (show ¬ nI 9 = (6 : Int32) by decide), if_neg (show ¬ nI 9 = (7 : Int32) by decide), if_neg (show ¬ nI 9 = (8 : Int32) by decide), e, bs]
    exact e2
theorem st_403 {Io Ip : HI} {B s : Nat} {v : Int32} (G : Inv Io Ip B) (hs : (s = 0 ∧ (v = 0 ∨ v = 1)) ∨ (s = 1 ∧ -100 ≤ v ∧ v ≤ 100)) : ∃ X Y : HI, f_L_isStep_J403 (nI s) v (Io, Ip) = some (1, (X, Y)) ∧ Inv X Y B := by
  unfold f_L_isStep_J403
  obtain ⟨w, hw0, hw1⟩ : ∃ w : Int32, (s = 0 → w = 1 - v) ∧ (s = 1 → w = -v) := by
    by_cases h : s = 0
    · exact ⟨1 - v, fun _ => rfl, fun e => absurd e (by omega)⟩
    · exact ⟨-v, fun e => absurd e h, fun _ => rfl⟩
  rcases set_two (w := w) G (show s < 10 by omega) (fun e => ⟨hw0 e, hs.elim (fun h => h.2) (fun h => absurd h.1 (by omega))⟩) hw1 (fun h1 h2 => absurd h1 (by omega)) with ⟨e, he, e1, e2⟩ | ⟨x, x', I', J', hx, hx', hxx, e1, e2, G', e3, e4⟩
  · rcases he with ⟨-, h⟩ | ⟨-, h⟩
    · refine absurd ?_ h
      rcases hs with ⟨rfl, hv | hv⟩ | ⟨rfl, hv⟩
      · rw [hv]; decide
      · rw [hv]; decide
      · exact hv
    · exact absurd h (by omega)
  · refine ⟨I', J', ?_, G'⟩
    have key : f_L_isStep_J437 w (nI s) (I', Ip) = some (1, (I', J')) := by
      unfold f_L_isStep_J437
      dsimp only
      rw [e2, bs]
      dsimp only
      rw [if_neg (nz_1000 hx').1, ct_3, bs]
      dsimp only
      rw [e4 (by omega), if_neg (no_no rfl)]
    dsimp only
    rw [e1, bs]
    dsimp only
    rw [if_neg (nz_1000 hx).1]
    rcases (show s = 0 ∨ s = 1 by omega) with rfl | rfl
    · rw [if_pos (show nI 0 = (0 : Int32) from rfl), ← hw0 rfl]
      exact key
    · rw [if_neg (show ¬ nI 1 = (0 : Int32) by decide), ← hw1 rfl]
      exact key
theorem st_99 {Io Ip : HI} {B m : Nat} {v c x : Int32} (G : Inv Io Ip B) (hc : c = nI m) (hm : 1 ≤ m ∧ m ≤ 6) (hv : -100 ≤ v ∧ v ≤ 100) : ∃ X Y : HI, f_L_isStep_J99 (Io 1 3) (Io 1 8) v c x 1 (Io, Ip) = some (1, (X, Y)) ∧ Inv X Y (B + 6) := by
  unfold f_L_isStep_J99
  obtain ⟨r, hr, e⟩ := up_l x m hc (by omega) (by omega) (Io, Ip)
  obtain ⟨S, e3, hS, h⟩ := feed_two (t := 1 + r) G hv (by omega)
  have e1 : (1 : Int32) + nI r = nI (1 + r) := by rw [l1, nI_add]
  rw [e, bs]
  dsimp only
  rw [e1, e3, nI_add]
  rcases h with ⟨hn, f1, f2⟩ | ⟨hn, cc, I', J', hcc, f1, f2, G', g1, g2, g3⟩
  · refine ⟨Io, Ip, ?_, Inv_B (by omega) G⟩
    rw [f1, bs]
    dsimp only
    rw [f2, bs]
    dsimp only
    rw [if_neg (no_no rfl), if_neg (show ¬ nI (S + (1 + r)) ≤ (400 : Int32) from fun q => hn ((nI_leI (b := 400) (by omega) (by decide)).mp q)), if_neg (no_no rfl)]
  · refine ⟨I', J', ?_, G'⟩
    rw [f1, bs]
    dsimp only
    rw [f2, bs]
    dsimp only
    rw [if_neg (no_no rfl), if_pos (show nI (S + (1 + r)) ≤ (400 : Int32) from (nI_leI (b := 400) (by omega) (by decide)).mpr hn), if_neg (nI_pos (by omega)), ct_0, bs]
    dsimp only
    rw [g1, if_neg (no_no rfl), ct_7, bs]
    dsimp only
    rw [g2, if_neg (no_no rfl), l1, pk_sub (by omega), sa_k g1 hn (by omega), bs]
    dsimp only
    rw [g3, if_neg (no_no rfl)]
theorem st_75 {Io Ip : HI} {B : Nat} {v x : Int32} (G : Inv Io Ip B) (hv : -100 ≤ v ∧ v ≤ 100) : ∃ X Y : HI, f_L_isStep_J75 x (Io 1 3) (Io 1 8) v (Io, Ip) = some (1, (X, Y)) ∧ Inv X Y (B + 6) := by
  unfold f_L_isStep_J75
  obtain ⟨r, hr, e⟩ := up_l (x >>> ((8 : Int32) &&& 31)) 2 (c := 2) rfl (by decide) (by decide) (Io, Ip)
  rw [e, bs]
  dsimp only
  by_cases h : nI r = (0 : Int32)
  · rw [if_pos h]
    exact st_99 (m := 1) G rfl (by decide) hv
  · rw [if_neg h]
    exact st_99 (m := 6) G rfl (by decide) hv
theorem sub_b {r k : Nat} (hk : k ≤ 100) (hr : r ≤ 2 * k) : -100 ≤ nI r - nI k ∧ nI r - nI k ≤ 100 := by
  have e : (nI r - nI k).toInt = (r : Int) - k := pk_sub_toInt (by omega) (by omega)
  exact b100' ⟨by omega, by omega⟩
theorem step_ok (v2 : Int32) {Io Ip : HI} {B : Nat} (G : Inv Io Ip B) : ∃ X Y : HI, f_L_isStep v2 (Io, Ip) = some (1, (X, Y)) ∧ Inv X Y (B + 6) := by
  have GB : ∀ {X Y : HI}, Inv X Y B → Inv X Y (B + 6) := fun g => Inv_B (by omega) g
  unfold f_L_isStep
  dsimp only
  rw [ct_1, bs]
  dsimp only
  rw [ct_0, bs]
  dsimp only
  rw [ct_7, bs]
  dsimp only
  obtain ⟨r, hr, e⟩ := up_l v2 18 (c := 18) rfl (by decide) (by decide) (Io, Ip)
  rw [e, bs]
  dsimp only
  generalize v2 >>> ((4 : Int32) &&& 31) = y
  have le : ∀ k : Nat, k < 18 → ((nI k ≤ nI r) ↔ k ≤ r) := fun k hk => nI_leI (by omega) (by omega)
  by_cases c11 : 11 ≤ r
  · rw [if_pos (show (11 : Int32) ≤ nI r from (le 11 (by decide)).mpr c11)]
    by_cases c12 : 12 ≤ r
    · rw [if_pos (show (12 : Int32) ≤ nI r from (le 12 (by decide)).mpr c12)]
      by_cases c13 : 13 ≤ r
      · rw [if_pos (show (13 : Int32) ≤ nI r from (le 13 (by decide)).mpr c13)]
        by_cases c14 : 14 ≤ r
        · rw [if_pos (show (14 : Int32) ≤ nI r from (le 14 (by decide)).mpr c14)]
          obtain ⟨k, hk, e2⟩ := up_l y 8 (c := 8) rfl (by decide) (by decide) (Io, Ip)
          rw [e2, bs]
          dsimp only
          by_cases k2 : 2 ≤ k
          · rw [if_pos (show (2 : Int32) ≤ nI k from (nI_leI (a := 2) (by decide) (by omega)).mpr k2)]
            by_cases k3 : k = 2
            · subst k3
              rw [if_pos (show nI 2 = (2 : Int32) from rfl)]
              obtain ⟨X, Y, e3, G'⟩ := st_474 (s := 2) (v := y) G (by omega)
              exact ⟨X, Y, e3, GB G'⟩
            · rw [if_neg (show ¬ nI k = (2 : Int32) from nI_ne (b := 2) (by omega) (by decide) k3), l2, nI_add]
              obtain ⟨X, Y, e3, G'⟩ := st_474 (s := k + 2) (v := y) G (by omega)
              exact ⟨X, Y, e3, GB G'⟩
          · rw [if_neg (show ¬ (2 : Int32) ≤ nI k from fun q => k2 ((nI_leI (a := 2) (by decide) (by omega)).mp q))]
            rcases (show k = 0 ∨ k = 1 by omega) with rfl | rfl
            · rw [if_pos (show nI 0 = (0 : Int32) from rfl)]
              obtain ⟨j, hj, e3⟩ := up_l (y >>> ((3 : Int32) &&& 31)) 2 (c := 2) rfl (by decide) (by decide) (Io, Ip)
              obtain ⟨X, Y, e4, G'⟩ := st_403 (s := 0) (v := nI j) G (Or.inl ⟨rfl, by
                rcases (show j = 0 ∨ j = 1 by omega) with rfl | rfl
                · exact Or.inl rfl
                · exact Or.inr rfl⟩)
              rw [e3, bs]
              exact ⟨X, Y, e4, GB G'⟩
            · rw [if_neg (show ¬ nI 1 = (0 : Int32) by decide)]
              obtain ⟨j, hj, e3⟩ := up_l (y >>> ((3 : Int32) &&& 31)) 31 (c := 31) rfl (by decide) (by decide) (Io, Ip)
              obtain ⟨X, Y, e4, G'⟩ := st_403 (s := 1) (v := nI j - nI 15) G (Or.inr ⟨rfl, sub_b (by decide) (by omega)⟩)
              rw [e3, bs]
              exact ⟨X, Y, e4, GB G'⟩
        · rw [if_neg (show ¬ (14 : Int32) ≤ nI r from fun q => c14 ((le 14 (by decide)).mp q)), ct_21, bs]
          dsimp only
          obtain ⟨h, hh, e6, hu⟩ := undo_two G
          rw [e6]
          by_cases h3 : h < 3
          · rw [if_pos (show nI h < (3 : Int32) from (nI_ltI (b := 3) (by omega) (by decide)).mpr h3)]
            exact ⟨Io, Ip, rfl, GB G⟩
          · rw [if_neg (show ¬ nI h < (3 : Int32) from fun q => h3 ((nI_ltI (b := 3) (by omega) (by decide)).mp q))]
            obtain ⟨I', J', u1, u2, G'⟩ := hu (by omega)
            refine ⟨I', J', ?_, GB G'⟩
            rw [u1, bs]
            dsimp only
            rw [u2, bs]
            dsimp only
            rw [if_neg (no_no rfl)]
      · rw [if_neg (show ¬ (13 : Int32) ≤ nI r from fun q => c13 ((le 13 (by decide)).mp q))]
        obtain ⟨k, hk, e2⟩ := up_l y 4 (c := 4) rfl (by decide) (by decide) (Io, Ip)
        rw [e2, bs]
        dsimp only
        by_cases k0 : (0 : Int32) < nI k
        · rw [if_pos k0]
          exact ⟨Io, Ip, rfl, GB G⟩
        · rw [if_neg k0]
          obtain ⟨x, I', J', u1, u2, G', u3, u4, u5⟩ := clear_two G
          refine ⟨I', J', ?_, GB G'⟩
          rw [u1, bs]
          dsimp only
          rw [u2, bs]
          dsimp only
          rw [if_neg (no_no rfl), ct_0, bs]
          dsimp only
          rw [u3, if_neg (no_no rfl), ct_1, bs]
          dsimp only
          rw [u4, if_neg (no_no rfl), ct_7, bs]
          dsimp only
          rw [u5, if_neg (no_no rfl)]
    · rw [if_neg (show ¬ (12 : Int32) ≤ nI r from fun q => c12 ((le 12 (by decide)).mp q))]
      obtain ⟨n, h4, hn, -⟩ := drop_two (j := 0) G
      rw [h4, nI_1]
      obtain ⟨j, hj, e2⟩ := up_l y (n + 1) (c := nI (n + 1)) rfl (by omega) (by omega) (Io, Ip)
      obtain ⟨n', h4', hn', d1, d2⟩ := drop_two (j := j) G
      have en : n' = n := (nI_eq (by omega) (by omega)).mp (h4'.symm.trans h4)
      subst en
      rw [e2, bs]
      dsimp only
      by_cases hjn : j = n'
      · subst hjn
        obtain ⟨u1, u2⟩ := d1 ⟨by omega, by omega⟩
        refine ⟨Io, Ip, ?_, GB G⟩
        rw [u1, bs]
        dsimp only
        rw [u2, bs]
        dsimp only
        rw [if_neg (no_no rfl), if_pos rfl, if_neg (no_no rfl)]
      · obtain ⟨I', J', u1, u2, G'⟩ := d2 (by omega)
        refine ⟨I', J', ?_, GB G'⟩
        rw [u1, bs]
        dsimp only
        rw [u2, bs]
        dsimp only
        rw [if_neg (no_no rfl), if_neg (nI_ne (by omega) (by omega) hjn), l1, pk_sub (by omega), if_neg (no_no rfl)]
  · rw [if_neg (show ¬ (11 : Int32) ≤ nI r from fun q => c11 ((le 11 (by decide)).mp q))]
    obtain ⟨k, hk, e2⟩ := up_l y 3 (c := 3) rfl (by decide) (by decide) (Io, Ip)
    rw [e2, bs]
    dsimp only
    by_cases k0 : nI k = (0 : Int32)
    · rw [if_pos k0]
      obtain ⟨j, hj, e3⟩ := up_l (y >>> ((2 : Int32) &&& 31)) 201 (c := 201) rfl (by decide) (by decide) (Io, Ip)
      rw [e3, bs]
      exact st_75 (v := nI j - nI 100) G (sub_b (by decide) (by omega))
    · rw [if_neg k0]
      obtain ⟨j, hj, e3⟩ := up_l (y >>> ((2 : Int32) &&& 31)) 61 (c := 61) rfl (by decide) (by decide) (Io, Ip)
      rw [e3, bs]
      exact st_75 (v := nI j - nI 30) G (sub_b (by decide) (by omega))
