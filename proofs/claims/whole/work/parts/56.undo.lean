/-! ===== pure: undo, save, restore ===== -/
theorem un_eq {I : HI} {h : Nat} (h3 : I 57 3 = nI h) (hh : h < 6) : ∃ w : Row, f_X6_undo_L22 4000 0 I = some (nI h, upR I 58 w) ∧ ∀ k, k < 447 → w k = I 60 (447 * h + k) := by
  have h' := cp_loop (c := 58) (d := 0) (N := 447) (I := I) (s := fun j => I 60 (447 * h + j)) (E := fun g => some (nI h, upR I 58 g)) f_X6_undo_L22 (fun f j g hj => by
    show f_X6_undo_L22_b _ _ _ = _
    unfold f_X6_undo_L22_b
    simp only [upR_n' (show 57 ≠ 58 by decide), upR_n' (show 60 ≠ 58 by decide), h3]
    rw [l447, pk_mul, nI_add, if_neg (nI_ge hj (by decide)), if_neg (ib (by omega) (by decide)), if_neg (ib hj (by decide)), nc (by omega), nc (by omega), nI_1]
    simp only [upR_upI, Nat.zero_add]) (fun f g => by
    show f_X6_undo_L22_b _ _ _ = _
    unfold f_X6_undo_L22_b
    simp only [upR_n' (show 57 ≠ 58 by decide), h3]
    rw [l447, if_pos (nI_le (Nat.le_refl _) (by decide))]) 447 4000 0 (I 58) rfl (by decide) (by decide)
  rw [upR_self] at h'
  refine ⟨_, h', fun k hk => ?_⟩
  simp [hk]
theorem ME_1 {I J : HI} {m : Nat} {a b : Row} (q : EqM I m J 1) (M : ME I m a) {Z : HI} (hZ : ∀ c, 0 < c → c < 6 → Z c = J c) (hb : ∀ k, k < 447 → b k = a k) : ME Z 1 b := ME_c (fun c x y => hZ c (by omega) (by omega)) hb (ME_m q M)
theorem undo_law {I : HI} (G : Good I) : Ok f_X5_undo f_X6_undo I := by
  obtain ⟨g1, ⟨h, nx, hh, hx, d3, d2, d1, GM⟩, g3, g4, g5⟩ := id G
  unfold Ok f_X5_undo f_X6_undo
  by_cases h0 : h = 0
  · subst h0
    refine ⟨-5, I, I, ?_, ?_, G⟩
    · rw [d2, if_pos (show nI 0 = 0 from rfl)]
    · rw [d3, if_pos (show nI 0 = 0 from rfl)]
  · have nz : ¬ nI h = 0 := nI_ne0 (by omega) (by omega)
    obtain ⟨p, hp, ep⟩ : ∃ p : Nat, p < 6 ∧ p = (nx + 5) % 6 := ⟨_, by omega, rfl⟩
    obtain ⟨J, eJ, o, q⟩ := to_eq (I := I) MB_1 (MB_h p hp) (by omega)
    have o6 : J 6 = I 6 := o 6 (by omega)
    have o57 : J 57 = I 57 := o 57 (by omega)
    have eB : f_X0_bringBack I = some (0, upI (upI J 6 1 (nI p)) 6 2 (nI (h - 1))) := by
      have key : f_X0_bringBack_J17 (nI p) I = some (0, upI (upI J 6 1 (nI p)) 6 2 (nI (h - 1))) := by
        unfold f_X0_bringBack_J17
        rw [mm_h p hp, bs]
        dsimp only
        rw [if_neg (by rw [d2]; exact nI_nle (by omega) (by omega)), eJ, bs]
        simp only [upI_s, o6]
        rw [upd_n (show 2 ≠ 1 by decide), d2, l1, pk_sub (by omega)]
      unfold f_X0_bringBack
      by_cases hn0 : nx = 0
      · rw [d1, if_pos (by rw [hn0]; rfl), show (5 : Int32) = nI p by rw [ep, hn0]; rfl]
        exact key
      · rw [d1, if_neg (nI_ne0 (by omega) (by omega)), l1, pk_sub (by omega), show nx - 1 = p by omega]
        exact key
    obtain ⟨w, ew, hw⟩ := un_eq (I := upI (upI (upI J 6 1 (nI p)) 6 2 (nI (h - 1))) 57 3 (nI (h - 1))) (h := h - 1) (by rw [upI_s, upd_s]) (by omega)
    refine ⟨nI (h - 1), upI (upI J 6 1 (nI p)) 6 2 (nI (h - 1)), upR (upI (upI (upI J 6 1 (nI p)) 6 2 (nI (h - 1))) 57 3 (nI (h - 1))) 58 w, ?_, ?_, ?_⟩
    · rw [d2, if_neg nz, eB, bs]
      dsimp only
      rw [upI_s, upd_s]
    · rw [upI_n (show 57 ≠ 6 by decide), upI_n (show 57 ≠ 6 by decide), o57, d3, if_neg nz, l1, pk_sub (by omega)]
      exact ew
    · have z : ∀ c, c ≠ 6 → c ≠ 57 → c ≠ 58 → upR (upI (upI (upI J 6 1 (nI p)) 6 2 (nI (h - 1))) 57 3 (nI (h - 1))) 58 w c = J c := fun c h1 h2 h3 => by rw [upR_n' h3, upI_n h2, upI_n h1, upI_n h1]
      have z7 : ∀ k, k ≠ 3 → upR (upI (upI (upI J 6 1 (nI p)) 6 2 (nI (h - 1))) 57 3 (nI (h - 1))) 58 w 57 k = I 57 k := fun k hk => by rw [upR_n' (by decide), upI_s, upd_n hk, upI_n (by decide), upI_n (by decide), o57]
      have w60 : ∀ k, k < 447 → w k = I 60 (447 * (h - 1) + k) := fun k hk => by
        rw [hw k hk, upI_n (by decide), upI_n (by decide), upI_n (by decide), o 60 (by omega)]
      refine ⟨?_, ⟨h - 1, p, by omega, hp, ?_, ?_, ?_, fun j hj => ?_⟩, GS_c (fun c hc => by rw [z c (by omega) (by omega) (by omega), o c (by omega)]) g3, GP_c (fun c hc => by rw [z c (by omega) (by omega) (by omega), o c (by omega)]) (z7 8 (by decide)) g4, ?_⟩
      · rw [upR_s']
        have := GM (h - 1) (by omega)
        rw [show (nx + 6 - h + (h - 1)) % 6 = p by omega] at this
        exact ME_1 q this (fun c a b => z c (by omega) (by omega) (by omega)) w60
      · rw [upR_n' (by decide), upI_s, upd_s]
      · rw [upR_n' (by decide), upI_n (by decide), upI_s, upd_s]
      · rw [upR_n' (by decide), upI_n (by decide), upI_s, upd_n (by decide), upI_s, upd_s]
      · have := GM j (by omega)
        rw [show (nx + 6 - h + j) % 6 = (p + 6 - (h - 1) + j) % 6 by omega] at this
        exact ME_c (fun c a b => by rw [z c (by omega) (by omega) (by omega), o c (by omega)]) (fun k hk => by rw [z 60 (by omega) (by omega) (by omega), o 60 (by omega)]) this
      · unfold GT
        rw [z 65 (by omega) (by omega) (by omega), z 66 (by omega) (by omega) (by omega), o 65 (by omega), o 66 (by omega)]
        exact g5
theorem in01 (v : Int32) (I : HI) : f_X6_in v.toInt64 (0 : Int64) (1 : Int64) I = some (if 0 ≤ v ∧ v ≤ 1 then 1 else 0, I) := by
  rw [show (0 : Int64) = (0 : Int32).toInt64 by decide, show (1 : Int64) = (1 : Int32).toInt64 by decide, in32]
theorem slot_of (v : Int32) : (v < 0 ∨ 2 ≤ v) ∨ ∃ s : Nat, s < 2 ∧ v = nI s := by
  by_cases h : v < 0
  · exact Or.inl (Or.inl h)
  · obtain ⟨j, hj, rfl⟩ := nI_of h
    by_cases h2 : j < 2
    · exact Or.inr ⟨j, h2, rfl⟩
    · exact Or.inl (Or.inr ((nI_leI (a := 2) (by decide) hj).mpr (by omega)))
theorem sv_eq {I : HI} {s : Nat} (hs : s < 2) : ∃ w : Row, f_X6_save_L15 (nI s) 4000 0 I = some (I 58 22, upI (upR I 61 w) 62 s 1) ∧ (∀ k, k < 447 → w (447 * s + k) = I 58 k) ∧ ∀ i, ¬ (447 * s ≤ i ∧ i < 447 * s + 447) → w i = I 61 i := by
  have h' := cp_loop (c := 61) (d := 447 * s) (N := 447) (I := I) (s := fun j => I 58 j) (E := fun g => some (I 58 22, upI (upR I 61 g) 62 s 1)) (f_X6_save_L15 (nI s)) (fun f j g hj => by
    show f_X6_save_L15_b _ _ _ _ = _
    unfold f_X6_save_L15_b
    simp only [upR_n' (show 58 ≠ 61 by decide)]
    rw [l447, pk_mul, nI_add, if_neg (nI_ge hj (by decide)), if_neg (ib hj (by decide)), if_neg (ib (by omega) (by decide)), nc (by omega), nc (by omega), nI_1]
    simp only [upR_upI]) (fun f g => by
    show f_X6_save_L15_b _ _ _ _ = _
    unfold f_X6_save_L15_b
    rw [l447, if_pos (nI_le (Nat.le_refl _) (by decide)), if_neg (ib hs (by decide)), nc (by omega)]
    dsimp only
    rw [upI_n (show 58 ≠ 62 by decide), upR_n' (show 58 ≠ 61 by decide)]) 447 4000 0 (I 61) rfl (by decide) (by decide)
  rw [upR_self] at h'
  refine ⟨_, h', fun k hk => ?_, fun i hi => ?_⟩
  · rw [if_pos (by omega), show 447 * s + k - 447 * s = k by omega]
  · rw [if_neg (by omega)]
theorem save_law (v : Int32) {I : HI} (G : Good I) : Ok (f_X5_save v) (f_X6_save v) I := by
  obtain ⟨g1, g2, g3, g4, g5⟩ := id G
  unfold Ok f_X5_save f_X6_save
  rcases slot_of v with hout | ⟨s, hs, rfl⟩
  · refine ⟨-2, I, I, ?_, ?_, G⟩
    · rcases hout with h | h
      · rw [if_pos h]
      · by_cases h1 : v < 0
        · rw [if_pos h1]
        · rw [if_neg h1, if_neg (Int32.not_lt.mpr h)]
    · rw [in01, if_neg, bs, if_pos rfl]
      intro hc
      rcases hout with h | h
      · exact absurd hc.1 (Int32.not_le.mpr h)
      · exact absurd (Int32.le_trans h hc.2) (by decide)
  · obtain ⟨J, eJ, o, q⟩ := to_eq (I := I) (MB_s s hs) MB_1 (by omega)
    have hv0 : ¬ nI s < 0 := nI_pos (by omega)
    have hv2 : nI s < 2 := (nI_ltI (b := 2) (by omega) (by decide)).mpr hs
    have hv1 : 0 ≤ nI s ∧ nI s ≤ 1 := ⟨nI_pos' (by omega), (nI_leI (b := 1) (by omega) (by decide)).mpr (by omega)⟩
    have eK : f_X4_keep (nI s) I = some (0, upI J 40 s 1) := by
      unfold f_X4_keep
      rw [mm_s s hs, bs, if_neg hv0, if_neg (Int32.not_le.mpr hv2)]
      dsimp only
      rw [eJ, bs, if_neg (ib hs (by decide)), nc (by omega)]
    obtain ⟨w, ew, hw, hw2⟩ := sv_eq (I := upI J 40 s 1) hs
    have e58 : upI J 40 s 1 58 = I 58 := by rw [upI_n (by decide), o 58 (by omega)]
    have z : ∀ c, c ≠ 40 → c ≠ 61 → c ≠ 62 → upI (upR (upI J 40 s 1) 61 w) 62 s 1 c = J c := fun c h1 h2 h3 => by rw [upI_n h3, upR_n' h2, upI_n h1]
    refine ⟨I 58 22, upI J 40 s 1, upI (upR (upI J 40 s 1) 61 w) 62 s 1, ?_, ?_, ?_⟩
    · rw [if_neg hv0, if_pos hv2, eK, bs]
      dsimp only
      rw [upI_n (by decide), o 4 (by omega)]
      obtain ⟨S, n, Z, K, D, Q, R, M⟩ := g1
      rw [show I 4 1 = I 58 22 from M.2.2.1]
    · rw [in01, if_pos hv1, bs, if_neg (show ¬ (1 : Int32) = 0 by decide)]
      dsimp only
      rw [ew, e58]
    · refine ⟨?_, GH_c (fun c hc => by rw [z c (by omega) (by omega) (by omega), o c (by omega)]) (by rw [z 57 (by decide) (by decide) (by decide), o 57 (by omega)]) g2, fun t ht => ?_, GP_c (fun c hc => by rw [z c (by omega) (by omega) (by omega), o c (by omega)]) (by rw [z 57 (by decide) (by decide) (by decide), o 57 (by omega)]) g4, ?_⟩
      · exact ME_c (fun c a b => by rw [z c (by omega) (by omega) (by omega), o c (by omega)]) (fun k hk => by rw [z 58 (by decide) (by decide) (by decide), o 58 (by omega)]) g1
      · have z40 : upI (upR (upI J 40 s 1) 61 w) 62 s 1 40 = upd (I 40) s 1 := by rw [upI_n (by decide), upR_n' (by decide), upI_s, o 40 (by omega)]
        have z62 : upI (upR (upI J 40 s 1) 61 w) 62 s 1 62 = upd (I 62) s 1 := by rw [upI_s, upR_n' (by decide), upI_n (by decide), o 62 (by omega)]
        have z61 : upI (upR (upI J 40 s 1) 61 w) 62 s 1 61 = w := by rw [upI_n (by decide), upR_s']
        rw [z40, z62, z61]
        by_cases hts : t = s
        · subst hts
          rw [upd_s, upd_s]
          exact Or.inr ⟨rfl, rfl, ME_c (fun c a b => z c (by omega) (by omega) (by omega)) (fun k hk => by rw [hw k hk, e58]) (ME_m q g1)⟩
        · rw [upd_n hts, upd_n hts]
          rcases g3 t ht with g | ⟨a1, a2, a3⟩
          · exact Or.inl g
          · exact Or.inr ⟨a1, a2, ME_c (fun c a b => by rw [z c (by omega) (by omega) (by omega), o c (by omega)]) (fun k hk => by rw [hw2 _ (by omega), upI_n (by decide), o 61 (by omega)]) a3⟩
      · unfold GT
        rw [z 65 (by omega) (by omega) (by omega), z 66 (by omega) (by omega) (by omega), o 65 (by omega), o 66 (by omega)]
        exact g5
theorem rs_eq {I : HI} {s : Nat} (hs : s < 2) : ∃ w : Row, f_X6_restore_L31 (nI s) 4000 0 I = (f_X6_changed (w 22) (upR I 58 w)).bind (fun q5 => some (q5.1, q5.2)) ∧ ∀ k, k < 447 → w k = I 61 (447 * s + k) := by
  have h' := cp_loop (c := 58) (d := 0) (N := 447) (I := I) (s := fun j => I 61 (447 * s + j)) (E := fun g => (f_X6_changed (g 22) (upR I 58 g)).bind (fun q5 => some (q5.1, q5.2))) (f_X6_restore_L31 (nI s)) (fun f j g hj => by
    show f_X6_restore_L31_b _ _ _ _ = _
    unfold f_X6_restore_L31_b
    simp only [upR_n' (show 61 ≠ 58 by decide)]
    rw [l447, pk_mul, nI_add, if_neg (nI_ge hj (by decide)), if_neg (ib (by omega) (by decide)), if_neg (ib hj (by decide)), nc (by omega), nc (by omega), nI_1]
    simp only [upR_upI, Nat.zero_add]) (fun f g => by
    show f_X6_restore_L31_b _ _ _ _ = _
    unfold f_X6_restore_L31_b
    simp only [upR_s']
    rw [l447, if_pos (nI_le (Nat.le_refl _) (by decide))]) 447 4000 0 (I 58) rfl (by decide) (by decide)
  rw [upR_self] at h'
  refine ⟨_, h', fun k hk => ?_⟩
  simp [hk]
theorem restore_law (v : Int32) {I : HI} (G : Good I) : Ok (f_X5_restore v) (f_X6_restore v) I := by
  obtain ⟨g1, g2, g3, g4, g5⟩ := id G
  unfold Ok f_X5_restore f_X6_restore
  rcases slot_of v with hout | ⟨s, hs, rfl⟩
  · refine ⟨-2, I, I, ?_, ?_, G⟩
    · rcases hout with h | h
      · rw [if_pos h]
      · by_cases h1 : v < 0
        · rw [if_pos h1]
        · rw [if_neg h1, if_neg (Int32.not_lt.mpr h)]
    · rw [in01, if_neg, bs, if_pos rfl]
      intro hc
      rcases hout with h | h
      · exact absurd hc.1 (Int32.not_le.mpr h)
      · exact absurd (Int32.le_trans h hc.2) (by decide)
  · have hv0 : ¬ nI s < 0 := nI_pos (by omega)
    have hv2 : nI s < 2 := (nI_ltI (b := 2) (by omega) (by decide)).mpr hs
    have hv1 : 0 ≤ nI s ∧ nI s ≤ 1 := ⟨nI_pos' (by omega), (nI_leI (b := 1) (by omega) (by decide)).mpr (by omega)⟩
    have eH : f_X4_holds (nI s) I = some (if I 40 s = 0 then 0 else 1, I) := by
      unfold f_X4_holds
      rw [if_neg hv0, if_neg (Int32.not_le.mpr hv2), if_neg (ib hs (by decide)), nc (by omega)]
      split <;> rfl
    rcases g3 s hs with ⟨a1, a2⟩ | ⟨a1, a2, a3⟩
    · refine ⟨-5, I, I, ?_, ?_, G⟩
      · rw [if_neg hv0, if_pos hv2, eH, bs, if_pos a1, if_pos rfl]
      · rw [in01, if_pos hv1, bs, if_neg (show ¬ (1 : Int32) = 0 by decide), if_neg (ib hs (by decide)), nc (by omega)]
        dsimp only
        rw [if_pos a2]
    · obtain ⟨J, eJ, oJ, fin⟩ := commit G
      obtain ⟨Y, eY, o, q⟩ := to_eq (I := J) MB_1 (MB_s s hs) (by omega)
      have y62 : Y 62 = I 62 := by rw [o 62 (by omega), oJ 62 (by omega)]
      have y58 : Y 58 = I 58 := by rw [o 58 (by omega), oJ 58 (by omega)]
      obtain ⟨w, ew, hw⟩ := rs_eq (I := upR Y 59 (fun i => if i < 447 then Y 58 i else Y 59 i)) hs
      have w61 : ∀ k, k < 447 → w k = I 61 (447 * s + k) := fun k hk => by rw [hw k hk, upR_n' (by decide), o 61 (by omega), oJ 61 (by omega)]
      have x : ∀ c, c ≠ 58 → c ≠ 59 → upR (upR Y 59 (fun i => if i < 447 then Y 58 i else Y 59 i)) 58 w c = Y c := fun c h1 h2 => by rw [upR_n' h1, upR_n' h2]
      have M3 : ME J (41 + 5 * s) (fun k => I 61 (447 * s + k)) := ME_c (fun c a b => oJ c (by omega)) (fun k hk => rfl) a3
      have MX : ME (upR (upR Y 59 (fun i => if i < 447 then Y 58 i else Y 59 i)) 58 w) 1 w := ME_1 q M3 (fun c a b => x c (by omega) (by omega)) w61
      obtain ⟨Z, ec, GZ⟩ := fin (upR (upR Y 59 (fun i => if i < 447 then Y 58 i else Y 59 i)) 58 w) (w 22) (fun c h1 h2 _ => by rw [x c (by omega) (by omega), o c (by omega)]) (fun c h1 => by rw [x c (by omega) (by omega), o c (by omega)]) (fun k hk => by rw [upR_n' (by decide), upR_s', if_pos hk, y58]) (by rw [x 57 (by decide) (by decide), o 57 (by omega), oJ 57 (by omega)]) (by rw [upR_s']; exact MX) (GP_c (I := I) (fun c hc => by rw [x c (by omega) (by omega), o c (by omega), oJ c (by omega)]) (by rw [x 57 (by decide) (by decide), o 57 (by omega), oJ 57 (by omega)]) g4)
      refine ⟨w 22, Y, Z, ?_, ?_, GZ⟩
      · rw [if_neg hv0, if_pos hv2, eH, if_neg (show ¬ I 40 s = 0 by rw [a1]; decide), bs, if_neg (show ¬ (1 : Int32) = 0 by decide)]
        dsimp only
        rw [eJ, bs]
        dsimp only
        unfold f_X4_bringBack
        rw [mm_s s hs, bs]
        dsimp only
        rw [eY, bs, bs]
        dsimp only
        obtain ⟨S, n, Z1, K, D, Q, R, M⟩ := M3
        rw [w61 22 (by decide), show Y 4 1 = J (41 + 5 * s + 3) 1 from q.2.2.2.1]
        exact congrArg (fun t => some (t, Y)) M.2.2.1
      · rw [in01, if_pos hv1, bs, if_neg (show ¬ (1 : Int32) = 0 by decide), if_neg (ib hs (by decide)), nc (by omega)]
        dsimp only
        rw [if_neg (by rw [y62, a2]; decide), keep_eq, bs]
        dsimp only
        rw [ew, ec, bs]
