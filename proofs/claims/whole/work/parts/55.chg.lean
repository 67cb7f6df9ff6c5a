/-! ===== pure: the calls that change ===== -/
theorem shift_ge {x : Int32} (h : -100 ≤ x) (h2 : x ≤ 100) : (0 : Int32) ≤ x + 1000 := by
  rw [Int32.le_iff_toInt_le] at h h2 ⊢
  rw [Int32.toInt_add]
  have e1 : (-100 : Int32).toInt = -100 := by decide
  have e2 : (100 : Int32).toInt = 100 := by decide
  have e3 : (1000 : Int32).toInt = 1000 := by decide
  have e4 : (0 : Int32).toInt = 0 := by decide
  rw [e1] at h
  rw [e2] at h2
  rw [e3, e4, Int.bmod_eq_of_le (by omega) (by omega)]
  omega
theorem upR_at {I : HI} {c : Nat} {g : Row} (h : I c = g) : upR I c g = I := by rw [← h, upR_self]
theorem chg {I : HI} (GI : Good I) (f g : HI → Option (Int32 × HI)) (rel : Int32 → Int32 → Prop)
    (hs : ∀ (F T P G N : Row) (J J2 : HI) (S n Z K D Q : Nat), RX (I 58) S n Z K D Q → MR F T P G N (I 58) S n → ∃ (x r : Int32) (F' T' P' G' N' a' : Row) (J2' : HI) (S' n' Z' K' D' Q' : Nat), rel x r ∧ f (sM J F T P G N) = some (x, sM J F' T' P' G' N') ∧ g (upR J2 58 (I 58)) = some (r, upR J2' 58 a') ∧ MR F' T' P' G' N' a' S' n' ∧ RX a' S' n' Z' K' D' Q' ∧ Jq J2 J2') :
    ∃ J : HI, f_X0_record I = some (0, J) ∧ (∀ c, c < 6 → J c = I c) ∧ ∃ (x r : Int32) (Y K1 X Z : HI), rel x r ∧ f J = some (x, Y) ∧ f_X6_keep Y = some (0, K1) ∧ Y 58 = I 58 ∧ g K1 = some (r, X) ∧ f_X6_changed r X = some (r, Z) ∧ Good Z := by
  obtain ⟨J, e, oJ, fin⟩ := commit GI
  obtain ⟨⟨S, n, Z, K, D, Q, R, M⟩, -, -, g4, -⟩ := GI
  rw [← oJ 1 (by decide), ← oJ (1 + 1) (by decide), ← oJ (1 + 2) (by decide), ← oJ (1 + 3) (by decide), ← oJ (1 + 4) (by decide)] at M
  obtain ⟨x0, r0, F0, T0, P0, G0, N0, -, -, -, -, -, -, -, -, -, ef0, -⟩ := hs _ _ _ _ _ J J S n Z K D Q R M
  obtain ⟨x, r, F', T', P', G', N', a', J2', S', n', Z', K', D', Q', hr, ef, eg, M', R', hq⟩ := hs _ _ _ _ _ J (upR (sM J F0 T0 P0 G0 N0) 59 (fun i => if i < 447 then I 58 i else J 59 i)) S n Z K D Q R M
  have hin := ef0.symm.trans ef
  injection hin with hin
  have hin2 : sM J F0 T0 P0 G0 N0 = sM J F' T' P' G' N' := (Prod.mk.inj hin).2
  rw [hin2] at eg hq
  rw [sM_self] at ef
  have y58 : sM J F' T' P' G' N' 58 = I 58 := by rw [sM_n (by omega)]; exact oJ 58 (by decide)
  have y59 : sM J F' T' P' G' N' 59 = J 59 := sM_n (by omega)
  have ek : f_X6_keep (sM J F' T' P' G' N') = some (0, upR (upR (sM J F' T' P' G' N') 59 (fun i => if i < 447 then I 58 i else J 59 i)) 58 (I 58)) := by
    rw [keep_eq, y58, y59]
    congr 2
    exact (upR_at (by rw [upR_n' (by decide)]; exact y58)).symm
  have hX : ∀ c, c ≠ 57 → c ≠ 58 → upR J2' 58 a' c = upR (sM J F' T' P' G' N') 59 (fun i => if i < 447 then I 58 i else J 59 i) c := fun c h1 h2 => by rw [upR_n' h2]; exact hq.1 c h1
  have hX2 : ∀ c, 5 < c → c ≠ 57 → c ≠ 58 → c ≠ 59 → upR J2' 58 a' c = J c := fun c h0 h1 h2 h3 => by rw [hX c h1 h2, upR_n' h3, sM_n (by omega)]
  have h57 : ∀ k, k ≠ 6 → upR J2' 58 a' 57 k = I 57 k := fun k hk => by
    rw [upR_n' (by decide), hq.2 k hk, upR_n' (by decide), sM_n (by omega), oJ 57 (by decide)]
  obtain ⟨Zf, ec, GZ⟩ := fin (upR J2' 58 a') r (fun c h1 h2 _ => hX2 c h1 (by omega) (by omega) (by omega)) (fun c h1 => hX2 c (by omega) (by omega) (by omega) (by omega)) (fun k hk => by rw [hX 59 (by decide) (by decide), upR_s']; exact if_pos hk) (h57 3 (by decide)) ⟨S', n', Z', K', D', Q', by rw [r58s]; exact R', by rw [r58s, hX 1 (by decide) (by decide), hX (1 + 1) (by decide) (by decide), hX (1 + 2) (by decide) (by decide), hX (1 + 3) (by decide) (by decide), hX (1 + 4) (by decide) (by decide), upR_n' (by decide), upR_n' (by decide), upR_n' (by decide), upR_n' (by decide), upR_n' (by decide), sM_1, sM_2, sM_3, sM_4, sM_5]; exact M'⟩ (GP_c (I := I) (fun c hc => by rw [hX2 c (by omega) (by omega) (by omega) (by omega), oJ c (by omega)]) (h57 8 (by decide)) g4)
  exact ⟨J, e, fun c hc => oJ c (Or.inl hc), x, r, _, _, _, Zf, hr, ef, ek, y58, eg, ec, GZ⟩
theorem keep_q (I : HI) (G : Good I) : ∃ K : HI, f_X6_keep I = some (0, K) ∧ Good K ∧ K = upR K 58 (I 58) := by
  refine ⟨_, keep_eq I, Good_q (fun c _ h => upR_n' h) (by rw [upR_n' (by decide)]) (by rw [upR_n' (by decide)]) G, ?_⟩
  exact (upR_at (upR_n' (by decide))).symm
theorem set_law (v1 v2 : Int32) {I : HI} (G : Good I) : Ok (f_X5_set v1 v2) (f_X6_set v1 v2) I := by
  obtain ⟨K1, ek, GK, hK⟩ := keep_q I G
  unfold Ok f_X5_set f_X6_set
  by_cases hout : v1 < 0 ∨ nI 10 ≤ v1
  · refine ⟨-2, I, K1, ?_, ?_, GK⟩
    · rw [er_out hout, bs, if_neg (show ¬ (-2 : Int32) = 0 by decide)]
    · rw [ek, bs, ds_out hout, bs, if_neg (show ¬ (0 : Int32) ≤ -2 by decide)]
  · obtain ⟨s, hs, rfl⟩ : ∃ s : Nat, s < 10 ∧ v1 = nI s := by
      obtain ⟨s, hs, rfl⟩ := nI_of (x := v1) (fun h => hout (Or.inl h))
      exact ⟨s, by
        have this : ¬ nI 10 ≤ nI s := fun h => hout (Or.inr h)
        rw [nI_leI (by decide) hs] at this
        omega, rfl⟩
    obtain ⟨⟨S, n, Z, K, D, Q, R, M⟩, -, -, -, h65, h66⟩ := id G
    have er := er_eq (J := I) (v := v2) R M h65 h66 hs
    rw [sM_self] at er
    by_cases h0 : okS (I 58) s v2 = 0
    · obtain ⟨J, eJ, -, x, r, Y, K2, X, Z2, ⟨hr, hr0⟩, ef, ek2, -, eg, ec, GZ⟩ := chg G (f_X1_changeSetting (nI s) v2) (f_X6_doSet (nI s) v2) (fun x r => r = x + 1000 ∧ 0 ≤ r) (by
        intro F T P G N J J2 S n Z K D Q R M
        obtain ⟨F', T', P', G', N', a', S', n', Z', K', D', Q', e1, e2, M', R'⟩ := set_sim (J := J) (J2 := J2) R M hs h0
        refine ⟨_, _, F', T', P', G', N', a', J2, S', n', Z', K', D', Q', ⟨rfl, ?_⟩, e1, e2, M', R', Jq.rf⟩
        have hl := R.2.2.2.2.2.2 s hs
        exact shift_ge hl.1 hl.2)
      refine ⟨r, Y, Z2, ?_, ?_, GZ⟩
      · rw [er, bs, if_pos h0]
        dsimp only
        rw [eJ, bs]
        dsimp only
        rw [ef, bs, hr]
      · rw [ek2, bs]
        dsimp only
        rw [eg, bs, if_pos hr0]
        dsimp only
        rw [ec, bs]
    · refine ⟨okS (I 58) s v2, I, K1, ?_, ?_, GK⟩
      · rw [er, bs, if_neg h0]
      · rw [ek, bs]
        dsimp only
        rw [hK, ds_no R hs h0, bs, if_neg]
        unfold okS at h0 ⊢
        split
        · rename_i h1
          rw [if_pos h1] at h0
          split
          · rename_i h2
            rw [if_pos h2] at h0
            exact absurd rfl h0
          · exact (by decide : ¬ (0 : Int32) ≤ -5)
        · exact (by decide : ¬ (0 : Int32) ≤ -2)
theorem okF_v (v t a : Int32) : okF v t a = 0 ∨ okF v t a = -2 ∨ okF v t a = -4 := by
  unfold okF
  split
  · split
    · split
      · exact Or.inl rfl
      · exact Or.inr (Or.inr rfl)
    · exact Or.inr (Or.inl rfl)
  · exact Or.inr (Or.inl rfl)
theorem feed_law (v t : Int32) {I : HI} (G : Good I) : Ok (f_X5_feed v t) (f_X6_feed v t) I := by
  obtain ⟨K1, ek, GK, hK⟩ := keep_q I G
  unfold Ok f_X5_feed f_X6_feed
  obtain ⟨⟨S, n, Z, K, D, Q, R, M⟩, -⟩ := id G
  have er := es_eq (J := I) (F := I 1) (T := I 2) (P := I 3) (G := I 4) (N := I 5) (v := v) (t := t)
  rw [sM_self, show I 1 3 = I 58 10 from M.2.1 0 (by decide)] at er
  by_cases h0 : okF v t (I 58 10) = 0
  · obtain ⟨J, eJ, -, x, r, Y, K2, X, Z2, ⟨hr, hr0⟩, ef, ek2, -, eg, ec, GZ⟩ := chg G (f_X1_takeSamples v t) (f_X6_doFeed v t) (fun x r => r = x ∧ 0 ≤ r) (by
      intro F T P G N J J2 S n Z K D Q R M
      obtain ⟨F', P', G', N', a', J2', S', n', Z', c', e1, e2, M', R', hq, hc⟩ := feed_sim (J := J) (J2 := J2) R M h0
      exact ⟨_, _, F', T, P', G', N', a', J2', S', n', Z', K, D, Q, ⟨rfl, nI_pos' (by omega)⟩, e1, e2, M', R', hq⟩)
    refine ⟨r, Y, Z2, ?_, ?_, GZ⟩
    · rw [er, bs, if_pos h0]
      dsimp only
      rw [eJ, bs]
      dsimp only
      rw [ef, bs, hr]
    · rw [ek2, bs]
      dsimp only
      rw [eg, bs, if_pos hr0]
      dsimp only
      rw [ec, bs]
  · refine ⟨okF v t (I 58 10), I, K1, ?_, ?_, GK⟩
    · rw [er, bs, if_neg h0]
    · rw [ek, bs]
      dsimp only
      rw [hK, df_eq, if_neg h0, bs, if_neg]
      dsimp only
      rcases okF_v v t (I 58 10) with h | h | h
      · exact absurd h h0
      · rw [h]; decide
      · rw [h]; decide
theorem clear_law {I : HI} (G : Good I) : Ok f_X5_clear f_X6_clear I := by
  unfold Ok f_X5_clear f_X6_clear
  obtain ⟨J, eJ, -, x, r, Y, K2, X, Z2, hr, ef, ek2, -, eg, ec, GZ⟩ := chg G f_X1_forget f_X6_doClear (fun x r => r = x) (by
    intro F T P G N J J2 S n Z K D Q R M
    obtain ⟨M', R'⟩ := clr_sim R M
    exact ⟨_, _, _, _, _, _, _, _, _, _, _, _, _, _, _, M.2.2.1.symm, fg_eq, dc_eq, M', R', Jq.rf⟩)
  refine ⟨r, Y, Z2, ?_, ?_, GZ⟩
  · rw [eJ, bs]
    dsimp only
    rw [ef, bs, hr]
  · rw [ek2, bs]
    dsimp only
    rw [eg, bs]
    dsimp only
    rw [ec, bs]
theorem in_n {v : Int32} {n : Nat} (hn : n < 2 ^ 31) (h : 0 ≤ v ∧ v < nI n) : ∃ j : Nat, j < n ∧ v = nI j := by
  obtain ⟨j, hj, rfl⟩ := nI_of (x := v) (Int32.not_lt.mpr h.1)
  exact ⟨j, (nI_ltI hj hn).mp h.2, rfl⟩
theorem drop_law (v : Int32) {I : HI} (G : Good I) : Ok (f_X5_drop v) (f_X6_drop v) I := by
  unfold Ok f_X5_drop f_X6_drop
  obtain ⟨⟨S, n, Z, K, D, Q, R, M⟩, -⟩ := id G
  obtain ⟨⟨h10, hS, h22, hnK, h8, hK1, hK6, -⟩, -⟩ := id R
  have h4 : I 4 1 = nI n := M.2.2.1.trans h22
  by_cases hin : 0 ≤ v ∧ v < nI n
  · obtain ⟨j, hj, rfl⟩ := in_n (by omega) hin
    obtain ⟨J, eJ, oJ, x, r, Y, K2, X, Z2, hr, ef, ek2, y58, eg, ec, GZ⟩ := chg G (fun J => (f_X3_removeAt (nI j) J).bind fun q => some (q.2 4 1, q.2)) (fun J => (f_X6_takesOut (nI j) J).bind fun q => some (q.2 58 22, q.2)) (fun x r => r = x) (by
      intro F T P G N J J2 S' n' Z' K' D' Q' R2 M2
      have en : n' = n := (nI_eq (by have := R2.1.2.2.2.1; have := R2.1.2.2.2.2.2.2.1; omega) (by omega)).mp (R2.1.2.2.1.symm.trans h22)
      have hj2 : j < n' := by omega
      have h22' := R2.1.2.2.1
      have hn6 : n' ≤ 6 := by omega
      have hG' := M2.2.2.1.trans h22'
      obtain ⟨M', R'⟩ := drop_sim R2 M2 hj2
      refine ⟨nI (n' - 1), nI (n' - 1), _, _, _, _, _, _, J2, _, _, _, _, _, _, rfl, ?_, ?_, M', R', Jq.rf⟩
      · rw [rm_eq (n := n') hG' hn6 hj2, bs]
        dsimp only
        rw [sM_4, upd_s]
      · rw [tk_eq h22' hn6 hj2, bs]
        dsimp only
        rw [r58s, R'.1.2.2.1])
    refine ⟨r, Y, Z2, ?_, ?_, GZ⟩
    · rw [has_in (n := n) h4 (by omega) hj, bs, if_neg (show ¬ (1 : Int32) = 0 by decide)]
      dsimp only
      rw [eJ, bs, hr]
      exact ef
    · rw [isSegment_eq (n := n) (by rw [y58]; exact h22) (by omega), if_pos hin, bs, if_neg (show ¬ (1 : Int32) = 0 by decide)]
      dsimp only
      rw [ek2, bs]
      dsimp only
      cases et : f_X6_takesOut (nI j) K2 with
      | none => rw [et] at eg; exact absurd eg (by simp)
      | some q =>
        rw [et, bs] at eg
        have eg := Option.some.inj eg
        have e1 := (Prod.mk.inj eg).1
        have e2 := (Prod.mk.inj eg).2
        rw [bs, e1, e2, ec, bs]
  · refine ⟨-1, I, I, ?_, ?_, G⟩
    · rw [has_out (by rw [h4]; exact hin), bs, if_pos rfl]
    · rw [isSegment_eq (n := n) h22 (by omega), if_neg hin, bs, if_pos rfl]
