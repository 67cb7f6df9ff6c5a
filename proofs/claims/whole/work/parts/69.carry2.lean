/-! ===== pure: carryOut ===== -/
theorem all_len {t : Row} {L : Nat} (h0 : ∀ k, L ≤ k → t k = 0) (hL : L ≤ 80) : ∀ (k i : Nat), L - i < k → i ≤ L → (allS t L k i).1 = 1 → i + tot (allS t L k i).2.1 ≤ L := by
  intro k
  induction k with
  | zero => intro i h; omega
  | succ k ih =>
    intro i hk hi ok
    obtain ⟨a, b, c, d⟩ := ord_facts h0 hL hi
    unfold allS at ok ⊢
    by_cases h : (ordS t L i).1 = 1
    · have := d h
      rw [if_pos h] at ok ⊢
      by_cases g : t (ordS t L i).2.2 = 59
      · have := t_lt h0 g (by decide)
        rw [if_pos g] at ok ⊢
        have := ih ((ordS t L i).2.2 + 1) (by omega) (by omega) ok
        dsimp only [tot]
        omega
      · rw [if_neg g]
        dsimp only [tot]
        omega
    · rw [if_neg h] at ok
      exact absurd ok (show ¬ (0 : Int32) = 1 by decide)
theorem carryOut_law {I : HI} (G : Good I) : Ok f_X5_carryOut f_X6_carryOut I := by
  obtain ⟨t, L, H, H2⟩ := texts G
  have hL := H.1
  obtain ⟨σ, y, A, V, W, E, e, hok⟩ := cread H
  have hjL := (all_facts H.2.2.2 hL 81 0 (by omega) (by omega)).1
  generalize hI1 : hT I (nI σ) (nI (allS t L 81 0).2.2) y A V W E = I1 at e
  have G1 : Good I1 := hI1 ▸ Good_t G
  have i57 : I1 57 = I 57 := by rw [← hI1, hT_n (by decide)]
  have i58 : I1 58 = I 58 := by rw [← hI1, hT_n (by decide)]
  have i63 : I1 63 = I 63 := by rw [← hI1, hT_n (by decide)]
  have HY : ∀ Y : HI, Y 57 = I1 57 → Y 63 = I1 63 → TR Y t L := fun Y h1 h2 => ⟨hL, by rw [h1, i57]; exact H2.2.1, fun k hk => by rw [h2, i63]; exact H2.2.2.1 k hk, H2.2.2.2⟩
  unfold Ok f_X5_carryOut
  rw [e, bs]
  dsimp only
  by_cases h6 : resT L (allS t L 81 0).1 (allS t L 81 0).2.2 = -6
  · have n6 : ∀ m : Nat, m ≤ 80 → ¬ nI m = -6 := fun m hm q => by
      have := congrArg Int32.toInt q
      rw [nI_toInt (by omega), show (-6 : Int32).toInt = -6 from rfl] at this
      omega
    have ok : (allS t L 81 0).1 = 1 := by
      rcases (all_facts H.2.2.2 hL 81 0 (by omega) (by omega)).2 with h | h
      · unfold resT at h6
        rw [if_pos h] at h6
        exact absurd h6 (n6 _ (by omega))
      · exact h
    obtain ⟨hσ, hold⟩ := hok ok
    have hlen := all_len H.2.2.2 hL 81 0 (by omega) (by omega) ok
    have htt : σ ≤ 80 := by omega
    obtain ⟨J, eJ, oJ, fin⟩ := commit G1
    obtain ⟨⟨S, n, Z, K, D, Q, R, M⟩, -⟩ := id G1
    rw [if_pos h6, eJ, bs]
    dsimp only
    generalize hI2 : upI J 51 1 0 = I2
    have k2 : ∀ c, c ≠ 51 → I2 c = J c := fun c hc => by rw [← hI2, upI_n hc]
    have k51 : I2 51 6 = nI σ := by rw [← hI2, upI_s, upd_n (by decide), oJ 51 (by decide), ← hI1, hT_6]
    have r53 : I2 53 = A := by rw [k2 53 (by decide), oJ 53 (by decide), ← hI1, hT_53]
    have r54 : I2 54 = V := by rw [k2 54 (by decide), oJ 54 (by decide), ← hI1, hT_54]
    have r55 : I2 55 = W := by rw [k2 55 (by decide), oJ 55 (by decide), ← hI1, hT_55]
    have r56 : I2 56 = E := by rw [k2 56 (by decide), oJ 56 (by decide), ← hI1, hT_56]
    have M2 : MR (I2 1) (I2 2) (I2 3) (I2 4) (I2 5) (I1 58) S n := by
      rw [k2 1 (by decide), k2 2 (by decide), k2 3 (by decide), k2 4 (by decide), k2 5 (by decide), oJ 1 (by decide), oJ 2 (by decide), oJ 3 (by decide), oJ 4 (by decide), oJ 5 (by decide)]
      exact M
    have JA := fun (X : HI) (hX : TR X t L) (h11 : X 57 11 = 1) (h9 : X 57 9 = 0) (h12 : X 57 12 = 0) (h58 : X 58 = I1 58) => ja (t := t) (L := L) (tt := σ) (J := I2) htt 81 4000 4000 0 0 0 X (I2 1) (I2 2) (I2 3) (I2 4) (I2 5) (I1 58) S n Z K D Q (by omega) (by omega) (by omega) (by omega) hX h11 h9 h12 h58 R M2 ok (by rw [r53, r54, r55, r56]; exact hold) (by omega)
    have prep : ∀ B : HI, B 57 8 = I1 57 8 → B 63 = I1 63 → B 58 = I1 58 → TR (upI (upI (upI B 57 9 0) 57 11 1) 57 12 0) t L ∧ (upI (upI (upI B 57 9 0) 57 11 1) 57 12 0) 57 11 = 1 ∧ (upI (upI (upI B 57 9 0) 57 11 1) 57 12 0) 57 9 = 0 ∧ (upI (upI (upI B 57 9 0) 57 11 1) 57 12 0) 57 12 = 0 ∧ (upI (upI (upI B 57 9 0) 57 11 1) 57 12 0) 58 = I1 58 := fun B b57 b63 b58 => by
      refine ⟨⟨hL, ?_, fun k hk => ?_, H2.2.2.2⟩, ?_, ?_, ?_, ?_⟩
      · rw [upI_s, upd_n (by decide), upI_s, upd_n (by decide), upI_s, upd_n (by decide), b57, i57]; exact H2.2.1
      · rw [upI_n (by decide), upI_n (by decide), upI_n (by decide), b63, i63]; exact H2.2.2.1 k hk
      · rw [upI_s, upd_n (by decide), upI_s, upd_s]
      · rw [upI_s, upd_n (by decide), upI_s, upd_n (by decide), upI_s, upd_s]
      · rw [upI_s, upd_s]
      · rw [upI_n (by decide), upI_n (by decide), upI_n (by decide), b58]
    obtain ⟨p1, p2, p3, p4, p5⟩ := prep I1 rfl rfl rfl
    obtain ⟨cnt0, F0, T0, P0, N0, Gs0, -, -, -, -, -, -, -, -, ec0, -⟩ := JA _ p1 p2 p3 p4 p5
    generalize hY : sM I2 F0 T0 P0 N0 Gs0 = Y at ec0
    have y : ∀ c, 5 < c → Y c = I2 c := fun c hc => by rw [← hY, sM_n (Or.inr hc)]
    have yJ : ∀ c, 37 < c → c ≠ 51 → Y c = I1 c := fun c hc h2 => by rw [y c (by omega), k2 c h2, oJ c (by omega)]
    obtain ⟨j, z, ef⟩ := rfault (HY Y (yJ 57 (by decide) (by decide)) (yJ 63 (by decide) (by decide)))
    generalize hKf : hR (upI Y 57 11 0) (nI j) z = Kf at ef
    have kf : ∀ c, c ≠ 57 → Kf c = Y c := fun c hc => by rw [← hKf, hR_n hc, upI_n hc]
    have kf7 : ∀ k, k ≠ 9 → k ≠ 10 → k ≠ 11 → Kf 57 k = Y 57 k := fun k a b c => by rw [← hKf, hR_k a b, upI_s, upd_n c]
    generalize hK2 : upR Kf 59 (fun i => if i < 447 then Kf 58 i else Kf 59 i) = K2
    have ek : f_X6_keep Kf = some (0, K2) := by rw [keep_eq, hK2]
    have kk : ∀ c, c ≠ 59 → K2 c = Kf c := fun c hc => by rw [← hK2, upR_n' hc]
    have k59 : ∀ k, k < 447 → K2 59 k = Kf 58 k := fun k hk => by rw [← hK2, upR_s', if_pos hk]
    obtain ⟨q1, q2, q3, q4, q5⟩ := prep K2 (by rw [kk 57 (by decide), kf7 8 (by decide) (by decide) (by decide), yJ 57 (by decide) (by decide)]) (by rw [kk 63 (by decide), kf 63 (by decide), yJ 63 (by decide) (by decide)]) (by rw [kk 58 (by decide), kf 58 (by decide), yJ 58 (by decide) (by decide)])
    obtain ⟨cnt, F', T', P', N', Gs', a', X', S', n', Z', K', D', Q', ec, er, x58, jw, M', R'⟩ := JA _ q1 q2 q3 q4 q5
    have hin := (Prod.mk.inj (Option.some.inj (ec0.symm.trans ec)))
    have hcnt := hin.1
    have hYe : Y = sM I2 F' T' P' N' Gs' := hin.2
    have xx : ∀ c, c ≠ 57 → c ≠ 58 → c ≠ 59 → X' c = Y c := fun c a b d => by rw [jw.1 c a b, upI_n a, upI_n a, upI_n a, kk c d, kf c a]
    obtain ⟨Zf, ez, GZ⟩ := fin (upI X' 57 8 0) cnt (fun c a b d => by rw [upI_n (by omega), xx c (by omega) (by omega) (by omega), y c (by omega), k2 c d]) (fun c a => by rw [upI_n (by omega), xx c (by omega) (by omega) (by omega), y c (by omega), k2 c (by omega)]) (fun k hk => by rw [upI_n (by decide), jw.1 59 (by decide) (by decide), upI_n (by decide), upI_n (by decide), upI_n (by decide), k59 k hk, kf 58 (by decide), yJ 58 (by decide) (by decide)]) (by rw [upI_s, upd_n (by decide), jw.2.1, upI_s, upd_n (by decide), upI_s, upd_n (by decide), upI_s, upd_n (by decide), kk 57 (by decide), kf7 3 (by decide) (by decide) (by decide), yJ 57 (by decide) (by decide)]) ⟨S', n', Z', K', D', Q', by rw [upI_n (by decide), x58]; exact R', by
        have m : ∀ c, 0 < c → c < 6 → upI X' 57 8 0 c = sM I2 F' T' P' N' Gs' c := fun c a b => by rw [upI_n (by omega), xx c (by omega) (by omega) (by omega), hYe]
        rw [m 1 (by decide) (by decide), m (1 + 1) (by decide) (by decide), m (1 + 2) (by decide) (by decide), m (1 + 3) (by decide) (by decide), m (1 + 4) (by decide) (by decide), sM_1, sM_2, sM_3, sM_4, sM_5, upI_n (by decide), x58]
        exact M'⟩ ⟨0, by omega, by rw [upI_n (by decide), xx 51 (by decide) (by decide) (by decide), y 51 (by decide), ← hI2, upI_s, upd_s]; rfl, by rw [upI_s, upd_s]; rfl, fun k hk => absurd hk (by omega)⟩
    refine ⟨cnt, Y, Zf, ?_, ?_, GZ⟩
    · rw [k51, ← hcnt]
      have : f_X5_carryOut_L46 (nI σ) 4000 0 (nI 0) I2 = some (cnt0, Y) := by
        rw [← sM_self I2]
        exact (sM_self I2).symm ▸ ec0
      exact this
    · unfold f_X6_carryOut
      rw [ef, bs, if_pos h6]
      dsimp only
      rw [ek, bs]
      dsimp only
      refine er.trans ?_
      rw [ez, bs]
  · rw [if_neg h6]
    obtain ⟨j, z, ef⟩ := rfault (HY I1 rfl rfl)
    refine ⟨-3, I1, _, rfl, ?_, Good_r G1 (i := nI j) (x := z)⟩
    unfold f_X6_carryOut
    rw [ef, bs, if_neg h6]
