/-! ===== pure: carryOut: orders and whole texts ===== -/
theorem CC_1 {J X X1 : HI} {F T P G N a : Row} {S n Z K D Q s tt j : Nat} {c : Int32 × Int32 × Int32} {call : Option (Int32 × HI)} (R : RX a S n Z K D Q) (M : MR F T P G N a S n) (hX : X1 58 = a) (hj : JW X X1) (hc : VS c) (hs : s + 1 ≤ tt) (ht : tt ≤ 80) (hold : Hold (J 53) (J 54) (J 55) (J 56) s [c])
    (hcall : ∀ X2 : HI, ((rop c X1).bind fun q => f_X6_does q.1 q.2) = some (0, X2) → X2 57 9 = X1 57 9 → ∃ x' y' : Int32, call = some (1, hR X2 x' y') ∧ x' = nI j) : CC J F T P G N X s 1 tt j call := by
  obtain ⟨⟨w1, w2, w3, w4⟩, -⟩ := hold
  obtain ⟨F1, T1, P1, G1, N1, a1, X2, S1, n1, Z1, K1, D1, Q1, er, x58, jw, x9, M1, R1, out⟩ := fin1 (J := J) (X := X1) (s := s) (tt := tt) (c := c) R M hX hc (by omega) ht w1 w2 w3 1 w4
  obtain ⟨x', y', e, ex⟩ := hcall X2 er x9
  refine ⟨F1, T1, P1, G1, N1, a1, hR X2 x' y', S1, n1, Z1, K1, D1, Q1, e, hR_58.trans x58, (hj.tr jw).tr JW.hr, hR_9.trans ex, M1, R1, ?_⟩
  rcases out with ⟨o12, cl⟩ | ⟨o12, cl⟩
  · exact Or.inl ⟨hR_12.trans o12, fun f v1 => by rw [cl, if_pos rfl]⟩
  · exact Or.inr ⟨by rw [hR_12]; exact o12, fun f v1 => by rw [cl]⟩
theorem bnd2 {c : Int32 × Int32 × Int32} {X1 X2 : HI} {g : Option (Int32 × HI)} {k : HI → Option (Int32 × HI)} (hg : rop c X1 = g) (er : ((rop c X1).bind fun q => f_X6_does q.1 q.2) = some (0, X2)) : (g.bind fun q => (f_X6_does q.1 q.2).bind fun q2 => k q2.2) = k X2 := by
  rw [← hg]
  have : ((rop c X1).bind fun q => (f_X6_does q.1 q.2).bind fun q2 => k q2.2) = ((rop c X1).bind fun q => f_X6_does q.1 q.2).bind fun q2 => k q2.2 := (Option.bind_assoc _ _ _).symm
  rw [this, er, bs]
theorem jo {t : Row} {L tt i s : Nat} {J X : HI} {F T P G N a : Row} {S n Z K D Q : Nat} (ht : tt ≤ 80) (hi : i ≤ L) (H : TR X t L) (h11 : X 57 11 = 1) (h9 : X 57 9 = nI i) (h12 : X 57 12 = 0) (h58 : X 58 = a) (R : RX a S n Z K D Q) (M : MR F T P G N a S n) (ok : (ordS t L i).1 = 1) (hold : Hold (J 53) (J 54) (J 55) (J 56) s (ordS t L i).2.1) (hlen : s + (ordS t L i).2.1.length ≤ tt) : CC J F T P G N X s (ordS t L i).2.1.length tt (ordS t L i).2.2 (f_X6_readsOrder X) := by
  have hL := H.1
  have h11' : ∀ i x : Int32, ¬ hR X i x 57 11 = 0 := fun i x => by rw [hR_k (by decide) (by decide), h11]; decide
  have eX : f_X6_readsOrder X = f_X6_readsOrder (hR X (nI i) (X 57 10)) := by rw [hR_at h9]
  rw [eX]
  unfold f_X6_readsOrder
  rw [tk_c H (by omega) (by decide), bs]
  dsimp only
  by_cases c1 : t i = 99
  · have es : ordS t L i = (1, [(3, 0, 1)], i + 1) := by unfold ordS; rw [if_pos c1]
    rw [es] at hold hlen ⊢
    rw [if_pos c1, if_pos c1, if_neg n10, if_neg (h11' _ _)]
    exact CC_1 (X1 := hR X (nI (i + 1)) (X 57 10)) (c := (3, 0, 1)) R M (hR_58.trans h58) JW.hr (Or.inr (Or.inl rfl)) hlen ht hold (fun X2 er x9 => ⟨X2 57 9, X2 57 10, (bnd2 (k := fun Y => some (1, Y)) (show rop (3, 0, 1) _ = f_X6_doClear _ from rfl) er).trans (by rw [hR_self]), x9.trans hR_9⟩)
  rw [if_neg c1, if_neg c1, if_pos rfl, tk_c H (by omega) (by decide), bs]
  dsimp only
  by_cases c2 : t i = 107
  · have := t_lt H.2.2.2 c2 (by decide)
    rw [if_pos c2, if_pos c2, if_neg n10, ish_eq H (by omega) (by decide), bs]
    dsimp only
    by_cases g : 48 ≤ t (i + 1) ∧ t (i + 1) ≤ 50
    · have hi1 : i + 1 < L := by
        by_cases q : L ≤ i + 1
        · rw [H.2.2.2 _ q] at g; exact absurd g (by decide)
        · omega
      have es : ordS t L i = (1, [(0, t (i + 1) - 48, 1)], i + 2) := by unfold ordS; rw [if_neg c1, if_pos c2, if_pos g]
      rw [es] at hold hlen ⊢
      rw [if_pos g, if_neg n10, if_neg (h11' _ _)]
      simp only [hR_9, hR_n (show 63 ≠ 57 by decide), nc (show i + 1 < 2 ^ 31 by omega), H.2.2.1 (i + 1) hi1]
      rw [if_neg (ibz (show i + 1 < 80 by omega) (by decide))]
      have hv : 0 ≤ t (i + 1) - 48 ∧ t (i + 1) - 48 ≤ 2 := by
        have b1 := Int32.le_iff_toInt_le.mp g.1
        have b2 := Int32.le_iff_toInt_le.mp g.2
        rw [show (48 : Int32).toInt = 48 from rfl] at b1
        rw [show (50 : Int32).toInt = 50 from rfl] at b2
        obtain ⟨w, hw, ew⟩ : ∃ w : Nat, w ≤ 2 ∧ t (i + 1) = nI (w + 48) := by
          refine ⟨((t (i + 1)).toInt - 48).toNat, by omega, ?_⟩
          apply Int32.toInt_inj.mp
          rw [nI_toInt (by omega)]
          omega
        rw [ew, show (48 : Int32) = nI 48 from rfl, pk_sub (by omega)]
        exact ⟨nI_pos' (by omega), (nI_leI (b := 2) (by omega) (by decide)).mpr (by omega)⟩
      exact CC_1 (X1 := hR X (nI (i + 1)) (X 57 10)) (c := (0, t (i + 1) - 48, 1)) R M (hR_58.trans h58) JW.hr (Or.inr (Or.inr (Or.inl ⟨rfl, hv⟩))) hlen ht hold (fun X2 er x9 => ⟨nI (i + 2), X2 57 10, by
        refine (bnd2 (k := fun Y => f_X6_readsOrder_J76 Y) (show rop (0, t (i + 1) - 48, 1) _ = f_X6_doSet 0 (t (i + 1) - 48) _ from rfl) er).trans ?_
        unfold f_X6_readsOrder_J76
        have x9 : X2 57 9 = nI (i + 1) := x9.trans hR_9
        have e9 : upI X2 57 9 (X2 57 9 + 1) = hR X2 (nI (i + 2)) (X2 57 10) := by
          rw [x9, nI_1]
          conv => lhs; rw [← hR_at x9, hR_u9]
        rw [e9], rfl⟩)
    · have es : (ordS t L i).1 = 0 := by unfold ordS; rw [if_neg c1, if_pos c2, if_neg g]
      exact absurd (es.symm.trans ok) (by decide)
  rw [if_neg c2, if_neg c2, if_pos rfl, tk_c H (by omega) (by decide), bs]
  dsimp only
  by_cases c3 : t i = 108
  · have := t_lt H.2.2.2 c3 (by decide)
    obtain ⟨f1, f2, f3, f4⟩ := val_facts (i := i + 1) H.2.2.2 (by omega)
    obtain ⟨r, y, e, hr, h1, h2⟩ := rval (x := X 57 10) (i := i + 1) H (by omega)
    rw [if_pos c3, if_pos c3, if_neg n10, e, bs]
    dsimp only
    by_cases g : (valS t L (i + 1)).1 = 1
    · have es : ordS t L i = (1, [(1, (valS t L (i + 1)).2.1, 1)], (valS t L (i + 1)).2.2) := by unfold ordS; rw [if_neg c1, if_neg c2, if_pos c3, if_pos g]
      rw [es] at hold hlen ⊢
      rw [(h1 g).1, if_neg n10, if_neg (h11' _ _), hR_10, (h1 g).2]
      exact CC_1 (X1 := hR X (nI (valS t L (i + 1)).2.2) (valS t L (i + 1)).2.1) (c := (1, (valS t L (i + 1)).2.1, 1)) R M (hR_58.trans h58) JW.hr (Or.inr (Or.inr (Or.inr ⟨rfl, (f4 g).2⟩))) hlen ht hold (fun X2 er x9 => ⟨X2 57 9, X2 57 10, (bnd2 (k := fun Y => some (1, Y)) (show rop (1, (valS t L (i + 1)).2.1, 1) _ = f_X6_doSet 1 (valS t L (i + 1)).2.1 _ from rfl) er).trans (by rw [hR_self]), x9.trans hR_9⟩)
    · have es : (ordS t L i).1 = 0 := by unfold ordS; rw [if_neg c1, if_neg c2, if_pos c3, if_neg g]
      exact absurd (es.symm.trans ok) (by decide)
  rw [if_neg c3, if_neg c3, if_pos rfl, hR_at h9]
  have es : ordS t L i = sasS t L 81 i := by unfold ordS; rw [if_neg c1, if_neg c2, if_neg c3]
  rw [es] at ok hold hlen ⊢
  obtain ⟨F', T', P', G', N', a', X', S', n', Z', K', D', Q', c1, c2, c3, c4, c5, c6, c7⟩ := js (tt := tt) (J := J) ht 81 4000 i s X F T P G N a S n Z K D Q (by omega) hi (by omega) H h11 h9 h12 h58 R M ok hold hlen
  refine ⟨F', T', P', G', N', a', X', S', n', Z', K', D', Q', ?_, c2, c3, c4, c5, c6, c7⟩
  unfold f_X6_readsSamples
  rw [c1, bs, if_pos (Or.inr rfl)]
theorem ja {t : Row} {L tt : Nat} {J : HI} (ht : tt ≤ 80) : ∀ (k f f2 i s : Nat) (v1 : Int32) (X : HI) (F T P G N a : Row) (S n Z K D Q : Nat), L - i < k → i ≤ L → k < f2 → tot (allS t L k i).2.1 < f → TR X t L → X 57 11 = 1 → X 57 9 = nI i → X 57 12 = 0 → X 58 = a → RX a S n Z K D Q → MR F T P G N a S n → (allS t L k i).1 = 1 → HoldA (J 53) (J 54) (J 55) (J 56) s (allS t L k i).2.1 → s + tot (allS t L k i).2.1 = tt →
    ∃ (cnt : Int32) (F' T' P' G' N' a' : Row) (X' : HI) (S' n' Z' K' D' Q' : Nat), f_X5_carryOut_L46 (nI tt) f v1 (nI s) (sM J F T P G N) = some (cnt, sM J F' T' P' G' N') ∧ f_X6_carryOut_L35 f2 v1 1 X = ((f_X6_changed cnt (upI X' 57 8 0)).bind fun q => some (q.1, q.2)) ∧ X' 58 = a' ∧ JW X X' ∧ MR F' T' P' G' N' a' S' n' ∧ RX a' S' n' Z' K' D' Q' := by
  have e00 : ∀ (f2 : Nat) (v1 : Int32) (X : HI), 0 < f2 → f_X6_carryOut_L35 f2 v1 0 X = ((f_X6_changed v1 (upI X 57 8 0)).bind fun q => some (q.1, q.2)) := fun f2 v1 X hf => by
    obtain ⟨f2, rfl⟩ : ∃ f', f2 = f' + 1 := ⟨f2 - 1, by omega⟩
    show f_X6_carryOut_L35_b _ _ _ _ = _
    unfold f_X6_carryOut_L35_b
    rw [if_pos rfl]
  intro k
  induction k with
  | zero => intro f f2 i s v1 X F T P G N a S n Z K D Q h; omega
  | succ k ih =>
    intro f f2 i s v1 X F T P G N a S n Z K D Q hk hi hf2 hf H h11 h9 h12 h58 R M ok hold hlen
    have hL := H.1
    obtain ⟨f2, rfl⟩ : ∃ f', f2 = f' + 1 := ⟨f2 - 1, by omega⟩
    obtain ⟨q1, q2, s01, d⟩ := ord_facts H.2.2.2 hL hi
    by_cases h : (ordS t L i).1 = 1
    · have hij := d h
      have eL : f_X6_carryOut_L35 (f2 + 1) v1 1 X = f_X6_carryOut_L35_b (f_X6_carryOut_L35 f2) v1 1 X := rfl
      by_cases g : t (ordS t L i).2.2 = 59
      · have hjL := t_lt H.2.2.2 g (by decide)
        have es : allS t L (k + 1) i = ((allS t L k ((ordS t L i).2.2 + 1)).1, (ordS t L i).2.1 :: (allS t L k ((ordS t L i).2.2 + 1)).2.1, (allS t L k ((ordS t L i).2.2 + 1)).2.2) := by
          show (if _ then _ else _) = _
          rw [if_pos h, if_pos g]
        rw [es] at ok hold hlen hf
        dsimp only [tot] at ok hold hlen hf
        obtain ⟨F1, T1, P1, G1, N1, a1, X1, S1, n1, Z1, K1, D1, Q1, b1, b2, b3, b4, b5, b6, b7⟩ := jo (J := J) (s := s) (tt := tt) ht hi H h11 h9 h12 h58 R M h hold.1.2 (by omega)
        have H1 := TR_w b3 H
        rw [eL]
        unfold f_X6_carryOut_L35_b
        rw [if_neg n10, b1, bs]
        dsimp only
        have et := tk_c (x := X1 57 10) (c := 59) H1 (i := (ordS t L i).2.2) (by omega) (by decide)
        rw [hR_at b4, if_pos g, if_pos g] at et
        rcases b7 with ⟨o12, cl⟩ | ⟨o12, cl⟩
        · rw [if_pos o12, if_pos o12, et, bs, if_neg n10]
          have jw3 : JW X (hR X1 (nI ((ordS t L i).2.2 + 1)) (X1 57 10)) := b3.tr JW.hr
          obtain ⟨cnt, F', T', P', G', N', a', X', S', n', Z', K', D', Q', c1, c2, c3, c4, c5, c6⟩ := ih (f - (ordS t L i).2.1.length) f2 ((ordS t L i).2.2 + 1) (s + (ordS t L i).2.1.length) (v1 + 1) (hR X1 (nI ((ordS t L i).2.2 + 1)) (X1 57 10)) F1 T1 P1 G1 N1 a1 S1 n1 Z1 K1 D1 Q1 (by omega) (by omega) (by omega) (by omega) (TR_w jw3 H) (jw3.2.2.2.trans h11) hR_9 (hR_12.trans o12) (hR_58.trans b2) b6 b5 ok hold.2 (by omega)
          refine ⟨cnt, F', T', P', G', N', a', X', S', n', Z', K', D', Q', ?_, c2, c3, jw3.tr c4, c5, c6⟩
          have := cl (f - (ordS t L i).2.1.length) v1
          rw [show f - (ordS t L i).2.1.length + (ordS t L i).2.1.length = f by omega] at this
          rw [this]
          exact c1
        · rw [if_neg o12, if_neg o12, Int32.add_zero, e00 _ _ _ (by omega)]
          refine ⟨v1, F1, T1, P1, G1, N1, a1, X1, S1, n1, Z1, K1, D1, Q1, ?_, rfl, b2, b3, b5, b6⟩
          have := cl (f - (ordS t L i).2.1.length) v1
          rwa [show f - (ordS t L i).2.1.length + (ordS t L i).2.1.length = f by omega] at this
      · have es : allS t L (k + 1) i = (1, [(ordS t L i).2.1], (ordS t L i).2.2) := by
          show (if _ then _ else _) = _
          rw [if_pos h, if_neg g]
        rw [es] at hold hlen hf
        dsimp only [tot] at hold hlen hf
        obtain ⟨F1, T1, P1, G1, N1, a1, X1, S1, n1, Z1, K1, D1, Q1, b1, b2, b3, b4, b5, b6, b7⟩ := jo (J := J) (s := s) (tt := tt) ht hi H h11 h9 h12 h58 R M h hold.1.2 (by omega)
        have H1 := TR_w b3 H
        rw [eL]
        unfold f_X6_carryOut_L35_b
        rw [if_neg n10, b1, bs]
        dsimp only
        have et := tk_c (x := X1 57 10) (c := 59) H1 (i := (ordS t L i).2.2) (by omega) (by decide)
        rw [hR_at b4, if_neg g, if_neg g, hR_at b4] at et
        rcases b7 with ⟨o12, cl⟩ | ⟨o12, cl⟩
        · rw [if_pos o12, if_pos o12, et, bs, if_pos rfl, e00 _ _ _ (by omega)]
          refine ⟨v1 + 1, F1, T1, P1, G1, N1, a1, X1, S1, n1, Z1, K1, D1, Q1, ?_, rfl, b2, b3, b5, b6⟩
          have := cl (f - (ordS t L i).2.1.length) v1
          rw [show f - (ordS t L i).2.1.length + (ordS t L i).2.1.length = f by omega] at this
          rw [this, show s + (ordS t L i).2.1.length = tt by omega]
          obtain ⟨f', ef⟩ : ∃ f', f - (ordS t L i).2.1.length = f' + 1 := ⟨f - (ordS t L i).2.1.length - 1, by omega⟩
          rw [ef]
          show f_X5_carryOut_L46_b _ _ _ _ _ = _
          unfold f_X5_carryOut_L46_b
          rw [if_pos (nI_le (Nat.le_refl _) (by omega))]
        · rw [if_neg o12, if_neg o12, Int32.add_zero, e00 _ _ _ (by omega)]
          refine ⟨v1, F1, T1, P1, G1, N1, a1, X1, S1, n1, Z1, K1, D1, Q1, ?_, rfl, b2, b3, b5, b6⟩
          have := cl (f - (ordS t L i).2.1.length) v1
          rwa [show f - (ordS t L i).2.1.length + (ordS t L i).2.1.length = f by omega] at this
    · have es : (allS t L (k + 1) i).1 = 0 := by
        show (if _ then _ else _ : Int32 × List (List (Int32 × Int32 × Int32)) × Nat).1 = _
        rw [if_neg h]
      exact absurd (es.symm.trans ok) (by decide)
