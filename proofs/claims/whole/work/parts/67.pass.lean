/-! ===== pure: carryOut: samples on both sides ===== -/
def JW (X X' : HI) : Prop := (∀ b, b ≠ 57 → b ≠ 58 → X' b = X b) ∧ X' 57 3 = X 57 3 ∧ X' 57 8 = X 57 8 ∧ X' 57 11 = X 57 11
theorem JW.tr {X Y Z : HI} (h : JW X Y) (h' : JW Y Z) : JW X Z := ⟨fun b h1 h2 => (h'.1 b h1 h2).trans (h.1 b h1 h2), h'.2.1.trans h.2.1, h'.2.2.1.trans h.2.2.1, h'.2.2.2.trans h.2.2.2⟩
theorem JW.hr {X : HI} {i x : Int32} : JW X (hR X i x) := ⟨fun b h _ => hR_n h, hR_k (by decide) (by decide), hR_k (by decide) (by decide), hR_k (by decide) (by decide)⟩
theorem TR_w {X X' : HI} {t : Row} {L : Nat} (h : JW X X') (H : TR X t L) : TR X' t L := ⟨H.1, h.2.2.1.trans H.2.1, fun k hk => by rw [h.1 63 (by decide) (by decide)]; exact H.2.2.1 k hk, H.2.2.2⟩
theorem hR_at {X : HI} {i : Int32} (h : X 57 9 = i) : hR X i (X 57 10) = X := by rw [← h]; exact hR_self
theorem hR_58 {X : HI} {i x : Int32} : hR X i x 58 = X 58 := hR_n (by decide)
theorem hR_12 {X : HI} {i x : Int32} : hR X i x 57 12 = X 57 12 := hR_k (by decide) (by decide)
theorem fin1 {J X : HI} {F T P G N a : Row} {S n Z K D Q s tt : Nat} {c : Int32 × Int32 × Int32} (R : RX a S n Z K D Q) (M : MR F T P G N a S n) (hX : X 58 = a) (hc : VS c) (hs : s < tt) (ht : tt ≤ 80) (h1 : J 53 s = c.1) (h2 : J 54 s = c.2.1) (h3 : J 55 s = c.2.2) (e : Int32) (h4 : J 56 s = e) :
    ∃ (F' T' P' G' N' a' : Row) (X2 : HI) (S' n' Z' K' D' Q' : Nat), ((rop c X).bind fun q => f_X6_does q.1 q.2) = some (0, X2) ∧ X2 58 = a' ∧ JW X X2 ∧ X2 57 9 = X 57 9 ∧ MR F' T' P' G' N' a' S' n' ∧ RX a' S' n' Z' K' D' Q' ∧
      ((X2 57 12 = 0 ∧ ∀ (f : Nat) (v1 : Int32), f_X5_carryOut_L46 (nI tt) (f + 1) v1 (nI s) (sM J F T P G N) = if e = 1 then f_X5_carryOut_L46 (nI tt) f (v1 + 1) (nI (s + 1)) (sM J F' T' P' G' N') else f_X5_carryOut_L46 (nI tt) f v1 (nI (s + 1)) (sM J F' T' P' G' N')) ∨ (¬ X2 57 12 = 0 ∧ ∀ (f : Nat) (v1 : Int32), f_X5_carryOut_L46 (nI tt) (f + 1) v1 (nI s) (sM J F T P G N) = some (v1, sM J F' T' P' G' N'))) := by
  obtain ⟨x, x', F', T', P', G', N', a', X', S', n', Z', K', D', Q', e1, e2, e58, jx, iff, M', R'⟩ := st1 R M hX hc (by omega) h1 h2 h3
  have cl := fun f v1 => cl1 e1 hs ht h4 f v1
  refine ⟨F', T', P', G', N', a', upI X' 57 12 (if 0 ≤ x' then 0 else x'), S', n', Z', K', D', Q', ?_, ?_, ⟨fun b b1 b2 => ?_, ?_, ?_, ?_⟩, ?_, M', R', ?_⟩
  · rw [e2, bs, does_eq]
  · rw [upI_n (by decide)]; exact e58
  · rw [upI_n b1]; exact jx.1 b b1 b2
  · rw [upI_s, upd_n (by decide)]; exact jx.2 3 (by decide)
  · rw [upI_s, upd_n (by decide)]; exact jx.2 8 (by decide)
  · rw [upI_s, upd_n (by decide)]; exact jx.2 11 (by decide)
  · rw [upI_s, upd_n (by decide)]; exact jx.2 9 (by decide)
  · rw [upI_s, upd_s]
    by_cases h : 0 ≤ x'
    · rw [if_pos h]
      refine Or.inl ⟨rfl, fun f v1 => ?_⟩
      rw [cl, if_pos (iff.mpr h)]
    · rw [if_neg h]
      refine Or.inr ⟨fun q => h (by rw [q]; decide), fun f v1 => ?_⟩
      rw [cl, if_neg (fun q => h (iff.mp q))]
theorem L2_0 {f : Nat} (hf : 0 < f) (X : HI) : f_X6_readsSamples_L2 f 0 X = some (1, X) := by
  obtain ⟨f, rfl⟩ : ∃ f', f = f' + 1 := ⟨f - 1, by omega⟩
  show f_X6_readsSamples_L2_b _ _ _ = _
  unfold f_X6_readsSamples_L2_b
  rw [if_pos rfl]
theorem skip {t : Row} {L : Nat} : ∀ (k f i : Nat) (X : HI), L - i < k → i ≤ L → k < f → TR X t L → X 57 11 = 1 → X 57 9 = nI i → ¬ X 57 12 = 0 → (sasS t L k i).1 = 1 → ∃ X' : HI, f_X6_readsSamples_L2 f 1 X = some (1, X') ∧ X' 58 = X 58 ∧ X' 57 12 = X 57 12 ∧ JW X X' ∧ X' 57 9 = nI (sasS t L k i).2.2 := by
  intro k
  induction k with
  | zero => intro f i X h; omega
  | succ k ih =>
    intro f i X hk hi hf H h11 h9 h12 ok
    have hL := H.1
    obtain ⟨f, rfl⟩ : ∃ f', f = f' + 1 := ⟨f - 1, by omega⟩
    obtain ⟨a, b, s01, d⟩ := smp_facts H.2.2.2 hi
    have eL : f_X6_readsSamples_L2 (f + 1) 1 X = f_X6_readsSamples_L2_b (f_X6_readsSamples_L2 f) 1 X := rfl
    unfold sasS at ok ⊢
    by_cases h : (smpS t L i).1 = 1
    · have hij := d h
      have e := rs2 (x := X 57 10) (k := f_X6_readsSamples_L2 f) H hi h11 h
      rw [hR_at h9, if_neg h12, tk_c H (by omega) (by decide), bs] at e
      rw [if_pos h] at ok ⊢
      rw [eL, e]
      dsimp only
      by_cases g : t (smpS t L i).2.2.2 = 44
      · have hjL := t_lt H.2.2.2 g (by decide)
        rw [if_pos g] at ok ⊢
        rw [if_pos g, if_pos g]
        obtain ⟨X', e', b1, b2, b3, b4⟩ := ih f ((smpS t L i).2.2.2 + 1) (hR X (nI ((smpS t L i).2.2.2 + 1)) (smpS t L i).2.2.1) (by omega) (by omega) (by omega) (TR_w JW.hr H) (by rw [hR_k (by decide) (by decide)]; exact h11) hR_9 (by rw [hR_12]; exact h12) ok
        exact ⟨X', e', b1.trans hR_58, b2.trans hR_12, JW.hr.tr b3, b4⟩
      · rw [if_neg g]
        rw [if_neg g, if_neg g]
        exact ⟨_, L2_0 (by omega) _, hR_58, hR_12, JW.hr, hR_9⟩
    · rw [if_neg h] at ok
      exact absurd ok (show ¬ (0 : Int32) = 1 by decide)
def CC (J : HI) (F T P G N : Row) (X : HI) (s len tt j : Nat) (call : Option (Int32 × HI)) : Prop := ∃ (F' T' P' G' N' a' : Row) (X' : HI) (S' n' Z' K' D' Q' : Nat), call = some (1, X') ∧ X' 58 = a' ∧ JW X X' ∧ X' 57 9 = nI j ∧ MR F' T' P' G' N' a' S' n' ∧ RX a' S' n' Z' K' D' Q' ∧
  ((X' 57 12 = 0 ∧ ∀ (f : Nat) (v1 : Int32), f_X5_carryOut_L46 (nI tt) (f + len) v1 (nI s) (sM J F T P G N) = f_X5_carryOut_L46 (nI tt) f (v1 + 1) (nI (s + len)) (sM J F' T' P' G' N')) ∨ (¬ X' 57 12 = 0 ∧ ∀ (f : Nat) (v1 : Int32), f_X5_carryOut_L46 (nI tt) (f + len) v1 (nI s) (sM J F T P G N) = some (v1, sM J F' T' P' G' N')))
theorem js {t : Row} {L tt : Nat} {J : HI} (ht : tt ≤ 80) : ∀ (k f i s : Nat) (X : HI) (F T P G N a : Row) (S n Z K D Q : Nat), L - i < k → i ≤ L → k < f → TR X t L → X 57 11 = 1 → X 57 9 = nI i → X 57 12 = 0 → X 58 = a → RX a S n Z K D Q → MR F T P G N a S n → (sasS t L k i).1 = 1 → Hold (J 53) (J 54) (J 55) (J 56) s (sasS t L k i).2.1 → s + (sasS t L k i).2.1.length ≤ tt → CC J F T P G N X s (sasS t L k i).2.1.length tt (sasS t L k i).2.2 (f_X6_readsSamples_L2 f 1 X) := by
  intro k
  induction k with
  | zero => intro f i s X F T P G N a S n Z K D Q h; omega
  | succ k ih =>
    intro f i s X F T P G N a S n Z K D Q hk hi hf H h11 h9 h12 h58 R M ok hold hlen
    have hL := H.1
    obtain ⟨f, rfl⟩ : ∃ f', f = f' + 1 := ⟨f - 1, by omega⟩
    obtain ⟨q1, q2, s01, d⟩ := smp_facts H.2.2.2 hi
    have eL : f_X6_readsSamples_L2 (f + 1) 1 X = f_X6_readsSamples_L2_b (f_X6_readsSamples_L2 f) 1 X := rfl
    by_cases h : (smpS t L i).1 = 1
    · have hij := d h
      have e := rs2 (x := X 57 10) (k := f_X6_readsSamples_L2 f) H hi h11 h
      rw [hR_at h9, if_pos h12] at e
      rw [eL, e]
      by_cases g : t (smpS t L i).2.2.2 = 44
      · have hjL := t_lt H.2.2.2 g (by decide)
        have es : sasS t L (k + 1) i = ((sasS t L k ((smpS t L i).2.2.2 + 1)).1, (2, (smpS t L i).2.1, (smpS t L i).2.2.1) :: (sasS t L k ((smpS t L i).2.2.2 + 1)).2.1, (sasS t L k ((smpS t L i).2.2.2 + 1)).2.2) := by
          show (if _ then _ else _) = _
          rw [if_pos h, if_pos g]
        rw [es] at ok hold hlen ⊢
        dsimp only [List.length_cons] at ok hold hlen ⊢
        obtain ⟨-, -, -, f4⟩ := sas_facts H.2.2.2 k ((smpS t L i).2.2.2 + 1) (by omega) (by omega)
        have f4 := f4 ok
        obtain ⟨⟨w1, w2, w3, w4⟩, wl⟩ := hold
        rw [if_neg (by omega)] at w4
        obtain ⟨F1, T1, P1, G1, N1, a1, X2, S1, n1, Z1, K1, D1, Q1, er, x58, jw, x9, M1, R1, out⟩ := fin1 (J := J) (X := hR X (nI (smpS t L i).2.2.2) (smpS t L i).2.2.1) (s := s) (tt := tt) (c := (2, (smpS t L i).2.1, (smpS t L i).2.2.1)) R M (hR_58.trans h58) (Or.inl rfl) (by omega) ht w1 w2 w3 0 w4
        have er : ((f_X6_doFeed (smpS t L i).2.1 (smpS t L i).2.2.1 (hR X (nI (smpS t L i).2.2.2) (smpS t L i).2.2.1)).bind fun q => f_X6_does q.1 q.2) = some (0, X2) := er
        have x9 : X2 57 9 = nI (smpS t L i).2.2.2 := x9.trans hR_9
        have jw1 : JW X X2 := JW.hr.tr jw
        have H2 := TR_w jw1 H
        have et := tk_c (x := X2 57 10) (c := 44) H2 (i := (smpS t L i).2.2.2) (by omega) (by decide)
        rw [hR_at x9, if_pos g, if_pos g] at et
        have eb : ((f_X6_doFeed (smpS t L i).2.1 (smpS t L i).2.2.1 (hR X (nI (smpS t L i).2.2.2) (smpS t L i).2.2.1)).bind fun q => (f_X6_does q.1 q.2).bind fun q2 => (f_X6_takes 44 q2.2).bind fun q3 => f_X6_readsSamples_L2 f q3.1 q3.2) = f_X6_readsSamples_L2 f 1 (hR X2 (nI ((smpS t L i).2.2.2 + 1)) (X2 57 10)) := by
          have : ((f_X6_doFeed (smpS t L i).2.1 (smpS t L i).2.2.1 (hR X (nI (smpS t L i).2.2.2) (smpS t L i).2.2.1)).bind fun q => (f_X6_does q.1 q.2).bind fun q2 => (f_X6_takes 44 q2.2).bind fun q3 => f_X6_readsSamples_L2 f q3.1 q3.2) = ((f_X6_doFeed (smpS t L i).2.1 (smpS t L i).2.2.1 (hR X (nI (smpS t L i).2.2.2) (smpS t L i).2.2.1)).bind fun q => f_X6_does q.1 q.2).bind fun q2 => (f_X6_takes 44 q2.2).bind fun q3 => f_X6_readsSamples_L2 f q3.1 q3.2 := (Option.bind_assoc _ _ _).symm
          rw [this, er, bs]
          dsimp only
          rw [et, bs]
        rw [eb]
        have jw3 : JW X (hR X2 (nI ((smpS t L i).2.2.2 + 1)) (X2 57 10)) := jw1.tr JW.hr
        rcases out with ⟨o12, cl⟩ | ⟨o12, cl⟩
        · obtain ⟨F', T', P', G', N', a', X', S', n', Z', K', D', Q', c1, c2, c3, c4, c5, c6, c7⟩ := ih f ((smpS t L i).2.2.2 + 1) (s + 1) (hR X2 (nI ((smpS t L i).2.2.2 + 1)) (X2 57 10)) F1 T1 P1 G1 N1 a1 S1 n1 Z1 K1 D1 Q1 (by omega) (by omega) (by omega) (TR_w jw3 H) (jw3.2.2.2.trans h11) hR_9 (hR_12.trans o12) (hR_58.trans x58) R1 M1 ok wl (by omega)
          refine ⟨F', T', P', G', N', a', X', S', n', Z', K', D', Q', c1, c2, jw3.tr c3, c4, c5, c6, ?_⟩
          have key : ∀ (f : Nat) (v1 : Int32), f_X5_carryOut_L46 (nI tt) (f + ((sasS t L k ((smpS t L i).2.2.2 + 1)).2.1.length + 1)) v1 (nI s) (sM J F T P G N) = f_X5_carryOut_L46 (nI tt) (f + (sasS t L k ((smpS t L i).2.2.2 + 1)).2.1.length) v1 (nI (s + 1)) (sM J F1 T1 P1 G1 N1) := fun f v1 => by
            rw [← Nat.add_assoc, cl, if_neg (show ¬ (0 : Int32) = 1 by decide)]
          rcases c7 with ⟨z1, z2⟩ | ⟨z1, z2⟩
          · refine Or.inl ⟨z1, fun f v1 => ?_⟩
            rw [key, z2, show s + 1 + (sasS t L k ((smpS t L i).2.2.2 + 1)).2.1.length = s + ((sasS t L k ((smpS t L i).2.2.2 + 1)).2.1.length + 1) by omega]
          · refine Or.inr ⟨z1, fun f v1 => ?_⟩
            rw [key, z2]
        · obtain ⟨X', e', b1, b2, b3, b4⟩ := skip k f ((smpS t L i).2.2.2 + 1) (hR X2 (nI ((smpS t L i).2.2.2 + 1)) (X2 57 10)) (by omega) (by omega) (by omega) (TR_w jw3 H) (jw3.2.2.2.trans h11) hR_9 (by rw [hR_12]; exact o12) ok
          refine ⟨F1, T1, P1, G1, N1, a1, X', S1, n1, Z1, K1, D1, Q1, e', b1.trans (hR_58.trans x58), jw3.tr b3, b4, M1, R1, Or.inr ⟨by rw [b2, hR_12]; exact o12, fun f v1 => ?_⟩⟩
          rw [← Nat.add_assoc, cl]
      · have es : sasS t L (k + 1) i = (1, [(2, (smpS t L i).2.1, (smpS t L i).2.2.1)], (smpS t L i).2.2.2) := by
          show (if _ then _ else _) = _
          rw [if_pos h, if_neg g]
        rw [es] at hold hlen ⊢
        dsimp only [List.length_cons, List.length_nil] at hold hlen ⊢
        obtain ⟨⟨w1, w2, w3, w4⟩, -⟩ := hold
        obtain ⟨F1, T1, P1, G1, N1, a1, X2, S1, n1, Z1, K1, D1, Q1, er, x58, jw, x9, M1, R1, out⟩ := fin1 (J := J) (X := hR X (nI (smpS t L i).2.2.2) (smpS t L i).2.2.1) (s := s) (tt := tt) (c := (2, (smpS t L i).2.1, (smpS t L i).2.2.1)) R M (hR_58.trans h58) (Or.inl rfl) (by omega) ht w1 w2 w3 1 w4
        have er : ((f_X6_doFeed (smpS t L i).2.1 (smpS t L i).2.2.1 (hR X (nI (smpS t L i).2.2.2) (smpS t L i).2.2.1)).bind fun q => f_X6_does q.1 q.2) = some (0, X2) := er
        have x9 : X2 57 9 = nI (smpS t L i).2.2.2 := x9.trans hR_9
        have jw1 : JW X X2 := JW.hr.tr jw
        have H2 := TR_w jw1 H
        have et := tk_c (x := X2 57 10) (c := 44) H2 (i := (smpS t L i).2.2.2) (by omega) (by decide)
        rw [hR_at x9, if_neg g, if_neg g, hR_at x9] at et
        have eb : ((f_X6_doFeed (smpS t L i).2.1 (smpS t L i).2.2.1 (hR X (nI (smpS t L i).2.2.2) (smpS t L i).2.2.1)).bind fun q => (f_X6_does q.1 q.2).bind fun q2 => (f_X6_takes 44 q2.2).bind fun q3 => f_X6_readsSamples_L2 f q3.1 q3.2) = some (1, X2) := by
          have : ((f_X6_doFeed (smpS t L i).2.1 (smpS t L i).2.2.1 (hR X (nI (smpS t L i).2.2.2) (smpS t L i).2.2.1)).bind fun q => (f_X6_does q.1 q.2).bind fun q2 => (f_X6_takes 44 q2.2).bind fun q3 => f_X6_readsSamples_L2 f q3.1 q3.2) = ((f_X6_doFeed (smpS t L i).2.1 (smpS t L i).2.2.1 (hR X (nI (smpS t L i).2.2.2) (smpS t L i).2.2.1)).bind fun q => f_X6_does q.1 q.2).bind fun q2 => (f_X6_takes 44 q2.2).bind fun q3 => f_X6_readsSamples_L2 f q3.1 q3.2 := (Option.bind_assoc _ _ _).symm
          rw [this, er, bs]
          dsimp only
          rw [et, bs]
          exact L2_0 (by omega) _
        rw [eb]
        refine ⟨F1, T1, P1, G1, N1, a1, X2, S1, n1, Z1, K1, D1, Q1, rfl, x58, jw1, x9, M1, R1, ?_⟩
        rcases out with ⟨o12, cl⟩ | ⟨o12, cl⟩
        · exact Or.inl ⟨o12, fun f v1 => by rw [Nat.zero_add, cl, if_pos rfl]⟩
        · exact Or.inr ⟨o12, fun f v1 => by rw [Nat.zero_add, cl]⟩
    · have es : (sasS t L (k + 1) i).1 = 0 := by
        show (if _ then _ else _ : Int32 × List (Int32 × Int32 × Int32) × Nat).1 = _
        rw [if_neg h]
      exact absurd (es.symm.trans ok) (by decide)
