/-! ===== pure: texts: values and samples on both sides ===== -/
def valS (t : Row) (L i : Nat) : Int32 × Int32 × Nat := if t i = 45 then ((numS t L (i + 1)).1, -(numS t L (i + 1)).2.1, (numS t L (i + 1)).2.2) else numS t L i
theorem t_lt {t : Row} {L i : Nat} {c : Int32} (h0 : ∀ k, L ≤ k → t k = 0) (h : t i = c) (hc : ¬ c = 0) : i < L := by
  by_cases q : L ≤ i
  · exact absurd (h.symm.trans (h0 i q)) hc
  · omega
theorem neg_rng {m : Nat} (hm : m ≤ 100) : (-100 ≤ nI m ∧ nI m ≤ 100) ∧ (-100 ≤ -nI m ∧ -nI m ≤ 100) := by
  have e1 : (-100 : Int32).toInt = -100 := rfl
  have e2 : (100 : Int32).toInt = 100 := rfl
  refine ⟨⟨?_, ?_⟩, ⟨?_, ?_⟩⟩
  · rw [Int32.le_iff_toInt_le, nI_toInt (by omega), e1]; omega
  · rw [Int32.le_iff_toInt_le, nI_toInt (by omega), e2]; omega
  · rw [Int32.le_iff_toInt_le, sb_negT (by omega), e1]; omega
  · rw [Int32.le_iff_toInt_le, sb_negT (by omega), e2]; omega
theorem val_facts {t : Row} {L i : Nat} (h0 : ∀ k, L ≤ k → t k = 0) (hi : i ≤ L) : i ≤ (valS t L i).2.2 ∧ (valS t L i).2.2 ≤ L ∧ ((valS t L i).1 = 0 ∨ (valS t L i).1 = 1) ∧ ((valS t L i).1 = 1 → i < (valS t L i).2.2 ∧ -100 ≤ (valS t L i).2.1 ∧ (valS t L i).2.1 ≤ 100) := by
  unfold valS
  by_cases h : t i = 45
  · have := t_lt h0 h (by decide)
    obtain ⟨a, b, c, d, e⟩ := num_facts (i := i + 1) h0 (by omega)
    rw [if_pos h]
    dsimp only
    refine ⟨by omega, b, c, fun q => ?_⟩
    obtain ⟨e1, e2, m, hm, e3⟩ := e q
    rw [e3]
    exact ⟨by omega, (neg_rng hm).2⟩
  · obtain ⟨a, b, c, d, e⟩ := num_facts (i := i) h0 hi
    rw [if_neg h]
    refine ⟨a, b, c, fun q => ?_⟩
    obtain ⟨e1, e2, m, hm, e3⟩ := e q
    rw [e3]
    exact ⟨by omega, (neg_rng hm).1⟩
theorem cval {I : HI} {t : Row} {L i : Nat} {s x : Int32} {A V W E : Row} (H : TC I t L) (hi : i ≤ L) : ∃ y : Int32, f_X2_readValue (hT I s (nI i) x A V W E) = some ((valS t L i).1, hT I s (nI (valS t L i).2.2) y A V W E) ∧ ((valS t L i).1 = 1 → y = (valS t L i).2.1) := by
  have hL := H.1
  unfold f_X2_readValue valS
  rw [code_eq H (by omega), bs]
  dsimp only
  by_cases h : t i = 45
  · have := t_lt H.2.2.2 h (by decide)
    obtain ⟨y, e, hy⟩ := cnum (s := s) (x := x) (A := A) (V := V) (W := W) (E := E) (i := i + 1) H (by omega)
    rw [if_pos h, if_pos h]
    unfold f_X2_readValue_J14 f_X2_readValue_J29
    rw [if_neg n10]
    dsimp only
    rw [hT_7, nI_1, hT_u7, e, bs]
    dsimp only
    rcases (num_facts (i := i + 1) H.2.2.2 (by omega)).2.2.1 with c | c
    · rw [c, if_pos rfl]
      exact ⟨y, rfl, fun q => absurd q (by decide)⟩
    · rw [c, if_neg n10, if_neg n10, hT_8, hT_u8]
      exact ⟨_, rfl, fun _ => by rw [hy c]⟩
  · obtain ⟨y, e, hy⟩ := cnum (s := s) (x := x) (A := A) (V := V) (W := W) (E := E) (i := i) H hi
    rw [if_neg h, if_neg h]
    unfold f_X2_readValue_J14 f_X2_readValue_J29
    rw [if_pos rfl, e, bs]
    dsimp only
    rcases (num_facts (i := i) H.2.2.2 hi).2.2.1 with c | c
    · rw [c, if_pos rfl]
      exact ⟨y, rfl, fun q => absurd q (by decide)⟩
    · rw [c, if_neg n10, if_pos rfl]
      exact ⟨y, rfl, fun _ => hy c⟩
theorem rval {K : HI} {t : Row} {L i : Nat} {x : Int32} (H : TR K t L) (hi : i ≤ L) : ∃ r y : Int32, f_X6_readsValue (hR K (nI i) x) = some (r, hR K (nI (valS t L i).2.2) y) ∧ (r = 0 ∨ r = 1) ∧ ((valS t L i).1 = 1 → r = 1 ∧ y = (valS t L i).2.1) ∧ ((valS t L i).1 = 0 → r = 0 ∨ dg (t (valS t L i).2.2)) := by
  have hL := H.1
  unfold f_X6_readsValue valS
  rw [tk_c H (by omega) (by decide), bs]
  dsimp only
  by_cases h : t i = 45
  · have := t_lt H.2.2.2 h (by decide)
    obtain ⟨y, e, hy⟩ := rnum (x := x) (i := i + 1) H (by omega)
    rw [if_pos h, if_pos h, if_pos h, e, bs]
    dsimp only
    rw [if_neg n10, hR_10, hR_u10]
    obtain ⟨f1, f2, f3, f4, f5⟩ := num_facts (i := i + 1) H.2.2.2 (by omega)
    by_cases g : dg (t (i + 1))
    · rw [if_pos g]
      exact ⟨1, _, by rw [if_pos (Or.inr rfl)], Or.inr rfl, fun q => ⟨rfl, by rw [hy g]⟩, fun q => Or.inr (f4 q g)⟩
    · rw [if_neg g]
      exact ⟨0, _, by rw [if_pos (Or.inl rfl)], Or.inl rfl, fun q => absurd (f5 q).1 g, fun _ => Or.inl rfl⟩
  · obtain ⟨y, e, hy⟩ := rnum (x := x) (i := i) H hi
    rw [if_neg h, if_neg h, if_neg h, e, bs]
    dsimp only
    rw [if_pos rfl, hR_10, hR_u10]
    obtain ⟨f1, f2, f3, f4, f5⟩ := num_facts (i := i) H.2.2.2 hi
    by_cases g : dg (t i)
    · rw [if_pos g]
      exact ⟨1, _, by rw [if_pos (Or.inr rfl)], Or.inr rfl, fun q => ⟨rfl, by rw [hy g]⟩, fun q => Or.inr (f4 q g)⟩
    · rw [if_neg g]
      exact ⟨0, _, by rw [if_pos (Or.inl rfl)], Or.inl rfl, fun q => absurd (f5 q).1 g, fun _ => Or.inl rfl⟩
def smpS (t : Row) (L i : Nat) : Int32 × Int32 × Int32 × Nat := if (valS t L i).1 = 1 then (if t (valS t L i).2.2 = 42 then ((numS t L ((valS t L i).2.2 + 1)).1, (valS t L i).2.1, (numS t L ((valS t L i).2.2 + 1)).2.1, (numS t L ((valS t L i).2.2 + 1)).2.2) else (1, (valS t L i).2.1, 1, (valS t L i).2.2)) else (0, (valS t L i).2.1, 0, (valS t L i).2.2)
theorem smp_facts {t : Row} {L i : Nat} (h0 : ∀ k, L ≤ k → t k = 0) (hi : i ≤ L) : i ≤ (smpS t L i).2.2.2 ∧ (smpS t L i).2.2.2 ≤ L ∧ ((smpS t L i).1 = 0 ∨ (smpS t L i).1 = 1) ∧ ((smpS t L i).1 = 1 → i < (smpS t L i).2.2.2) := by
  obtain ⟨a, b, c, d⟩ := val_facts h0 hi
  unfold smpS
  by_cases h : (valS t L i).1 = 1
  · rw [if_pos h]
    by_cases g : t (valS t L i).2.2 = 42
    · have := t_lt h0 g (by decide)
      obtain ⟨f1, f2, f3, f4, f5⟩ := num_facts (i := (valS t L i).2.2 + 1) h0 (by omega)
      rw [if_pos g]
      exact ⟨by dsimp only; omega, f2, f3, fun q => by dsimp only; omega⟩
    · rw [if_neg g]
      exact ⟨a, b, Or.inr rfl, fun _ => (d h).1⟩
  · rw [if_neg h]
    exact ⟨a, b, Or.inl rfl, fun q => absurd q (show ¬ (0 : Int32) = 1 by decide)⟩
theorem add_eq {I : HI} {σ : Nat} {i x a v w : Int32} {A V W E : Row} (hσ : σ < 80) : f_X2_addStep a v w (hT I (nI σ) i x A V W E) = some (0, hT I (nI (σ + 1)) i x (upd A σ a) (upd V σ v) (upd W σ w) (upd E σ 0)) := by
  unfold f_X2_addStep
  rw [hT_6, wr_in 53 σ rfl (by exact hσ), bs]
  dsimp only
  rw [hT_u53, hT_6, wr_in 54 σ rfl (by exact hσ), bs]
  dsimp only
  rw [hT_u54, hT_6, wr_in 55 σ rfl (by exact hσ), bs]
  dsimp only
  rw [hT_u55, hT_6, wr_in 56 σ rfl (by exact hσ), bs]
  dsimp only
  rw [hT_u56, hT_6, nI_1, hT_u6]
theorem csmp {I : HI} {t : Row} {L i σ : Nat} {x : Int32} {A V W E : Row} (H : TC I t L) (hi : i ≤ L) (hσ : σ ≤ i) : ((smpS t L i).1 = 0 → ∃ y : Int32, f_X2_readSample (hT I (nI σ) (nI i) x A V W E) = some (0, hT I (nI σ) (nI (smpS t L i).2.2.2) y A V W E)) ∧ ((smpS t L i).1 = 1 → ∃ y : Int32, f_X2_readSample (hT I (nI σ) (nI i) x A V W E) = some (1, hT I (nI (σ + 1)) (nI (smpS t L i).2.2.2) y (upd A σ 2) (upd V σ (smpS t L i).2.1) (upd W σ (smpS t L i).2.2.1) (upd E σ 0))) := by
  have hL := H.1
  obtain ⟨a, b, c, d⟩ := val_facts H.2.2.2 hi
  obtain ⟨y, e, hy⟩ := cval (s := nI σ) (x := x) (A := A) (V := V) (W := W) (E := E) H hi
  unfold f_X2_readSample smpS
  rw [e, bs]
  dsimp only
  rcases c with c | c
  · rw [c, if_pos rfl, if_neg (show ¬ (0 : Int32) = 1 by decide)]
    exact ⟨fun _ => ⟨y, rfl⟩, fun q => absurd q (show ¬ (0 : Int32) = 1 by decide)⟩
  · rw [c, if_neg n10, if_pos rfl, hT_8, code_eq H (by omega), bs, hy c]
    dsimp only
    by_cases g : t (valS t L i).2.2 = 42
    · have := t_lt H.2.2.2 g (by decide)
      obtain ⟨f1, f2, f3, f4, f5⟩ := num_facts (i := (valS t L i).2.2 + 1) H.2.2.2 (by omega)
      obtain ⟨z, e2, hz⟩ := cnum (s := nI σ) (x := (valS t L i).2.1) (A := A) (V := V) (W := W) (E := E) (i := (valS t L i).2.2 + 1) H (by omega)
      rw [if_pos g, if_pos g, hT_7, nI_1, hT_u7, e2, bs]
      dsimp only
      rcases f3 with f | f
      · rw [f, if_pos rfl]
        exact ⟨fun _ => ⟨z, rfl⟩, fun q => absurd q (show ¬ (0 : Int32) = 1 by decide)⟩
      · rw [f, if_neg n10, hT_8, hz f]
        refine ⟨fun q => absurd q n10, fun _ => ?_⟩
        unfold f_X2_readSample_J49
        rw [add_eq (by have := (d c).1; omega), bs]
        exact ⟨_, rfl⟩
    · rw [if_neg g, if_neg g]
      refine ⟨fun q => absurd q n10, fun _ => ?_⟩
      unfold f_X2_readSample_J49
      rw [add_eq (by have := (d c).1; omega), bs]
      exact ⟨_, rfl⟩
theorem dg_ne {c e : Int32} (h : dg c) (he : ¬ dg e) : ¬ c = e := fun q => he (q ▸ h)
/-- one sample on the reference's first pass -/
theorem rsmp {K : HI} {t : Row} {L i : Nat} {x : Int32} {k : Int32 → HI → Option (Int32 × HI)} (H : TR K t L) (hi : i ≤ L) (h11 : K 57 11 = 0) : ((smpS t L i).1 = 1 → ∃ y : Int32, f_X6_readsSamples_L2_b k 1 (hR K (nI i) x) = k (if t (smpS t L i).2.2.2 = 44 then 1 else 0) (hR K (nI (if t (smpS t L i).2.2.2 = 44 then (smpS t L i).2.2.2 + 1 else (smpS t L i).2.2.2)) y)) ∧ ((smpS t L i).1 = 0 → ∃ y : Int32, f_X6_readsSamples_L2_b k 1 (hR K (nI i) x) = some (0, hR K (nI (smpS t L i).2.2.2) y) ∨ (dg (t (smpS t L i).2.2.2) ∧ f_X6_readsSamples_L2_b k 1 (hR K (nI i) x) = k 0 (hR K (nI (smpS t L i).2.2.2) y))) := by
  have hL := H.1
  obtain ⟨a, b, c, d⟩ := val_facts H.2.2.2 hi
  obtain ⟨r, y, e, hr, h1, h2⟩ := rval (x := x) H hi
  have h11' : ∀ i x : Int32, hR K i x 57 11 = 0 := fun i x => (hR_k (by decide) (by decide)).trans h11
  unfold f_X6_readsSamples_L2_b smpS
  rw [if_neg n10, e, bs]
  dsimp only
  rcases c with c | c
  · rw [c, if_neg (show ¬ (0 : Int32) = 1 by decide)]
    refine ⟨fun q => absurd q (show ¬ (0 : Int32) = 1 by decide), fun _ => ?_⟩
    dsimp only
    rcases hr with hr | hr
    · rw [hr, if_pos rfl]
      exact ⟨y, Or.inl rfl⟩
    · have g : dg (t (valS t L i).2.2) := (h2 c).resolve_left (by rw [hr]; decide)
      rw [hr, if_neg n10, hR_u10, tk_c H (by omega) (by decide), if_neg (dg_ne g (by decide)), if_neg (dg_ne g (by decide)), bs, if_pos rfl]
      dsimp only
      rw [if_pos (h11' _ _), tk_c H (by omega) (by decide), if_neg (dg_ne g (by decide)), if_neg (dg_ne g (by decide)), bs]
      exact ⟨_, Or.inr ⟨g, rfl⟩⟩
  · obtain ⟨r1, r2⟩ := h1 c
    rw [c, if_pos rfl, r1, if_neg n10, hR_u10, tk_c H (by omega) (by decide), bs]
    dsimp only
    by_cases g : t (valS t L i).2.2 = 42
    · have := t_lt H.2.2.2 g (by decide)
      obtain ⟨f1, f2, f3, f4, f5⟩ := num_facts (i := (valS t L i).2.2 + 1) H.2.2.2 (by omega)
      obtain ⟨z, e2, hz⟩ := rnum (x := 1) (i := (valS t L i).2.2 + 1) H (by omega)
      rw [if_pos g, if_pos g, if_pos g, if_neg n10, e2, bs]
      dsimp only
      by_cases gg : dg (t ((valS t L i).2.2 + 1))
      · rw [if_pos gg, if_neg n10, if_pos (h11' _ _), tk_c H (by omega) (by decide), bs]
        dsimp only
        refine ⟨fun _ => ⟨z, rfl⟩, fun q => ?_⟩
        have g2 := f4 q gg
        rw [if_neg (dg_ne g2 (by decide)), if_neg (dg_ne g2 (by decide))]
        exact ⟨z, Or.inr ⟨g2, rfl⟩⟩
      · rw [if_neg gg, if_pos rfl]
        exact ⟨fun q => absurd (f5 q).1 gg, fun _ => ⟨z, Or.inl rfl⟩⟩
    · rw [if_neg g, if_neg g, if_neg g, if_pos rfl, if_pos (h11' _ _), tk_c H (by omega) (by decide), bs]
      exact ⟨fun _ => ⟨_, rfl⟩, fun q => absurd q n10⟩
