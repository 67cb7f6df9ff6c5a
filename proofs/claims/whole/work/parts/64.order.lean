/-! ===== pure: texts: orders on both sides, and fault ===== -/
def Hold (A V W E : Row) : Nat → List (Int32 × Int32 × Int32) → Prop
  | _, [] => True
  | s, c :: l => (A s = c.1 ∧ V s = c.2.1 ∧ W s = c.2.2 ∧ E s = (if l.length = 0 then 1 else 0)) ∧ Hold A V W E (s + 1) l
def Sm (n : Nat) (A V W E A' V' W' E' : Row) : Prop := ∀ k, k < n → A' k = A k ∧ V' k = V k ∧ W' k = W k ∧ E' k = E k
theorem Hold_c {A V W E A' V' W' E' : Row} {n : Nat} (h : Sm n A V W E A' V' W' E') : ∀ (l : List (Int32 × Int32 × Int32)) (s : Nat), s + l.length ≤ n → Hold A V W E s l → Hold A' V' W' E' s l := by
  intro l
  induction l with
  | nil => intro s _ _; exact trivial
  | cons c l ih =>
    intro s hs q
    have hs' : s + (l.length + 1) ≤ n := hs
    obtain ⟨a, b, d, e⟩ := h s (by omega)
    exact ⟨⟨by rw [a]; exact q.1.1, by rw [b]; exact q.1.2.1, by rw [d]; exact q.1.2.2.1, by rw [e]; exact q.1.2.2.2⟩, ih (s + 1) (by omega) q.2⟩
def sasS (t : Row) (L : Nat) : Nat → Nat → Int32 × List (Int32 × Int32 × Int32) × Nat
  | 0, i => (0, [], i)
  | k + 1, i => if (smpS t L i).1 = 1 then (if t (smpS t L i).2.2.2 = 44 then ((sasS t L k ((smpS t L i).2.2.2 + 1)).1, (2, (smpS t L i).2.1, (smpS t L i).2.2.1) :: (sasS t L k ((smpS t L i).2.2.2 + 1)).2.1, (sasS t L k ((smpS t L i).2.2.2 + 1)).2.2) else (1, [(2, (smpS t L i).2.1, (smpS t L i).2.2.1)], (smpS t L i).2.2.2)) else (0, [], (smpS t L i).2.2.2)
theorem sas_facts {t : Row} {L : Nat} (h0 : ∀ k, L ≤ k → t k = 0) : ∀ (k i : Nat), L - i < k → i ≤ L → i ≤ (sasS t L k i).2.2 ∧ (sasS t L k i).2.2 ≤ L ∧ ((sasS t L k i).1 = 0 ∨ (sasS t L k i).1 = 1) ∧ ((sasS t L k i).1 = 1 → 0 < (sasS t L k i).2.1.length ∧ i + (sasS t L k i).2.1.length ≤ (sasS t L k i).2.2) := by
  intro k
  induction k with
  | zero => intro i h; omega
  | succ k ih =>
    intro i hk hi
    obtain ⟨a, b, c, d⟩ := smp_facts h0 hi
    unfold sasS
    by_cases h : (smpS t L i).1 = 1
    · have := d h
      rw [if_pos h]
      by_cases g : t (smpS t L i).2.2.2 = 44
      · have := t_lt h0 g (by decide)
        obtain ⟨f1, f2, f3, f4⟩ := ih ((smpS t L i).2.2.2 + 1) (by omega) (by omega)
        rw [if_pos g]
        refine ⟨by dsimp only; omega, f2, f3, fun q => ?_⟩
        have := f4 q
        dsimp only [List.length_cons]
        omega
      · rw [if_neg g]
        refine ⟨a, b, Or.inr rfl, fun _ => ⟨by simp, ?_⟩⟩
        dsimp only [List.length_cons, List.length_nil]
        omega
    · rw [if_neg h]
      exact ⟨a, b, Or.inl rfl, fun q => absurd q (show ¬ (0 : Int32) = 1 by decide)⟩
theorem j125 {I : HI} {σ : Nat} {i x v : Int32} {A V W E : Row} (hv : v = 0 ∨ v = 1) (hσ : σ ≤ 80) : ∃ E' : Row, f_X2_readOrder_J125 v (hT I (nI σ) i x A V W E) = some (v, hT I (nI σ) i x A V W E') ∧ (0 < σ → E' = upd E (σ - 1) 1) := by
  unfold f_X2_readOrder_J125
  rw [hT_6]
  by_cases h : σ = 0
  · refine ⟨E, ?_, fun q => by omega⟩
    have e : f_X5_writeAt 56 (nI σ - 1) 1 (hT I (nI σ) i x A V W E) = some (0, hT I (nI σ) i x A V W E) := by
      unfold f_X5_writeAt
      rw [if_pos (by decide), if_pos (by rw [h]; decide)]
    rw [e, bs, if_pos hv]
  · refine ⟨_, ?_, fun _ => rfl⟩
    rw [show nI σ - 1 = nI (σ - 1) by rw [l1, pk_sub (by omega)], wr_in 56 (σ - 1) rfl (by show _ < 80; omega), bs, if_pos hv]
    dsimp only
    rw [hT_u56]
theorem csas {I : HI} {t : Row} {L : Nat} (H : TC I t L) : ∀ (k f i c σ : Nat) (x : Int32) (A V W E : Row), L - i < k → i ≤ L → σ ≤ i → c ≤ i → k ≤ f →
    ((sasS t L k i).1 = 0 → ∃ (σ' : Nat) (y : Int32) (A' V' W' E' : Row), ((f_X2_readSample (hT I (nI σ) (nI i) x A V W E)).bind fun q => f_X2_readOrder_L85 f q.1 (nI c) q.2) = some (0, hT I (nI σ') (nI (sasS t L k i).2.2) y A' V' W' E')) ∧
    ((sasS t L k i).1 = 1 → ∃ (y : Int32) (A' V' W' E' : Row), ((f_X2_readSample (hT I (nI σ) (nI i) x A V W E)).bind fun q => f_X2_readOrder_L85 f q.1 (nI c) q.2) = some (1, hT I (nI (σ + (sasS t L k i).2.1.length)) (nI (sasS t L k i).2.2) y A' V' W' E') ∧ Hold A' V' W' E' σ (sasS t L k i).2.1 ∧ Sm σ A V W E A' V' W' E') := by
  have hL := H.1
  intro k
  induction k with
  | zero => intro f i c σ x A V W E h; omega
  | succ k ih =>
    intro f i c σ x A V W E hk hi hσ hc hf
    obtain ⟨f, rfl⟩ : ∃ f', f = f' + 1 := ⟨f - 1, by omega⟩
    obtain ⟨a, b, s01, d⟩ := smp_facts H.2.2.2 hi
    obtain ⟨e0, e1⟩ := csmp (x := x) (A := A) (V := V) (W := W) (E := E) H hi hσ
    unfold sasS
    by_cases h : (smpS t L i).1 = 1
    · obtain ⟨y, e⟩ := e1 h
      have hij := d h
      rw [e, bs, if_pos h]
      have c80 : ¬ (80 : Int32) ≤ nI c := fun q => absurd ((nI_leI (a := 80) (by decide) (by omega)).mp q) (by omega)
      have eL : ∀ X : HI, f_X2_readOrder_L85 (f + 1) 1 (nI c) X = f_X2_readOrder_L85_b (f_X2_readOrder_L85 f) 1 (nI c) X := fun _ => rfl
      dsimp only
      rw [eL]
      unfold f_X2_readOrder_L85_b
      rw [if_neg c80, if_neg n10, code_eq H (by omega), bs]
      dsimp only
      by_cases g : t (smpS t L i).2.2.2 = 44
      · have hjL := t_lt H.2.2.2 g (by decide)
        obtain ⟨i0, i1⟩ := ih f ((smpS t L i).2.2.2 + 1) (c + 1) (σ + 1) y (upd A σ 2) (upd V σ (smpS t L i).2.1) (upd W σ (smpS t L i).2.2.1) (upd E σ 0) (by omega) (by omega) (by omega) (by omega) (by omega)
        rw [if_pos g, if_pos g, hT_7, nI_1, nI_1, hT_u7]
        refine ⟨fun q => i0 q, fun q => ?_⟩
        obtain ⟨z, A', V', W', E', ez, hz, sm⟩ := i1 q
        obtain ⟨-, -, -, f4⟩ := sas_facts H.2.2.2 k ((smpS t L i).2.2.2 + 1) (by omega) (by omega)
        refine ⟨z, A', V', W', E', ?_, ⟨?_, hz⟩, fun m hm => ?_⟩
        · rw [ez]
          dsimp only [List.length_cons]
          rw [show σ + 1 + (sasS t L k ((smpS t L i).2.2.2 + 1)).2.1.length = σ + ((sasS t L k ((smpS t L i).2.2.2 + 1)).2.1.length + 1) by omega]
        · obtain ⟨m1, m2, m3, m4⟩ := sm σ (by omega)
          refine ⟨by rw [m1, upd_s], by rw [m2, upd_s], by rw [m3, upd_s], ?_⟩
          have := (f4 q).1
          rw [m4, upd_s, if_neg (by omega)]
        · obtain ⟨m1, m2, m3, m4⟩ := sm m (by omega)
          rw [upd_n (by omega)] at m1 m2 m3 m4
          exact ⟨m1, m2, m3, m4⟩
      · rw [if_neg g, if_neg g]
        refine ⟨fun q => absurd q n10, fun _ => ?_⟩
        obtain ⟨E', eJ, hE⟩ := j125 (I := I) (σ := σ + 1) (i := nI (smpS t L i).2.2.2) (x := y) (v := 1) (A := upd A σ 2) (V := upd V σ (smpS t L i).2.1) (W := upd W σ (smpS t L i).2.2.1) (E := upd E σ 0) (Or.inr rfl) (by omega)
        have hE := hE (by omega)
        refine ⟨y, _, _, _, E', eJ, ⟨⟨upd_s, upd_s, upd_s, ?_⟩, trivial⟩, fun m hm => ⟨upd_n (by omega), upd_n (by omega), upd_n (by omega), ?_⟩⟩
        · rw [hE, show σ + 1 - 1 = σ by omega, upd_s]
          rfl
        · rw [hE, show σ + 1 - 1 = σ by omega, upd_n (by omega), upd_n (by omega)]
    · obtain ⟨y, e⟩ := e0 (s01.resolve_right h)
      rw [e, bs, if_neg h]
      refine ⟨fun _ => ?_, fun q => absurd q (show ¬ (0 : Int32) = 1 by decide)⟩
      obtain ⟨E', eJ, -⟩ := j125 (I := I) (σ := σ) (i := nI (smpS t L i).2.2.2) (x := y) (v := 0) (A := A) (V := V) (W := W) (E := E) (Or.inl rfl) (by omega)
      refine ⟨σ, y, A, V, W, E', ?_⟩
      show f_X2_readOrder_L85_b _ _ _ _ = _
      unfold f_X2_readOrder_L85_b
      dsimp only
      split
      · exact eJ
      · exact eJ
theorem rsas {K : HI} {t : Row} {L : Nat} (H : TR K t L) (h11 : K 57 11 = 0) : ∀ (k f i : Nat) (x : Int32), L - i < k → i ≤ L → k < f → ∃ r y : Int32, f_X6_readsSamples_L2 f 1 (hR K (nI i) x) = some (r, hR K (nI (sasS t L k i).2.2) y) ∧ (r = 0 ∨ r = 1) ∧ ((sasS t L k i).1 = 1 → r = 1) ∧ ((sasS t L k i).1 = 0 → r = 0 ∨ dg (t (sasS t L k i).2.2)) := by
  have hL := H.1
  intro k
  induction k with
  | zero => intro f i x h; omega
  | succ k ih =>
    intro f i x hk hi hf
    obtain ⟨f, rfl⟩ : ∃ f', f = f' + 1 := ⟨f - 1, by omega⟩
    have eL : f_X6_readsSamples_L2 (f + 1) 1 (hR K (nI i) x) = f_X6_readsSamples_L2_b (f_X6_readsSamples_L2 f) 1 (hR K (nI i) x) := rfl
    have e00 : ∀ X : HI, f_X6_readsSamples_L2 f 0 X = some (1, X) := fun X => by
      obtain ⟨f', rfl⟩ : ∃ f', f = f' + 1 := ⟨f - 1, by omega⟩
      show f_X6_readsSamples_L2_b _ _ _ = _
      unfold f_X6_readsSamples_L2_b
      rw [if_pos rfl]
    obtain ⟨a, b, s01, d⟩ := smp_facts H.2.2.2 hi
    obtain ⟨e1, e0⟩ := rsmp (x := x) (k := f_X6_readsSamples_L2 f) H hi h11
    rw [eL]
    unfold sasS
    by_cases h : (smpS t L i).1 = 1
    · obtain ⟨y, e⟩ := e1 h
      have hij := d h
      rw [e, if_pos h]
      by_cases g : t (smpS t L i).2.2.2 = 44
      · have hjL := t_lt H.2.2.2 g (by decide)
        rw [if_pos g, if_pos g, if_pos g]
        exact ih f ((smpS t L i).2.2.2 + 1) y (by omega) (by omega) (by omega)
      · rw [if_neg g, if_neg g, if_neg g, e00]
        exact ⟨1, y, rfl, Or.inr rfl, fun _ => rfl, fun q => absurd q n10⟩
    · rw [if_neg h]
      obtain ⟨y, e | ⟨g, e⟩⟩ := e0 (s01.resolve_right h)
      · rw [e]
        exact ⟨0, y, rfl, Or.inl rfl, fun q => absurd q (show ¬ (0 : Int32) = 1 by decide), fun _ => Or.inl rfl⟩
      · rw [e, e00]
        exact ⟨1, y, rfl, Or.inr rfl, fun _ => rfl, fun _ => Or.inr g⟩
def ordS (t : Row) (L i : Nat) : Int32 × List (Int32 × Int32 × Int32) × Nat := if t i = 99 then (1, [(3, 0, 1)], i + 1) else if t i = 107 then (if 48 ≤ t (i + 1) ∧ t (i + 1) ≤ 50 then (1, [(0, t (i + 1) - 48, 1)], i + 2) else (0, [], i + 1)) else if t i = 108 then (if (valS t L (i + 1)).1 = 1 then (1, [(1, (valS t L (i + 1)).2.1, 1)], (valS t L (i + 1)).2.2) else (0, [], (valS t L (i + 1)).2.2)) else sasS t L 81 i
theorem ord_facts {t : Row} {L i : Nat} (h0 : ∀ k, L ≤ k → t k = 0) (hL : L ≤ 80) (hi : i ≤ L) : i ≤ (ordS t L i).2.2 ∧ (ordS t L i).2.2 ≤ L ∧ ((ordS t L i).1 = 0 ∨ (ordS t L i).1 = 1) ∧ ((ordS t L i).1 = 1 → 0 < (ordS t L i).2.1.length ∧ i + (ordS t L i).2.1.length ≤ (ordS t L i).2.2) := by
  unfold ordS
  by_cases c1 : t i = 99
  · have := t_lt h0 c1 (by decide)
    rw [if_pos c1]
    exact ⟨by dsimp only; omega, by dsimp only; omega, Or.inr rfl, fun _ => ⟨by simp, by simp⟩⟩
  rw [if_neg c1]
  by_cases c2 : t i = 107
  · have := t_lt h0 c2 (by decide)
    rw [if_pos c2]
    by_cases g : 48 ≤ t (i + 1) ∧ t (i + 1) ≤ 50
    · have : i + 1 < L := by
        by_cases q : L ≤ i + 1
        · rw [h0 _ q] at g; exact absurd g (by decide)
        · omega
      rw [if_pos g]
      exact ⟨by dsimp only; omega, by dsimp only; omega, Or.inr rfl, fun _ => ⟨by simp, by simp⟩⟩
    · rw [if_neg g]
      exact ⟨by dsimp only; omega, by dsimp only; omega, Or.inl rfl, fun q => absurd q (show ¬ (0 : Int32) = 1 by decide)⟩
  rw [if_neg c2]
  by_cases c3 : t i = 108
  · have := t_lt h0 c3 (by decide)
    obtain ⟨f1, f2, f3, f4⟩ := val_facts (i := i + 1) h0 (by omega)
    rw [if_pos c3]
    by_cases g : (valS t L (i + 1)).1 = 1
    · have := (f4 g).1
      rw [if_pos g]
      exact ⟨by dsimp only; omega, f2, Or.inr rfl, fun _ => ⟨by simp, by simp; omega⟩⟩
    · rw [if_neg g]
      exact ⟨by dsimp only; omega, f2, Or.inl rfl, fun q => absurd q (show ¬ (0 : Int32) = 1 by decide)⟩
  rw [if_neg c3]
  exact sas_facts h0 81 i (by omega) hi
