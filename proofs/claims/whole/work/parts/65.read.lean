/-! ===== pure: texts: whole texts, and fault ===== -/
theorem ord_one {I : HI} {σ : Nat} {i j x a v w : Int32} {A V W E : Row} (hσ : σ < 80) : ∃ (A' V' W' E' : Row), ((f_X2_addStep a v w (hT I (nI σ) j x A V W E)).bind fun q => f_X2_readOrder_J125 1 q.2) = some (1, hT I (nI (σ + 1)) j x A' V' W' E') ∧ Hold A' V' W' E' σ [(a, v, w)] ∧ Sm σ A V W E A' V' W' E' := by
  obtain ⟨E', eJ, hE⟩ := j125 (I := I) (σ := σ + 1) (i := j) (x := x) (v := 1) (A := upd A σ a) (V := upd V σ v) (W := upd W σ w) (E := upd E σ 0) (Or.inr rfl) (by omega)
  have hE := hE (by omega)
  refine ⟨_, _, _, E', ?_, ⟨⟨upd_s, upd_s, upd_s, ?_⟩, trivial⟩, fun m hm => ⟨upd_n (by omega), upd_n (by omega), upd_n (by omega), ?_⟩⟩
  · rw [add_eq hσ, bs]
    exact eJ
  · rw [hE, show σ + 1 - 1 = σ by omega, upd_s]
    rfl
  · rw [hE, show σ + 1 - 1 = σ by omega, upd_n (by omega), upd_n (by omega)]
theorem cord {I : HI} {t : Row} {L i σ : Nat} {x : Int32} {A V W E : Row} (H : TC I t L) (hi : i ≤ L) (hσ : σ ≤ i) :
    ((ordS t L i).1 = 0 → ∃ (σ' : Nat) (y : Int32) (A' V' W' E' : Row), f_X2_readOrder (hT I (nI σ) (nI i) x A V W E) = some (0, hT I (nI σ') (nI (ordS t L i).2.2) y A' V' W' E')) ∧
    ((ordS t L i).1 = 1 → ∃ (y : Int32) (A' V' W' E' : Row), f_X2_readOrder (hT I (nI σ) (nI i) x A V W E) = some (1, hT I (nI (σ + (ordS t L i).2.1.length)) (nI (ordS t L i).2.2) y A' V' W' E') ∧ Hold A' V' W' E' σ (ordS t L i).2.1 ∧ Sm σ A V W E A' V' W' E') := by
  have hL := H.1
  unfold f_X2_readOrder ordS
  rw [code_eq H (by omega), bs]
  dsimp only
  by_cases c1 : t i = 99
  · have := t_lt H.2.2.2 c1 (by decide)
    rw [if_pos c1, if_pos c1]
    refine ⟨fun q => absurd q n10, fun _ => ?_⟩
    rw [hT_7, nI_1, hT_u7]
    obtain ⟨A', V', W', E', e, h1, h2⟩ := ord_one (I := I) (σ := σ) (i := 0) (j := nI (i + 1)) (x := x) (a := 3) (v := 0) (w := 1) (A := A) (V := V) (W := W) (E := E) (by omega)
    exact ⟨x, A', V', W', E', e, h1, h2⟩
  rw [if_neg c1, if_neg c1]
  by_cases c2 : t i = 107
  · have := t_lt H.2.2.2 c2 (by decide)
    rw [if_pos c2, if_pos c2]
    unfold f_X2_readKind
    dsimp only
    rw [hT_7, nI_1, hT_u7, code_eq H (by omega), bs]
    dsimp only
    by_cases g : 48 ≤ t (i + 1) ∧ t (i + 1) ≤ 50
    · have hi1 : i + 1 < L := by
        by_cases q : L ≤ i + 1
        · rw [H.2.2.2 _ q] at g; exact absurd g (by decide)
        · omega
      rw [if_neg (Int32.not_lt.mpr g.1), if_pos g.2, if_pos g, hT_7, nI_1, hT_u7]
      refine ⟨fun q => absurd q n10, fun _ => ?_⟩
      obtain ⟨A', V', W', E', e, h1, h2⟩ := ord_one (I := I) (σ := σ) (i := 0) (j := nI (i + 1 + 1)) (x := x) (a := 0) (v := t (i + 1) - 48) (w := 1) (A := A) (V := V) (W := W) (E := E) (by omega)
      rw [add_eq (by omega), bs] at e
      refine ⟨x, A', V', W', E', ?_, h1, h2⟩
      rw [add_eq (by omega), bs, bs]
      exact e
    · rw [if_neg g]
      refine ⟨fun _ => ?_, fun q => absurd q (show ¬ (0 : Int32) = 1 by decide)⟩
      obtain ⟨E', eJ, -⟩ := j125 (I := I) (σ := σ) (i := nI (i + 1)) (x := x) (v := 0) (A := A) (V := V) (W := W) (E := E) (Or.inl rfl) (by omega)
      refine ⟨σ, x, A, V, W, E', ?_⟩
      by_cases g1 : t (i + 1) < 48
      · rw [if_pos g1, bs]
        exact eJ
      · rw [if_neg g1, if_neg (fun q => g ⟨Int32.not_lt.mp g1, q⟩), bs]
        exact eJ
  rw [if_neg c2, if_neg c2]
  by_cases c3 : t i = 108
  · have := t_lt H.2.2.2 c3 (by decide)
    rw [if_pos c3, if_pos c3]
    unfold f_X2_readLevel
    dsimp only
    rw [hT_7, nI_1, hT_u7]
    obtain ⟨f1, f2, f3, f4⟩ := val_facts (i := i + 1) H.2.2.2 (by omega)
    obtain ⟨y, e, hy⟩ := cval (s := nI σ) (x := x) (A := A) (V := V) (W := W) (E := E) (i := i + 1) H (by omega)
    rw [e, bs]
    dsimp only
    rcases f3 with f | f
    · rw [f, if_pos rfl, if_neg (show ¬ (0 : Int32) = 1 by decide), bs]
      refine ⟨fun _ => ?_, fun q => absurd q (show ¬ (0 : Int32) = 1 by decide)⟩
      obtain ⟨E', eJ, -⟩ := j125 (I := I) (σ := σ) (i := nI (valS t L (i + 1)).2.2) (x := y) (v := 0) (A := A) (V := V) (W := W) (E := E) (Or.inl rfl) (by omega)
      exact ⟨σ, y, A, V, W, E', eJ⟩
    · rw [f, if_neg n10, if_pos rfl, hT_8, hy f]
      refine ⟨fun q => absurd q n10, fun _ => ?_⟩
      obtain ⟨A', V', W', E', e, h1, h2⟩ := ord_one (I := I) (σ := σ) (i := 0) (j := nI (valS t L (i + 1)).2.2) (x := (valS t L (i + 1)).2.1) (a := 1) (v := (valS t L (i + 1)).2.1) (w := 1) (A := A) (V := V) (W := W) (E := E) (by omega)
      rw [add_eq (by omega), bs] at e
      refine ⟨(valS t L (i + 1)).2.1, A', V', W', E', ?_, h1, h2⟩
      rw [add_eq (by omega), bs, bs]
      exact e
  rw [if_neg c3, if_neg c3]
  exact csas H 81 4000 i 0 σ x A V W E (by omega) hi hσ (by omega) (by omega)
theorem rord {K : HI} {t : Row} {L i : Nat} {x : Int32} (H : TR K t L) (h11 : K 57 11 = 0) (hi : i ≤ L) : ∃ r y : Int32, f_X6_readsOrder (hR K (nI i) x) = some (r, hR K (nI (ordS t L i).2.2) y) ∧ (r = 0 ∨ r = 1) ∧ ((ordS t L i).1 = 1 → r = 1) ∧ ((ordS t L i).1 = 0 → r = 0 ∨ dg (t (ordS t L i).2.2)) := by
  have hL := H.1
  have h11' : ∀ i x : Int32, hR K i x 57 11 = 0 := fun i x => (hR_k (by decide) (by decide)).trans h11
  unfold f_X6_readsOrder ordS
  rw [tk_c H (by omega) (by decide), bs]
  dsimp only
  by_cases c1 : t i = 99
  · rw [if_pos c1, if_pos c1, if_pos c1, if_neg n10, if_pos (h11' _ _)]
    exact ⟨1, x, rfl, Or.inr rfl, fun _ => rfl, fun q => absurd q n10⟩
  rw [if_neg c1, if_neg c1, if_neg c1, if_pos rfl, tk_c H (by omega) (by decide), bs]
  dsimp only
  by_cases c2 : t i = 107
  · have := t_lt H.2.2.2 c2 (by decide)
    rw [if_pos c2, if_pos c2, if_pos c2, if_neg n10, ish_eq H (by omega) (by decide), bs]
    dsimp only
    by_cases g : 48 ≤ t (i + 1) ∧ t (i + 1) ≤ 50
    · rw [if_pos g, if_pos g, if_neg n10, if_pos (h11' _ _)]
      unfold f_X6_readsOrder_J76
      rw [hR_9, nI_1, hR_u9]
      exact ⟨1, x, rfl, Or.inr rfl, fun _ => rfl, fun q => absurd q n10⟩
    · rw [if_neg g, if_neg g, if_pos rfl]
      exact ⟨0, x, rfl, Or.inl rfl, fun q => absurd q (show ¬ (0 : Int32) = 1 by decide), fun _ => Or.inl rfl⟩
  rw [if_neg c2, if_neg c2, if_neg c2, if_pos rfl, tk_c H (by omega) (by decide), bs]
  dsimp only
  by_cases c3 : t i = 108
  · have := t_lt H.2.2.2 c3 (by decide)
    obtain ⟨f1, f2, f3, f4⟩ := val_facts (i := i + 1) H.2.2.2 (by omega)
    obtain ⟨r, y, e, hr, h1, h2⟩ := rval (x := x) (i := i + 1) H (by omega)
    rw [if_pos c3, if_pos c3, if_pos c3, if_neg n10, e, bs]
    dsimp only
    by_cases g : (valS t L (i + 1)).1 = 1
    · rw [if_pos g, (h1 g).1, if_neg n10, if_pos (h11' _ _)]
      exact ⟨1, y, rfl, Or.inr rfl, fun _ => rfl, fun q => absurd q n10⟩
    · rw [if_neg g]
      rcases hr with hr | hr
      · rw [hr, if_pos rfl]
        exact ⟨0, y, rfl, Or.inl rfl, fun q => absurd q (show ¬ (0 : Int32) = 1 by decide), fun _ => Or.inl rfl⟩
      · have gg : dg (t (valS t L (i + 1)).2.2) := (h2 (f3.resolve_right g)).resolve_left (by rw [hr]; decide)
        rw [hr, if_neg n10, if_pos (h11' _ _)]
        exact ⟨1, y, rfl, Or.inr rfl, fun q => rfl, fun _ => Or.inr gg⟩
  rw [if_neg c3, if_neg c3, if_neg c3, if_pos rfl]
  obtain ⟨r, y, e, hr, h1, h2⟩ := rsas H h11 81 4000 i x (by omega) hi (by omega)
  refine ⟨r, y, ?_, hr, h1, h2⟩
  unfold f_X6_readsSamples
  rw [e, bs, if_pos hr]
def HoldA (A V W E : Row) : Nat → List (List (Int32 × Int32 × Int32)) → Prop
  | _, [] => True
  | s, l :: ll => (0 < l.length ∧ Hold A V W E s l) ∧ HoldA A V W E (s + l.length) ll
def allS (t : Row) (L : Nat) : Nat → Nat → Int32 × List (List (Int32 × Int32 × Int32)) × Nat
  | 0, i => (0, [], i)
  | k + 1, i => if (ordS t L i).1 = 1 then (if t (ordS t L i).2.2 = 59 then ((allS t L k ((ordS t L i).2.2 + 1)).1, (ordS t L i).2.1 :: (allS t L k ((ordS t L i).2.2 + 1)).2.1, (allS t L k ((ordS t L i).2.2 + 1)).2.2) else (1, [(ordS t L i).2.1], (ordS t L i).2.2)) else (0, [], (ordS t L i).2.2)
def tot (ll : List (List (Int32 × Int32 × Int32))) : Nat := match ll with
  | [] => 0
  | l :: ll => l.length + tot ll
def resT (L : Nat) (ok : Int32) (j : Nat) : Int32 := if ok = 0 then nI j else if j < L then nI j else -6
theorem all_facts {t : Row} {L : Nat} (h0 : ∀ k, L ≤ k → t k = 0) (hL : L ≤ 80) : ∀ (k i : Nat), L - i < k → i ≤ L → (allS t L k i).2.2 ≤ L ∧ ((allS t L k i).1 = 0 ∨ (allS t L k i).1 = 1) := by
  intro k
  induction k with
  | zero => intro i h; omega
  | succ k ih =>
    intro i hk hi
    obtain ⟨a, b, c, d⟩ := ord_facts h0 hL hi
    unfold allS
    by_cases h : (ordS t L i).1 = 1
    · have := d h
      rw [if_pos h]
      by_cases g : t (ordS t L i).2.2 = 59
      · have := t_lt h0 g (by decide)
        rw [if_pos g]
        exact ih ((ordS t L i).2.2 + 1) (by omega) (by omega)
      · rw [if_neg g]
        exact ⟨b, Or.inr rfl⟩
    · rw [if_neg h]
      exact ⟨b, Or.inl rfl⟩
theorem rd_57 {I : HI} {t : Row} {L j : Nat} {s x v : Int32} {A V W E : Row} (H : TC I t L) (hj : j ≤ L) (hv : v = 0 ∨ v = 1) : f_X2_read_J57 v (hT I s (nI j) x A V W E) = some (resT L v j, hT I s (nI j) x A V W E) := by
  have hL := H.1
  unfold f_X2_read_J57 resT
  simp only [hT_7, hT_1, H.2.1]
  by_cases c : v = 0
  · rw [if_pos c, if_pos c]
  · rw [if_neg c, if_neg c]
    by_cases g : j < L
    · rw [if_pos (nI_lt g (by omega)), if_pos g]
    · rw [if_neg (nI_nlt (by omega) (by omega)), if_neg g]
theorem call {I : HI} {t : Row} {L : Nat} (H : TC I t L) : ∀ (k f i c σ : Nat) (x : Int32) (A V W E : Row), L - i < k → i ≤ L → σ ≤ i → c ≤ i → k ≤ f →
    ((allS t L k i).1 = 0 → ∃ (σ' : Nat) (y : Int32) (A' V' W' E' : Row), ((f_X2_readOrder (hT I (nI σ) (nI i) x A V W E)).bind fun q => f_X2_read_L17 f q.1 (nI c) q.2) = some (nI (allS t L k i).2.2, hT I (nI σ') (nI (allS t L k i).2.2) y A' V' W' E')) ∧
    ((allS t L k i).1 = 1 → ∃ (y : Int32) (A' V' W' E' : Row), ((f_X2_readOrder (hT I (nI σ) (nI i) x A V W E)).bind fun q => f_X2_read_L17 f q.1 (nI c) q.2) = some (resT L 1 (allS t L k i).2.2, hT I (nI (σ + tot (allS t L k i).2.1)) (nI (allS t L k i).2.2) y A' V' W' E') ∧ HoldA A' V' W' E' σ (allS t L k i).2.1 ∧ Sm σ A V W E A' V' W' E') := by
  have hL := H.1
  intro k
  induction k with
  | zero => intro f i c σ x A V W E h; omega
  | succ k ih =>
    intro f i c σ x A V W E hk hi hσ hc hf
    obtain ⟨f, rfl⟩ : ∃ f', f = f' + 1 := ⟨f - 1, by omega⟩
    obtain ⟨a, b, s01, d⟩ := ord_facts H.2.2.2 hL hi
    obtain ⟨e0, e1⟩ := cord (x := x) (A := A) (V := V) (W := W) (E := E) H hi hσ
    unfold allS
    by_cases h : (ordS t L i).1 = 1
    · obtain ⟨y, A1, V1, W1, E1, e, hz1, sm1⟩ := e1 h
      obtain ⟨d1, d2⟩ := d h
      rw [e, bs, if_pos h]
      have c80 : ¬ (80 : Int32) ≤ nI c := fun q => absurd ((nI_leI (a := 80) (by decide) (by omega)).mp q) (by omega)
      have eL : ∀ X : HI, f_X2_read_L17 (f + 1) 1 (nI c) X = f_X2_read_L17_b (f_X2_read_L17 f) 1 (nI c) X := fun _ => rfl
      dsimp only
      rw [eL]
      unfold f_X2_read_L17_b
      rw [if_neg c80, if_neg n10, code_eq H (by omega), bs]
      dsimp only
      by_cases g : t (ordS t L i).2.2 = 59
      · have hjL := t_lt H.2.2.2 g (by decide)
        obtain ⟨i0, i1⟩ := ih f ((ordS t L i).2.2 + 1) (c + 1) (σ + (ordS t L i).2.1.length) y A1 V1 W1 E1 (by omega) (by omega) (by omega) (by omega) (by omega)
        rw [if_pos g, if_pos g, hT_7, nI_1, nI_1, hT_u7]
        refine ⟨fun q => i0 q, fun q => ?_⟩
        obtain ⟨z, A', V', W', E', ez, hz, sm⟩ := i1 q
        refine ⟨z, A', V', W', E', ?_, ⟨⟨d1, Hold_c sm _ _ (Nat.le_refl _) hz1⟩, hz⟩, fun m hm => ?_⟩
        · rw [ez]
          dsimp only [tot]
          rw [Nat.add_assoc]
        · obtain ⟨m1, m2, m3, m4⟩ := sm m (by omega)
          obtain ⟨k1, k2, k3, k4⟩ := sm1 m hm
          exact ⟨m1.trans k1, m2.trans k2, m3.trans k3, m4.trans k4⟩
      · rw [if_neg g, if_neg g, rd_57 H b (Or.inr rfl)]
        refine ⟨fun q => absurd q n10, fun _ => ⟨y, A1, V1, W1, E1, rfl, ⟨⟨d1, hz1⟩, trivial⟩, sm1⟩⟩
    · obtain ⟨σ', y, A1, V1, W1, E1, e⟩ := e0 (s01.resolve_right h)
      rw [e, bs, if_neg h]
      refine ⟨fun _ => ⟨σ', y, A1, V1, W1, E1, ?_⟩, fun q => absurd q (show ¬ (0 : Int32) = 1 by decide)⟩
      show f_X2_read_L17_b _ _ _ _ = _
      unfold f_X2_read_L17_b
      have e57 := rd_57 (s := nI σ') (x := y) (A := A1) (V := V1) (W := W1) (E := E1) H b (Or.inl rfl)
      dsimp only
      split
      · exact e57
      · exact e57
theorem rall {K : HI} {t : Row} {L : Nat} (H : TR K t L) (h11 : K 57 11 = 0) : ∀ (k f i : Nat) (x : Int32), L - i < k → i ≤ L → k < f → ∃ y : Int32, f_X6_fault_L12 f 1 (hR K (nI i) x) = some (resT L (allS t L k i).1 (allS t L k i).2.2, hR K (nI (allS t L k i).2.2) y) := by
  have hL := H.1
  have h8' : ∀ i x : Int32, hR K i x 57 8 = nI L := fun i x => (hR_k (by decide) (by decide)).trans H.2.1
  intro k
  induction k with
  | zero => intro f i x h; omega
  | succ k ih =>
    intro f i x hk hi hf
    obtain ⟨f, rfl⟩ : ∃ f', f = f' + 1 := ⟨f - 1, by omega⟩
    have eL : f_X6_fault_L12 (f + 1) 1 (hR K (nI i) x) = f_X6_fault_L12_b (f_X6_fault_L12 f) 1 (hR K (nI i) x) := rfl
    have e00 : ∀ (j : Nat) (y : Int32), j ≤ L → f_X6_fault_L12 f 0 (hR K (nI j) y) = some (if j < L then nI j else -6, hR K (nI j) y) := fun j y hj => by
      obtain ⟨f', rfl⟩ : ∃ f', f = f' + 1 := ⟨f - 1, by omega⟩
      show f_X6_fault_L12_b _ _ _ = _
      unfold f_X6_fault_L12_b
      rw [if_pos rfl]
      simp only [hR_9, h8']
      by_cases g : j < L
      · rw [if_neg (nI_ne (by omega) (by omega) (by omega)), if_pos g]
      · rw [if_pos (by rw [show j = L by omega]), if_neg g]
    obtain ⟨a, b, s01, d⟩ := ord_facts H.2.2.2 hL hi
    obtain ⟨r, y, e, hr, h1, h2⟩ := rord (x := x) H h11 hi
    rw [eL]
    unfold f_X6_fault_L12_b allS
    rw [if_neg n10, e, bs]
    dsimp only
    by_cases h : (ordS t L i).1 = 1
    · obtain ⟨d1, d2⟩ := d h
      rw [if_pos h, h1 h, if_neg n10, tk_c H (by omega) (by decide), bs]
      dsimp only
      by_cases g : t (ordS t L i).2.2 = 59
      · have hjL := t_lt H.2.2.2 g (by decide)
        rw [if_pos g, if_pos g, if_pos g]
        exact ih f ((ordS t L i).2.2 + 1) y (by omega) (by omega) (by omega)
      · rw [if_neg g, if_neg g, if_neg g, e00 _ _ b]
        exact ⟨y, rfl⟩
    · rw [if_neg h]
      rcases hr with hr | hr
      · rw [hr, if_pos rfl, hR_9]
        exact ⟨y, rfl⟩
      · have g : dg (t (ordS t L i).2.2) := (h2 (s01.resolve_right h)).resolve_left (by rw [hr]; decide)
        rw [hr, if_neg n10, tk_c H (by omega) (by decide), if_neg (dg_ne g (by decide)), if_neg (dg_ne g (by decide)), bs]
        dsimp only
        rw [e00 _ _ b, if_pos (dg_lt H.2.2.2 g)]
        exact ⟨y, rfl⟩
theorem cread {I : HI} {t : Row} {L : Nat} (H : TC I t L) : ∃ (σ : Nat) (y : Int32) (A V W E : Row), f_X2_read I = some (resT L (allS t L 81 0).1 (allS t L 81 0).2.2, hT I (nI σ) (nI (allS t L 81 0).2.2) y A V W E) ∧ ((allS t L 81 0).1 = 1 → σ = tot (allS t L 81 0).2.1 ∧ HoldA A V W E 0 (allS t L 81 0).2.1) := by
  have hL := H.1
  have h0 : upI (upI I 51 7 0) 51 6 0 = hT I (nI 0) (nI 0) (I 51 8) (I 53) (I 54) (I 55) (I 56) := by
    have : upI (upI (hT I (I 51 6) (I 51 7) (I 51 8) (I 53) (I 54) (I 55) (I 56)) 51 7 0) 51 6 0 = hT I (nI 0) (nI 0) (I 51 8) (I 53) (I 54) (I 55) (I 56) := by rw [hT_u7, hT_u6]; rfl
    rwa [hT_self] at this
  unfold f_X2_read
  dsimp only
  rw [h0]
  obtain ⟨c0, c1⟩ := call H 81 4000 0 0 0 (I 51 8) (I 53) (I 54) (I 55) (I 56) (by omega) (by omega) (by omega) (by omega) (by omega)
  rcases (all_facts H.2.2.2 hL 81 0 (by omega) (by omega)).2 with h | h
  · obtain ⟨σ', y, A', V', W', E', e⟩ := c0 h
    refine ⟨σ', y, A', V', W', E', ?_, fun q => absurd (h.symm.trans q) (by decide)⟩
    rw [h]
    exact e
  · obtain ⟨y, A', V', W', E', e, hz, -⟩ := c1 h
    refine ⟨_, y, A', V', W', E', ?_, fun _ => ⟨Nat.zero_add _, hz⟩⟩
    rw [h]
    exact e
theorem rfault {Y : HI} {t : Row} {L : Nat} (H : TR Y t L) : ∃ (j : Nat) (y : Int32), f_X6_fault Y = some (resT L (allS t L 81 0).1 (allS t L 81 0).2.2, hR (upI Y 57 11 0) (nI j) y) := by
  have hL := H.1
  have h0 : upI (upI Y 57 9 0) 57 11 0 = hR (upI Y 57 11 0) (nI 0) (Y 57 10) := by
    funext b
    by_cases h : b = 57
    · subst h
      funext k
      by_cases hk : k = 9
      · subst hk; simp [upI, upd, hR]; rfl
      · by_cases hk2 : k = 10
        · subst hk2; simp [upI, upd, hR]
        · simp [upI, upd, hR, hk, hk2]
    · simp [upI, hR, h]
  have HK : TR (upI Y 57 11 0) t L := ⟨hL, by rw [upI_s, upd_n (by decide)]; exact H.2.1, fun k hk => by rw [upI_n (by decide)]; exact H.2.2.1 k hk, H.2.2.2⟩
  obtain ⟨y, e⟩ := rall HK (by rw [upI_s, upd_s]) 81 4000 0 (Y 57 10) (by omega) (by omega) (by omega)
  refine ⟨(allS t L 81 0).2.2, y, ?_⟩
  unfold f_X6_fault
  dsimp only
  rw [h0]
  exact e
theorem Good_t {I : HI} {s i x : Int32} {A V W E : Row} (G : Good I) : Good (hT I s i x A V W E) := by
  obtain ⟨g1, g2, g3, ⟨L, a, b, c, d⟩, g5⟩ := G
  refine ⟨?_, GH_c (fun c hc => hT_n (by omega)) (by rw [hT_n (by decide)]) g2, GS_c (fun c hc => hT_n (by omega)) g3, ⟨L, a, by rw [hT_1]; exact b, by rw [hT_n (by decide)]; exact c, fun k hk => by rw [hT_n (by decide), hT_n (by decide)]; exact d k hk⟩, ?_⟩
  · rw [hT_n (by decide)]
    exact ME_c (fun c a b => hT_n (by omega)) (fun k hk => rfl) g1
  · unfold GT
    rw [hT_n (by decide), hT_n (by decide)]
    exact g5
theorem Good_r {I : HI} {i x : Int32} (G : Good I) : Good (hR (upI I 57 11 0) i x) := Good_q (fun c h1 _ => by rw [hR_n h1, upI_n h1]) (by rw [hR_k (by decide) (by decide), upI_s, upd_n (by decide)]) (by rw [hR_k (by decide) (by decide), upI_s, upd_n (by decide)]) G
theorem texts {I : HI} (G : Good I) : ∃ (t : Row) (L : Nat), TC I t L ∧ TR I t L := by
  obtain ⟨-, -, -, ⟨L, a, b, c, d⟩, -⟩ := G
  exact ⟨fun k => if k < L then I 52 k else 0, L, ⟨a, b, fun k hk => (if_pos hk).symm, fun k hk => if_neg (by omega)⟩, ⟨a, c, fun k hk => (d k hk).symm.trans (if_pos hk).symm, fun k hk => if_neg (by omega)⟩⟩
theorem fault_law {I : HI} (G : Good I) : Ok f_X5_fault f_X6_fault I := by
  obtain ⟨t, L, H, H2⟩ := texts G
  obtain ⟨σ, y, A, V, W, E, e, -⟩ := cread H
  have HY : TR (hT I (nI σ) (nI (allS t L 81 0).2.2) y A V W E) t L := ⟨H2.1, by rw [hT_n (by decide)]; exact H2.2.1, fun k hk => by rw [hT_n (by decide)]; exact H2.2.2.1 k hk, H2.2.2.2⟩
  obtain ⟨j, z, e2⟩ := rfault HY
  refine ⟨_, _, _, ?_, e2, Good_r (Good_t G)⟩
  unfold f_X5_fault
  rw [e, bs]
