/-! ===== pure: carryOut: one step on both sides ===== -/
def rop (c : Int32 × Int32 × Int32) (X : HI) : Option (Int32 × HI) := if c.1 = 2 then f_X6_doFeed c.2.1 c.2.2 X else if c.1 = 3 then f_X6_doClear X else f_X6_doSet c.1 c.2.1 X
def VS (c : Int32 × Int32 × Int32) : Prop := c.1 = 2 ∨ c.1 = 3 ∨ (c.1 = 0 ∧ 0 ≤ c.2.1 ∧ c.2.1 ≤ 2) ∨ (c.1 = 1 ∧ -100 ≤ c.2.1 ∧ c.2.1 ≤ 100)
def Jx (X X' : HI) : Prop := (∀ b, b ≠ 57 → b ≠ 58 → X' b = X b) ∧ ∀ k, k ≠ 6 → X' 57 k = X 57 k
theorem Jx_u {X J2' : HI} {a : Row} (h : Jq X J2') : Jx X (upR J2' 58 a) := ⟨fun b h1 h2 => by rw [upR_n' h2]; exact h.1 b h1, fun k hk => by rw [upR_n' (by decide)]; exact h.2 k hk⟩
theorem ok0 {a : Row} {v : Int32} (h : 0 ≤ v ∧ v ≤ 2) : okS a 0 v = 0 := by
  unfold okS
  rw [if_pos (show cS 65 0 ≤ v ∧ v ≤ cS 66 0 from h), if_pos ⟨fun q => absurd q (by decide), fun q => absurd q (by decide), fun q => absurd q (by decide), fun q => absurd q (by decide)⟩]
theorem ok1 {a : Row} {v : Int32} (h : -100 ≤ v ∧ v ≤ 100) : okS a 1 v = 0 := by
  unfold okS
  rw [if_pos (show cS 65 1 ≤ v ∧ v ≤ cS 66 1 from h), if_pos ⟨fun q => absurd q (by decide), fun q => absurd q (by decide), fun q => absurd q (by decide), fun q => absurd q (by decide)⟩]
theorem st1 {J X : HI} {F T P G N a : Row} {S n Z K D Q s : Nat} {c : Int32 × Int32 × Int32} (R : RX a S n Z K D Q) (M : MR F T P G N a S n) (hX : X 58 = a) (hc : VS c) (hs : s < 80) (h1 : J 53 s = c.1) (h2 : J 54 s = c.2.1) (h3 : J 55 s = c.2.2) :
    ∃ (x x' : Int32) (F' T' P' G' N' a' : Row) (X' : HI) (S' n' Z' K' D' Q' : Nat), f_X5_carryOutStep (nI s) (sM J F T P G N) = some (x, sM J F' T' P' G' N') ∧ rop c X = some (x', X') ∧ X' 58 = a' ∧ Jx X X' ∧ (0 ≤ x ↔ 0 ≤ x') ∧ MR F' T' P' G' N' a' S' n' ∧ RX a' S' n' Z' K' D' Q' := by
  have eX : X = upR X 58 a := (upR_at hX).symm
  have a4 : f_X5_at 54 (nI s) (sM J F T P G N) = some (c.2.1, sM J F T P G N) := by rw [at_in 54 s rfl (by exact hs), sM_n (by omega), h2]
  have a3 : f_X5_at 53 (nI s) (sM J F T P G N) = some (c.1, sM J F T P G N) := by rw [at_in 53 s rfl (by exact hs), sM_n (by omega), h1]
  have a5 : f_X5_at 55 (nI s) (sM J F T P G N) = some (c.2.2, sM J F T P G N) := by rw [at_in 55 s rfl (by exact hs), sM_n (by omega), h3]
  unfold f_X5_carryOutStep rop
  rw [a4, bs]
  dsimp only
  rw [a3, bs]
  dsimp only
  rcases hc with hc | hc | ⟨hc, hv⟩ | ⟨hc, hv⟩
  · rw [if_neg (by rw [hc]; decide), if_neg (by rw [hc]; decide), if_pos hc, if_pos hc, a5, bs]
    dsimp only
    rw [es_eq, bs, show F 3 = a 10 from M.2.1 0 (by decide)]
    dsimp only
    by_cases h0 : okF c.2.1 c.2.2 (a 10) = 0
    · obtain ⟨F', P', G', N', a', J2', S', n', Z', c', e1, e2, M', R', hq, hc'⟩ := feed_sim (J := J) (J2 := X) R M h0
      rw [if_pos h0, e1, bs, eX, e2]
      exact ⟨_, _, F', T, P', G', N', a', upR J2' 58 a', S', n', Z', K, D, Q, rfl, rfl, upR_s', by rw [← eX]; exact Jx_u hq, Iff.rfl, M', R'⟩
    · rw [if_neg h0, eX, df_eq, if_neg h0]
      exact ⟨_, _, F, T, P, G, N, a, upR X 58 a, S, n, Z, K, D, Q, rfl, rfl, upR_s', by rw [← eX]; exact ⟨fun _ _ _ => rfl, fun _ _ => rfl⟩, Iff.rfl, M, R⟩
  · rw [if_neg (by rw [hc]; decide), if_neg (by rw [hc]; decide), if_neg (by rw [hc]; decide), if_neg (by rw [hc]; decide), if_pos hc, fg_eq, bs, eX, dc_eq]
    obtain ⟨M', R'⟩ := clr_sim R M
    exact ⟨_, _, _, _, _, _, _, _, upR X 58 (rClr a), _, _, _, _, _, _, rfl, rfl, upR_s', by rw [← eX]; exact Jx_u Jq.rf, by rw [M.2.2.1], M', R'⟩
  · obtain ⟨F', T', P', G', N', a', S', n', Z', K', D', Q', e1, e2, M', R'⟩ := set_sim (J := J) (J2 := X) R M (s := 0) (by decide) (ok0 (a := a) hv)
    rw [if_pos hc, if_neg (by rw [hc]; decide), if_neg (by rw [hc]; decide), hc, show (0 : Int32) = nI 0 from rfl, e1, bs, eX, e2]
    have hl := R.2.2.2.2.2.2 0 (by decide)
    exact ⟨_, _, F', T', P', G', N', a', upR X 58 a', S', n', Z', K', D', Q', rfl, rfl, upR_s', by rw [← eX]; exact Jx_u Jq.rf, ⟨fun _ => shift_ge hl.1 hl.2, fun _ => by decide⟩, M', R'⟩
  · obtain ⟨F', T', P', G', N', a', S', n', Z', K', D', Q', e1, e2, M', R'⟩ := set_sim (J := J) (J2 := X) R M (s := 1) (by decide) (ok1 (a := a) hv)
    rw [if_neg (by rw [hc]; decide), if_pos hc, if_neg (by rw [hc]; decide), if_neg (by rw [hc]; decide), hc, show (1 : Int32) = nI 1 from rfl, e1, bs, eX, e2]
    have hl := R.2.2.2.2.2.2 1 (by decide)
    exact ⟨_, _, F', T', P', G', N', a', upR X 58 a', S', n', Z', K', D', Q', rfl, rfl, upR_s', by rw [← eX]; exact Jx_u Jq.rf, ⟨fun _ => shift_ge hl.1 hl.2, fun _ => by decide⟩, M', R'⟩
/-- one turn of the class's loop -/
theorem cl1 {J : HI} {F T P G N F' T' P' G' N' : Row} {s tt : Nat} {x : Int32} {e : Int32} (h : f_X5_carryOutStep (nI s) (sM J F T P G N) = some (x, sM J F' T' P' G' N')) (hs : s < tt) (ht : tt ≤ 80) (h6 : J 56 s = e) (f : Nat) (v1 : Int32) : f_X5_carryOut_L46 (nI tt) (f + 1) v1 (nI s) (sM J F T P G N) = if 0 ≤ x then (if e = 1 then f_X5_carryOut_L46 (nI tt) f (v1 + 1) (nI (s + 1)) (sM J F' T' P' G' N') else f_X5_carryOut_L46 (nI tt) f v1 (nI (s + 1)) (sM J F' T' P' G' N')) else some (v1, sM J F' T' P' G' N') := by
  show f_X5_carryOut_L46_b _ _ _ _ _ = _
  unfold f_X5_carryOut_L46_b
  rw [if_neg (nI_ge hs (by omega)), h, bs]
  dsimp only
  by_cases c : 0 ≤ x
  · rw [if_pos c, if_pos c]
    unfold f_X2_endsOrder
    rw [at_in 56 s rfl (by show s < 80; omega), bs, sM_n (by omega), h6]
    dsimp only
    by_cases d : e = 1
    · rw [if_pos d, if_pos d, bs, if_neg n10, nI_1]
    · rw [if_neg d, if_neg d, bs, if_pos rfl, nI_1]
  · rw [if_neg c, if_neg c]
theorem does_eq (x : Int32) (X : HI) : f_X6_does x X = some (0, upI X 57 12 (if 0 ≤ x then 0 else x)) := by
  unfold f_X6_does
  by_cases c : 0 ≤ x
  · rw [if_pos c, if_pos c]
  · rw [if_neg c, if_neg c]
/-- one sample on the reference's second pass -/
theorem rs2 {K : HI} {t : Row} {L i : Nat} {x : Int32} {k : Int32 → HI → Option (Int32 × HI)} (H : TR K t L) (hi : i ≤ L) (h11 : K 57 11 = 1) (ok : (smpS t L i).1 = 1) : f_X6_readsSamples_L2_b k 1 (hR K (nI i) x) = if K 57 12 = 0 then (f_X6_doFeed (smpS t L i).2.1 (smpS t L i).2.2.1 (hR K (nI (smpS t L i).2.2.2) (smpS t L i).2.2.1)).bind fun q => (f_X6_does q.1 q.2).bind fun q2 => (f_X6_takes 44 q2.2).bind fun q3 => k q3.1 q3.2 else (f_X6_takes 44 (hR K (nI (smpS t L i).2.2.2) (smpS t L i).2.2.1)).bind fun q3 => k q3.1 q3.2 := by
  have hL := H.1
  have h11' : ∀ i x : Int32, ¬ hR K i x 57 11 = 0 := fun i x => by rw [hR_k (by decide) (by decide), h11]; decide
  have h12' : ∀ i x : Int32, hR K i x 57 12 = K 57 12 := fun i x => hR_k (by decide) (by decide)
  obtain ⟨a, b, c, d⟩ := val_facts H.2.2.2 hi
  obtain ⟨r, y, e, hr, h1, h2⟩ := rval (x := x) H hi
  unfold f_X6_readsSamples_L2_b
  rw [if_neg n10, e, bs]
  by_cases cv : (valS t L i).1 = 1
  · obtain ⟨r1, r2⟩ := h1 cv
    by_cases g : t (valS t L i).2.2 = 42
    · have es : smpS t L i = ((numS t L ((valS t L i).2.2 + 1)).1, (valS t L i).2.1, (numS t L ((valS t L i).2.2 + 1)).2.1, (numS t L ((valS t L i).2.2 + 1)).2.2) := by
        unfold smpS
        rw [if_pos cv, if_pos g]
      rw [es] at ok ⊢
      dsimp only at ok ⊢
      rw [r1, if_neg n10, hR_u10, hR_10, r2, tk_c H (by omega) (by decide), bs]
      dsimp only
      have := t_lt H.2.2.2 g (by decide)
      obtain ⟨f1, f2, f3, f4, f5⟩ := num_facts (i := (valS t L i).2.2 + 1) H.2.2.2 (by omega)
      obtain ⟨z, e2, hz⟩ := rnum (x := 1) (i := (valS t L i).2.2 + 1) H (by omega)
      have gg := (f5 ok).1
      rw [if_pos g, if_pos g, if_neg n10, e2, bs, if_pos gg, if_neg n10]
      dsimp only
      rw [if_neg (h11' _ _), hR_10, hz gg]
      simp only [h12']
    · have es : smpS t L i = (1, (valS t L i).2.1, 1, (valS t L i).2.2) := by
        unfold smpS
        rw [if_pos cv, if_neg g]
      rw [es]
      dsimp only
      rw [r1, if_neg n10, hR_u10, hR_10, r2, tk_c H (by omega) (by decide), bs]
      dsimp only
      rw [if_neg g, if_neg g, if_pos rfl, if_neg (h11' _ _), hR_10]
      simp only [h12']
  · have es : (smpS t L i).1 = 0 := by
      unfold smpS
      rw [if_neg cv]
    exact absurd (es.symm.trans ok) (by decide)
