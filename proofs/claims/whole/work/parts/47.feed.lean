/-- the reference's own scratch field may differ -/
def Jq (J J' : HI) : Prop := (∀ b, b ≠ 57 → J' b = J b) ∧ ∀ k, k ≠ 6 → J' 57 k = J 57 k
theorem Jq.rf {J : HI} : Jq J J := ⟨fun _ _ => rfl, fun _ _ => rfl⟩
theorem Jq.tr {J J' J'' : HI} (h : Jq J J') (h' : Jq J' J'') : Jq J J'' := ⟨fun b hb => (h'.1 b hb).trans (h.1 b hb), fun k hk => (h'.2 k hk).trans (h.2 k hk)⟩
theorem Jq.up {J : HI} {v : Int32} : Jq J (upI J 57 6 v) := ⟨fun b hb => upI_n hb, fun k hk => by rw [upI_s, upd_n hk]⟩
theorem acc1 (x h : Int32) : x - h + 1 = x + 1 - h := by
  rw [Int32.sub_eq_add_neg, Int32.sub_eq_add_neg, Int32.add_assoc, Int32.add_assoc, Int32.add_comm (-h) 1]
theorem come_eq {J : HI} {a : Row} {v : Int32} {S n Z K D Q : Nat} (R : RX a S n Z K D Q) (hS : S < 400) : f_X6_comes v (upR J 58 a) = some (0, upR (upI J 57 6 (rDn a v)) 58 (rCome a v S n K)) := by
  obtain ⟨⟨h10, -, h22, hnK, h8, hK1, hK6, -⟩, ⟨-, -, -, k17⟩, -⟩ := R
  rw [cm1, cm2 h10 hS h22 (by omega) h8 ⟨hK1, hK6⟩ k17]
theorem feed_loop {T : Row} {v had : Int32} {J : HI} {K D Q t : Nat} (hv : -100 ≤ v ∧ v ≤ 100) (ht : t ≤ 100) : ∀ (d f1 f2 i : Nat) (acc : Int32) (F P G N a : Row) (J2 : HI) (S n Z : Nat), t - i = d → i ≤ t → d < f1 → d < f2 → RX a S n Z K D Q → MR F T P G N a S n → S + d ≤ 400 → acc = a 15 - had →
    ∃ (F' P' G' N' a' : Row) (J2' : HI) (S' n' Z' c' : Nat), f_X1_takeSamples_L5 v (nI t) f1 acc (nI i) (sM J F T P G N) = some (a' 15 - had, sM J F' T P' G' N') ∧ f_X6_doFeed_L51 v (nI t) had f2 (nI i) (upR J2 58 a) = some (a' 15 - had, upR J2' 58 a') ∧ MR F' T P' G' N' a' S' n' ∧ RX a' S' n' Z' K D Q ∧ Jq J2 J2' ∧ a' 15 - had = acc + nI c' ∧ c' ≤ d := by
  intro d
  induction d with
  | zero =>
    intro f1 f2 i acc F P G N a J2 S n Z hd hi hf1 hf2 R M hS hacc
    obtain ⟨f1, rfl⟩ : ∃ f', f1 = f' + 1 := ⟨f1 - 1, by omega⟩
    obtain ⟨f2, rfl⟩ : ∃ f', f2 = f' + 1 := ⟨f2 - 1, by omega⟩
    obtain rfl : i = t := by omega
    refine ⟨F, P, G, N, a, J2, S, n, Z, 0, ?_, ?_, M, R, Jq.rf, by rw [hacc]; exact (Int32.add_zero _).symm, Nat.le_refl _⟩
    · show f_X1_takeSamples_L5_b _ _ _ _ _ _ = _
      unfold f_X1_takeSamples_L5_b
      rw [if_pos (nI_le (Nat.le_refl _) (by omega)), hacc]
    · show f_X6_doFeed_L51_b _ _ _ _ _ _ = _
      unfold f_X6_doFeed_L51_b
      rw [if_pos (nI_le (Nat.le_refl _) (by omega)), r58]
  | succ d ih =>
    intro f1 f2 i acc F P G N a J2 S n Z hd hi hf1 hf2 R M hS hacc
    obtain ⟨f1, rfl⟩ : ∃ f', f1 = f' + 1 := ⟨f1 - 1, by omega⟩
    obtain ⟨f2, rfl⟩ : ∃ f', f2 = f' + 1 := ⟨f2 - 1, by omega⟩
    obtain ⟨F', P', G', N', n', Z', M', R', hst⟩ := step_sim (J := J) R M (show S < 400 by omega) hv
    have h0 := come_eq (J := J2) (v := v) R (show S < 400 by omega)
    have hacc' : ∀ x : Int32, x = a 15 - had → rCome a v S n K 15 = a 15 + 1 → x + 1 = rCome a v S n K 15 - had := fun x hx h => by rw [hx, h, acc1]
    rcases hst with ⟨s1, s2⟩ | ⟨F1, P1, s1, s2, s3⟩
    · obtain ⟨F'', P'', G'', N'', a'', J2'', S'', n'', Z'', c'', g1, g2, g3, g4, g5, g6, g7⟩ := ih f1 f2 (i + 1) acc F' P' G' N' (rCome a v S n K) (upI J2 57 6 (rDn a v)) (S + 1) n' Z' (by omega) (by omega) (by omega) (by omega) R' M' (by omega) (by rw [s2]; exact hacc)
      refine ⟨F'', P'', G'', N'', a'', J2'', S'', n'', Z'', c'', ?_, ?_, g3, g4, Jq.up.tr g5, g6, by omega⟩
      · show f_X1_takeSamples_L5_b _ _ _ _ _ _ = _
        unfold f_X1_takeSamples_L5_b
        rw [if_neg (nI_ge (by omega) (by omega)), s1, bs, if_pos rfl, nI_1]
        exact g1
      · show f_X6_doFeed_L51_b _ _ _ _ _ _ = _
        unfold f_X6_doFeed_L51_b
        rw [if_neg (nI_ge (by omega) (by omega)), h0, bs, nI_1]
        exact g2
    · obtain ⟨F'', P'', G'', N'', a'', J2'', S'', n'', Z'', c'', g1, g2, g3, g4, g5, g6, g7⟩ := ih f1 f2 (i + 1) (acc + 1) F' P' G' N' (rCome a v S n K) (upI J2 57 6 (rDn a v)) (S + 1) n' Z' (by omega) (by omega) (by omega) (by omega) R' M' (by omega) (hacc' acc hacc s3)
      refine ⟨F'', P'', G'', N'', a'', J2'', S'', n'', Z'', c'' + 1, ?_, ?_, g3, g4, Jq.up.tr g5, by rw [g6, Int32.add_assoc, l1, nI_add, Nat.add_comm], by omega⟩
      · show f_X1_takeSamples_L5_b _ _ _ _ _ _ = _
        unfold f_X1_takeSamples_L5_b
        rw [if_neg (nI_ge (by omega) (by omega)), s1, bs, if_neg n10, s2, bs, nI_1]
        exact g1
      · show f_X6_doFeed_L51_b _ _ _ _ _ _ = _
        unfold f_X6_doFeed_L51_b
        rw [if_neg (nI_ge (by omega) (by omega)), h0, bs, nI_1]
        exact g2
theorem sub_self32 (x : Int32) : (0 : Int32) = x - x := by
  rw [Int32.sub_self]
/-- errorOfSamples and the reference's tests -/
def okF (v t : Int32) (a10 : Int32) : Int32 := if -100 ≤ v ∧ v ≤ 100 then (if 1 ≤ t ∧ t ≤ 100 then (if a10 + t ≤ 400 then 0 else -4) else -2) else -2
theorem es_eq {F T P G N : Row} {J : HI} {v t : Int32} : f_X1_errorOfSamples v t (sM J F T P G N) = some (okF v t (F 3), sM J F T P G N) := by
  unfold f_X1_errorOfSamples okF
  have e1 : (-100 ≤ v) ↔ ¬ v < -100 := Int32.not_lt.symm
  have e2 : (v ≤ 100) ↔ ¬ 100 < v := Int32.not_lt.symm
  have e3 : (1 ≤ t) ↔ ¬ t < 1 := Int32.not_lt.symm
  simp only [sM_1]
  by_cases h1 : v < -100
  · rw [if_pos h1, if_neg (by simp [e1, h1])]
  · rw [if_neg h1]
    by_cases h2 : 100 < v
    · rw [if_pos h2, if_neg (by simp [e2, h2])]
    · rw [if_neg h2, if_pos (show -100 ≤ v ∧ v ≤ 100 from ⟨e1.mpr h1, e2.mpr h2⟩)]
      by_cases h3 : t < 1
      · rw [if_pos h3, if_neg (by simp [e3, h3])]
      · rw [if_neg h3]
        by_cases h4 : t ≤ 100
        · rw [if_pos h4, if_pos (show 1 ≤ t ∧ t ≤ 100 from ⟨e3.mpr h3, h4⟩)]
          by_cases h5 : F 3 + t ≤ 400
          · rw [if_pos h5, if_pos h5]
          · rw [if_neg h5, if_neg h5]
        · rw [if_neg h4, if_neg (fun q => h4 q.2)]
theorem r58s {J : HI} {a : Row} : upR J 58 a 58 = a := by simp [upR]
theorem df_eq {J : HI} {a : Row} {v t : Int32} : f_X6_doFeed v t (upR J 58 a) = if okF v t (a 10) = 0 then f_X6_doFeed_L51 v t (a 15) 4000 0 (upR J 58 a) else some (okF v t (a 10), upR J 58 a) := by
  unfold f_X6_doFeed
  rw [isSample_eq, bs]
  dsimp only
  by_cases h1 : -100 ≤ v ∧ v ≤ 100
  · rw [if_pos h1, if_neg n10, show (1 : Int64) = (1 : Int32).toInt64 by decide, show (100 : Int64) = (100 : Int32).toInt64 by decide, in32, bs]
    dsimp only
    by_cases h2 : 1 ≤ t ∧ t ≤ 100
    · rw [if_pos h2, if_neg n10]
      simp only [r58s]
      by_cases h3 : a 10 + t ≤ 400
      · rw [if_pos h3]
        have e : okF v t (a 10) = 0 := by simp [okF, h1, h2, h3]
        rw [e, if_pos rfl]
      · rw [if_neg h3]
        have e : okF v t (a 10) = -4 := by simp [okF, h1, h2, h3]
        rw [e, if_neg (by decide)]
    · rw [if_neg h2, if_pos rfl]
      have e : okF v t (a 10) = -2 := by
        unfold okF
        rw [if_pos h1, if_neg h2]
      rw [e, if_neg (by decide)]
  · rw [if_neg h1, if_pos rfl]
    have e : okF v t (a 10) = -2 := by
      unfold okF
      rw [if_neg h1]
    rw [e, if_neg (by decide)]
theorem ok_0 {v t : Int32} {S : Nat} (hS : S ≤ 400) (h : okF v t (nI S) = 0) : (-100 ≤ v ∧ v ≤ 100) ∧ ∃ k : Nat, t = nI k ∧ 1 ≤ k ∧ k ≤ 100 ∧ S + k ≤ 400 := by
  unfold okF at h
  by_cases h1 : -100 ≤ v ∧ v ≤ 100
  · rw [if_pos h1] at h
    by_cases h2 : 1 ≤ t ∧ t ≤ 100
    · rw [if_pos h2] at h
      have h0 : ¬ t < 0 := by
        have := h2.1
        rw [Int32.le_iff_toInt_le] at this
        rw [Int32.lt_iff_toInt_lt]
        have e1 : (1 : Int32).toInt = 1 := by decide
        have e0 : (0 : Int32).toInt = 0 := by decide
        omega
      obtain ⟨k, hk, rfl⟩ := nI_of2 (M := 100) (n := 100) (by decide) h0 h2.2
      by_cases h3 : nI S + nI k ≤ 400
      · refine ⟨h1, k, rfl, ?_, hk, ?_⟩
        · have := h2.1
          rw [l1, nI_leI (by decide) (by omega)] at this
          exact this
        · rw [nI_add, l400, nI_leI (by omega) (by decide)] at h3
          exact h3
      · rw [if_neg h3] at h; exact absurd h (by decide)
    · rw [if_neg h2] at h; exact absurd h (by decide)
  · rw [if_neg h1] at h; exact absurd h (by decide)
/-- feeding, on both sides, when it is well -/
theorem feed_sim {F T P G N a : Row} {v t : Int32} {J J2 : HI} {S n Z K D Q : Nat} (R : RX a S n Z K D Q) (M : MR F T P G N a S n) (h : okF v t (a 10) = 0) :
    ∃ (F' P' G' N' a' : Row) (J2' : HI) (S' n' Z' c' : Nat), f_X1_takeSamples v t (sM J F T P G N) = some (nI c', sM J F' T P' G' N') ∧ f_X6_doFeed v t (upR J2 58 a) = some (nI c', upR J2' 58 a') ∧ MR F' T P' G' N' a' S' n' ∧ RX a' S' n' Z' K D Q ∧ Jq J2 J2' ∧ c' ≤ 100 := by
  rw [R.1.1] at h
  obtain ⟨hv, k, rfl, hk1, hk, hSk⟩ := ok_0 R.1.2.1 h
  obtain ⟨F', P', G', N', a', J2', S', n', Z', c', g1, g2, g3, g4, g5, g6, g7⟩ := feed_loop (had := a 15) (J := J) hv hk k 4000 4000 0 0 F P G N a J2 S n Z (by omega) (by omega) (by omega) (by omega) R M hSk (sub_self32 _)
  rw [g6] at g1 g2
  have z : (0 : Int32) + nI c' = nI c' := Int32.zero_add _
  rw [z] at g1 g2
  refine ⟨F', P', G', N', a', J2', S', n', Z', c', g1, ?_, g3, g4, g5, by omega⟩
  rw [df_eq, R.1.1, h, if_pos rfl]
  exact g2
