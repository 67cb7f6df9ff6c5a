/-! ===== pure: put and wipe ===== -/
theorem wipe_law {I : HI} (G : Good I) : Ok f_X5_wipe f_X6_wipe I := by
  obtain ⟨g1, g2, g3, ⟨L, hL, a1, a2, a3⟩, g5⟩ := id G
  unfold Ok f_X5_wipe f_X6_wipe
  refine ⟨nI L, upI I 51 1 0, upI (upI I 51 1 0) 57 8 0, ?_, ?_, ?_⟩
  · dsimp only
    rw [a1]
  · dsimp only
    rw [upI_n (show 57 ≠ 51 by decide), a2]
  · have z : ∀ c, c ≠ 51 → c ≠ 57 → upI (upI I 51 1 0) 57 8 0 c = I c := fun c h1 h2 => by rw [upI_n h2, upI_n h1]
    have z7 : ∀ k, k ≠ 8 → upI (upI I 51 1 0) 57 8 0 57 k = I 57 k := fun k hk => by rw [upI_s, upd_n hk, upI_n (by decide)]
    refine ⟨?_, GH_c (fun c hc => z c (by omega) (by omega)) (z7 3 (by decide)) g2, GS_c (fun c hc => z c (by omega) (by omega)) g3, ⟨0, by omega, ?_, ?_, fun k hk => absurd hk (by omega)⟩, ?_⟩
    · exact ME_c (fun c a b => z c (by omega) (by omega)) (fun k hk => by rw [z 58 (by decide) (by decide)]) g1
    · rw [upI_n (by decide), upI_s, upd_s]; rfl
    · rw [upI_s, upd_s]; rfl
    · unfold GT
      rw [z 65 (by decide) (by decide), z 66 (by decide) (by decide)]
      exact g5
def shr (x : Int64) : Int64 := (x.toUInt64 >>> ((8 : Int32).toInt64.toUInt64 &&& Int64.toUInt64 63)).toInt64
theorem shr_n (x : Int64) : (shr x).toBitVec.toNat = x.toBitVec.toNat / 256 := by
  unfold shr
  rw [show ((8 : Int32).toInt64.toUInt64 &&& Int64.toUInt64 63) = (8 : UInt64) by decide]
  show (x.toUInt64 >>> (8 : UInt64)).toNat = _
  rw [UInt64.toNat_shiftRight]
  simp [Nat.shiftRight_eq_div_pow]
  rfl
def shrs (x : Int64) : Nat → Int64
  | 0 => x
  | n + 1 => shr (shrs x n)
theorem shrs_8 (x : Int64) : shrs x 8 = 0 := by
  have h : (shrs x 8).toBitVec.toNat = 0 := by
    show (shr (shr (shr (shr (shr (shr (shr (shr x)))))))).toBitVec.toNat = 0
    rw [shr_n, shr_n, shr_n, shr_n, shr_n, shr_n, shr_n, shr_n]
    have := x.toBitVec.isLt
    omega
  apply Int64.toBitVec_inj.mp
  apply BitVec.eq_of_toNat_eq
  rw [h]; rfl
theorem lc_0 (x : Int64) : lg_cmp x 0 = 0 ↔ x = 0 := by
  constructor
  · intro h
    unfold lg_cmp at h
    split at h
    · exact absurd h (by decide)
    · split at h
      · assumption
      · exact absurd h (by decide)
  · intro h
    subst h
    decide
theorem lc_lt (x y : Int64) : lg_cmp x y < 0 ↔ x < y := by
  unfold lg_cmp
  by_cases h1 : y < x
  · rw [if_pos h1]
    refine ⟨fun h => absurd h (by decide), fun h => ?_⟩
    rw [Int64.lt_iff_toInt_lt] at h h1
    omega
  · rw [if_neg h1]
    by_cases h2 : x = y
    · rw [if_pos h2]
      refine ⟨fun h => absurd h (by decide), fun h => ?_⟩
      rw [h2] at h
      exact absurd h (h2 ▸ h1)
    · rw [if_neg h2]
      refine ⟨fun _ => ?_, fun _ => by decide⟩
      rw [← Int64.toInt_inj] at h2
      rw [Int64.lt_iff_toInt_lt] at h1 ⊢
      omega
theorem lc_le (x y : Int64) : lg_cmp x y ≤ 0 ↔ x ≤ y := by
  unfold lg_cmp
  by_cases h1 : y < x
  · rw [if_pos h1]
    refine ⟨fun h => absurd h (by decide), fun h => ?_⟩
    rw [Int64.lt_iff_toInt_lt] at h1
    rw [Int64.le_iff_toInt_le] at h
    omega
  · rw [if_neg h1]
    refine ⟨fun _ => Int64.not_lt.mp h1, fun _ => ?_⟩
    split <;> decide
theorem ref_bad {v : Int64} {J : HI} : ∀ (k f i : Nat), 8 - i = k → i ≤ 8 → k < f → f_X6_put_L8 v f (nI i) 0 (shrs v i) J = some (-2, J) := by
  have eJ : ∀ (i : Int32) (x : Int64), f_X6_put_J68 v i 0 x J = some (-2, J) := by
    intro i x
    unfold f_X6_put_J68
    split
    · rfl
    · split
      · rw [if_pos rfl]
      · rfl
  intro k
  induction k with
  | zero =>
    intro f i hk hi hf
    obtain ⟨f, rfl⟩ : ∃ f', f = f' + 1 := ⟨f - 1, by omega⟩
    show f_X6_put_L8_b _ _ _ _ _ _ = _
    unfold f_X6_put_L8_b
    rw [if_pos (show (8 : Int32) ≤ nI i from (nI_leI (a := 8) (by decide) (by omega)).mpr (by omega)), eJ]
  | succ k ih =>
    intro f i hk hi hf
    obtain ⟨f, rfl⟩ : ∃ f', f = f' + 1 := ⟨f - 1, by omega⟩
    show f_X6_put_L8_b _ _ _ _ _ _ = _
    unfold f_X6_put_L8_b
    rw [if_neg (fun q : (8 : Int32) ≤ nI i => absurd ((nI_leI (a := 8) (by decide) (by omega)).mp q) (by omega))]
    split
    · exact eJ _ _
    · rw [if_pos rfl, nI_1]
      exact ih f (i + 1) (by omega) (by omega) (by omega)
theorem put_len {v : Int64} {I J : HI} : ∀ (k f i : Nat), 8 - i = k → i ≤ 8 → k < f → ∃ n : Nat, n ≤ 8 ∧ f_X2_numberOfCharacters_L7 f (nI i) (shrs v i) (nI i) I = some (nI n, I) ∧ f_X6_put_L8 v f (nI i) 1 (shrs v i) J = if n = 0 then some (-2, J) else if J 57 8 + nI n ≤ 80 then f_X6_put_L106 v 4000 (nI n - 1) J else some (-4, J) := by
  have eJ : ∀ (i : Nat), i ≤ 8 → f_X6_put_J68 v (nI i) 1 0 J = if i = 0 then some (-2, J) else if J 57 8 + nI i ≤ 80 then f_X6_put_L106 v 4000 (nI i - 1) J else some (-4, J) := by
    intro i hi
    unfold f_X6_put_J68
    by_cases h : i = 0
    · rw [if_pos (by rw [h]; rfl), if_pos h]
    · rw [if_neg (nI_ne0 (by omega) (by omega)), if_neg h, if_pos (by decide), if_neg n10]
  intro k
  induction k with
  | zero =>
    intro f i hk hi hf
    obtain ⟨f, rfl⟩ : ∃ f', f = f' + 1 := ⟨f - 1, by omega⟩
    obtain rfl : i = 8 := by omega
    refine ⟨8, by omega, ?_, ?_⟩
    · show f_X2_numberOfCharacters_L7_b _ _ _ _ _ = _
      unfold f_X2_numberOfCharacters_L7_b
      rw [if_pos (show (8 : Int32) ≤ nI 8 by decide)]
    · show f_X6_put_L8_b _ _ _ _ _ _ = _
      unfold f_X6_put_L8_b
      rw [if_pos (show (8 : Int32) ≤ nI 8 by decide), shrs_8, eJ 8 (by omega)]
  | succ k ih =>
    intro f i hk hi hf
    obtain ⟨f, rfl⟩ : ∃ f', f = f' + 1 := ⟨f - 1, by omega⟩
    have h8 : ¬ (8 : Int32) ≤ nI i := fun q => absurd ((nI_leI (a := 8) (by decide) (by omega)).mp q) (by omega)
    have c1 : f_X2_numberOfCharacters_L7 (f + 1) (nI i) (shrs v i) (nI i) I = f_X2_numberOfCharacters_L7_b (f_X2_numberOfCharacters_L7 f) (nI i) (shrs v i) (nI i) I := rfl
    have c2 : f_X6_put_L8 v (f + 1) (nI i) 1 (shrs v i) J = f_X6_put_L8_b v (f_X6_put_L8 v f) (nI i) 1 (shrs v i) J := rfl
    rw [c1, c2]
    unfold f_X2_numberOfCharacters_L7_b f_X6_put_L8_b
    rw [if_neg h8, if_neg h8]
    simp only [nI_1]
    by_cases hz : shrs v i = 0
    · refine ⟨i, by omega, ?_, ?_⟩
      · rw [if_pos ((lc_0 _).mpr hz)]
      · rw [hz, if_pos (by decide), eJ i (by omega)]
    · rw [if_neg (fun q => hz ((lc_0 _).mp q))]
      by_cases hb : shrs v i &&& 255 = 0
      · refine ⟨0, by omega, ?_, ?_⟩
        · rw [if_pos (by rw [hb]; decide)]; rfl
        · rw [if_pos ((lc_0 _).mpr hb), if_pos rfl]
          unfold f_X6_put_J68
          split
          · rfl
          · rw [if_neg (fun q => hz ((lc_0 _).mp q))]
      · rw [if_neg (fun q => hb ((lc_0 _).mp q)), if_neg n10, in_eq, bs]
        by_cases hr : (33 : Int64) ≤ shrs v i &&& 255 ∧ shrs v i &&& 255 ≤ (126 : Int64)
        · obtain ⟨n, hn, e1, e2⟩ := ih f (i + 1) (by omega) (by omega) (by omega)
          refine ⟨n, hn, ?_, ?_⟩
          · rw [if_neg (fun q => absurd ((lc_lt _ _).mp q) (Int64.not_lt.mpr hr.1)), if_pos ((lc_le _ _).mpr hr.2)]
            exact e1
          · rw [if_pos hr, if_neg n10]
            exact e2
        · refine ⟨0, by omega, ?_, ?_⟩
          · by_cases h33 : lg_cmp (shrs v i &&& 255) 33 < 0
            · rw [if_pos h33]; rfl
            · rw [if_neg h33, if_neg (fun q => hr ⟨Int64.not_lt.mp (fun q2 => h33 ((lc_lt _ _).mpr q2)), (lc_le _ _).mp q⟩)]; rfl
          · rw [if_neg hr, if_pos rfl, if_pos rfl]
            exact ref_bad k f (i + 1) (by omega) (by omega) (by omega)
def byt (v : Int64) (k : Nat) : Int32 := (((v.toUInt64 >>> (((8 : Int32) * nI k).toInt64.toUInt64 &&& Int64.toUInt64 63)).toInt64) &&& (255 : Int64)).toInt32
theorem ap_w {v : Int64} {c n : Nat} : ∀ (k i : Nat) (g : Row) (p : Nat), i + k ≤ n → n ≤ c → fo (fun (g : Row) i => upd g (c - 1 - i) (byt v i)) k i g p = if c - i - k ≤ p ∧ p < c - i then byt v (c - 1 - p) else g p := by
  intro k
  induction k with
  | zero => intro i g p h h2; rw [if_neg (by omega)]; rfl
  | succ k ih =>
    intro i g p h h2
    show fo (fun (g : Row) i => upd g (c - 1 - i) (byt v i)) k (i + 1) (upd g (c - 1 - i) (byt v i)) p = _
    rw [ih (i + 1) _ p (by omega) h2]
    by_cases h1 : p = c - 1 - i
    · rw [if_neg (by omega), h1, upd_s, if_pos (by omega), show c - 1 - (c - 1 - i) = i by omega]
    · rw [upd_n h1]
      by_cases h3 : c - i - (k + 1) ≤ p ∧ p < c - i
      · rw [if_pos h3, if_pos (by omega)]
      · rw [if_neg h3, if_neg (by omega)]
theorem app_eq {v : Int64} {I : HI} {l n : Nat} (h1 : I 51 1 = nI l) (hn : 0 < n) (hn8 : n ≤ 8) (hl : l + n ≤ 80) : ∃ w : Row, f_X2_append v (nI n) I = some (0, upI (upR I 52 w) 51 1 (nI (l + n))) ∧ ∀ p, w p = if l ≤ p ∧ p < l + n then byt v (l + n - 1 - p) else I 52 p := by
  have e := lp (fun f (g : Row) i => f_X2_append_L3 v (nI n) f (nI i) (upR I 52 g)) (fun (g : Row) i => upd g (l + n - 1 - i) (byt v i)) n (fun g => some (0, upI (upR I 52 g) 51 1 (nI (l + n)))) (fun f i g hi => by
    show f_X2_append_L3_b _ _ _ _ _ = _
    unfold f_X2_append_L3_b
    rw [if_neg (nI_ge hi (by omega)), upR_n' (show 51 ≠ 52 by decide), h1, nI_add, l1, pk_sub (by omega), pk_sub (by omega), wr_in 52 _ rfl (by show _ < 80; omega), bs]
    dsimp only
    rw [nI_add, upR_upI]
    rfl) (fun f g => by
    show f_X2_append_L3_b _ _ _ _ _ = _
    unfold f_X2_append_L3_b
    rw [if_pos (nI_le (Nat.le_refl _) (by omega)), upR_n' (show 51 ≠ 52 by decide), h1, nI_add]) n 4000 0 (I 52) rfl (by omega) (by omega)
  rw [upR_self] at e
  refine ⟨_, e, fun p => ?_⟩
  rw [ap_w (n := n) n 0 _ p (by omega) (by omega)]
  by_cases h : l ≤ p ∧ p < l + n
  · rw [if_pos h, if_pos (by omega)]
  · rw [if_neg h, if_neg (by omega)]
theorem rp_eq {v : Int64} {J : HI} : ∀ (m f q : Nat) (g : Row), m < f → q + m ≤ 80 → ∃ w : Row, f_X6_put_L106 v f (nI m - 1) (upI (upR J 63 g) 57 8 (nI q)) = some (nI (q + m), upI (upR J 63 w) 57 8 (nI (q + m))) ∧ ∀ p, w p = if q ≤ p ∧ p < q + m then byt v (q + m - 1 - p) else g p := by
  intro m
  induction m with
  | zero =>
    intro f q g hf hq
    obtain ⟨f, rfl⟩ : ∃ f', f = f' + 1 := ⟨f - 1, by omega⟩
    refine ⟨g, ?_, fun p => by rw [if_neg (by omega)]⟩
    show f_X6_put_L106_b _ _ _ _ = _
    unfold f_X6_put_L106_b
    rw [if_pos (by decide), upI_s, upd_s]
    rfl
  | succ m ih =>
    intro f q g hf hq
    obtain ⟨f, rfl⟩ : ∃ f', f = f' + 1 := ⟨f - 1, by omega⟩
    obtain ⟨w, e, hw⟩ := ih f (q + 1) (upd g q (byt v m)) (by omega) (by omega)
    refine ⟨w, ?_, fun p => ?_⟩
    · rw [show q + (m + 1) = q + 1 + m by omega, ← e]
      show f_X6_put_L106_b _ _ _ _ = _
      unfold f_X6_put_L106_b
      rw [nI_pred, if_neg (nI_pos (by omega)), upI_s, upd_s, if_neg (ib (by omega) (by decide)), nc (by omega)]
      dsimp only
      rw [Int32.sub_eq_add_neg]
      congr 1
      funext b
      by_cases hb : b = 57
      · subst hb
        rw [upI_s, upI_n (show 57 ≠ 63 by decide), upI_s, upI_s, upR_n' (show 57 ≠ 63 by decide), upR_n' (show 57 ≠ 63 by decide), upd_s, nI_1]
        funext k
        by_cases hk : k = 8
        · subst hk; rw [upd_s, upd_s]
        · rw [upd_n hk, upd_n hk, upd_n hk]
      · rw [upI_n hb, upI_n hb]
        by_cases hb2 : b = 63
        · subst hb2
          rw [upI_s, upR_s', upI_n (by decide), upR_s']
          rfl
        · rw [upI_n hb2, upI_n hb, upR_n' hb2, upR_n' hb2]
    · rw [hw p]
      by_cases h1 : p = q
      · rw [if_neg (by omega), h1, upd_s, if_pos (by omega), show q + (m + 1) - 1 - q = m by omega]
      · rw [upd_n h1]
        by_cases h3 : q ≤ p ∧ p < q + (m + 1)
        · rw [if_pos h3, if_pos (by omega), show q + 1 + m - 1 - p = q + (m + 1) - 1 - p by omega]
        · rw [if_neg h3, if_neg (by omega)]
theorem put_law (v : Int64) {I : HI} (G : Good I) : Ok (f_X5_put v) (f_X6_put v) I := by
  obtain ⟨g1, g2, g3, ⟨L, hL, a1, a2, a3⟩, g5⟩ := id G
  unfold Ok f_X5_put f_X6_put f_X2_numberOfCharacters
  obtain ⟨n, hn, e1, -⟩ := put_len (v := v) (I := I) (J := I) 8 4000 0 rfl (by omega) (by omega)
  have e2 : ∀ J : HI, f_X6_put_L8 v 4000 0 1 v J = if n = 0 then some (-2, J) else if J 57 8 + nI n ≤ 80 then f_X6_put_L106 v 4000 (nI n - 1) J else some (-4, J) := fun J => by
    obtain ⟨n', hn', e1', e2'⟩ := put_len (v := v) (I := I) (J := J) 8 4000 0 rfl (by omega) (by omega)
    have := (Prod.mk.inj (Option.some.inj (e1.symm.trans e1'))).1
    obtain rfl : n = n' := (nI_eq (by omega) (by omega)).mp this
    exact e2'
  have e1 : f_X2_numberOfCharacters_L7 4000 0 v 0 I = some (nI n, I) := e1
  rw [e1]
  by_cases h0 : n = 0
  · refine ⟨-2, I, I, ?_, ?_, G⟩
    · rw [bs, if_pos (by rw [h0]; rfl)]
    · rw [e2, if_pos h0]
  · have nz : ¬ nI n = 0 := nI_ne0 (by omega) (by omega)
    by_cases hc : L + n ≤ 80
    · have hyes : nI (L + n) ≤ (80 : Int32) := (nI_leI (b := 80) (by omega) (by decide)).mpr hc
      obtain ⟨w, ew, hw⟩ := app_eq (v := v) (I := I) a1 (by omega) hn hc
      obtain ⟨w', ew', hw'⟩ := rp_eq (v := v) (J := upI (upR I 52 w) 51 1 (nI (L + n))) n 4000 L (I 63) (by omega) hc
      have eJ : upI (upR (upI (upR I 52 w) 51 1 (nI (L + n))) 63 (I 63)) 57 8 (nI L) = upI (upR I 52 w) 51 1 (nI (L + n)) := by
        rw [upR_at (by rw [upI_n (by decide), upR_n' (by decide)]), ← a2]
        have : I 57 8 = upI (upR I 52 w) 51 1 (nI (L + n)) 57 8 := by rw [upI_n (by decide), upR_n' (by decide)]
        rw [this, upI_self]
      rw [eJ] at ew'
      refine ⟨nI (L + n), upI (upR I 52 w) 51 1 (nI (L + n)), upI (upR (upI (upR I 52 w) 51 1 (nI (L + n))) 63 w') 57 8 (nI (L + n)), ?_, ?_, ?_⟩
      rotate_left
      · rw [e2, if_neg h0, upI_n (show 57 ≠ 51 by decide), upR_n' (show 57 ≠ 52 by decide), a2, nI_add, if_pos hyes]
        exact ew'
      · have z : ∀ c, c ≠ 51 → c ≠ 52 → c ≠ 57 → c ≠ 63 → upI (upR (upI (upR I 52 w) 51 1 (nI (L + n))) 63 w') 57 8 (nI (L + n)) c = I c := fun c h1 h2 h3 h4 => by rw [upI_n h3, upR_n' h4, upI_n h1, upR_n' h2]
        have z7 : ∀ k, k ≠ 8 → upI (upR (upI (upR I 52 w) 51 1 (nI (L + n))) 63 w') 57 8 (nI (L + n)) 57 k = I 57 k := fun k hk => by rw [upI_s, upd_n hk, upR_n' (by decide), upI_n (by decide), upR_n' (by decide)]
        refine ⟨?_, GH_c (fun c hc => z c (by omega) (by omega) (by omega) (by omega)) (z7 3 (by decide)) g2, GS_c (fun c hc => z c (by omega) (by omega) (by omega) (by omega)) g3, ⟨L + n, hc, ?_, ?_, fun k hk => ?_⟩, ?_⟩
        · exact ME_c (fun c a b => z c (by omega) (by omega) (by omega) (by omega)) (fun k hk => by rw [z 58 (by decide) (by decide) (by decide) (by decide)]) g1
        · rw [upI_n (by decide), upR_n' (by decide), upI_s, upd_s]
        · rw [upI_s, upd_s]
        · have x52 : upI (upR (upI (upR I 52 w) 51 1 (nI (L + n))) 63 w') 57 8 (nI (L + n)) 52 = w := by rw [upI_n (by decide), upR_n' (by decide), upI_n (by decide), upR_s']
          have x63 : upI (upR (upI (upR I 52 w) 51 1 (nI (L + n))) 63 w') 57 8 (nI (L + n)) 63 = w' := by rw [upI_n (by decide), upR_s']
          rw [x52, x63, hw, hw']
          by_cases hk2 : L ≤ k ∧ k < L + n
          · rw [if_pos hk2, if_pos hk2]
          · rw [if_neg hk2, if_neg hk2]
            exact a3 k (by omega)
        · unfold GT
          rw [z 65 (by decide) (by decide) (by decide) (by decide), z 66 (by decide) (by decide) (by decide) (by decide)]
          exact g5
      · rw [bs, if_neg nz]
        dsimp only
        rw [if_pos (by rw [a1, nI_add]; exact hyes), ew, bs]
        dsimp only
        rw [upI_s, upd_s]
    · have hno : ¬ nI (L + n) ≤ (80 : Int32) := fun q => hc ((nI_leI (b := 80) (by omega) (by decide)).mp q)
      refine ⟨-4, I, I, ?_, ?_, G⟩
      · rw [bs, if_neg nz]
        dsimp only
        rw [if_neg (by rw [a1, nI_add]; exact hno)]
      · rw [e2, if_neg h0, a2, nI_add, if_neg hno]
