/-! ===== pure: out of the proof of the whole ===== -/
def rClr (a : Row) : Row := upd (upd (upd (upd (upd a 10 0) 11 0) 16 0) 17 0) 22 0
theorem fg_eq {F T P G N : Row} {J : HI} : f_X1_forget (sM J F T P G N) = some (G 1, sM J (upd (upd (upd (upd F 3 0) 9 0) 14 0) 4 0) T P (upd G 1 0) N) := by
  unfold f_X1_forget
  simp only [sM_4, sM_u4, sM_u1]
theorem rClr_n {a : Row} {k : Nat} (h : k < 10 ∨ (11 < k ∧ k < 16) ∨ (17 < k ∧ k < 22) ∨ 22 < k) : rClr a k = a k := by
  unfold rClr
  rw [upd_n (by omega), upd_n (by omega), upd_n (by omega), upd_n (by omega), upd_n (by omega)]
theorem clr_sim {F T P G N a : Row} {S n Z K D Q : Nat} (R : RX a S n Z K D Q) (M : MR F T P G N a S n) : MR (upd (upd (upd (upd F 3 0) 9 0) 14 0) 4 0) T P (upd G 1 0) N (rClr a) 0 0 ∧ RX (rClr a) 0 0 0 K D Q := by
  obtain ⟨⟨h10, hS, h22, hnK, h8, hK1, hK6, h16, hZ, h5, h6, hPD, hD⟩, ⟨k0, k11, k9, k17⟩, hsg, hcap, hsm, hlv⟩ := R
  obtain ⟨hT, hF, hG, hN, hP, hc1, hc0⟩ := M
  have e17 : rClr a 17 = 0 := by simp [rClr, upd]
  refine ⟨⟨fun k hk => by rw [rClr_n (by omega)]; exact hT k hk, fun k hk => ?_, by rw [upd_s]; simp [rClr, upd], fun k hk => absurd hk (by omega), fun k hk => absurd hk (by omega), fun h => ?_, fun _ => by simp [upd]⟩, ⟨by simp [rClr, upd]; rfl, by omega, by simp [rClr, upd]; rfl, by omega, by rw [rClr_n (by omega)]; exact h8, hK1, hK6, by simp [rClr, upd]; rfl, by omega, by rw [rClr_n (by omega)]; exact h5, by rw [rClr_n (by omega)]; exact h6, hPD, hD⟩, ⟨by rw [rClr_n (by omega)]; exact k0, Or.inl (by simp [rClr, upd]), by rw [rClr_n (by omega)]; exact k9, Or.inl e17⟩, fun j hj => absurd hj (by omega), fun h => ?_, fun k hk => absurd hk (by omega), LV_c (fun k hk => rClr_n (Or.inl hk)) hlv⟩
  · rcases (show k = 0 ∨ k = 1 ∨ k = 2 ∨ k = 3 ∨ k = 4 ∨ k = 5 ∨ k = 6 by omega) with rfl | rfl | rfl | rfl | rfl | rfl | rfl
    · simp [rClr, upd]
    · simp [rClr, upd]
    · rw [rClr_n (by omega), ← hF 2 (by decide)]; simp [upd]
    · rw [rClr_n (by omega), ← hF 3 (by decide)]; simp [upd]
    · rw [rClr_n (by omega), ← hF 4 (by decide)]; simp [upd]
    · rw [rClr_n (by omega), ← hF 5 (by decide)]; simp [upd]
    · simp [rClr, upd]
  · rw [e17] at h; exact absurd h (by decide)
  · rw [e17] at h; exact absurd h (by decide)
theorem drop_sim {F T P G N a : Row} {S n Z K D Q j : Nat} (R : RX a S n Z K D Q) (M : MR F T P G N a S n) (hj : j < n) : MR F T P (upd G 1 (nI (n - 1))) (nCut N n j) (rCut a n j) S (n - 1) ∧ RX (rCut a n j) S (n - 1) Z K D Q := by
  obtain ⟨⟨h10, hS, h22, hnK, h8, hK1, hK6, h16, hZ, h5, h6, hPD, hD⟩, ⟨k0, k11, k9, k17⟩, hsg, hcap, hsm, hlv⟩ := R
  obtain ⟨hT, hF, hG, hN, hP, hc1, hc0⟩ := M
  have o : ∀ k, k < 22 ∨ 47 ≤ k → rCut a n j k = a k := fun k hk => by
    unfold rCut
    rw [if_neg (by omega), if_neg (by omega)]
  have e22 : rCut a n j 22 = nI (n - 1) := by simp [rCut]
  have sgl : ∀ k, k < 4 * j → rCut a n j (23 + k) = a (23 + k) := fun k hk => by
    unfold rCut
    rw [if_neg (by omega), if_neg (by omega)]
  have sgh : ∀ k, 4 * j ≤ k → k < 4 * (n - 1) → rCut a n j (23 + k) = a (23 + k + 4) := fun k hk hk2 => by
    unfold rCut
    rw [if_neg (by omega), if_pos (by omega)]
  refine ⟨⟨fun k hk => by rw [o _ (by omega)]; exact hT k hk, fun k hk => by rw [o _ (by omega)]; exact hF k hk, by rw [upd_s, e22], fun k hk => ?_, fun k hk => by rw [o _ (by omega)]; exact hP k hk, fun h => ?_, fun h => ?_⟩, ⟨by rw [o _ (by omega)]; exact h10, hS, e22, by omega, by rw [o _ (by omega)]; exact h8, hK1, hK6, by rw [o _ (by omega)]; exact h16, hZ, by rw [o _ (by omega)]; exact h5, by rw [o _ (by omega)]; exact h6, hPD, hD⟩, ⟨by rw [o _ (by omega)]; exact k0, by rw [o _ (by omega)]; exact k11, by rw [o _ (by omega)]; exact k9, by rw [o _ (by omega)]; exact k17⟩, fun i hi => ?_, fun h => ?_, fun k hk => by rw [o _ (by omega)]; exact hsm k hk, LV_c (fun k hk => o k (by omega)) hlv⟩
  · unfold nCut
    by_cases h : 4 * j ≤ k ∧ k < 4 * (n - 1)
    · rw [if_pos h, sgh k h.1 h.2, hN _ (by omega)]; congr 1
    · rw [if_neg h, sgl k (by omega), hN _ (by omega)]
  · rw [o _ (by omega)] at h
    obtain ⟨hq, h14⟩ := hc1 h
    refine ⟨fun k hk => by rw [o _ (by omega)]; exact hq k hk, ?_⟩
    rw [h14]
    unfold rLk
    rw [o _ (by omega), o _ (by omega), o _ (by omega), o _ (by omega)]
  · rw [o _ (by omega)] at h; exact hc0 h
  · by_cases h : i < j
    · obtain ⟨t, d, p, e1, e2, e3, z⟩ := hsg i (by omega)
      exact ⟨t, d, p, by rw [sgl _ (by omega)]; exact e1, by rw [show 23 + 4 * i + 1 = 23 + (4 * i + 1) by omega, sgl _ (by omega)]; exact e2, by rw [show 23 + 4 * i + 2 = 23 + (4 * i + 2) by omega, sgl _ (by omega)]; exact e3, z⟩
    · obtain ⟨t, d, p, e1, e2, e3, z⟩ := hsg (i + 1) (by omega)
      refine ⟨t, d, p, ?_, ?_, ?_, z⟩
      · rw [sgh _ (by omega) (by omega), ← e1]; congr 1
      · rw [show 23 + 4 * i + 1 = 23 + (4 * i + 1) by omega, sgh _ (by omega) (by omega), ← e2]; congr 1
      · rw [show 23 + 4 * i + 2 = 23 + (4 * i + 2) by omega, sgh _ (by omega) (by omega), ← e3]; congr 1
  · rw [o _ (by omega)] at h
    obtain ⟨t, d, p, e1, e2, e3, z⟩ := hcap h
    exact ⟨t, d, p, by rw [o _ (by omega)]; exact e1, by rw [o _ (by omega)]; exact e2, by rw [o _ (by omega)]; exact e3, z⟩
/-- the first 447 places are what counts -/
theorem MR_r {F T P G N a b : Row} {S n : Nat} (h : ∀ k, k < 447 → b k = a k) (hS : S ≤ 400) (hn : n ≤ 6) (M : MR F T P G N a S n) : MR F T P G N b S n := by
  obtain ⟨hT, hF, hG, hN, hP, hc1, hc0⟩ := M
  refine ⟨fun k hk => by rw [h _ (by omega)]; exact hT k hk, fun k hk => by rw [h _ (by omega)]; exact hF k hk, by rw [h _ (by omega)]; exact hG, fun k hk => by rw [h _ (by omega)]; exact hN k hk, fun k hk => by rw [h _ (by omega)]; exact hP k hk, fun q => ?_, fun q => ?_⟩
  · rw [h _ (by omega)] at q
    refine ⟨fun k hk => by rw [h _ (by omega)]; exact (hc1 q).1 k hk, ?_⟩
    rw [(hc1 q).2]
    unfold rLk
    rw [h _ (by omega), h _ (by omega), h _ (by omega), h _ (by omega)]
  · rw [h _ (by omega)] at q; exact hc0 q
theorem RX_r {a b : Row} {S n Z K D Q : Nat} (h : ∀ k, k < 447 → b k = a k) (R : RX a S n Z K D Q) : RX b S n Z K D Q := by
  obtain ⟨⟨h10, hS, h22, hnK, h8, hK1, hK6, h16, hZ, h5, h6, hPD, hD⟩, ⟨k0, k11, k9, k17⟩, hsg, hcap, hsm, hlv⟩ := R
  refine ⟨⟨by rw [h _ (by omega)]; exact h10, hS, by rw [h _ (by omega)]; exact h22, hnK, by rw [h _ (by omega)]; exact h8, hK1, hK6, by rw [h _ (by omega)]; exact h16, hZ, by rw [h _ (by omega)]; exact h5, by rw [h _ (by omega)]; exact h6, hPD, hD⟩, ⟨by rw [h _ (by omega)]; exact k0, by rw [h _ (by omega)]; exact k11, by rw [h _ (by omega)]; exact k9, by rw [h _ (by omega)]; exact k17⟩, fun j hj => ?_, fun q => ?_, fun k hk => by rw [h _ (by omega)]; exact hsm k hk, LV_c (fun k hk => h k (by omega)) hlv⟩
  · obtain ⟨t, d, p, e1, e2, e3, z⟩ := hsg j hj
    exact ⟨t, d, p, by rw [h _ (by omega)]; exact e1, by rw [h _ (by omega)]; exact e2, by rw [h _ (by omega)]; exact e3, z⟩
  · rw [h _ (by omega)] at q
    obtain ⟨t, d, p, e1, e2, e3, z⟩ := hcap q
    exact ⟨t, d, p, by rw [h _ (by omega)]; exact e1, by rw [h _ (by omega)]; exact e2, by rw [h _ (by omega)]; exact e3, z⟩
/-- the class's rows, when what counts of them is the same -/
theorem MR_l {F T P G N F' T' P' G' N' a : Row} {S n : Nat} (hS : S ≤ 400) (hn : n ≤ 6) (hF : ∀ k, 3 ≤ k → k < 15 → F' k = F k) (hT : ∀ k, k < 10 → T' k = T k) (hP : ∀ k, k < 400 → P' k = P k) (hG : G' 1 = G 1) (hN : ∀ k, k < 24 → N' k = N k) (M : MR F T P G N a S n) : MR F' T' P' G' N' a S n := by
  obtain ⟨qT, qF, qG, qN, qP, qc1, qc0⟩ := M
  exact ⟨fun k hk => by rw [hT _ hk]; exact qT k hk, fun k hk => by rw [hF _ (by omega) (by omega)]; exact qF k hk, by rw [hG]; exact qG, fun k hk => by rw [hN _ (by omega)]; exact qN k hk, fun k hk => by rw [hP _ (by omega)]; exact qP k hk, fun q => ⟨fun k hk => by rw [hF _ (by omega) (by omega)]; exact (qc1 q).1 k hk, by rw [hF _ (by omega) (by omega)]; exact (qc1 q).2⟩, fun q => by rw [hF _ (by omega) (by omega)]; exact qc0 q⟩
theorem upR_self (I : HI) (c : Nat) : upR I c (I c) = I := by
  funext b
  by_cases h : b = c
  · subst h; simp [upR]
  · simp [upR, h]
theorem upR_upI {I : HI} {c k : Nat} {g : Row} {v : Int32} : upI (upR I c g) c k v = upR I c (upd g k v) := by
  funext b
  by_cases h : b = c
  · subst h; simp [upI, upR]
  · simp [upI, upR, h]
theorem upR_s' {I : HI} {c : Nat} {g : Row} : upR I c g c = g := by simp [upR]
theorem upR_n' {I : HI} {c b : Nat} {g : Row} (h : b ≠ c) : upR I c g b = I b := by simp [upR, h]
def MB (m : Nat) : Prop := (kd m = 1 ∧ m < 57) ∧ (isD (m + 1) = true ∧ ln (m + 1) = 10) ∧ (isD (m + 2) = true ∧ ln (m + 2) = 400) ∧ (kd (m + 3) = 3 ∧ m + 3 < 57) ∧ (isD (m + 3 + 1) = true ∧ ln (m + 3 + 1) = 24)
theorem MB_1 : MB 1 := by unfold MB; decide
theorem MB_h : ∀ k, k < 6 → MB (8 + 5 * k) := by unfold MB; decide
def EqM (I : HI) (m : Nat) (J : HI) (q : Nat) : Prop := (∀ k, 3 ≤ k → k < 15 → J q k = I m k) ∧ (∀ k, k < 10 → J (q + 1) k = I (m + 1) k) ∧ (∀ k, k < 400 → J (q + 2) k = I (m + 2) k) ∧ J (q + 3) 1 = I (m + 3) 1 ∧ (∀ k, k < 24 → J (q + 4) k = I (m + 4) k)
def ME (I : HI) (m : Nat) (a : Row) : Prop := ∃ S n Z K D Q, RX a S n Z K D Q ∧ MR (I m) (I (m + 1)) (I (m + 2)) (I (m + 3)) (I (m + 4)) a S n
theorem ME_m {I J : HI} {m q : Nat} {a : Row} (h : EqM I m J q) (M : ME I m a) : ME J q a := by
  obtain ⟨S, n, Z, K, D, Q, R, M⟩ := M
  obtain ⟨e1, e2, e3, e4, e5⟩ := h
  have R' := R
  obtain ⟨⟨-, hS, -, hnK, -, -, hK, -⟩, -⟩ := R'
  exact ⟨S, n, Z, K, D, Q, R, MR_l hS (by omega) e1 e2 e3 e4 e5 M⟩
theorem ME_c {I J : HI} {m : Nat} {a b : Row} (h : ∀ c, m ≤ c → c ≤ m + 4 → J c = I c) (hb : ∀ k, k < 447 → b k = a k) (M : ME I m a) : ME J m b := by
  obtain ⟨S, n, Z, K, D, Q, R, M⟩ := M
  have R' := R
  obtain ⟨⟨-, hS, -, hnK, -, -, hK, -⟩, -⟩ := R'
  refine ⟨S, n, Z, K, D, Q, RX_r hb R, ?_⟩
  rw [h m (by omega) (by omega), h (m + 1) (by omega) (by omega), h (m + 2) (by omega) (by omega), h (m + 3) (by omega) (by omega), h (m + 4) (by omega) (by omega)]
  exact MR_r hb hS (by omega) M
theorem upI_R' {I : HI} {a k : Nat} {v : Int32} : upI I a k v = upR I a (upd (I a) k v) := by
  funext b
  by_cases h : b = a
  · subst h; simp [upI, upR]
  · simp [upI, upR, h]
theorem upR_R' {I : HI} {a : Nat} {f g : Row} : upR (upR I a f) a g = upR I a g := by
  funext b
  by_cases h : b = a
  · subst h; simp [upR]
  · simp [upR, h]
theorem cr_eq {a b : Nat} {I : HI} (ha : isD a = true) (hb : isD b = true) (h : ln a = ln b) : f_X5_copyRow a b I = some (0, upR I b (fun k => if k < ln b then I a k else I b k)) := by
  unfold f_X5_copyRow
  rw [if_pos ⟨ha, hb⟩, if_neg (by omega), h]
  congr 3
  funext k
  unfold va_cpy
  by_cases hk : k < ln b
  · rw [if_pos (by omega), if_pos hk, show 0 + (k - 0) = k by omega]
  · rw [if_neg (by omega), if_neg hk]
theorem to_eq {a b : Nat} {I : HI} (ha : MB a) (hb : MB b) (hab : a + 4 < b ∨ b + 4 < a) : ∃ J : HI, f_X1_takeOver a b I = some (0, J) ∧ (∀ c, c < a ∨ a + 4 < c → J c = I c) ∧ EqM I b J a := by
  obtain ⟨a0, ⟨a1, la1⟩, ⟨a2, la2⟩, a3, ⟨a4, la4⟩⟩ := ha
  obtain ⟨b0, ⟨b1, lb1⟩, ⟨b2, lb2⟩, b3, ⟨b4, lb4⟩⟩ := hb
  unfold f_X1_takeOver f_X3_takeOver
  rw [if_pos ⟨a0, b0⟩, cr_eq b1 a1 (by rw [la1, lb1]), bs]
  dsimp only
  rw [cr_eq b2 a2 (by rw [la2, lb2]), bs]
  dsimp only
  rw [if_pos ⟨a3, b3⟩, cr_eq b4 a4 (by rw [la4, lb4]), bs]
  dsimp only
  rw [bs]
  dsimp only
  refine ⟨_, rfl, ?_⟩
  simp only [upI_R', upR_s', upR_R', upR_n' (show b ≠ a by omega), upR_n' (show b + 3 ≠ a + 3 + 1 by omega)]
  constructor
  · intro c hc
    rw [upR_n' (by omega), upR_n' (by omega), upR_n' (by omega), upR_n' (by omega), upR_n' (by omega)]
  · refine ⟨fun k h1 h2 => ?_, fun k hk => ?_, fun k hk => ?_, ?_, fun k hk => ?_⟩
    · rw [upR_s', upR_n' (show b ≠ a + 3 by omega), upR_n' (show b ≠ a + 3 + 1 by omega), upR_n' (show b ≠ a + 2 by omega), upR_n' (show b ≠ a + 1 by omega)]
      rcases (show k = 3 ∨ k = 4 ∨ k = 5 ∨ k = 6 ∨ k = 7 ∨ k = 8 ∨ k = 9 ∨ k = 10 ∨ k = 11 ∨ k = 12 ∨ k = 13 ∨ k = 14 by omega) with rfl | rfl | rfl | rfl | rfl | rfl | rfl | rfl | rfl | rfl | rfl | rfl <;> simp [upd]
    · rw [upR_n' (by omega), upR_n' (by omega), upR_n' (by omega), upR_n' (by omega), upR_s', if_pos (by omega)]
    · rw [upR_n' (by omega), upR_n' (by omega), upR_n' (by omega), upR_s', if_pos (by omega), upR_n' (by omega)]
    · rw [upR_n' (by omega), upR_s', upd_s, upR_n' (by omega), upR_n' (by omega)]
    · rw [upR_n' (by omega), upR_n' (by omega), show a + 4 = a + 3 + 1 by omega, upR_s', if_pos (by omega), upR_n' (by omega), upR_n' (by omega)]
theorem mm_h (k : Nat) (hk : k < 6) (I : HI) : f_X5_memoryAt 7 (nI k) I = some (8 + 5 * k, I) := by
  unfold f_X5_memoryAt
  rw [if_pos (by decide), if_neg (nI_pos (by omega)), show Int32.ofNat (ln 7) = nI 6 from rfl, if_neg (nI_ge hk (by decide)), show ln 7 = 6 from rfl, if_neg (ib hk (by decide)), show (nI k).toNatClampNeg = k from nc (by omega)]
  rfl
/-- what record does -/
theorem rec_eq {I : HI} {h nx : Nat} (h2 : I 6 2 = nI h) (h1 : I 6 1 = nI nx) (hh : h ≤ 6) (hx : nx < 6) : ∃ J : HI, f_X0_record I = some (0, J) ∧ (∀ c, c ≠ 6 → c < 8 + 5 * nx ∨ 12 + 5 * nx < c → J c = I c) ∧ EqM I 1 J (8 + 5 * nx) ∧ J 6 2 = nI (if h < 6 then h + 1 else 6) ∧ J 6 1 = nI ((nx + 1) % 6) := by
  obtain ⟨J, e, o, q⟩ := to_eq (I := I) (MB_h nx hx) MB_1 (by omega)
  have o6 : J 6 = I 6 := o 6 (by omega)
  have tail : ∀ w : Nat, w = (nx + 1) % 6 → ∃ J' : HI, f_X0_record_J40 (nI w) J = some (0, J') ∧ (∀ c, c ≠ 6 → c < 8 + 5 * nx ∨ 12 + 5 * nx < c → J' c = I c) ∧ EqM I 1 J' (8 + 5 * nx) ∧ J' 6 2 = nI (if h < 6 then h + 1 else 6) ∧ J' 6 1 = nI ((nx + 1) % 6) := by
    intro w hw
    unfold f_X0_record_J40
    refine ⟨_, rfl, ?_⟩
    refine ⟨fun c hc hc2 => by rw [upI_n hc, upI_n hc]; exact o c (by omega), ?_, ?_, ?_⟩
    · obtain ⟨q1, q2, q3, q4, q5⟩ := q
      refine ⟨fun k a b => ?_, fun k a => ?_, fun k a => ?_, ?_, fun k a => ?_⟩
      · rw [upI_n (by omega), upI_n (by omega)]; exact q1 k a b
      · rw [upI_n (by omega), upI_n (by omega)]; exact q2 k a
      · rw [upI_n (by omega), upI_n (by omega)]; exact q3 k a
      · rw [upI_n (by omega), upI_n (by omega)]; exact q4
      · rw [upI_n (by omega), upI_n (by omega)]; exact q5 k a
    · rw [upI_s, upd_s, upI_s, upd_n (by decide), o6, h2, nI_1]
      by_cases h6 : h < 6
      · rw [if_pos h6, l6, if_neg (fun z => absurd ((nI_ltI (by decide) (by omega)).mp z) (by omega))]
      · rw [if_neg h6, l6, if_pos ((nI_ltI (by decide) (by omega)).mpr (by omega))]
    · rw [upI_s, upd_n (by decide), upI_s, upd_s, hw]
  unfold f_X0_record
  rw [h1, mm_h nx hx, bs]
  dsimp only
  rw [e, bs]
  simp only [o6, h1]
  by_cases h5 : nx = 5
  · subst h5
    rw [if_pos (show nI 5 = (5 : Int32) from rfl)]
    exact tail 0 rfl
  · rw [if_neg (show ¬ nI nx = (5 : Int32) from nI_ne (b := 5) (by omega) (by decide) h5), nI_1]
    exact tail (nx + 1) (by omega)
theorem upR_at {I : HI} {c : Nat} {g : Row} (h : I c = g) : upR I c g = I := by rw [← h, upR_self]
theorem okF_v (v t a : Int32) : okF v t a = 0 ∨ okF v t a = -2 ∨ okF v t a = -4 := by
  unfold okF
  split
  · split
    · split
      · exact Or.inl rfl
      · exact Or.inr (Or.inr rfl)
    · exact Or.inr (Or.inl rfl)
  · exact Or.inr (Or.inl rfl)
theorem in_n {v : Int32} {n : Nat} (hn : n < 2 ^ 31) (h : 0 ≤ v ∧ v < nI n) : ∃ j : Nat, j < n ∧ v = nI j := by
  obtain ⟨j, hj, rfl⟩ := nI_of (x := v) (Int32.not_lt.mpr h.1)
  exact ⟨j, (nI_ltI hj hn).mp h.2, rfl⟩
theorem ME_1 {I J : HI} {m : Nat} {a b : Row} (q : EqM I m J 1) (M : ME I m a) {Z : HI} (hZ : ∀ c, 0 < c → c < 6 → Z c = J c) (hb : ∀ k, k < 447 → b k = a k) : ME Z 1 b := ME_c (fun c x y => hZ c (by omega) (by omega)) hb (ME_m q M)
