/-! ===== pure: one memory taken over from another ===== -/
def MB (m : Nat) : Prop := (kd m = 1 ∧ m < 64) ∧ (isD (m + 1) = true ∧ ln (m + 1) = 10) ∧ (isD (m + 2) = true ∧ ln (m + 2) = 400) ∧ (kd (m + 3) = 3 ∧ m + 3 < 64) ∧ (isD (m + 3 + 1) = true ∧ ln (m + 3 + 1) = 24)
theorem MB_1 : MB 1 := by unfold MB; decide
theorem MB_h : ∀ k, k < 6 → MB (8 + 5 * k) := by unfold MB; decide
theorem MB_s : ∀ k, k < 2 → MB (41 + 5 * k) := by unfold MB; decide
def EqM (I : HI) (m : Nat) (J : HI) (q : Nat) : Prop := (∀ k, 3 ≤ k → k < 15 → J q k = I m k) ∧ (∀ k, k < 10 → J (q + 1) k = I (m + 1) k) ∧ (∀ k, k < 400 → J (q + 2) k = I (m + 2) k) ∧ J (q + 3) 1 = I (m + 3) 1 ∧ (∀ k, k < 24 → J (q + 4) k = I (m + 4) k)
def ME (I : HI) (m : Nat) (a : Row) : Prop := ∃ S n Z K D Q, RX a S n Z K D Q ∧ MR (I m) (I (m + 1)) (I (m + 2)) (I (m + 3)) (I (m + 4)) a S n
theorem ME_m {I J : HI} {m q : Nat} {a : Row} (h : EqM I m J q) (M : ME I m a) : ME J q a := by
  obtain ⟨S, n, Z, K, D, Q, R, M⟩ := M
  obtain ⟨e1, e2, e3, e4, e5⟩ := h
  have R' := R
  obtain ⟨⟨-, hS, -, hnK, -, -, hK, -⟩, -⟩ := R'
  exact ⟨S, n, Z, K, D, Q, R, MR_l hS (by omega) e1 e2 e3 e4 e5 M⟩
theorem ME_c {I J : HI} {m : Nat} {a b : Row} (h : ∀ c, m ≤ c → c ≤ m + 4 → J c = I c) (hb : ∀ k, k < 447 → b k = a k) (M : ME I m a) : ME J m b := by
  obtain ⟨S, n, Z, K, D, Q, R, M⟩ := M
  have R' := R
  obtain ⟨⟨-, hS, -, hnK, -, -, hK, -⟩, -⟩ := R'
  refine ⟨S, n, Z, K, D, Q, RX_r hb R, ?_⟩
  rw [h m (by omega) (by omega), h (m + 1) (by omega) (by omega), h (m + 2) (by omega) (by omega), h (m + 3) (by omega) (by omega), h (m + 4) (by omega) (by omega)]
  exact MR_r hb hS (by omega) M
theorem upI_R' {I : HI} {a k : Nat} {v : Int32} : upI I a k v = upR I a (upd (I a) k v) := by
  funext b
  by_cases h : b = a
  · subst h; simp [upI, upR]
  · simp [upI, upR, h]
theorem upR_R' {I : HI} {a : Nat} {f g : Row} : upR (upR I a f) a g = upR I a g := by
  funext b
  by_cases h : b = a
  · subst h; simp [upR]
  · simp [upR, h]
theorem cr_eq {a b : Nat} {I : HI} (ha : isD a = true) (hb : isD b = true) (h : ln a = ln b) : f_X5_copyRow a b I = some (0, upR I b (fun k => if k < ln b then I a k else I b k)) := by
  unfold f_X5_copyRow
  rw [if_pos ⟨ha, hb⟩, if_neg (by omega), h]
  congr 3
  funext k
  unfold va_cpy
  by_cases hk : k < ln b
  · rw [if_pos (by omega), if_pos hk, show 0 + (k - 0) = k by omega]
  · rw [if_neg (by omega), if_neg hk]
theorem to_eq {a b : Nat} {I : HI} (ha : MB a) (hb : MB b) (hab : a + 4 < b ∨ b + 4 < a) : ∃ J : HI, f_X1_takeOver a b I = some (0, J) ∧ (∀ c, c < a ∨ a + 4 < c → J c = I c) ∧ EqM I b J a := by
  obtain ⟨a0, ⟨a1, la1⟩, ⟨a2, la2⟩, a3, ⟨a4, la4⟩⟩ := ha
  obtain ⟨b0, ⟨b1, lb1⟩, ⟨b2, lb2⟩, b3, ⟨b4, lb4⟩⟩ := hb
  unfold f_X1_takeOver f_X3_takeOver
  rw [if_pos ⟨a0, b0⟩, cr_eq b1 a1 (by rw [la1, lb1]), bs]
  dsimp only
  rw [cr_eq b2 a2 (by rw [la2, lb2]), bs]
  dsimp only
  rw [if_pos ⟨a3, b3⟩, cr_eq b4 a4 (by rw [la4, lb4]), bs]
  dsimp only
  rw [bs]
  dsimp only
  refine ⟨_, rfl, ?_⟩
  simp only [upI_R', upR_s', upR_R', upR_n' (show b ≠ a by omega), upR_n' (show b + 3 ≠ a + 3 + 1 by omega)]
  constructor
  · intro c hc
    rw [upR_n' (by omega), upR_n' (by omega), upR_n' (by omega), upR_n' (by omega), upR_n' (by omega)]
  · refine ⟨fun k h1 h2 => ?_, fun k hk => ?_, fun k hk => ?_, ?_, fun k hk => ?_⟩
    · rw [upR_s', upR_n' (show b ≠ a + 3 by omega), upR_n' (show b ≠ a + 3 + 1 by omega), upR_n' (show b ≠ a + 2 by omega), upR_n' (show b ≠ a + 1 by omega)]
      rcases (show k = 3 ∨ k = 4 ∨ k = 5 ∨ k = 6 ∨ k = 7 ∨ k = 8 ∨ k = 9 ∨ k = 10 ∨ k = 11 ∨ k = 12 ∨ k = 13 ∨ k = 14 by omega) with rfl | rfl | rfl | rfl | rfl | rfl | rfl | rfl | rfl | rfl | rfl | rfl <;> simp [upd]
    · rw [upR_n' (by omega), upR_n' (by omega), upR_n' (by omega), upR_n' (by omega), upR_s', if_pos (by omega)]
    · rw [upR_n' (by omega), upR_n' (by omega), upR_n' (by omega), upR_s', if_pos (by omega), upR_n' (by omega)]
    · rw [upR_n' (by omega), upR_s', upd_s, upR_n' (by omega), upR_n' (by omega)]
    · rw [upR_n' (by omega), upR_n' (by omega), show a + 4 = a + 3 + 1 by omega, upR_s', if_pos (by omega), upR_n' (by omega), upR_n' (by omega)]
theorem mm_h (k : Nat) (hk : k < 6) (I : HI) : f_X5_memoryAt 7 (nI k) I = some (8 + 5 * k, I) := by
  unfold f_X5_memoryAt
  rw [if_pos (by decide), if_neg (nI_pos (by omega)), show Int32.ofNat (ln 7) = nI 6 from rfl, if_neg (nI_ge hk (by decide)), show ln 7 = 6 from rfl, if_neg (ib hk (by decide)), show (nI k).toNatClampNeg = k from nc (by omega)]
  rfl
theorem mm_s (k : Nat) (hk : k < 2) (I : HI) : f_X5_memoryAt 39 (nI k) I = some (41 + 5 * k, I) := by
  unfold f_X5_memoryAt
  rw [if_pos (by decide), if_neg (nI_pos (by omega)), show Int32.ofNat (ln 39) = nI 2 from rfl, if_neg (nI_ge hk (by decide)), show ln 39 = 2 from rfl, if_neg (ib hk (by decide)), show (nI k).toNatClampNeg = k from nc (by omega)]
  rfl
/-- what record does -/
theorem rec_eq {I : HI} {h nx : Nat} (h2 : I 6 2 = nI h) (h1 : I 6 1 = nI nx) (hh : h ≤ 6) (hx : nx < 6) : ∃ J : HI, f_X0_record I = some (0, J) ∧ (∀ c, c ≠ 6 → c < 8 + 5 * nx ∨ 12 + 5 * nx < c → J c = I c) ∧ EqM I 1 J (8 + 5 * nx) ∧ J 6 2 = nI (if h < 6 then h + 1 else 6) ∧ J 6 1 = nI ((nx + 1) % 6) := by
  obtain ⟨J, e, o, q⟩ := to_eq (I := I) (MB_h nx hx) MB_1 (by omega)
  have o6 : J 6 = I 6 := o 6 (by omega)
  have tail : ∀ w : Nat, w = (nx + 1) % 6 → ∃ J' : HI, f_X0_record_J40 (nI w) J = some (0, J') ∧ (∀ c, c ≠ 6 → c < 8 + 5 * nx ∨ 12 + 5 * nx < c → J' c = I c) ∧ EqM I 1 J' (8 + 5 * nx) ∧ J' 6 2 = nI (if h < 6 then h + 1 else 6) ∧ J' 6 1 = nI ((nx + 1) % 6) := by
    intro w hw
    unfold f_X0_record_J40
    refine ⟨_, rfl, ?_⟩
    refine ⟨fun c hc hc2 => by rw [upI_n hc, upI_n hc]; exact o c (by omega), ?_, ?_, ?_⟩
    · obtain ⟨q1, q2, q3, q4, q5⟩ := q
      refine ⟨fun k a b => ?_, fun k a => ?_, fun k a => ?_, ?_, fun k a => ?_⟩
      · rw [upI_n (by omega), upI_n (by omega)]; exact q1 k a b
      · rw [upI_n (by omega), upI_n (by omega)]; exact q2 k a
      · rw [upI_n (by omega), upI_n (by omega)]; exact q3 k a
      · rw [upI_n (by omega), upI_n (by omega)]; exact q4
      · rw [upI_n (by omega), upI_n (by omega)]; exact q5 k a
    · rw [upI_s, upd_s, upI_s, upd_n (by decide), o6, h2, nI_1]
      by_cases h6 : h < 6
      · rw [if_pos h6, l6, if_neg (fun z => absurd ((nI_ltI (by decide) (by omega)).mp z) (by omega))]
      · rw [if_neg h6, l6, if_pos ((nI_ltI (by decide) (by omega)).mpr (by omega))]
    · rw [upI_s, upd_n (by decide), upI_s, upd_s, hw]
  unfold f_X0_record
  rw [h1, mm_h nx hx, bs]
  dsimp only
  rw [e, bs]
  simp only [o6, h1]
  by_cases h5 : nx = 5
  · subst h5
    rw [if_pos (show nI 5 = (5 : Int32) from rfl)]
    exact tail 0 rfl
  · rw [if_neg (show ¬ nI nx = (5 : Int32) from nI_ne (b := 5) (by omega) (by decide) h5), nI_1]
    exact tail (nx + 1) (by omega)
