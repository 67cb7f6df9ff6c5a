/-! ===== pure: out of the proof of the whole ===== -/
def fo {σ : Type} (g : σ → Nat → σ) : Nat → Nat → σ → σ
  | 0, _, x => x
  | k + 1, i, x => fo g k (i + 1) (g x i)
theorem lp {σ β : Type} (L : Nat → σ → Nat → β) (g : σ → Nat → σ) (N : Nat) (E : σ → β) (step : ∀ (f i : Nat) (x : σ), i < N → L (f + 1) x i = L f (g x i) (i + 1)) (fin : ∀ (f : Nat) (x : σ), L (f + 1) x N = E x) : ∀ (k f i : Nat) (x : σ), N - i = k → i ≤ N → k < f → L f x i = E (fo g k i x) := by
  intro k
  induction k with
  | zero =>
    intro f i x hk hi hf
    obtain ⟨f, rfl⟩ : ∃ f', f = f' + 1 := ⟨f - 1, by omega⟩
    obtain rfl : i = N := by omega
    exact fin f x
  | succ k ih =>
    intro f i x hk hi hf
    obtain ⟨f, rfl⟩ : ∃ f', f = f' + 1 := ⟨f - 1, by omega⟩
    rw [step f i x (by omega)]
    exact ih f (i + 1) _ (by omega) (by omega) (by omega)
theorem fo_rel {σ τ : Type} (Rl : σ → τ → Prop) (g : σ → Nat → σ) (g' : τ → Nat → τ) (lo N : Nat) (h : ∀ x y i, lo ≤ i → i < N → Rl x y → Rl (g x i) (g' y i)) : ∀ (k i : Nat) (x : σ) (y : τ), i + k ≤ N → lo ≤ i → Rl x y → Rl (fo g k i x) (fo g' k i y) := by
  intro k
  induction k with
  | zero => intro i x y _ _ r; exact r
  | succ k ih =>
    intro i x y hk hi r
    exact ih (i + 1) _ _ (by omega) (by omega) (h x y i hi (by omega) r)
theorem fo_eq {σ : Type} (g g' : σ → Nat → σ) (lo N : Nat) (h : ∀ x i, lo ≤ i → i < N → g x i = g' x i) (k i : Nat) (x : σ) (hk : i + k ≤ N) (hi : lo ≤ i) : fo g k i x = fo g' k i x := fo_rel (fun a b => a = b) g g' lo N (fun x y i a b r => by rw [r]; exact h y i a b) k i x x hk hi rfl
theorem lpP {σ β : Type} (L : Nat → σ → Nat → β) (g : σ → Nat → σ) (N : Nat) (E : σ → β) (P : Nat → σ → Prop) (step : ∀ (f i : Nat) (x : σ), i < N → P i x → L (f + 1) x i = L f (g x i) (i + 1)) (pres : ∀ (i : Nat) (x : σ), i < N → P i x → P (i + 1) (g x i)) (fin : ∀ (f : Nat) (x : σ), P N x → L (f + 1) x N = E x) : ∀ (k f i : Nat) (x : σ), N - i = k → i ≤ N → k < f → P i x → L f x i = E (fo g k i x) ∧ P N (fo g k i x) := by
  intro k
  induction k with
  | zero =>
    intro f i x hk hi hf p
    obtain ⟨f, rfl⟩ : ∃ f', f = f' + 1 := ⟨f - 1, by omega⟩
    obtain rfl : i = N := by omega
    exact ⟨fin f x p, p⟩
  | succ k ih =>
    intro f i x hk hi hf p
    obtain ⟨f, rfl⟩ : ∃ f', f = f' + 1 := ⟨f - 1, by omega⟩
    rw [step f i x (by omega) p]
    exact ih f (i + 1) _ (by omega) (by omega) (by omega) (pres i x (by omega) p)
theorem lvl_s (k v : Int32) : lvl k v v = v := by unfold lvl; split <;> rfl
/-- one sample under a level: how many fired, and what the detector was -/
noncomputable def gF (a : Row) (lv : Int32) : Int32 × Int32 → Nat → Int32 × Int32 := fun x i => (x.1 + sel (dF (a 0) (a (47 + i)) x.2 lv) 1 0, dN (a 0) (a 2) (a 4) (a (47 + i)) x.2 lv)
noncomputable def cF (a : Row) (S : Nat) (lv : Int32) : Int32 := (fo (gF a lv) S 0 (0, 0)).1
theorem upI_self {I : HI} {c k : Nat} : upI I c k (I c k) = I := by
  rw [upI_R', upd_self rfl, upR_self]
theorem lv_of {v : Int32} (h : -100 ≤ v ∧ v ≤ 100) : ∃ i : Nat, i ≤ 200 ∧ v = nI i - nI 100 := by
  have b1 : -100 ≤ v.toInt := Int32.le_iff_toInt_le.mp h.1
  have b3 : v.toInt ≤ 100 := Int32.le_iff_toInt_le.mp h.2
  refine ⟨(v.toInt + 100).toNat, by omega, ?_⟩
  apply Int32.toInt_inj.mp
  rw [pk_sub_toInt (by omega) (by decide)]
  omega
theorem lv_le {i g : Nat} (hi : i ≤ 300) (hg : g ≤ 300) : (nI i - nI 100 ≤ nI g - nI 100) ↔ i ≤ g := by
  rw [Int32.le_iff_toInt_le, pk_sub_toInt (by omega) (by decide), pk_sub_toInt (by omega) (by decide)]
  omega
theorem lv_1 (i : Nat) : nI i - nI 100 + 1 = nI (i + 1) - nI 100 := by rw [acc1, nI_1]
noncomputable def gBv (a : Row) (S : Nat) : Int32 × Int32 → Nat → Int32 × Int32 := fun x i => if cF a S (nI i - nI 100) ≤ x.2 then x else (nI i - nI 100, cF a S (nI i - nI 100))
def dab (x y : Int32) : Int32 := if 0 ≤ x - y then x - y else -(x - y)
theorem mn (a b : Nat) (ha : a < 2 ^ 31) (hb : b < 2 ^ 31) : (if nI b < nI a then nI b else nI a) = nI (min a b) := by
  by_cases h : b < a
  · rw [if_pos (nI_lt h ha), Nat.min_eq_right (by omega)]
  · rw [if_neg (nI_nlt (by omega) (by omega)), Nat.min_eq_left (by omega)]
theorem ix_le {i m e : Nat} (hi : i < 2 ^ 20) (hm : m < 2 ^ 20) (he : e < 2 ^ 20) : (nI e ≤ nI i - nI m) ↔ e + m ≤ i := by
  rw [Int32.le_iff_toInt_le, pk_sub_toInt (by omega) (by omega), nI_toInt (by omega)]
  omega
theorem add_sub' (t i m : Nat) (h : m ≤ t + i) : nI t + (nI i - nI m) = nI (t + i - m) := by
  rw [← pk_sub h, ← nI_add, Int32.sub_eq_add_neg, Int32.sub_eq_add_neg, Int32.add_assoc]
