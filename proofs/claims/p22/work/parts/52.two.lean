/-! ===== pure: two objects, the second one in the mirror ===== -/
def M2 (I J : HI) (m B : Nat) : Prop := ∃ (a : Row) (S n Z K D P : Nat), RX a S n Z K D P ∧ Wll a S n Z B ∧ MR (I m) (I (m + 1)) (I (m + 2)) (I (m + 3)) (I (m + 4)) a S n ∧ MR (J m) (J (m + 1)) (J (m + 2)) (J (m + 3)) (J (m + 4)) (mir a) S n
theorem M2_m {I J I' J' : HI} {m q B : Nat} (h : EqM I m I' q) (h' : EqM J m J' q) (M : M2 I J m B) : M2 I' J' q B := by
  obtain ⟨a, S, n, Z, K, D, P, R, W, M, M'⟩ := M
  obtain ⟨e1, e2, e3, e4, e5⟩ := h
  obtain ⟨g1, g2, g3, g4, g5⟩ := h'
  have hS := R.1.2.1
  have hn : n ≤ 6 := Nat.le_trans R.1.2.2.2.1 R.1.2.2.2.2.2.2.1
  exact ⟨a, S, n, Z, K, D, P, R, W, MR_l hS hn e1 e2 e3 e4 e5 M, MR_l hS hn g1 g2 g3 g4 g5 M'⟩
theorem M2_c {I J I' J' : HI} {m B : Nat} (h : ∀ c, m ≤ c → c ≤ m + 4 → I' c = I c) (h' : ∀ c, m ≤ c → c ≤ m + 4 → J' c = J c) (M : M2 I J m B) : M2 I' J' m B := by
  unfold M2
  rw [h m (by omega) (by omega), h (m + 1) (by omega) (by omega), h (m + 2) (by omega) (by omega), h (m + 3) (by omega) (by omega), h (m + 4) (by omega) (by omega), h' m (by omega) (by omega), h' (m + 1) (by omega) (by omega), h' (m + 2) (by omega) (by omega), h' (m + 3) (by omega) (by omega), h' (m + 4) (by omega) (by omega)]
  exact M
theorem M2_B {I J : HI} {m B B' : Nat} (h : B ≤ B') (M : M2 I J m B) : M2 I J m B' := by
  obtain ⟨a, S, n, Z, K, D, P, R, W, M⟩ := M
  exact ⟨a, S, n, Z, K, D, P, R, Wll_B h W, M⟩
/-! ===== pure: samples come, on both sides ===== -/
theorem Wll_come {a : Row} {v : Int32} {S n Z K D P B n' Z' : Nat} (R : RX a S n Z K D P) (W : Wll a S n Z B) (hS : S < 400) (hv : -100 ≤ v ∧ v ≤ 100) (R' : RX (rCome a v S n K) (S + 1) n' Z' K D P) : Wll (rCome a v S n K) (S + 1) n' Z' (B + 1) := by
  have hn' : n' ≤ 6 := Nat.le_trans R'.1.2.2.2.1 R'.1.2.2.2.2.2.2.1
  have hn : n ≤ 6 := Nat.le_trans R.1.2.2.2.1 R.1.2.2.2.2.2.2.1
  have e22 := R'.1.2.2.1
  have e16 := R'.1.2.2.2.2.2.2.2.1
  have hZ' := R'.1.2.2.2.2.2.2.2.2.1
  have hZ := R.1.2.2.2.2.2.2.2.2.1
  have hR := RW_pre R hS hv
  have hW := Wll_pre R W hS hv
  by_cases h : rDone (rPre a v S)
  · rw [rCome_t h] at e22 e16 ⊢
    rw [rC_22] at e22
    rw [rC_16] at e16
    have q1 := (nI_eq (by omega) (by omega)).mp e22
    have q2 := (nI_eq (a := 0) (by omega) (by omega)).mp e16
    subst q1; subst q2
    exact Wll_cmp hR hW h
  · rw [rCome_f h] at e22 e16 ⊢
    rw [rPre_k (by omega), R.1.2.2.1] at e22
    rw [rP_16, R.1.2.2.2.2.2.2.2.1, nI_1] at e16
    have q1 := (nI_eq (by omega) (by omega)).mp e22
    have q2 := (nI_eq (by omega) (by omega)).mp e16
    subst q1; subst q2
    exact hW
theorem come_v {a : Row} {v : Int32} {S n K k : Nat} (hn : n ≤ 6) (hK : 1 ≤ K ∧ K ≤ 6) : rCome a v S n K (47 + k) = if k = S then v else a (47 + k) := by
  have e : rCome a v S n K (47 + k) = rPre a v S (47 + k) := by
    by_cases h : rDone (rPre a v S)
    · rw [rCome_t h, rC_o hn hK (by omega)]
    · rw [rCome_f h]
  rw [e]
  by_cases hk : k = S
  · subst hk; rw [rP_v, if_pos rfl]
  · rw [rP_s (by omega) (by omega), if_neg hk]
theorem ne_1 (x : Int32) : ¬ x = x + 1 := fun h => by
  have h2 : x - x = x + 1 - x := congrArg (fun y => y - x) h
  rw [Int32.sub_self, Int32.add_comm, Int32.add_sub_cancel] at h2
  exact absurd h2 (by decide)
theorem feed2 {T T' : Row} {v : Int32} {J J' : HI} {K D Q t : Nat} (hv : -100 ≤ v ∧ v ≤ 100) (ht : t ≤ 100) : ∀ (d f i : Nat) (acc : Int32) (F P G N F' P' G' N' a : Row) (S n Z B : Nat), t - i = d → i ≤ t → d < f → RX a S n Z K D Q → Wll a S n Z B → MR F T P G N a S n → MR F' T' P' G' N' (mir a) S n → S + d ≤ 400 →
    ∃ (F1 P1 G1 N1 F2 P2 G2 N2 a1 : Row) (n1 Z1 c : Nat), f_X1_takeSamples_L5 v (nI t) f acc (nI i) (sM J F T P G N) = some (acc + nI c, sM J F1 T P1 G1 N1) ∧ f_X1_takeSamples_L5 (-v) (nI t) f acc (nI i) (sM J' F' T' P' G' N') = some (acc + nI c, sM J' F2 T' P2 G2 N2) ∧ RX a1 (S + d) n1 Z1 K D Q ∧ Wll a1 (S + d) n1 Z1 (B + d) ∧ MR F1 T P1 G1 N1 a1 (S + d) n1 ∧ MR F2 T' P2 G2 N2 (mir a1) (S + d) n1 ∧ a1 15 = a 15 + nI c ∧ c ≤ d ∧ ∀ k, k < S + d → a1 (47 + k) = if k < S then a (47 + k) else v := by
  intro d
  induction d with
  | zero =>
    intro f i acc F P G N F' P' G' N' a S n Z B hd hi hf R W M M' hS
    obtain ⟨f, rfl⟩ : ∃ f', f = f' + 1 := ⟨f - 1, by omega⟩
    obtain rfl : i = t := by omega
    refine ⟨F, P, G, N, F', P', G', N', a, n, Z, 0, ?_, ?_, R, W, M, M', (Int32.add_zero _).symm, Nat.le_refl _, fun k h2 => by rw [if_pos (by omega)]⟩
    · show f_X1_takeSamples_L5_b _ _ _ _ _ _ = _
      unfold f_X1_takeSamples_L5_b
      rw [if_pos (nI_le (Nat.le_refl _) (by omega)), nI_0, Int32.add_zero]
    · show f_X1_takeSamples_L5_b _ _ _ _ _ _ = _
      unfold f_X1_takeSamples_L5_b
      rw [if_pos (nI_le (Nat.le_refl _) (by omega)), nI_0, Int32.add_zero]
  | succ d ih =>
    intro f i acc F P G N F' P' G' N' a S n Z B hd hi hf R W M M' hS
    obtain ⟨f, rfl⟩ : ∃ f', f = f' + 1 := ⟨f - 1, by omega⟩
    have hn : n ≤ 6 := Nat.le_trans R.1.2.2.2.1 R.1.2.2.2.2.2.2.1
    have hK : 1 ≤ K ∧ K ≤ 6 := ⟨R.1.2.2.2.2.2.1, R.1.2.2.2.2.2.2.1⟩
    have hlv := R.2.2.2.2.2.2
    have hk := W.1
    have hm := rCome_m (S := S) hn hK.2 hk hv (hlv 1 (by decide)) (hlv 2 (by decide))
    obtain ⟨F1, P1, G1, N1, n1, Z1, M1, R1, st⟩ := step_sim (J := J) R M (show S < 400 by omega) hv
    obtain ⟨F2, P2, G2, N2, n2, Z2, M2, R2, st2⟩ := step_sim (J := J') (RX_m R hk) M' (show S < 400 by omega) (ng hv)
    rw [hm] at M2 R2 st2
    have en : n2 = n1 := by
      have h1 := R1.1.2.2.1
      have h2 := R2.1.2.2.1
      have g1 : n1 ≤ 6 := Nat.le_trans R1.1.2.2.2.1 R1.1.2.2.2.2.2.2.1
      have g2 : n2 ≤ 6 := Nat.le_trans R2.1.2.2.2.1 R2.1.2.2.2.2.2.2.1
      rw [mir_o (by omega), h1] at h2
      exact ((nI_eq (by omega) (by omega)).mp h2).symm
    subst en
    have W1 := Wll_come R W (show S < 400 by omega) hv R1
    rw [mir_o (k := 15) (by omega), mir_o (k := 15) (by omega)] at st2
    have eacc : ∀ (x : Int32) (c : Nat), x + 1 + nI c = x + nI (c + 1) := fun x c => by
      rw [Int32.add_assoc, l1, nI_add, Nat.add_comm]
    have go : ∀ acc' : Int32, _ := fun acc' => ih f (i + 1) acc' F1 P1 G1 N1 F2 P2 G2 N2 (rCome a v S n K) (S + 1) n2 Z1 (B + 1) (by omega) (by omega) (by omega) R1 W1 M1 M2 (by omega)
    have eS : S + 1 + d = S + (d + 1) := by omega
    have eB : B + 1 + d = B + (d + 1) := by omega
    rw [eS, eB] at go
    have vals : ∀ a1 : Row, (∀ k, k < S + (d + 1) → a1 (47 + k) = if k < S + 1 then rCome a v S n K (47 + k) else v) → ∀ k, k < S + (d + 1) → a1 (47 + k) = if k < S then a (47 + k) else v := fun a1 h k h2 => by
      rw [h k h2]
      by_cases e1 : k < S
      · rw [if_pos e1, if_pos (by omega), come_v hn hK, if_neg (by omega)]
      · rw [if_neg e1]
        by_cases e2 : k < S + 1
        · rw [if_pos e2, come_v hn hK, if_pos (by omega)]
        · rw [if_neg e2]
    rcases st with ⟨s1, s2⟩ | ⟨Fc, Pc, s1, s2, s3⟩
    · rcases st2 with ⟨t1, t2⟩ | ⟨Fd, Pd, t1, t2, t3⟩
      · obtain ⟨Fe, Pe, Ge, Ne, Ff, Pf, Gf, Nf, a1, n3, Z3, c, g1, g2, g3, g4, g5, g6, g7, g8, g9⟩ := go acc
        refine ⟨Fe, Pe, Ge, Ne, Ff, Pf, Gf, Nf, a1, n3, Z3, c, ?_, ?_, g3, g4, g5, g6, by rw [g7, s2], by omega, vals a1 g9⟩
        · show f_X1_takeSamples_L5_b _ _ _ _ _ _ = _
          unfold f_X1_takeSamples_L5_b
          rw [if_neg (nI_ge (by omega) (by omega)), s1, bs, if_pos rfl, nI_1]
          exact g1
        · show f_X1_takeSamples_L5_b _ _ _ _ _ _ = _
          unfold f_X1_takeSamples_L5_b
          rw [if_neg (nI_ge (by omega) (by omega)), t1, bs, if_pos rfl, nI_1]
          exact g2
      · exact absurd (s2.symm.trans t3) (ne_1 _)
    · rcases st2 with ⟨t1, t2⟩ | ⟨Fd, Pd, t1, t2, t3⟩
      · exact absurd (t2.symm.trans s3) (ne_1 _)
      · obtain ⟨Fe, Pe, Ge, Ne, Ff, Pf, Gf, Nf, a1, n3, Z3, c, g1, g2, g3, g4, g5, g6, g7, g8, g9⟩ := go (acc + 1)
        rw [eacc] at g1 g2
        refine ⟨Fe, Pe, Ge, Ne, Ff, Pf, Gf, Nf, a1, n3, Z3, c + 1, ?_, ?_, g3, g4, g5, g6, by rw [g7, s3, eacc], by omega, vals a1 g9⟩
        · show f_X1_takeSamples_L5_b _ _ _ _ _ _ = _
          unfold f_X1_takeSamples_L5_b
          rw [if_neg (nI_ge (by omega) (by omega)), s1, bs, if_neg n10, s2, bs, nI_1]
          exact g1
        · show f_X1_takeSamples_L5_b _ _ _ _ _ _ = _
          unfold f_X1_takeSamples_L5_b
          rw [if_neg (nI_ge (by omega) (by omega)), t1, bs, if_neg n10, t2, bs, nI_1]
          exact g2
/-! ===== pure: what holds between two calls ===== -/
def Hs (I J : HI) (B : Nat) : Prop := ∃ h nx : Nat, h ≤ 6 ∧ nx < 6 ∧ (I 6 2 = nI h ∧ I 6 1 = nI nx) ∧ (J 6 2 = nI h ∧ J 6 1 = nI nx) ∧ ∀ j, 1 ≤ j → j < h → M2 I J (8 + 5 * ((nx + 6 - h + j) % 6)) B
def Inv (I J : HI) (B : Nat) : Prop := M2 I J 1 B ∧ Hs I J B ∧ (I 65 = cS 65 ∧ I 66 = cS 66) ∧ (J 65 = cS 65 ∧ J 66 = cS 66)
theorem rec2 {I J : HI} {B : Nat} (G : Inv I J B) : ∃ I1 J1 : HI, f_X0_record I = some (0, I1) ∧ f_X0_record J = some (0, J1) ∧ (∀ c, c < 6 ∨ 38 ≤ c → I1 c = I c) ∧ (∀ c, c < 6 ∨ 38 ≤ c → J1 c = J c) ∧ ∀ (Y Y' : HI) (B' : Nat), B ≤ B' → (∀ c, 5 < c → Y c = I1 c) → (∀ c, 5 < c → Y' c = J1 c) → M2 Y Y' 1 B' → Inv Y Y' B' := by
  obtain ⟨M, ⟨h, nx, hh, hx, ⟨d2, d1⟩, ⟨b2, b1⟩, GM⟩, g5, g6⟩ := G
  obtain ⟨I1, e, o, q, e2, e1⟩ := rec_eq d2 d1 hh hx
  obtain ⟨J1, e', o', q', e2', e1'⟩ := rec_eq b2 b1 hh hx
  refine ⟨I1, J1, e, e', fun c hc => o c (by omega) (by omega), fun c hc => o' c (by omega) (by omega), fun Y Y' B' hB hY hY' M' => ⟨M', ?_, ?_, ?_⟩⟩
  · have new : M2 Y Y' (8 + 5 * nx) B' := M2_c (fun c x y => hY c (by omega)) (fun c x y => hY' c (by omega)) (M2_B hB (M2_m q q' M))
    have old : ∀ m : Nat, m < 6 → m ≠ nx → M2 I J (8 + 5 * m) B → M2 Y Y' (8 + 5 * m) B' := fun m hm hn M => M2_c (fun c x y => by rw [hY c (by omega), o c (by omega) (by omega)]) (fun c x y => by rw [hY' c (by omega), o' c (by omega) (by omega)]) (M2_B hB M)
    refine ⟨if h < 6 then h + 1 else 6, (nx + 1) % 6, by split <;> omega, by omega, ⟨by rw [hY 6 (by decide)]; exact e2, by rw [hY 6 (by decide)]; exact e1⟩, ⟨by rw [hY' 6 (by decide)]; exact e2', by rw [hY' 6 (by decide)]; exact e1'⟩, fun j hj1 hj => ?_⟩
    by_cases h6 : h < 6
    · simp only [if_pos h6] at hj ⊢
      by_cases hj2 : j < h
      · rw [show ((nx + 1) % 6 + 6 - (h + 1) + j) % 6 = (nx + 6 - h + j) % 6 by omega]
        exact old _ (by omega) (by omega) (GM j hj1 hj2)
      · rw [show ((nx + 1) % 6 + 6 - (h + 1) + j) % 6 = nx by omega]
        exact new
    · obtain rfl : h = 6 := by omega
      simp only [if_neg h6] at hj ⊢
      by_cases hj2 : j < 5
      · have := GM (j + 1) (by omega) (by omega)
        rw [show (nx + 6 - 6 + (j + 1)) % 6 = ((nx + 1) % 6 + 6 - 6 + j) % 6 by omega] at this
        exact old _ (by omega) (by omega) this
      · rw [show ((nx + 1) % 6 + 6 - 6 + j) % 6 = nx by omega]
        exact new
  · rw [hY 65 (by decide), hY 66 (by decide), o 65 (by decide) (by omega), o 66 (by decide) (by omega)]
    exact g5
  · rw [hY' 65 (by decide), hY' 66 (by decide), o' 65 (by decide) (by omega), o' 66 (by decide) (by omega)]
    exact g6
theorem Inv_B {I J : HI} {B B' : Nat} (h : B ≤ B') (G : Inv I J B) : Inv I J B' := by
  obtain ⟨M, ⟨h', nx, hh, hx, d, b, GM⟩, g⟩ := G
  exact ⟨M2_B h M, ⟨h', nx, hh, hx, d, b, fun j h1 h2 => M2_B h (GM j h1 h2)⟩, g⟩
