/-! ===== pure: the calls that change, on both sides ===== -/
theorem M2_of {I J : HI} {F T P G N F' T' P' G' N' a : Row} {S n Z K D Q B : Nat} (R : RX a S n Z K D Q) (W : Wll a S n Z B) (M : MR F T P G N a S n) (M' : MR F' T' P' G' N' (mir a) S n) : M2 (sM I F T P G N) (sM J F' T' P' G' N') 1 B := ⟨a, S, n, Z, K, D, Q, R, W, M, M'⟩
theorem M2_to {I J : HI} {B : Nat} (M : M2 I J 1 B) : ∃ (a : Row) (S n Z K D P : Nat), RX a S n Z K D P ∧ Wll a S n Z B ∧ MR (I 1) (I 2) (I 3) (I 4) (I 5) a S n ∧ MR (J 1) (J 2) (J 3) (J 4) (J 5) (mir a) S n := M
theorem okF_2 {v : Int32} {S t : Nat} (hv : -100 ≤ v ∧ v ≤ 100) (ht : 1 ≤ t ∧ t ≤ 100) (hS : S ≤ 400) : okF v (nI t) (nI S) = if S + t ≤ 400 then 0 else -4 := by
  unfold okF
  rw [if_pos hv, if_pos ⟨(nI_leI (a := 1) (by decide) (by omega)).mpr ht.1, (nI_leI (b := 100) (by omega) (by decide)).mpr ht.2⟩, nI_add]
  by_cases h : S + t ≤ 400
  · rw [if_pos h, if_pos (show nI (S + t) ≤ (400 : Int32) from (nI_leI (b := 400) (by omega) (by decide)).mpr h)]
  · rw [if_neg h, if_neg (show ¬ nI (S + t) ≤ (400 : Int32) from fun q => h ((nI_leI (b := 400) (by omega) (by decide)).mp q))]
theorem feed_two {I J : HI} {B t : Nat} {v : Int32} (G : Inv I J B) (hv : -100 ≤ v ∧ v ≤ 100) (ht : 1 ≤ t ∧ t ≤ 6) : ∃ S : Nat, I 1 3 = nI S ∧ S ≤ 400 ∧
    ((¬ S + t ≤ 400 ∧ f_X5_feed v (nI t) I = some (-4, I) ∧ f_X5_feed (-v) (nI t) J = some (-4, J)) ∨
    (S + t ≤ 400 ∧ ∃ (c : Nat) (I' J' : HI), c ≤ 6 ∧ f_X5_feed v (nI t) I = some (nI c, I') ∧ f_X5_feed (-v) (nI t) J = some (nI c, J') ∧ Inv I' J' (B + 6) ∧ I' 1 3 = nI (S + t) ∧ I' 1 8 = I 1 8 + nI c ∧ I' 3 (S + t - 1) = v)) := by
  obtain ⟨a, S, n, Z, K, D, P, R, W, M, M'⟩ := M2_to G.1
  have hS := R.1.2.1
  have e3 : I 1 3 = nI S := (M.2.1 0 (by decide)).trans R.1.1
  have e3' : J 1 3 = nI S := (M'.2.1 0 (by decide)).trans ((mir_o (by omega)).trans R.1.1)
  have er := es_eq (J := I) (F := I 1) (T := I 2) (P := I 3) (G := I 4) (N := I 5) (v := v) (t := nI t)
  rw [sM_self, e3, okF_2 hv (by omega) hS] at er
  have er' := es_eq (J := J) (F := J 1) (T := J 2) (P := J 3) (G := J 4) (N := J 5) (v := -v) (t := nI t)
  rw [sM_self, e3', okF_2 (ng hv) (by omega) hS] at er'
  refine ⟨S, e3, hS, ?_⟩
  unfold f_X5_feed
  by_cases h : S + t ≤ 400
  · refine Or.inr ⟨h, ?_⟩
    rw [if_pos h] at er er'
    obtain ⟨I1, J1, r1, r2, o, o', fin⟩ := rec2 G
    rw [← o 1 (by decide), ← o 2 (by decide), ← o 3 (by decide), ← o 4 (by decide), ← o 5 (by decide)] at M
    rw [← o' 1 (by decide), ← o' 2 (by decide), ← o' 3 (by decide), ← o' 4 (by decide), ← o' 5 (by decide)] at M'
    obtain ⟨F1, P1, G1, N1, F2, P2, G2, N2, a1, n1, Z1, c, g1, g2, g3, g4, g5, g6, g7, g8, g9⟩ := feed2 (J := I1) (J' := J1) hv (show t ≤ 100 by omega) t 4000 0 0 _ _ _ _ _ _ _ _ a S n Z B (by omega) (by omega) (by omega) R W M M' h
    rw [sM_self, Int32.zero_add] at g1 g2
    refine ⟨c, _, _, by omega, ?_, ?_, fin _ _ (B + 6) (by omega) (fun c hc => sM_n (by omega)) (fun c hc => sM_n (by omega)) (M2_of g3 (Wll_B (by omega) g4) g5 g6), ?_, ?_, ?_⟩
    · rw [er, bs, if_pos rfl]
      dsimp only
      rw [r1, bs]
      dsimp only
      unfold f_X1_takeSamples
      rw [show f_X1_takeSamples_L5 v (nI t) 4000 0 0 I1 = _ from g1, bs]
    · rw [er', bs, if_pos rfl]
      dsimp only
      rw [r2, bs]
      dsimp only
      unfold f_X1_takeSamples
      rw [show f_X1_takeSamples_L5 (-v) (nI t) 4000 0 0 J1 = _ from g2, bs]
    · rw [sM_1]
      exact (g5.2.1 0 (by decide)).trans g3.1.1
    · rw [sM_1]
      have e8 : F1 8 = a1 15 := g5.2.1 5 (by decide)
      have e8' : I1 1 8 = a 15 := M.2.1 5 (by decide)
      rw [e8, g7, ← e8', o 1 (by decide)]
    · rw [sM_3]
      have e9 : P1 (S + t - 1) = a1 (47 + (S + t - 1)) := g5.2.2.2.2.1 _ (by omega)
      rw [e9, g9 _ (by omega), if_neg (by omega)]
  · refine Or.inl ⟨h, ?_, ?_⟩
    · rw [if_neg h] at er
      rw [er, bs]
      rfl
    · rw [if_neg h] at er'
      rw [er', bs]
      rfl
theorem okS_v (a : Row) (s : Nat) (v : Int32) : okS a s v = 0 ∨ (okS a s v = -2 ∧ ¬ (cS 65 s ≤ v ∧ v ≤ cS 66 s)) ∨ (okS a s v = -5 ∧ (s = 3 ∨ s = 4 ∨ s = 5 ∨ s = 6)) := by
  unfold okS
  by_cases c : cS 65 s ≤ v ∧ v ≤ cS 66 s
  · rw [if_pos c]
    by_cases h : (s = 3 → v < a 4) ∧ (s = 4 → a 3 < v) ∧ (s = 5 → a 17 = 0 ∧ a 6 < v) ∧ (s = 6 → a 17 = 0 ∧ v < a 5)
    · rw [if_pos h]; exact Or.inl rfl
    · rw [if_neg h]
      refine Or.inr (Or.inr ⟨rfl, ?_⟩)
      by_cases q : s = 3 ∨ s = 4 ∨ s = 5 ∨ s = 6
      · exact q
      · exact absurd ⟨fun e => absurd e (by omega), fun e => absurd e (by omega), fun e => absurd e (by omega), fun e => absurd e (by omega)⟩ h
  · rw [if_neg c]; exact Or.inr (Or.inl ⟨rfl, c⟩)
theorem set_two {I J : HI} {B s : Nat} {v w : Int32} (G : Inv I J B) (hs : s < 10) (h0 : s = 0 → w = 1 - v ∧ (v = 0 ∨ v = 1)) (h1 : s = 1 → w = -v) (h2 : s ≠ 0 → s ≠ 1 → w = v) :
    (∃ e : Int32, ((e = -2 ∧ ¬ (cS 65 s ≤ v ∧ v ≤ cS 66 s)) ∨ (e = -5 ∧ (s = 3 ∨ s = 4 ∨ s = 5 ∨ s = 6))) ∧ f_X5_set (nI s) v I = some (e, I) ∧ f_X5_set (nI s) w J = some (e, J)) ∨
    (∃ (x x' : Int32) (I' J' : HI), (-100 ≤ x ∧ x ≤ 100) ∧ (-100 ≤ x' ∧ x' ≤ 100) ∧ (s ≠ 0 → s ≠ 1 → x' = x) ∧ f_X5_set (nI s) v I = some (x + 1000, I') ∧ f_X5_set (nI s) w J = some (x' + 1000, J') ∧ Inv I' J' B ∧ I' 2 s = v ∧ (s ≤ 4 → I' 1 4 = 0)) := by
  obtain ⟨a, S, n, Z, K, D, P, R, W, M, M'⟩ := M2_to G.1
  have hk := W.1
  have R' := RX_m R hk
  have hn : n ≤ 6 := Nat.le_trans R.1.2.2.2.1 R.1.2.2.2.2.2.2.1
  have er := er_eq (J := I) (v := v) R M G.2.2.1.1 G.2.2.1.2 hs
  have er' := er_eq (J := J) (v := w) R' M' G.2.2.2.1 G.2.2.2.2 hs
  rw [sM_self] at er er'
  rw [okS_m (v := v) h0 h1 h2] at er'
  unfold f_X5_set
  by_cases c : okS a s v = 0
  · refine Or.inr ?_
    rw [c] at er er'
    obtain ⟨I1, J1, r1, r2, o, o', fin⟩ := rec2 G
    rw [← o 1 (by decide), ← o 2 (by decide), ← o 3 (by decide), ← o 4 (by decide), ← o 5 (by decide)] at M
    rw [← o' 1 (by decide), ← o' 2 (by decide), ← o' 3 (by decide), ← o' 4 (by decide), ← o' 5 (by decide)] at M'
    obtain ⟨K', D', Q', e8, q2, q8, q9, R1⟩ := RX_set R hs c
    have hm := rSet_m (a := a) (v := v) (w := w) hs (fun e => (h0 e).1) h1 h2
    have e8' : rSet (mir a) s w 8 = nI K' := by rw [hm, mir_o (by omega)]; exact e8
    have q8' : s = 8 → w = nI K' := fun e => by rw [h2 (by omega) (by omega)]; exact q8 e
    have g1 := cs8_eq (F := I1 1) (T := I1 2) (P := I1 3) (G := I1 4) (N := I1 5) (J := I1) (v := v) hs (by rw [M.2.2.1]; exact R.1.2.2.1) hn q8 q9 q2
    have g2 := cs8_eq (F := J1 1) (T := J1 2) (P := J1 3) (G := J1 4) (N := J1 5) (J := J1) (v := w) hs (by rw [M'.2.2.1]; exact R'.1.2.2.1) hn q8' q9 q2
    have m1 := MR_set (v := v) R M hs e8 (fun _ => Or.inr trivial)
    have m2 := MR_set (v := w) R' M' hs e8' (fun _ => Or.inr trivial)
    rw [hm, rCuts_m _ _ _ hn] at m2
    have W1 := Wll_set (K' := K') R W hs c (fun e => (h0 e).2)
    rw [sM_self, M.1 s hs] at g1
    rw [sM_self, M'.1 s hs] at g2
    have hl := R.2.2.2.2.2.2 s hs
    have hl' := R'.2.2.2.2.2.2 s hs
    refine ⟨a s, mir a s, _, _, hl, hl', fun n0 n1 => mir_o (by omega), ?_, ?_, fin _ _ B (Nat.le_refl _) (fun c hc => sM_n (by omega)) (fun c hc => sM_n (by omega)) (M2_of R1 W1 m1 m2), ?_, fun h4 => ?_⟩
    · rw [er, bs, if_pos rfl]
      dsimp only
      rw [r1, bs]
      dsimp only
      rw [g1, bs]
    · rw [er', bs, if_pos rfl]
      dsimp only
      rw [r2, bs]
      dsimp only
      rw [g2, bs]
    · rw [sM_2, upd_s]
    · rw [sM_1]
      unfold fSet
      rw [if_pos h4, upd_s]
  · refine Or.inl ⟨okS a s v, ?_, ?_, ?_⟩
    · rcases okS_v a s v with h | h | h
      · exact absurd h c
      · exact Or.inl h
      · exact Or.inr h
    · rw [er, bs, if_neg c]
    · rw [er', bs, if_neg c]
theorem clear_two {I J : HI} {B : Nat} (G : Inv I J B) : ∃ (r : Int32) (I' J' : HI), f_X5_clear I = some (r, I') ∧ f_X5_clear J = some (r, J') ∧ Inv I' J' B ∧ I' 1 3 = 0 ∧ I' 4 1 = 0 ∧ I' 1 8 = I 1 8 := by
  obtain ⟨a, S, n, Z, K, D, P, R, W, M, M'⟩ := M2_to G.1
  have R' := RX_m R W.1
  obtain ⟨I1, J1, r1, r2, o, o', fin⟩ := rec2 G
  rw [← o 1 (by decide), ← o 2 (by decide), ← o 3 (by decide), ← o 4 (by decide), ← o 5 (by decide)] at M
  rw [← o' 1 (by decide), ← o' 2 (by decide), ← o' 3 (by decide), ← o' 4 (by decide), ← o' 5 (by decide)] at M'
  have g1 := fg_eq (F := I1 1) (T := I1 2) (P := I1 3) (G := I1 4) (N := I1 5) (J := I1)
  have g2 := fg_eq (F := J1 1) (T := J1 2) (P := J1 3) (G := J1 4) (N := J1 5) (J := J1)
  rw [sM_self] at g1 g2
  obtain ⟨m1, R1⟩ := clr_sim R M
  obtain ⟨m2, -⟩ := clr_sim R' M'
  rw [rClr_m] at m2
  have eg : J1 4 1 = I1 4 1 := by rw [M'.2.2.1, M.2.2.1]; exact mir_o (by omega)
  rw [eg] at g2
  unfold f_X5_clear
  refine ⟨I1 4 1, _, _, ?_, ?_, fin _ _ B (Nat.le_refl _) (fun c hc => sM_n (by omega)) (fun c hc => sM_n (by omega)) (M2_of R1 (Wll_clr W) m1 m2), ?_, ?_, ?_⟩
  · rw [r1, bs]
    dsimp only
    rw [g1, bs]
  · rw [r2, bs]
    dsimp only
    rw [g2, bs]
  · rw [sM_1]; simp [upd]
  · rw [sM_4]; simp [upd]
  · rw [sM_1, o 1 (by decide)]; simp [upd]
theorem drop_two {I J : HI} {B j : Nat} (G : Inv I J B) : ∃ n : Nat, I 4 1 = nI n ∧ n ≤ 6 ∧ ((¬ j < n ∧ j < 2 ^ 31 → f_X5_drop (nI j) I = some (-1, I) ∧ f_X5_drop (nI j) J = some (-1, J)) ∧ (j < n → ∃ I' J' : HI, f_X5_drop (nI j) I = some (nI (n - 1), I') ∧ f_X5_drop (nI j) J = some (nI (n - 1), J') ∧ Inv I' J' B)) := by
  obtain ⟨a, S, n, Z, K, D, P, R, W, M, M'⟩ := M2_to G.1
  have R' := RX_m R W.1
  have hn : n ≤ 6 := Nat.le_trans R.1.2.2.2.1 R.1.2.2.2.2.2.2.1
  have h4 : I 4 1 = nI n := M.2.2.1.trans R.1.2.2.1
  have h4' : J 4 1 = nI n := M'.2.2.1.trans R'.1.2.2.1
  unfold f_X5_drop
  refine ⟨n, h4, hn, fun hj => ⟨?_, ?_⟩, fun hj => ?_⟩
  · rw [has_out (by rw [h4]; exact fun q => hj.1 ((nI_ltI hj.2 (by omega)).mp q.2)), bs, if_pos rfl]
  · rw [has_out (by rw [h4']; exact fun q => hj.1 ((nI_ltI hj.2 (by omega)).mp q.2)), bs, if_pos rfl]
  · obtain ⟨I1, J1, r1, r2, o, o', fin⟩ := rec2 G
    rw [← o 1 (by decide), ← o 2 (by decide), ← o 3 (by decide), ← o 4 (by decide), ← o 5 (by decide)] at M
    rw [← o' 1 (by decide), ← o' 2 (by decide), ← o' 3 (by decide), ← o' 4 (by decide), ← o' 5 (by decide)] at M'
    have g1 := rm_eq (F := I1 1) (T := I1 2) (P := I1 3) (G := I1 4) (N := I1 5) (J := I1) (n := n) (by rw [o 4 (by decide)]; exact h4) hn hj
    have g2 := rm_eq (F := J1 1) (T := J1 2) (P := J1 3) (G := J1 4) (N := J1 5) (J := J1) (n := n) (by rw [o' 4 (by decide)]; exact h4') hn hj
    rw [sM_self] at g1 g2
    obtain ⟨m1, R1⟩ := drop_sim R M hj
    obtain ⟨m2, -⟩ := drop_sim R' M' hj
    rw [rCut_m hn] at m2
    refine ⟨_, _, ?_, ?_, fin _ _ B (Nat.le_refl _) (fun c hc => sM_n (by omega)) (fun c hc => sM_n (by omega)) (M2_of R1 (Wll_cut R W hj) m1 m2)⟩
    · rw [has_in (n := n) h4 (by omega) hj, bs, if_neg n10]
      dsimp only
      rw [r1, bs]
      dsimp only
      rw [g1, bs]
      dsimp only
      rw [sM_4, upd_s]
    · rw [has_in (n := n) h4' (by omega) hj, bs, if_neg n10]
      dsimp only
      rw [r2, bs]
      dsimp only
      rw [g2, bs]
      dsimp only
      rw [sM_4, upd_s]
/-- undo, of one object -/
theorem undo_one {I : HI} {h nx : Nat} (hh : h ≤ 6) (hx : nx < 6) (d2 : I 6 2 = nI h) (d1 : I 6 1 = nI nx) (h1 : 1 ≤ h) : ∃ J : HI, f_X5_undo I = some (nI (h - 1), J) ∧ (∀ c, 5 < c → c ≠ 6 → J c = I c) ∧ J 6 2 = nI (h - 1) ∧ J 6 1 = nI ((nx + 5) % 6) ∧ EqM I (8 + 5 * ((nx + 5) % 6)) J 1 := by
  have nz : ¬ nI h = 0 := nI_ne0 (by omega) (by omega)
  obtain ⟨p, hp, ep⟩ : ∃ p : Nat, p < 6 ∧ p = (nx + 5) % 6 := ⟨_, by omega, rfl⟩
  obtain ⟨J, eJ, o, q⟩ := to_eq (I := I) MB_1 (MB_h p hp) (by omega)
  have o6 : J 6 = I 6 := o 6 (by omega)
  have eB : f_X0_bringBack I = some (0, upI (upI J 6 1 (nI p)) 6 2 (nI (h - 1))) := by
    have key : f_X0_bringBack_J17 (nI p) I = some (0, upI (upI J 6 1 (nI p)) 6 2 (nI (h - 1))) := by
      unfold f_X0_bringBack_J17
      rw [mm_h p hp, bs]
      dsimp only
      rw [if_neg (by rw [d2]; exact nI_nle (by omega) (by omega)), eJ, bs]
      simp only [upI_s, o6]
      rw [upd_n (show 2 ≠ 1 by decide), d2, l1, pk_sub (by omega)]
    unfold f_X0_bringBack
    by_cases hn0 : nx = 0
    · rw [d1, if_pos (by rw [hn0]; rfl), show (5 : Int32) = nI p by rw [ep, hn0]; rfl]
      exact key
    · rw [d1, if_neg (nI_ne0 (by omega) (by omega)), l1, pk_sub (by omega), show nx - 1 = p by omega]
      exact key
  have z : ∀ c, c ≠ 6 → upI (upI J 6 1 (nI p)) 6 2 (nI (h - 1)) c = J c := fun c h1 => by rw [upI_n h1, upI_n h1]
  refine ⟨upI (upI J 6 1 (nI p)) 6 2 (nI (h - 1)), ?_, fun c h5 h6 => by rw [z c h6]; exact o c (by omega), ?_, ?_, ?_⟩
  · unfold f_X5_undo
    rw [d2, if_neg nz, eB, bs]
    dsimp only
    rw [upI_s, upd_s]
  · rw [upI_s, upd_s]
  · rw [upI_s, upd_n (by decide), upI_s, upd_s, ep]
  · rw [← ep]
    obtain ⟨q1, q2, q3, q4, q5⟩ := q
    refine ⟨fun k a b => ?_, fun k a => ?_, fun k a => ?_, ?_, fun k a => ?_⟩
    · rw [z 1 (by decide)]; exact q1 k a b
    · rw [z (1 + 1) (by decide)]; exact q2 k a
    · rw [z (1 + 2) (by decide)]; exact q3 k a
    · rw [z (1 + 3) (by decide)]; exact q4
    · rw [z (1 + 4) (by decide)]; exact q5 k a
theorem undo_two {I J : HI} {B : Nat} (G : Inv I J B) : ∃ h : Nat, h ≤ 6 ∧ I 6 2 = nI h ∧ (3 ≤ h → ∃ I' J' : HI, f_X5_undo I = some (nI (h - 1), I') ∧ f_X5_undo J = some (nI (h - 1), J') ∧ Inv I' J' B) := by
  obtain ⟨M, ⟨h, nx, hh, hx, ⟨d2, d1⟩, ⟨b2, b1⟩, GM⟩, g5, g6⟩ := G
  refine ⟨h, hh, d2, fun h3 => ?_⟩
  obtain ⟨I', e, o, e2, e1, q⟩ := undo_one hh hx d2 d1 (by omega)
  obtain ⟨J', e', o', e2', e1', q'⟩ := undo_one hh hx b2 b1 (by omega)
  refine ⟨I', J', e, e', ?_, ⟨h - 1, (nx + 5) % 6, by omega, by omega, ⟨e2, e1⟩, ⟨e2', e1'⟩, fun j h1 h2 => ?_⟩, ?_, ?_⟩
  · have := GM (h - 1) (by omega) (by omega)
    rw [show (nx + 6 - h + (h - 1)) % 6 = (nx + 5) % 6 by omega] at this
    exact M2_m q q' this
  · have := GM j h1 (by omega)
    rw [show (nx + 6 - h + j) % 6 = ((nx + 5) % 6 + 6 - (h - 1) + j) % 6 by omega] at this
    exact M2_c (fun c a b => o c (by omega) (by omega)) (fun c a b => o' c (by omega) (by omega)) this
  · rw [o 65 (by decide) (by decide), o 66 (by decide) (by decide)]
    exact g5
  · rw [o' 65 (by decide) (by decide), o' 66 (by decide) (by decide)]
    exact g6
