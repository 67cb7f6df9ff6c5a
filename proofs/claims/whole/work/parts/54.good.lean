/-! ===== pure: what holds between two calls ===== -/
def GH (I : HI) : Prop := ∃ h nx : Nat, h ≤ 6 ∧ nx < 6 ∧ I 57 3 = nI h ∧ I 6 2 = nI h ∧ I 6 1 = nI nx ∧ ∀ j, j < h → ME I (8 + 5 * ((nx + 6 - h + j) % 6)) (fun k => I 60 (447 * j + k))
def GS (I : HI) : Prop := ∀ s, s < 2 → (I 40 s = 0 ∧ I 62 s = 0) ∨ (I 40 s = 1 ∧ I 62 s = 1 ∧ ME I (41 + 5 * s) (fun k => I 61 (447 * s + k)))
def GP (I : HI) : Prop := ∃ L : Nat, L ≤ 80 ∧ I 51 1 = nI L ∧ I 57 8 = nI L ∧ ∀ k, k < L → I 52 k = I 63 k
def GT (I : HI) : Prop := I 65 = cS 65 ∧ I 66 = cS 66
def Good (I : HI) : Prop := ME I 1 (I 58) ∧ GH I ∧ GS I ∧ GP I ∧ GT I
def Ok (f g : HI → Option (Int32 × HI)) (I : HI) : Prop := ∃ (r : Int32) (Y Z : HI), f I = some (r, Y) ∧ g Y = some (r, Z) ∧ Good Z
theorem GS_c {I J : HI} (h : ∀ c, (39 < c ∧ c < 51) ∨ c = 61 ∨ c = 62 → J c = I c) (G : GS I) : GS J := by
  intro s hs
  rw [h 40 (by omega), h 62 (by omega), h 61 (by omega)]
  rcases G s hs with g | ⟨g1, g2, g3⟩
  · exact Or.inl g
  · exact Or.inr ⟨g1, g2, ME_c (fun c a b => h c (by omega)) (fun k hk => rfl) g3⟩
theorem GH_c {I J : HI} (h : ∀ c, (5 < c ∧ c < 38) ∨ c = 60 → J c = I c) (h3 : J 57 3 = I 57 3) (G : GH I) : GH J := by
  obtain ⟨l, nx, a, b, e1, e2, e3, e4⟩ := G
  refine ⟨l, nx, a, b, by rw [h3]; exact e1, by rw [h 6 (by omega)]; exact e2, by rw [h 6 (by omega)]; exact e3, fun j hj => ?_⟩
  rw [h 60 (by omega)]
  exact ME_c (fun c a b => h c (by omega)) (fun k hk => rfl) (e4 j hj)
theorem GP_c {I J : HI} (h : ∀ c, c = 51 ∨ c = 52 ∨ c = 63 → J c = I c) (h8 : J 57 8 = I 57 8) (G : GP I) : GP J := by
  obtain ⟨L, a, b, c, d⟩ := G
  exact ⟨L, a, by rw [h 51 (by omega)]; exact b, by rw [h8]; exact c, fun k hk => by rw [h 52 (by omega), h 63 (by omega)]; exact d k hk⟩
theorem Good_q {I J : HI} (h : ∀ c, c ≠ 57 → c ≠ 59 → J c = I c) (h3 : J 57 3 = I 57 3) (h8 : J 57 8 = I 57 8) (G : Good I) : Good J := by
  obtain ⟨g1, g2, g3, g4, g5⟩ := G
  refine ⟨?_, GH_c (fun c hc => h c (by omega) (by omega)) h3 g2, GS_c (fun c hc => h c (by omega) (by omega)) g3, GP_c (fun c hc => h c (by omega) (by omega)) h8 g4, by rw [GT, h 65 (by decide) (by decide), h 66 (by decide) (by decide)]; exact g5⟩
  rw [h 58 (by decide) (by decide)]
  exact ME_c (fun c a b => h c (by omega) (by omega)) (fun k hk => rfl) g1
theorem GH_rec {I J Y : HI} {h nx : Nat} {B w : Row} (hh : h ≤ 6) (hx : nx < 6) (M1 : ME I 1 (I 58)) (GM : ∀ j, j < h → ME I (8 + 5 * ((nx + 6 - h + j) % 6)) (fun k => I 60 (447 * j + k))) (o : ∀ c, c ≠ 6 → c < 8 + 5 * nx ∨ 12 + 5 * nx < c → J c = I c) (q : EqM I 1 J (8 + 5 * nx)) (e2 : J 6 2 = nI (if h < 6 then h + 1 else 6)) (e1 : J 6 1 = nI ((nx + 1) % 6))
    (hY : ∀ c, 5 < c → c < 38 → Y c = J c) (h3 : Y 57 3 = nI (if h < 6 then h + 1 else 6)) (hB : ∀ k, k < 447 → B k = I 58 k) (h60 : Y 60 = w) (hw : ∀ j k, j < (if h < 6 then h + 1 else 6) → k < 447 → w (447 * j + k) = if h < 6 then (if j < h then I 60 (447 * j + k) else B k) else (if j < 5 then I 60 (447 * (j + 1) + k) else B k)) : GH Y := by
  have new : ∀ b : Row, (∀ k, k < 447 → b k = B k) → ME Y (8 + 5 * nx) b := fun b hb => ME_c (fun c x y => hY c (by omega) (by omega)) (fun k hk => (hb k hk).trans (hB k hk)) (ME_m q M1)
  have old : ∀ (m : Nat) (a b : Row), m < 6 → m ≠ nx → ME I (8 + 5 * m) a → (∀ k, k < 447 → b k = a k) → ME Y (8 + 5 * m) b := fun m a b hm hn M hb => ME_c (fun c x y => by rw [hY c (by omega) (by omega), o c (by omega) (by omega)]) hb M
  refine ⟨if h < 6 then h + 1 else 6, (nx + 1) % 6, by split <;> omega, by omega, h3, by rw [hY 6 (by decide) (by decide)]; exact e2, by rw [hY 6 (by decide) (by decide)]; exact e1, fun j hj => ?_⟩
  rw [h60]
  have hwj := fun k hk => hw j k hj hk
  by_cases h6 : h < 6
  · simp only [if_pos h6] at hj hwj ⊢
    by_cases hj2 : j < h
    · simp only [if_pos hj2] at hwj
      rw [show ((nx + 1) % 6 + 6 - (h + 1) + j) % 6 = (nx + 6 - h + j) % 6 by omega]
      exact old _ _ _ (by omega) (by omega) (GM j hj2) hwj
    · simp only [if_neg hj2] at hwj
      rw [show ((nx + 1) % 6 + 6 - (h + 1) + j) % 6 = nx by omega]
      exact new _ hwj
  · obtain rfl : h = 6 := by omega
    simp only [if_neg h6] at hj hwj ⊢
    by_cases hj2 : j < 5
    · simp only [if_pos hj2] at hwj
      have := GM (j + 1) (by omega)
      rw [show (nx + 6 - 6 + (j + 1)) % 6 = ((nx + 1) % 6 + 6 - 6 + j) % 6 by omega] at this
      exact old _ _ _ (by omega) (by omega) this hwj
    · simp only [if_neg hj2] at hwj
      rw [show ((nx + 1) % 6 + 6 - 6 + j) % 6 = nx by omega]
      exact new _ hwj
/-- a change that both sides note: what the class recorded and what the reference kept -/
theorem commit {I : HI} (G : Good I) : ∃ J : HI, f_X0_record I = some (0, J) ∧ (∀ c, c < 6 ∨ 38 ≤ c → J c = I c) ∧ ∀ (X : HI) (r : Int32), (∀ c, 5 < c → c < 57 → c ≠ 51 → X c = J c) → (∀ c, 59 < c → X c = J c) → (∀ k, k < 447 → X 59 k = I 58 k) → X 57 3 = I 57 3 → ME X 1 (X 58) → GP X →
    ∃ Z : HI, f_X6_changed r X = some (r, Z) ∧ Good Z := by
  obtain ⟨g1, ⟨h, nx, hh, hx, d3, d2, d1, GM⟩, g3, g4, g5⟩ := G
  obtain ⟨J, e, o, q, e2, e1⟩ := rec_eq d2 d1 hh hx
  refine ⟨J, e, fun c hc => o c (by omega) (by omega), fun X r x1 x2 x59 x3 M P => ?_⟩
  obtain ⟨w, ec, hw⟩ := ch_eq (I := X) r (x3.trans d3) hh
  refine ⟨_, ec, ?_⟩
  have y : ∀ c, c ≠ 57 → c ≠ 60 → upI (upR X 60 w) 57 3 (nI (if h < 6 then h + 1 else 6)) c = X c := fun c h1 h2 => by rw [upI_n h1, upR_n' h2]
  have y7 : ∀ k, k ≠ 3 → upI (upR X 60 w) 57 3 (nI (if h < 6 then h + 1 else 6)) 57 k = X 57 k := fun k hk => by rw [upI_s, upd_n hk, upR_n' (by decide)]
  have x60 : X 60 = I 60 := by rw [x2 60 (by decide), o 60 (by decide) (by omega)]
  refine ⟨?_, ?_, ?_, GP_c (fun c hc => y c (by omega) (by omega)) (y7 8 (by decide)) P, ?_⟩
  · rw [y 58 (by decide) (by decide)]
    exact ME_c (fun c a b => y c (by omega) (by omega)) (fun k hk => rfl) M
  · refine GH_rec (B := X 59) (w := w) hh hx g1 GM o q e2 e1 (fun c a b => ?_) ?_ x59 ?_ (fun j k hj hk => ?_)
    · rw [y c (by omega) (by omega), x1 c (by omega) (by omega) (by omega)]
    · rw [upI_s, upd_s]
    · rw [upI_n (by decide), upR_s']
    · rw [hw j k hj hk, x60]
  · refine GS_c (fun c hc => ?_) g3
    rw [y c (by omega) (by omega)]
    rcases hc with hc | hc | hc
    · rw [x1 c (by omega) (by omega) (by omega), o c (by omega) (by omega)]
    · rw [x2 c (by omega), o c (by omega) (by omega)]
    · rw [x2 c (by omega), o c (by omega) (by omega)]
  · unfold GT
    rw [y 65 (by decide) (by decide), y 66 (by decide) (by decide), x2 65 (by decide), x2 66 (by decide), o 65 (by decide) (by omega), o 66 (by decide) (by omega)]
    exact g5
