theorem arrV_ext {cA : ClassId} {n : Nat} {f h : Nat → Value} (e : ∀ j, j < n → f j = h j) : arrV cA n f = arrV cA n h := by
  unfold arrV
  congr 1
  apply Array.ext
  · simp
  · intro i h1 h2
    simp only [Array.size_ofFn] at h1
    simp [e i h1]
theorem fld_fln {g : GX} {I : HI} {a ci : Nat} (h7 : ci < 7) (h : ∀ k off : Nat, rfO ci k = some off → ¬ I a k = 0) : fln g I a ci = fld g I a ci := by
  rcases (show ci = 0 ∨ ci = 1 ∨ ci = 2 ∨ ci = 3 ∨ ci = 4 ∨ ci = 5 ∨ ci = 6 by omega) with rfl | rfl | rfl | rfl | rfl | rfl | rfl
  · have h0 := h 0 1 rfl
    simp [fln, nF, fld, flg, rfO, List.range_succ, h0]
  · have h0 := h 0 1 rfl
    have h1 := h 1 2 rfl
    have h2 := h 2 3 rfl
    simp [fln, nF, fld, flg, rfO, List.range_succ, h0, h1, h2]
  · have h0 := h 0 1 rfl
    have h1 := h 2 2 rfl
    have h2 := h 3 3 rfl
    have h3 := h 4 4 rfl
    have h4 := h 5 5 rfl
    simp [fln, nF, fld, flg, rfO, List.range_succ, h0, h1, h2, h3, h4]
  · have h0 := h 0 1 rfl
    simp [fln, nF, fld, flg, rfO, List.range_succ, h0]
  · have h0 := h 0 1 rfl
    have h1 := h 1 2 rfl
    simp [fln, nF, fld, flg, rfO, List.range_succ, h0, h1]
  · have h0 := h 0 1 rfl
    have h1 := h 1 6 rfl
    have h2 := h 2 38 rfl
    have h3 := h 3 51 rfl
    simp [fln, nF, fld, flg, rfO, List.range_succ, h0, h1, h2, h3]
  · have h0 := h 0 1 rfl
    have h1 := h 1 2 rfl
    have h2 := h 2 3 rfl
    have h3 := h 4 4 rfl
    have h4 := h 5 5 rfl
    have h5 := h 7 6 rfl
    simp [fln, nF, fld, flg, rfO, List.range_succ, h0, h1, h2, h3, h4, h5]
/-- all references are set -/
def full (I : HI) : Bool := (List.range 64).all fun a => (List.range 15).all fun k => !(((rfO (kd a) k).isSome && decide (kd a < 7)) || (kd a == 9 && decide (k < ln a))) || decide (¬ I a k = 0)
theorem kd_le : ∀ a : Nat, a < 64 → kd a = 7 ∨ kd a = 8 ∨ kd a = 9 ∨ kd a < 7 := by decide +kernel
theorem ln_o : ∀ a : Nat, a < 64 → kd a = 9 → ln a ≤ 15 := by decide +kernel
theorem rfO_k {ci k off : Nat} (h : rfO ci k = some off) : k < 15 := by
  unfold rfO at h
  split at h <;> first | omega | cases h
theorem Wd_of {g : GX} {I : HI} {H : Heap} (hf : full I = true) (hP : va_P (gD g) vwCl (Wn g 64 I) H) : va_P (gD g) vwCl (Wd g I) H := by
  intro k q hq
  obtain ⟨hk, rfl⟩ := Wd_at' hq
  have h1 := hP k _ (Wn_at hk)
  have hfk : ∀ j : Nat, j < 15 → (((rfO (kd k) j).isSome && decide (kd k < 7)) || (kd k == 9 && decide (j < ln k))) = true → ¬ I k j = 0 := by
    intro j hj h
    have h2 := List.all_eq_true.mp (List.all_eq_true.mp hf k (List.mem_range.mpr hk)) j (List.mem_range.mpr hj)
    rw [h] at h2
    simpa using h2
  rcases kd_le k hk with h | h | h | h
  · rw [cln_i h] at h1
    rw [cel_i h]
    exact h1
  · rw [cln_z h] at h1
    rw [cel_z h]
    exact h1
  · rw [cln_o h] at h1
    rw [cel_o h]
    have e : vp_cell (gO g) (ln k, .inr (.inr (.inr (.inr (fun j => if I k j = 0 then none else some (gR g (el k j))))))) = vp_cell (gO g) (ln k, .inr (.inr (.inr (.inr (fun j => some (gR g (el k j))))))) := by
      rw [vp_cell_q, vp_cell_q]
      refine arrV_ext fun j hj => ?_
      have hl := ln_o k hk h
      show va_rf (if I k j = 0 then none else some (gR g (el k j))) = _
      rw [if_neg (hfk j (by omega) (by simp [h, hj]))]
    show H[gR g k]? = some _
    rw [← e]
    exact h1
  · rw [cln_c rfl h] at h1
    rw [cel_c rfl h, ← fld_fln h (fun j off hr => hfk j (rfO_k hr) (by simp [hr, h]))]
    exact h1
theorem mem_lw {w : Cond} (i : Nat) (h : lw_tbl[i]? = some w) : w ∈ lw_tbl := List.mem_of_getElem? h
theorem mw_AO : Cond.arrayOver (.object RX1) ∈ lw_tbl := mem_lw 154 (by decide +kernel)
theorem mw_s64 : Cond.laysStatic RX5 "FIRST_OF_SETTING" "[I" ∈ lw_tbl := mem_lw 89 (by decide +kernel)
theorem mw_s65 : Cond.laysStatic RX5 "LEAST_OF_SETTING" "[I" ∈ lw_tbl := mem_lw 244 (by decide +kernel)
theorem mw_s66 : Cond.laysStatic RX5 "GREATEST_OF_SETTING" "[I" ∈ lw_tbl := mem_lw 249 (by decide +kernel)
theorem st_T {args : Array Value} {s : State} {n : String} {v : List Int32} {A : Nat → Prop} (hlay : (Cond.laysStatic RX5 n "[I").before args s = true) (hini : (Cond.initialized RX5).before args s = true) (harr : (Cond.arrayOf (.static RX5 n "[I") .int).before args s = true) (hlen : (Cond.eq (.length (.static RX5 n "[I")) (.int 10)).before args s = true) (hel : ∀ j : Nat, j < 10 → (Cond.eq (.elem (.static RX5 n "[I") (.int (Int32.ofNat j))) (.int (v.getD j 0))).before args s = true) (hA : ∀ a : Nat, a < s.heap.size → ¬ A a) : ∃ t : Nat, va_Z RX5 n "[I" (.ref t) A s s.heap ∧ va_T .int t 10 (fun j => .int (v.getD j 0)) A s s.heap ∧ t < s.heap.size := by
  obtain ⟨t, ht, hT⟩ := va_Tof (N := 10) (f := fun j => .int (v.getD j 0)) (A := A) (by decide) harr (va_eqt hlen) (fun j hj => va_eqt (hel j hj)) hA
  refine ⟨t, va_Zref hlay hini ht hA, hT, ?_⟩
  obtain ⟨cell, h1, -⟩ := hT
  exact (Array.getElem?_eq_some_iff.mp h1).1
set_option maxRecDepth 20000 in
theorem st_64 {args : Array Value} {s : State} (h : (Jvm.Cond.and given_1 narrow_1).before args s = true) (hlay : (Cond.laysStatic RX5 "FIRST_OF_SETTING" "[I").before args s = true) (hini : (Cond.initialized RX5).before args s = true) {A : Nat → Prop} (hA : ∀ a : Nat, a < s.heap.size → ¬ A a) : ∃ t : Nat, va_Z RX5 "FIRST_OF_SETTING" "[I" (.ref t) A s s.heap ∧ va_T .int t 10 (fun j => .int (([0, 0, 2, -20, 20, 8, 2, 4, 4, 0] : List Int32).getD j 0)) A s s.heap ∧ t < s.heap.size := by
  have hs := flat_of_before _ h
  refine st_T hlay hini (hs _ (by decide +kernel)) (hs _ (by decide +kernel)) (fun j hj => ?_) hA
  match j, hj with
  | 0, _ => exact hs (Cond.eq (.elem (.static RX5 "FIRST_OF_SETTING" "[I") (.int 0)) (.int (0))) (by decide +kernel)
  | 1, _ => exact hs (Cond.eq (.elem (.static RX5 "FIRST_OF_SETTING" "[I") (.int 1)) (.int (0))) (by decide +kernel)
  | 2, _ => exact hs (Cond.eq (.elem (.static RX5 "FIRST_OF_SETTING" "[I") (.int 2)) (.int (2))) (by decide +kernel)
  | 3, _ => exact hs (Cond.eq (.elem (.static RX5 "FIRST_OF_SETTING" "[I") (.int 3)) (.int (-20))) (by decide +kernel)
  | 4, _ => exact hs (Cond.eq (.elem (.static RX5 "FIRST_OF_SETTING" "[I") (.int 4)) (.int (20))) (by decide +kernel)
  | 5, _ => exact hs (Cond.eq (.elem (.static RX5 "FIRST_OF_SETTING" "[I") (.int 5)) (.int (8))) (by decide +kernel)
  | 6, _ => exact hs (Cond.eq (.elem (.static RX5 "FIRST_OF_SETTING" "[I") (.int 6)) (.int (2))) (by decide +kernel)
  | 7, _ => exact hs (Cond.eq (.elem (.static RX5 "FIRST_OF_SETTING" "[I") (.int 7)) (.int (4))) (by decide +kernel)
  | 8, _ => exact hs (Cond.eq (.elem (.static RX5 "FIRST_OF_SETTING" "[I") (.int 8)) (.int (4))) (by decide +kernel)
  | 9, _ => exact hs (Cond.eq (.elem (.static RX5 "FIRST_OF_SETTING" "[I") (.int 9)) (.int (0))) (by decide +kernel)
  | j + 10, hj => exact absurd hj (by omega)
set_option maxRecDepth 20000 in
theorem st_65 {args : Array Value} {s : State} (h : (Jvm.Cond.and given_1 narrow_1).before args s = true) (hlay : (Cond.laysStatic RX5 "LEAST_OF_SETTING" "[I").before args s = true) (hini : (Cond.initialized RX5).before args s = true) {A : Nat → Prop} (hA : ∀ a : Nat, a < s.heap.size → ¬ A a) : ∃ t : Nat, va_Z RX5 "LEAST_OF_SETTING" "[I" (.ref t) A s s.heap ∧ va_T .int t 10 (fun j => .int (([0, -100, 0, -100, -100, 1, 0, 0, 1, 0] : List Int32).getD j 0)) A s s.heap ∧ t < s.heap.size := by
  have hs := flat_of_before _ h
  refine st_T hlay hini (hs _ (by decide +kernel)) (hs _ (by decide +kernel)) (fun j hj => ?_) hA
  match j, hj with
  | 0, _ => exact hs (Cond.eq (.elem (.static RX5 "LEAST_OF_SETTING" "[I") (.int 0)) (.int (0))) (by decide +kernel)
  | 1, _ => exact hs (Cond.eq (.elem (.static RX5 "LEAST_OF_SETTING" "[I") (.int 1)) (.int (-100))) (by decide +kernel)
  | 2, _ => exact hs (Cond.eq (.elem (.static RX5 "LEAST_OF_SETTING" "[I") (.int 2)) (.int (0))) (by decide +kernel)
  | 3, _ => exact hs (Cond.eq (.elem (.static RX5 "LEAST_OF_SETTING" "[I") (.int 3)) (.int (-100))) (by decide +kernel)
  | 4, _ => exact hs (Cond.eq (.elem (.static RX5 "LEAST_OF_SETTING" "[I") (.int 4)) (.int (-100))) (by decide +kernel)
  | 5, _ => exact hs (Cond.eq (.elem (.static RX5 "LEAST_OF_SETTING" "[I") (.int 5)) (.int (1))) (by decide +kernel)
  | 6, _ => exact hs (Cond.eq (.elem (.static RX5 "LEAST_OF_SETTING" "[I") (.int 6)) (.int (0))) (by decide +kernel)
  | 7, _ => exact hs (Cond.eq (.elem (.static RX5 "LEAST_OF_SETTING" "[I") (.int 7)) (.int (0))) (by decide +kernel)
  | 8, _ => exact hs (Cond.eq (.elem (.static RX5 "LEAST_OF_SETTING" "[I") (.int 8)) (.int (1))) (by decide +kernel)
  | 9, _ => exact hs (Cond.eq (.elem (.static RX5 "LEAST_OF_SETTING" "[I") (.int 9)) (.int (0))) (by decide +kernel)
  | j + 10, hj => exact absurd hj (by omega)
set_option maxRecDepth 20000 in
theorem st_66 {args : Array Value} {s : State} (h : (Jvm.Cond.and given_1 narrow_1).before args s = true) (hlay : (Cond.laysStatic RX5 "GREATEST_OF_SETTING" "[I").before args s = true) (hini : (Cond.initialized RX5).before args s = true) {A : Nat → Prop} (hA : ∀ a : Nat, a < s.heap.size → ¬ A a) : ∃ t : Nat, va_Z RX5 "GREATEST_OF_SETTING" "[I" (.ref t) A s s.heap ∧ va_T .int t 10 (fun j => .int (([2, 100, 50, 100, 100, 32, 31, 60, 6, 1] : List Int32).getD j 0)) A s s.heap ∧ t < s.heap.size := by
  have hs := flat_of_before _ h
  refine st_T hlay hini (hs _ (by decide +kernel)) (hs _ (by decide +kernel)) (fun j hj => ?_) hA
  match j, hj with
  | 0, _ => exact hs (Cond.eq (.elem (.static RX5 "GREATEST_OF_SETTING" "[I") (.int 0)) (.int (2))) (by decide +kernel)
  | 1, _ => exact hs (Cond.eq (.elem (.static RX5 "GREATEST_OF_SETTING" "[I") (.int 1)) (.int (100))) (by decide +kernel)
  | 2, _ => exact hs (Cond.eq (.elem (.static RX5 "GREATEST_OF_SETTING" "[I") (.int 2)) (.int (50))) (by decide +kernel)
  | 3, _ => exact hs (Cond.eq (.elem (.static RX5 "GREATEST_OF_SETTING" "[I") (.int 3)) (.int (100))) (by decide +kernel)
  | 4, _ => exact hs (Cond.eq (.elem (.static RX5 "GREATEST_OF_SETTING" "[I") (.int 4)) (.int (100))) (by decide +kernel)
  | 5, _ => exact hs (Cond.eq (.elem (.static RX5 "GREATEST_OF_SETTING" "[I") (.int 5)) (.int (32))) (by decide +kernel)
  | 6, _ => exact hs (Cond.eq (.elem (.static RX5 "GREATEST_OF_SETTING" "[I") (.int 6)) (.int (31))) (by decide +kernel)
  | 7, _ => exact hs (Cond.eq (.elem (.static RX5 "GREATEST_OF_SETTING" "[I") (.int 7)) (.int (60))) (by decide +kernel)
  | 8, _ => exact hs (Cond.eq (.elem (.static RX5 "GREATEST_OF_SETTING" "[I") (.int 8)) (.int (6))) (by decide +kernel)
  | 9, _ => exact hs (Cond.eq (.elem (.static RX5 "GREATEST_OF_SETTING" "[I") (.int 9)) (.int (1))) (by decide +kernel)
  | j + 10, hj => exact absurd hj (by omega)
theorem st_g {sz t1 t2 t3 a : Nat} (h : a < 64) : (fun a => if a < 64 then sz + a else if a = 64 then t1 else if a = 65 then t2 else t3) a = sz + a := if_pos h
theorem ar_K {args : Array Value} {s : State} {ty : FieldType} (h : (Cond.arrayClass ty).before args s = true) : ∃ cA : ClassId, ArrOfT s cA ty ∧ s.vm.findClass ("[" ++ ty.toString) = some cA := by
  obtain ⟨cA, kA, comp, h1, h2, h3⟩ := Cond.arrayClass_spec h
  exact ⟨cA, fun n z => ⟨fun k h => (by cases h), kA, h2, comp, h3⟩, h1⟩
theorem ar_O {args : Array Value} {s : State} {C : String} (h : (Cond.arrayOver (.object C)).before args s = true) : ∃ cA : ClassId, ArrOfT s cA (.object C) ∧ va_RA s cA (.object C) := by
  obtain ⟨comp, cA, kA, h1, h2, h3, h4, h5⟩ := Cond.arrayOver_spec h
  exact ⟨cA, fun n z => ⟨fun k h => (by cases h), kA, h3, comp, h4⟩, kA, comp, h3, h4, h1, h5⟩
theorem nest_of {args : Array Value} {s : State} (hts : ∀ w ∈ lw_tbl, w.before args s = true) : xN s := by
  intro w hw
  have h1 := hts w (List.mem_filter.mp hw).1
  have hn := (List.mem_filter.mp hw).2
  match w, hn, h1 with
  | .fieldLinkNest _ _ _ _ _ _, _, h1 => exact va_Nw.of rfl h1
  | .methodLinkNest _ _ _ _, _, h1 => exact va_Nw.of rfl h1
/-- before anything is made -/
def Iz : HI := fun a k => if 64 ≤ a then cS a k else 0
theorem Iz_st : stC Iz := fun a h1 _ => by
  funext k
  exact if_pos h1
set_option maxHeartbeats 4000000 in
theorem start_world {p : Program} {s : State} {m : MethodId} {meth : Method} {c : Code} {b L : Nat} {xs : Nat → Int32} (C0 : lw_At p s m meth c b L xs) : ∃ g : GX, gS g = s.heap.size ∧ gC g ∧ XC g p s m #[Value.ref b] c code 4 RL ∧ va_AO RX1 s ∧ XN g 0 Iz s s.heap [] 0 := by
  obtain ⟨hx, hb, hr, hml, hown, hts, hX, hbl, hlocks, hgv⟩ := id C0
  have htw : ∀ w ∈ WL, w.before #[Value.ref b] s = true := fun w h => hts w (List.mem_filter.mp h).1
  have hA : ∀ a : Nat, a < s.heap.size → ¬ (fun q : Nat => s.heap.size ≤ q) a := fun a h h2 => by
    have : s.heap.size ≤ a := h2
    omega
  obtain ⟨t1, z1, a1, l1⟩ := st_64 hgv (hts _ mw_s64) (htw _ wz_X5) hA
  obtain ⟨t2, z2, a2, l2⟩ := st_65 hgv (hts _ mw_s65) (htw _ wz_X5) hA
  obtain ⟨t3, z3, a3, l3⟩ := st_66 hgv (hts _ mw_s66) (htw _ wz_X5) hA
  obtain ⟨cI, kI1, kI2⟩ := ar_K (htw _ wa_int)
  obtain ⟨cZ, kZ1, kZ2⟩ := ar_K (htw _ wa_boolean)
  obtain ⟨cO, kO1, kO2⟩ := ar_O (hts _ mw_AO)
  obtain ⟨c0, iS0, hKn0⟩ := u_known (C := RX0) (T := TX0) (N := 3) (n := 3) htw inX0 (htw _ wo_X0)
  obtain ⟨c1, iS1, hKn1⟩ := u_known (C := RX1) (T := TX1) (N := 15) (n := 15) htw inX1 (htw _ wo_X1)
  obtain ⟨c2, iS2, hKn2⟩ := u_known (C := RX2) (T := TX2) (N := 9) (n := 9) htw inX2 (htw _ wo_X2)
  obtain ⟨c3, iS3, hKn3⟩ := u_known (C := RX3) (T := TX3) (N := 2) (n := 2) htw inX3 (htw _ wo_X3)
  obtain ⟨c4, iS4, hKn4⟩ := u_known (C := RX4) (T := TX4) (N := 2) (n := 2) htw inX4 (htw _ wo_X4)
  obtain ⟨c5, iS5, hKn5⟩ := u_known (C := RX5) (T := TX5) (N := 4) (n := 4) htw inX5 (htw _ wo_X5)
  obtain ⟨c6, iS6, hKn6⟩ := u_known (C := RX6) (T := TX6) (N := 13) (n := 13) htw inX6 (htw _ wo_X6)
  obtain ⟨dC, dI, hKc⟩ : ∃ (dC : Nat → ClassId) (dI : Nat → Nat → Nat), ∀ (k : Nat) (q : vw_C), vwCl[k]? = some q → u_Kn s q.1 q.2.1 q.2.2 (dC k) (dI k) := by
    refine ⟨fun k => if k = 0 then c0 else if k = 1 then c1 else if k = 2 then c2 else if k = 3 then c3 else if k = 4 then c4 else if k = 5 then c5 else c6, fun k => if k = 0 then iS0 else if k = 1 then iS1 else if k = 2 then iS2 else if k = 3 then iS3 else if k = 4 then iS4 else if k = 5 then iS5 else iS6, ?_⟩
    intro k q hq
    match k, hq with
    | 0, hq => cases hq; exact hKn0
    | 1, hq => cases hq; exact hKn1
    | 2, hq => cases hq; exact hKn2
    | 3, hq => cases hq; exact hKn3
    | 4, hq => cases hq; exact hKn4
    | 5, hq => cases hq; exact hKn5
    | 6, hq => cases hq; exact hKn6
    | k + 7, hq => simp [vwCl] at hq
  let rho : Nat → Nat := fun a => if a < 64 then s.heap.size + a else if a = 64 then t1 else if a = 65 then t2 else t3
  let g : GX := (dC, dI, cI, cZ, cO, rho, s.heap.size)
  have hC : gC g := fun a ha => st_g ha
  have hg : gOk g := ⟨fun a b ha hb e => by
    rw [hC a ha, hC b hb] at e
    omega, fun a ha => by
    rw [hC a ha]
    exact Nat.le_add_right _ _⟩
  have hK : xK g s := ⟨hKc, fun k q hk => by
    match k, hk with
    | 0, hk => cases hk; exact ⟨kI1, kI2⟩
    | 1, hk => cases hk; exact ⟨kZ1, kZ2⟩
    | 2, hk => cases hk; exact ⟨kO1, kO2⟩
    | k + 3, hk => simp [gT] at hk⟩
  have hT : xT g s s.heap := ⟨⟨z1, z2, z3⟩, fun a h1 h2 => by
    rcases (show a = 64 ∨ a = 65 ∨ a = 66 by omega) with rfl | rfl | rfl
    · exact a1
    · exact a2
    · exact a3⟩
  refine ⟨g, rfl, hC, ⟨⟨hx, hb, hml, hown, htw⟩, hK, nest_of hts, hT, Nat.le_refl _, hg⟩, va_AO.of (hts _ mw_AO), ⟨fun k q hk => by simp [Wn] at hk, va_S.rf, Iz_st, rfl, by omega⟩⟩
/-- what stands at the loop's head for the first time -/
def I00 : HI := i_X6_init (upR (i_X5_init (upR Iz 0 (fun _ => 0))) 57 (fun _ => 0))
