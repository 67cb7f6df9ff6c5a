theorem arrV_ext {cA : ClassId} {n : Nat} {f h : Nat → Value} (e : ∀ j, j < n → f j = h j) : arrV cA n f = arrV cA n h := by
  unfold arrV
  congr 1
  apply Array.ext
  · simp
  · intro i h1 h2
    simp only [Array.size_ofFn] at h1
    simp [e i h1]
theorem fld_fln {g : GX} {I : HI} {a ci : Nat} (h7 : ci < 7) (h : ∀ k off : Nat, rfO ci k = some off → ¬ I a k = 0) : fln g I a ci = fld g I a ci := by
  rcases (show ci = 0 ∨ ci = 1 ∨ ci = 2 ∨ ci = 3 ∨ ci = 4 ∨ ci = 5 ∨ ci = 6 by omega) with rfl | rfl | rfl | rfl | rfl | rfl | rfl
  · have h0 := h 0 1 rfl
    simp [fln, nF, fld, flg, rfO, List.range_succ, h0]
  · have h0 := h 0 1 rfl
    have h1 := h 1 2 rfl
    have h2 := h 2 3 rfl
    simp [fln, nF, fld, flg, rfO, List.range_succ, h0, h1, h2]
  · have h0 := h 0 1 rfl
    have h1 := h 2 2 rfl
    have h2 := h 3 3 rfl
    have h3 := h 4 4 rfl
    have h4 := h 5 5 rfl
    simp [fln, nF, fld, flg, rfO, List.range_succ, h0, h1, h2, h3, h4]
  · have h0 := h 0 1 rfl
    simp [fln, nF, fld, flg, rfO, List.range_succ, h0]
  · have h0 := h 0 1 rfl
    have h1 := h 1 2 rfl
    simp [fln, nF, fld, flg, rfO, List.range_succ, h0, h1]
  · have h0 := h 0 1 rfl
    have h1 := h 1 6 rfl
    have h2 := h 2 38 rfl
    have h3 := h 3 51 rfl
    simp [fln, nF, fld, flg, rfO, List.range_succ, h0, h1, h2, h3]
  · simp [fln, nF, fld]
/-- all references are set -/
def full (I : HI) : Bool := (List.range 57).all fun a => (List.range 15).all fun k => !(((rfO (kd a) k).isSome && decide (kd a < 7)) || (kd a == 9 && decide (k < ln a))) || decide (¬ I a k = 0)
theorem kd_le : ∀ a : Nat, a < 57 → kd a = 7 ∨ kd a = 8 ∨ kd a = 9 ∨ kd a < 7 := by decide +kernel
theorem ln_o : ∀ a : Nat, a < 57 → kd a = 9 → ln a ≤ 15 := by decide +kernel
theorem rfO_k {ci k off : Nat} (h : rfO ci k = some off) : k < 15 := by
  unfold rfO at h
  split at h <;> first | omega | cases h
theorem Wd_of {g : GX} {I : HI} {H : Heap} (hf : full I = true) (hP : va_P (gD g) vwCl (Wn g 57 I) H) : va_P (gD g) vwCl (Wd g I) H := by
  intro k q hq
  obtain ⟨hk, rfl⟩ := Wd_at' hq
  have h1 := hP k _ (Wn_at hk)
  have hfk : ∀ j : Nat, j < 15 → (((rfO (kd k) j).isSome && decide (kd k < 7)) || (kd k == 9 && decide (j < ln k))) = true → ¬ I k j = 0 := by
    intro j hj h
    have h2 := List.all_eq_true.mp (List.all_eq_true.mp hf k (List.mem_range.mpr hk)) j (List.mem_range.mpr hj)
    rw [h] at h2
    simpa using h2
  rcases kd_le k hk with h | h | h | h
  · rw [cln_i h] at h1
    rw [cel_i h]
    exact h1
  · rw [cln_z h] at h1
    rw [cel_z h]
    exact h1
  · rw [cln_o h] at h1
    rw [cel_o h]
    have e : vp_cell (gO g) (ln k, .inr (.inr (.inr (.inr (fun j => if I k j = 0 then none else some (gR g (el k j))))))) = vp_cell (gO g) (ln k, .inr (.inr (.inr (.inr (fun j => some (gR g (el k j))))))) := by
      rw [vp_cell_q, vp_cell_q]
      refine arrV_ext fun j hj => ?_
      have hl := ln_o k hk h
      show va_rf (if I k j = 0 then none else some (gR g (el k j))) = _
      rw [if_neg (hfk j (by omega) (by simp [h, hj]))]
    show H[gR g k]? = some _
    rw [← e]
    exact h1
  · rw [cln_c rfl h] at h1
    rw [cel_c rfl h, ← fld_fln h (fun j off hr => hfk j (rfO_k hr) (by simp [hr, h]))]
    exact h1
theorem mem_lw {w : Cond} (i : Nat) (h : lw_tbl[i]? = some w) : w ∈ lw_tbl := List.mem_of_getElem? h
theorem mw_AO : Cond.arrayOver (.object RX1) ∈ lw_tbl := mem_lw 111 (by decide +kernel)
theorem mw_s64 : Cond.laysStatic RX5 "FIRST_OF_SETTING" "[I" ∈ lw_tbl := mem_lw 46 (by decide +kernel)
theorem mw_s65 : Cond.laysStatic RX5 "LEAST_OF_SETTING" "[I" ∈ lw_tbl := mem_lw 197 (by decide +kernel)
theorem mw_s66 : Cond.laysStatic RX5 "GREATEST_OF_SETTING" "[I" ∈ lw_tbl := mem_lw 202 (by decide +kernel)
theorem st_T {args : Array Value} {s : State} {n : String} {v : List Int32} {A : Nat → Prop} (hlay : (Cond.laysStatic RX5 n "[I").before args s = true) (hini : (Cond.initialized RX5).before args s = true) (harr : (Cond.arrayOf (.static RX5 n "[I") .int).before args s = true) (hlen : (Cond.eq (.length (.static RX5 n "[I")) (.int 10)).before args s = true) (hel : ∀ j : Nat, j < 10 → (Cond.eq (.elem (.static RX5 n "[I") (.int (Int32.ofNat j))) (.int (v.getD j 0))).before args s = true) (hA : ∀ a : Nat, a < s.heap.size → ¬ A a) : ∃ t : Nat, va_Z RX5 n "[I" (.ref t) A s s.heap ∧ va_T .int t 10 (fun j => .int (v.getD j 0)) A s s.heap ∧ t < s.heap.size := by
  obtain ⟨t, ht, hT⟩ := va_Tof (N := 10) (f := fun j => .int (v.getD j 0)) (A := A) (by decide) harr (va_eqt hlen) (fun j hj => va_eqt (hel j hj)) hA
  refine ⟨t, va_Zref hlay hini ht hA, hT, ?_⟩
  obtain ⟨cell, h1, -⟩ := hT
  exact (Array.getElem?_eq_some_iff.mp h1).1
set_option maxRecDepth 20000 in
theorem st_64 {args : Array Value} {s : State} (h : (Jvm.Cond.and given_1 narrow_1).before args s = true) (hlay : (Cond.laysStatic RX5 "FIRST_OF_SETTING" "[I").before args s = true) (hini : (Cond.initialized RX5).before args s = true) {A : Nat → Prop} (hA : ∀ a : Nat, a < s.heap.size → ¬ A a) : ∃ t : Nat, va_Z RX5 "FIRST_OF_SETTING" "[I" (.ref t) A s s.heap ∧ va_T .int t 10 (fun j => .int (([0, 0, 2, -20, 20, 8, 2, 4, 4, 0] : List Int32).getD j 0)) A s s.heap ∧ t < s.heap.size := by
  have hs := flat_of_before _ h
  refine st_T hlay hini (hs _ (by decide +kernel)) (hs _ (by decide +kernel)) (fun j hj => ?_) hA
  match j, hj with
  | 0, _ => exact hs (Cond.eq (.elem (.static RX5 "FIRST_OF_SETTING" "[I") (.int 0)) (.int (0))) (by decide +kernel)
  | 1, _ => exact hs (Cond.eq (.elem (.static RX5 "FIRST_OF_SETTING" "[I") (.int 1)) (.int (0))) (by decide +kernel)
  | 2, _ => exact hs (Cond.eq (.elem (.static RX5 "FIRST_OF_SETTING" "[I") (.int 2)) (.int (2))) (by decide +kernel)
  | 3, _ => exact hs (Cond.eq (.elem (.static RX5 "FIRST_OF_SETTING" "[I") (.int 3)) (.int (-20))) (by decide +kernel)
  | 4, _ => exact hs (Cond.eq (.elem (.static RX5 "FIRST_OF_SETTING" "[I") (.int 4)) (.int (20))) (by decide +kernel)
  | 5, _ => exact hs (Cond.eq (.elem (.static RX5 "FIRST_OF_SETTING" "[I") (.int 5)) (.int (8))) (by decide +kernel)
  | 6, _ => exact hs (Cond.eq (.elem (.static RX5 "FIRST_OF_SETTING" "[I") (.int 6)) (.int (2))) (by decide +kernel)
  | 7, _ => exact hs (Cond.eq (.elem (.static RX5 "FIRST_OF_SETTING" "[I") (.int 7)) (.int (4))) (by decide +kernel)
  | 8, _ => exact hs (Cond.eq (.elem (.static RX5 "FIRST_OF_SETTING" "[I") (.int 8)) (.int (4))) (by decide +kernel)
  | 9, _ => exact hs (Cond.eq (.elem (.static RX5 "FIRST_OF_SETTING" "[I") (.int 9)) (.int (0))) (by decide +kernel)
  | j + 10, hj => exact absurd hj (by omega)
set_option maxRecDepth 20000 in
theorem st_65 {args : Array Value} {s : State} (h : (Jvm.Cond.and given_1 narrow_1).before args s = true) (hlay : (Cond.laysStatic RX5 "LEAST_OF_SETTING" "[I").before args s = true) (hini : (Cond.initialized RX5).before args s = true) {A : Nat → Prop} (hA : ∀ a : Nat, a < s.heap.size → ¬ A a) : ∃ t : Nat, va_Z RX5 "LEAST_OF_SETTING" "[I" (.ref t) A s s.heap ∧ va_T .int t 10 (fun j => .int (([0, -100, 0, -100, -100, 1, 0, 0, 1, 0] : List Int32).getD j 0)) A s s.heap ∧ t < s.heap.size := by
  have hs := flat_of_before _ h
  refine st_T hlay hini (hs _ (by decide +kernel)) (hs _ (by decide +kernel)) (fun j hj => ?_) hA
  match j, hj with
  | 0, _ => exact hs (Cond.eq (.elem (.static RX5 "LEAST_OF_SETTING" "[I") (.int 0)) (.int (0))) (by decide +kernel)
  | 1, _ => exact hs (Cond.eq (.elem (.static RX5 "LEAST_OF_SETTING" "[I") (.int 1)) (.int (-100))) (by decide +kernel)
  | 2, _ => exact hs (Cond.eq (.elem (.static RX5 "LEAST_OF_SETTING" "[I") (.int 2)) (.int (0))) (by decide +kernel)
  | 3, _ => exact hs (Cond.eq (.elem (.static RX5 "LEAST_OF_SETTING" "[I") (.int 3)) (.int (-100))) (by decide +kernel)
  | 4, _ => exact hs (Cond.eq (.elem (.static RX5 "LEAST_OF_SETTING" "[I") (.int 4)) (.int (-100))) (by decide +kernel)
  | 5, _ => exact hs (Cond.eq (.elem (.static RX5 "LEAST_OF_SETTING" "[I") (.int 5)) (.int (1))) (by decide +kernel)
  | 6, _ => exact hs (Cond.eq (.elem (.static RX5 "LEAST_OF_SETTING" "[I") (.int 6)) (.int (0))) (by decide +kernel)
  | 7, _ => exact hs (Cond.eq (.elem (.static RX5 "LEAST_OF_SETTING" "[I") (.int 7)) (.int (0))) (by decide +kernel)
  | 8, _ => exact hs (Cond.eq (.elem (.static RX5 "LEAST_OF_SETTING" "[I") (.int 8)) (.int (1))) (by decide +kernel)
  | 9, _ => exact hs (Cond.eq (.elem (.static RX5 "LEAST_OF_SETTING" "[I") (.int 9)) (.int (0))) (by decide +kernel)
  | j + 10, hj => exact absurd hj (by omega)
set_option maxRecDepth 20000 in
theorem st_66 {args : Array Value} {s : State} (h : (Jvm.Cond.and given_1 narrow_1).before args s = true) (hlay : (Cond.laysStatic RX5 "GREATEST_OF_SETTING" "[I").before args s = true) (hini : (Cond.initialized RX5).before args s = true) {A : Nat → Prop} (hA : ∀ a : Nat, a < s.heap.size → ¬ A a) : ∃ t : Nat, va_Z RX5 "GREATEST_OF_SETTING" "[I" (.ref t) A s s.heap ∧ va_T .int t 10 (fun j => .int (([2, 100, 50, 100, 100, 32, 31, 60, 6, 1] : List Int32).getD j 0)) A s s.heap ∧ t < s.heap.size := by
  have hs := flat_of_before _ h
  refine st_T hlay hini (hs _ (by decide +kernel)) (hs _ (by decide +kernel)) (fun j hj => ?_) hA
  match j, hj with
  | 0, _ => exact hs (Cond.eq (.elem (.static RX5 "GREATEST_OF_SETTING" "[I") (.int 0)) (.int (2))) (by decide +kernel)
  | 1, _ => exact hs (Cond.eq (.elem (.static RX5 "GREATEST_OF_SETTING" "[I") (.int 1)) (.int (100))) (by decide +kernel)
  | 2, _ => exact hs (Cond.eq (.elem (.static RX5 "GREATEST_OF_SETTING" "[I") (.int 2)) (.int (50))) (by decide +kernel)
  | 3, _ => exact hs (Cond.eq (.elem (.static RX5 "GREATEST_OF_SETTING" "[I") (.int 3)) (.int (100))) (by decide +kernel)
  | 4, _ => exact hs (Cond.eq (.elem (.static RX5 "GREATEST_OF_SETTING" "[I") (.int 4)) (.int (100))) (by decide +kernel)
  | 5, _ => exact hs (Cond.eq (.elem (.static RX5 "GREATEST_OF_SETTING" "[I") (.int 5)) (.int (32))) (by decide +kernel)
  | 6, _ => exact hs (Cond.eq (.elem (.static RX5 "GREATEST_OF_SETTING" "[I") (.int 6)) (.int (31))) (by decide +kernel)
  | 7, _ => exact hs (Cond.eq (.elem (.static RX5 "GREATEST_OF_SETTING" "[I") (.int 7)) (.int (60))) (by decide +kernel)
  | 8, _ => exact hs (Cond.eq (.elem (.static RX5 "GREATEST_OF_SETTING" "[I") (.int 8)) (.int (6))) (by decide +kernel)
  | 9, _ => exact hs (Cond.eq (.elem (.static RX5 "GREATEST_OF_SETTING" "[I") (.int 9)) (.int (1))) (by decide +kernel)
  | j + 10, hj => exact absurd hj (by omega)
theorem st_g {sz t1 t2 t3 a : Nat} (h : a < 57) : (fun a => if a < 57 then sz + a else if a = 64 then t1 else if a = 65 then t2 else t3) a = sz + a := if_pos h
theorem ar_K {args : Array Value} {s : State} {ty : FieldType} (h : (Cond.arrayClass ty).before args s = true) : ∃ cA : ClassId, ArrOfT s cA ty ∧ s.vm.findClass ("[" ++ ty.toString) = some cA := by
  obtain ⟨cA, kA, comp, h1, h2, h3⟩ := Cond.arrayClass_spec h
  exact ⟨cA, fun n z => ⟨fun k h => (by cases h), kA, h2, comp, h3⟩, h1⟩
theorem ar_O {args : Array Value} {s : State} {C : String} (h : (Cond.arrayOver (.object C)).before args s = true) : ∃ cA : ClassId, ArrOfT s cA (.object C) ∧ va_RA s cA (.object C) := by
  obtain ⟨comp, cA, kA, h1, h2, h3, h4, h5⟩ := Cond.arrayOver_spec h
  exact ⟨cA, fun n z => ⟨fun k h => (by cases h), kA, h3, comp, h4⟩, kA, comp, h3, h4, h1, h5⟩
theorem nest_of {args : Array Value} {s : State} (hts : ∀ w ∈ lw_tbl, w.before args s = true) : xN s := by
  intro w hw
  have h1 := hts w (List.mem_filter.mp hw).1
  have hn := (List.mem_filter.mp hw).2
  match w, hn, h1 with
  | .fieldLinkNest _ _ _ _ _ _, _, h1 => exact va_Nw.of rfl h1
  | .methodLinkNest _ _ _ _, _, h1 => exact va_Nw.of rfl h1
/-- before anything is made -/
def Iz : HI := fun a k => if 64 ≤ a then cS a k else 0
theorem Iz_st : stC Iz := fun a h1 _ => by
  funext k
  exact if_pos h1
set_option maxHeartbeats 4000000 in
theorem start_world {p : Program} {s : State} {m : MethodId} {meth : Method} {c : Code} {b L : Nat} {xs : Nat → Int32} (C0 : lw_At p s m meth c b L xs) : ∃ g : GX, gS g = s.heap.size ∧ gC g ∧ gOk (gH g) ∧ twT g s s.heap ∧ XC g p s m #[Value.ref b] c code 5 RL ∧ va_AO RX1 s ∧ XN g 0 Iz s s.heap [] 0 := by
  obtain ⟨hx, hb, hr, hml, hown, hts, hX, hbl, hlocks, hgv⟩ := id C0
  have htw : ∀ w ∈ WL, w.before #[Value.ref b] s = true := fun w h => hts w (List.mem_filter.mp h).1
  have hA : ∀ a : Nat, a < s.heap.size → ¬ (fun q : Nat => s.heap.size ≤ q) a := fun a h h2 => by
    have : s.heap.size ≤ a := h2
    omega
  obtain ⟨t1, z1, a1, l1⟩ := st_64 hgv (hts _ mw_s64) (htw _ wz_X5) hA
  obtain ⟨t2, z2, a2, l2⟩ := st_65 hgv (hts _ mw_s65) (htw _ wz_X5) hA
  obtain ⟨t3, z3, a3, l3⟩ := st_66 hgv (hts _ mw_s66) (htw _ wz_X5) hA
  obtain ⟨cI, kI1, kI2⟩ := ar_K (htw _ wa_int)
  obtain ⟨cZ, kZ1, kZ2⟩ := ar_K (htw _ wa_boolean)
  obtain ⟨cO, kO1, kO2⟩ := ar_O (hts _ mw_AO)
  obtain ⟨c0, iS0, hKn0⟩ := u_known (C := RX0) (T := TX0) (N := 3) (n := 3) htw inX0 (htw _ wo_X0)
  obtain ⟨c1, iS1, hKn1⟩ := u_known (C := RX1) (T := TX1) (N := 15) (n := 15) htw inX1 (htw _ wo_X1)
  obtain ⟨c2, iS2, hKn2⟩ := u_known (C := RX2) (T := TX2) (N := 9) (n := 9) htw inX2 (htw _ wo_X2)
  obtain ⟨c3, iS3, hKn3⟩ := u_known (C := RX3) (T := TX3) (N := 2) (n := 2) htw inX3 (htw _ wo_X3)
  obtain ⟨c4, iS4, hKn4⟩ := u_known (C := RX4) (T := TX4) (N := 2) (n := 2) htw inX4 (htw _ wo_X4)
  obtain ⟨c5, iS5, hKn5⟩ := u_known (C := RX5) (T := TX5) (N := 4) (n := 4) htw inX5 (htw _ wo_X5)
  obtain ⟨dC, dI, hKc⟩ : ∃ (dC : Nat → ClassId) (dI : Nat → Nat → Nat), ∀ (k : Nat) (q : vw_C), vwCl[k]? = some q → u_Kn s q.1 q.2.1 q.2.2 (dC k) (dI k) := by
    refine ⟨fun k => if k = 0 then c0 else if k = 1 then c1 else if k = 2 then c2 else if k = 3 then c3 else if k = 4 then c4 else c5, fun k => if k = 0 then iS0 else if k = 1 then iS1 else if k = 2 then iS2 else if k = 3 then iS3 else if k = 4 then iS4 else iS5, ?_⟩
    intro k q hq
    match k, hq with
    | 0, hq => cases hq; exact hKn0
    | 1, hq => cases hq; exact hKn1
    | 2, hq => cases hq; exact hKn2
    | 3, hq => cases hq; exact hKn3
    | 4, hq => cases hq; exact hKn4
    | 5, hq => cases hq; exact hKn5
    | k + 6, hq => simp [vwCl] at hq
  let rho : Nat → Nat := fun a => if a < 57 then s.heap.size + a else if a = 64 then t1 else if a = 65 then t2 else t3
  let g : GX := (dC, dI, cI, cZ, cO, rho, s.heap.size)
  have hC : gC g := fun a ha => st_g ha
  have hg : gOk g := ⟨fun a b ha hb e => by
    rw [hC a ha, hC b hb] at e
    omega, fun a ha => by
    rw [hC a ha]
    exact ⟨Nat.le_add_right _ _, Nat.add_lt_add_left ha _⟩⟩
  have hK : xK g s := ⟨hKc, fun k q hk => by
    match k, hk with
    | 0, hk => cases hk; exact ⟨kI1, kI2⟩
    | 1, hk => cases hk; exact ⟨kZ1, kZ2⟩
    | 2, hk => cases hk; exact ⟨kO1, kO2⟩
    | k + 3, hk => simp [gT] at hk⟩
  have hB : ∀ q : Nat, gB g q → (fun q : Nat => s.heap.size ≤ q) q := fun q h => h.1
  have hT : twT g s s.heap := ⟨⟨z1.narrow hB, z2.narrow hB, z3.narrow hB⟩, fun a h1 h2 => by
    rcases (show a = 64 ∨ a = 65 ∨ a = 66 by omega) with rfl | rfl | rfl
    · exact tw_nar a1 hB
    · exact tw_nar a2 hB
    · exact tw_nar a3 hB⟩
  have hh : gOk (gH g) := ⟨fun a b ha hb e => by
    rw [gH_c ha, gH_c hb] at e
    omega, fun a ha => by
    rw [gH_c ha]
    exact ⟨Nat.le_add_right _ _, Nat.add_lt_add_left ha _⟩⟩
  refine ⟨g, rfl, hC, hh, hT, ⟨⟨hx, hb, hml, hown, htw⟩, hK, nest_of hts, hT.o, Nat.le_refl _, hg⟩, va_AO.of (hts _ mw_AO), ⟨fun k q hk => by simp [Wn] at hk, va_S.rf, Iz_st, rfl, by omega⟩⟩
/-- an object as it is made -/
def I57 : HI := i_X5_init (upR Iz 0 (fun _ => 0))
theorem I57_full : full I57 = true := by decide +kernel
set_option maxHeartbeats 4000000 in
/-- the second object beside the first one -/
theorem second {p : Program} {l : Launch} {e : Env} {s : State} {m : MethodId} {args : Array Value} {below : List Frame} {meth : Method} {c : Code} {H : Heap} {Q : State → Prop} {ls : Array Slot} {g : GX} {J : HI} (X : XC g p s m args c code 5 RL) (hAO : va_AO RX1 s) (hC : gC g) (hh : gOk (gH g)) (hT : twT g s s.heap) (hJ : stC J) (hP : va_P (gD g) vwCl (Wd g J) H) (hS : va_S (gB g) s.heap H []) (hsz : H.size = gS g + 57) (hl : ls.size = 5)
    (kk : ∀ (H1 : Heap) (locs1 : List Loc), twD g (J, I57) s H1 locs1 → W p l e room_1 s m args below meth c H1 locs1 (57 + 1 + 56) (4487 + 4 + 4483) Q (F0 m 15 ls [.ref (gR (gH g) 0)])) : W p l e room_1 s m args below meth c H [] 57 4487 Q (F0 m 8 ls []) := by
  have hx := X.hx
  have hb := X.hb
  have hcl := cl_5
  have hKn := X.2.1.1 5 _ hcl.1
  have ha : gR (gH g) 0 = H.size := by rw [gH_c (by decide), hsz]
  refine W.newcK hx hb X.1.2.2.2.1 (X.w wl_L_10) (X.w wo_X5) (X.w wz_X5) rfl dL_law_8 (Nat.le_of_ble_eq_true rfl) (Nat.le_of_ble_eq_true rfl) hKn.2.1 rfl fun H1 kC hkC e1 z1 o1 => ?_
  rw [← ha]
  have hat : va_at (gD (gH g)) vwCl (gR (gH g) 0, cln (gH g) (upR Iz 0 (fun _ => 0)) 0) H1 := by
    rw [cln_c (ci := 5) rfl hcl.2.2.2.2.1, ha]
    exact ⟨_, hcl.1, (u_born tyX5 X.1.2.2.2.2 hcl.2.1 hKn hkC e1 hcl.2.2.1).to (fun j hj => by rcases (show j = 0 ∨ j = 1 ∨ j = 2 ∨ j = 3 by omega) with rfl | rfl | rfl | rfl <;> (simp [fln, nF, rfO, flg, vp_V, upR, defaultValue, tyX5]))⟩
  have hP1 : va_P (gD (gH g)) vwCl (Wn (gH g) 1 (upR Iz 0 (fun _ => 0))) H1 := fun k x hx => by
    obtain ⟨hk, rfl⟩ := Wn_at' hx
    obtain rfl : k = 0 := by omega
    exact hat
  have hP0 : va_P (gD g) vwCl (Wd g J) H1 := hP.kept fun k x hx => o1 x.1 ((hP k x hx).lt)
  have hS1 : va_S (gB g) s.heap H1 [] := ⟨Nat.le_trans hS.1 (by omega), fun q h1 h2 => (o1 q (Nat.lt_of_lt_of_le h1 hS.1)).trans (hS.2.1 q h1 h2), hS.2.2⟩
  have hI : stC (upR Iz 0 (fun _ => 0)) := stC_up Iz_st (by decide)
  refine lv_dup hx hb dL_law_11 rfl ?_
  have hM := c_X5_init (l := l) (g := gH g) hh (fun a h => by rw [gH_c h]; rfl) (I := upR Iz 0 (fun _ => 0))
  have k := k_L_58
  refine va_callv (rest := [_]) (va_runI (As := []) (rest := [_]) X.1 hM (cwI 0 X.1.2.2.2.2 (gi_c k.1.1) rfl rfl rfl (X.w k.1.2.1) (X.w k.1.2.2.1) (X.w k.1.2.2.2.1) k.1.2.2.2.2 k.2 ⟨by decide, by decide⟩) ⟨xPN_blind, fun U hU hW => ⟨rfl, by rw [hU]; exact hP1, X.2.1.moved hW.alike, xN_warm X.2.2.1 hW, ?_, ?_, hI, ?_, va_AO.moved hW.alike hAO⟩⟩ rfl rfl hl rfl (Nat.le_of_ble_eq_true rfl) dL_law_12 ⟨Nat.le_of_ble_eq_true rfl, Nat.le_of_ble_eq_true rfl⟩) hS1 (fun q _ h => gH_B q h) (fun q h => gH_B q h) (fun u t H2 locs2 ht hvm hp hB hz hk hS2 => ?_)
  · rw [hU]
    exact ((hT.kept fun a h1 h2 => hS1.2.1 a h1 h2).moved hW.alike).p
  · rw [hU, z1]
    show gS g + 57 ≤ H.size + 1
    omega
  · rw [hU, z1, hsz]
    exact ⟨rfl, by decide⟩
  · obtain ⟨rfl, h1, h2, h3, h4⟩ := hB
    refine kk H2 locs2 ⟨hP0.kept (fun k x hx => ?_), Wd_of (g := gH g) I57_full (by rw [← ht]; exact h1), hS2, hJ, h2, ?_⟩
    · have hlt := (hP0 k x hx).lt
      obtain ⟨hk', rfl⟩ := Wd_at' hx
      exact hk _ hlt (fun z => gA_H (X.hg.2 k hk') z)
    · rw [← ht, h3]
      show gS g + 114 ≤ gS g + 57 + 57
      omega
