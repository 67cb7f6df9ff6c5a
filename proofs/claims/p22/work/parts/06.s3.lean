theorem nn_t {α : Type} {x : α} {P : Prop} (e : (none : Option α) = some x) : P := by cases e
theorem chk_t {c : Prop} [Decidable c] {α : Type} {b : Option α} {x : α} (e : (if c then b else none) = some x) : c ∧ b = some x := by
  by_cases h : c
  · rw [if_pos h] at e; exact ⟨h, e⟩
  · rw [if_neg h] at e; cases e
theorem vin {i : Int32} {n : Nat} (h : ¬ (i < 0 ∨ n ≤ i.toNatClampNeg)) : vp_in i n := h
theorem isD_I {a : Nat} (h : isD a = true) : isI a = true := by
  unfold isI
  rw [show (kd a == 7 && decide (a < 57)) = true from h]
  rfl
theorem m_3 {a : Nat} (h : kd a = 1 ∧ a < 57) : kd (a + 3) = 3 ∧ a + 3 < 57 := (show ∀ a : Nat, a < 57 → kd a = 1 → kd (a + 3) = 3 ∧ a + 3 < 57 by decide +kernel) a h.2 h.1
theorem x_tab {p : Program} {l : Launch} {e : Env} {R : Room} {s : State} {m : MethodId} {args : Array Value} {below : List Frame} {meth : Method} {c : Code} {H : Heap} {locs : List Loc} {cells slots : Nat} {Q : State → Prop} {cc : ByteArray} {pc : Nat} {ls : Array Slot} {rest : List Value} {dflt lo hi : Int} {offs : Array Int} {len : Nat} {x k : Int32} {off : Int} {tgt : Nat} (hexec : p.tables.exec = Jvm.exec) (hb : c.code = cc) (hk : x = k) (hdg : decode cc pc = .ok (.tableswitch dflt lo hi offs, len)) (h : ¬ k.toInt < lo ∧ ¬ hi < k.toInt ∧ offs[(k.toInt - lo).toNat]? = some off) (ht : (pc : Int) + off = (tgt : Int))
    (kk : W p l e R s m args below meth c H locs cells slots Q (F0 m tgt ls rest)) : W p l e R s m args below meth c H locs cells slots Q (F0 m pc ls (.int x :: rest)) :=
  lv_tableIn hexec hb hdg (by rw [hk]; exact h.1) (by rw [hk]; exact h.2.1) (by rw [hk]; exact h.2.2) ht kk
def f_X5_at (a : Nat) (v1 : Int32) (I : HI) : Option (Int32 × HI) :=
if isI a = true then
  if v1 < (0 : Int32) then
    some ((0 : Int32), I)
  else
    if (Int32.ofNat (ln a)) ≤ v1 then
      some ((0 : Int32), I)
    else
      if v1 < 0 ∨ ln a ≤ v1.toNatClampNeg then none else
      some (I a v1.toNatClampNeg, I)
  else none
abbrev rm_X5_at : Room := { frames := 0, cells := 0, slots := 0, locals := 0 }
set_option maxHeartbeats 4000000 in
set_option maxRecDepth 100000 in
theorem c_X5_at {l : Launch} {g : GX} (hg : gOk g) {a : Nat} {v1 : Int32} {I : HI} {r : Int32 × HI} (hf : f_X5_at a v1 I = some r) : Met l yX5_at (Cond.code yX5_at cX5_at 2 (some .int) :: WL) rm_X5_at (xP g [.ref (gR g a), .int v1] I) (xQi g r.1 r.2) 0 0 (gA g) := by
  refine x_met (by decide) hg (Nat.le_of_ble_eq_true rfl) (fun p e s m args below meth c X hr hlk Y ls hl => ?_)
  have hx := X.hx
  have hb := X.hb
  have hl : lv_has ls 2 [(0, .ref (gR g a)), (1, .int v1)] := hl
  unfold f_X5_at at hf
  obtain ⟨hchk, hf⟩ := chk_t hf
  refine lv_iload_n hx hb dX5_at_0 rfl (lv_at hl 1 rfl) ?_
  refine lv_if_lt (tgt := 16) hx hb dX5_at_1 (by decide) (fun c => ?_) (fun c => ?_)
  · have hf := ite_t c hf
    refine lv_iconst (v := 0) hx hb dX5_at_16 (by decide) ?_
    exact x_iret X Y hr hlk hf dX5_at_17
  · have hf := ite_f c hf
    refine lv_iload_n hx hb dX5_at_4 rfl (lv_at hl 1 rfl) ?_
    refine lv_aload_n hx hb dX5_at_5 rfl (lv_at hl 0 rfl) ?_
    refine x_len X Y hchk rfl dX5_at_6 ?_
    refine lv_icmp_ge (tgt := 16) hx hb dX5_at_7 (by decide) (fun c => ?_) (fun c => ?_)
    · have hf := ite_t c hf
      refine lv_iconst (v := 0) hx hb dX5_at_16 (by decide) ?_
      exact x_iret X Y hr hlk hf dX5_at_17
    · have hf := ite_f c hf
      refine lv_aload_n hx hb dX5_at_10 rfl (lv_at hl 0 rfl) ?_
      refine lv_iload_n hx hb dX5_at_11 rfl (lv_at hl 1 rfl) ?_
      obtain ⟨hin, hf⟩ := oob_t hf
      refine x_iald X Y hchk hin dX5_at_12 ?_
      refine lv_goto (tgt := 17) hx hb dX5_at_13 (by decide) ?_
      exact x_iret X Y hr hlk hf dX5_at_17
def f_X5_memoryAt (a : Nat) (v1 : Int32) (I : HI) : Option (Nat × HI) :=
if kd a = 9 ∧ a < 57 then
  if v1 < (0 : Int32) then
    none
  else
    if (Int32.ofNat (ln a)) ≤ v1 then
      none
    else
      if v1 < 0 ∨ ln a ≤ v1.toNatClampNeg then none else
      some ((el a v1.toNatClampNeg), I)
  else none
abbrev rm_X5_memoryAt : Room := { frames := 0, cells := 0, slots := 0, locals := 0 }
set_option maxHeartbeats 4000000 in
set_option maxRecDepth 100000 in
theorem c_X5_memoryAt {l : Launch} {g : GX} (hg : gOk g) {a : Nat} {v1 : Int32} {I : HI} {r : Nat × HI} (hf : f_X5_memoryAt a v1 I = some r) : Met l yX5_memoryAt (Cond.code yX5_memoryAt cX5_memoryAt 2 (some (.object "CaptureSegments$Memory")) :: WL) rm_X5_memoryAt (xP g [.ref (gR g a), .int v1] I) (xQr g r.1 r.2) 0 0 (gA g) := by
  refine x_met (by decide) hg (Nat.le_of_ble_eq_true rfl) (fun p e s m args below meth c X hr hlk Y ls hl => ?_)
  have hx := X.hx
  have hb := X.hb
  have hl : lv_has ls 2 [(0, .ref (gR g a)), (1, .int v1)] := hl
  unfold f_X5_memoryAt at hf
  obtain ⟨hchk, hf⟩ := chk_t hf
  refine lv_iload_n hx hb dX5_memoryAt_0 rfl (lv_at hl 1 rfl) ?_
  refine lv_if_lt (tgt := 16) hx hb dX5_memoryAt_1 (by decide) (fun c => ?_) (fun c => ?_)
  · have hf := ite_t c hf
    exact nn_t hf
  · have hf := ite_f c hf
    refine lv_iload_n hx hb dX5_memoryAt_4 rfl (lv_at hl 1 rfl) ?_
    refine lv_aload_n hx hb dX5_memoryAt_5 rfl (lv_at hl 0 rfl) ?_
    refine x_lenO X Y hchk.1 hchk.2 rfl dX5_memoryAt_6 ?_
    refine lv_icmp_ge (tgt := 16) hx hb dX5_memoryAt_7 (by decide) (fun c => ?_) (fun c => ?_)
    · have hf := ite_t c hf
      exact nn_t hf
    · have hf := ite_f c hf
      refine lv_aload_n hx hb dX5_memoryAt_10 rfl (lv_at hl 0 rfl) ?_
      refine lv_iload_n hx hb dX5_memoryAt_11 rfl (lv_at hl 1 rfl) ?_
      obtain ⟨hin, hf⟩ := oob_t hf
      refine x_aald X Y hchk.1 hchk.2 hin dX5_memoryAt_12 ?_
      refine lv_goto (tgt := 17) hx hb dX5_memoryAt_13 (by decide) ?_
      exact x_aret X Y hr hlk hf dX5_memoryAt_17
def f_X5_copyRow (a : Nat) (b : Nat) (I : HI) : Option (Int32 × HI) :=
  if isD a = true ∧ isD b = true then some (0, upR I b (va_cpy (I a) (I b) 0 0 (if ln b < ln a then ln b else ln a))) else none
abbrev rm_X5_copyRow : Room := { frames := 1, cells := 0, slots := 0, locals := 40 }
theorem ln_lt : ∀ a : Nat, ln a < 4000 := by
  intro a
  by_cases h : a < 67
  · exact (show ∀ a : Nat, a < 67 → ln a < 4000 by decide +kernel) a h
  · have : ln a = 0 := by
      unfold ln
      rw [List.getD_eq_getElem?_getD, List.getElem?_eq_none (by show 67 ≤ a; omega)]
      rfl
    omega
set_option maxHeartbeats 4000000 in
set_option maxRecDepth 100000 in
theorem c_X5_copyRow {l : Launch} {g : GX} (hg : gOk g) {a : Nat} {b : Nat} {I : HI} {r : Int32 × HI} (hf : f_X5_copyRow a b I = some r) : Met l yX5_copyRow (Cond.code yX5_copyRow cX5_copyRow 2 none :: WL) rm_X5_copyRow (xP g [.ref (gR g a), .ref (gR g b)] I) (xQv g r.2) 0 0 (gA g) := by
  refine x_met (by decide) hg (Nat.le_of_ble_eq_true rfl) (fun p e s m args below meth c X hr hlk Y ls hl => ?_)
  have hx := X.hx
  have hb := X.hb
  have hl : lv_has ls 2 [(0, .ref (gR g a)), (1, .ref (gR g b))] := hl
  unfold f_X5_copyRow at hf
  obtain ⟨hchk, hf⟩ := chk_t hf
  refine lv_aload_n hx hb dX5_copyRow_0 rfl (lv_at hl 0 rfl) ?_
  refine lv_iconst (v := 0) hx hb dX5_copyRow_1 (by decide) ?_
  refine lv_aload_n hx hb dX5_copyRow_2 rfl (lv_at hl 1 rfl) ?_
  refine lv_iconst (v := 0) hx hb dX5_copyRow_3 (by decide) ?_
  refine lv_aload_n hx hb dX5_copyRow_4 rfl (lv_at hl 0 rfl) ?_
  refine x_len X Y (isD_I hchk.1) (v := nI (ln a)) rfl dX5_copyRow_5 ?_
  refine lv_aload_n hx hb dX5_copyRow_6 rfl (lv_at hl 1 rfl) ?_
  refine x_len X Y (isD_I hchk.2) (v := nI (ln b)) rfl dX5_copyRow_7 ?_
  refine x_min X hl.1 wm_X5_165 ⟨by decide, (by first | decide | exact Nat.le_of_ble_eq_true rfl)⟩ ⟨Nat.zero_le _, Nat.zero_le _⟩ dX5_copyRow_8 ?_
  have ha := ln_lt a
  have hb9 := ln_lt b
  have hn : (if nI (ln b) < nI (ln a) then nI (ln b) else nI (ln a)) = nI (if ln b < ln a then ln b else ln a) := by
    by_cases h : ln b < ln a
    · rw [if_pos h, if_pos (nI_lt h (by omega))]
    · rw [if_neg h, if_neg (nI_nlt (by omega) (by omega))]
  rw [hn]
  have hlt : (if ln b < ln a then ln b else ln a) < 4000 := by split <;> omega
  have hcl : (nI (if ln b < ln a then ln b else ln a)).toNatClampNeg = (if ln b < ln a then ln b else ln a) := nI_clamp (by omega)
  refine x_copy X Y hchk.1 hchk.2 (nI_pos (by omega)) (by rw [hcl]; split <;> omega) (by rw [hcl]; split <;> omega) hl.1 wm_X5_170 ⟨by decide, (by first | decide | exact Nat.le_of_ble_eq_true rfl)⟩ dX5_copyRow_11 (fun H locs Y => ?_)
  rw [hcl] at Y
  exact x_vret X Y hr hlk hf dX5_copyRow_14
def f_X3_takeOver (a : Nat) (b : Nat) (I : HI) : Option (Int32 × HI) :=
if (kd a = 3 ∧ a < 57) ∧ (kd b = 3 ∧ b < 57) then
  (f_X5_copyRow (b + 1) (a + 1) I).bind fun q3 =>
  let I4 := upI q3.2 a 1 (q3.2 b 1)
  some (0, I4)
  else none
abbrev rm_X3_takeOver : Room := { frames := 2, cells := 0, slots := 0, locals := 61 }
set_option maxHeartbeats 4000000 in
set_option maxRecDepth 100000 in
theorem c_X3_takeOver {l : Launch} {g : GX} (hg : gOk g) {a : Nat} {b : Nat} {I : HI} {r : Int32 × HI} (hf : f_X3_takeOver a b I = some r) : Met l yX3_takeOver (Cond.code yX3_takeOver cX3_takeOver 2 none :: WL) rm_X3_takeOver (xP g [.ref (gR g a), .ref (gR g b)] I) (xQv g r.2) 0 0 (gA g) := by
  refine x_met (by decide) hg (Nat.le_of_ble_eq_true rfl) (fun p e s m args below meth c X hr hlk Y ls hl => ?_)
  have hx := X.hx
  have hb := X.hb
  have hl : lv_has ls 2 [(0, .ref (gR g a)), (1, .ref (gR g b))] := hl
  unfold f_X3_takeOver at hf
  obtain ⟨hchk, hf⟩ := chk_t hf
  refine lv_aload_n hx hb dX3_takeOver_0 rfl (lv_at hl 1 rfl) ?_
  refine x_get (v := .ref (gR g (b + 1))) X Y cl_3 hchk.2.1 hchk.2.2 0 (by decide) wf_X3_9 rfl dX3_takeOver_1 ?_
  refine lv_aload_n hx hb dX3_takeOver_4 rfl (lv_at hl 0 rfl) ?_
  refine x_get (v := .ref (gR g (a + 1))) X Y cl_3 hchk.1.1 hchk.1.2 0 (by decide) wf_X3_9 rfl dX3_takeOver_5 ?_
  obtain ⟨q3, hq, hf⟩ := bnd_t hf
  refine x_cv Y (x_rSN (rest := []) X Y k_X3_39 (c_X5_copyRow X.hg hq) rfl ⟨rfl, rfl⟩ ⟨by decide, by decide⟩ hl.1 rfl (Nat.le_of_ble_eq_true rfl) dX3_takeOver_8 ⟨Nat.zero_le _, Nat.zero_le _⟩) (fun H locs Y => ?_)
  refine lv_aload_n hx hb dX3_takeOver_11 rfl (lv_at hl 0 rfl) ?_
  refine lv_aload_n hx hb dX3_takeOver_12 rfl (lv_at hl 1 rfl) ?_
  refine x_geti X Y cl_3 hchk.2.1 hchk.2.2 1 (by decide) rfl wf_X3_15 dX3_takeOver_13 ?_
  refine x_put X Y cl_3 hchk.1.1 hchk.1.2 1 (by decide) rfl wf_X3_15 rfl rfl rfl dX3_takeOver_16 (fun H locs Y => ?_)
  exact x_vret X Y hr hlk hf dX3_takeOver_19
def f_X5_writeAt (a : Nat) (v1 : Int32) (v2 : Int32) (I : HI) : Option (Int32 × HI) :=
if isD a = true then
  if v1 < (0 : Int32) then
    some (0, I)
  else
    if (Int32.ofNat (ln a)) ≤ v1 then
      some (0, I)
    else
      if v1 < 0 ∨ ln a ≤ v1.toNatClampNeg then none else
      let I2 := upI I a v1.toNatClampNeg v2
      some (0, I2)
  else none
abbrev rm_X5_writeAt : Room := { frames := 0, cells := 0, slots := 0, locals := 0 }
set_option maxHeartbeats 4000000 in
set_option maxRecDepth 100000 in
theorem c_X5_writeAt {l : Launch} {g : GX} (hg : gOk g) {a : Nat} {v1 : Int32} {v2 : Int32} {I : HI} {r : Int32 × HI} (hf : f_X5_writeAt a v1 v2 I = some r) : Met l yX5_writeAt (Cond.code yX5_writeAt cX5_writeAt 3 none :: WL) rm_X5_writeAt (xP g [.ref (gR g a), .int v1, .int v2] I) (xQv g r.2) 0 0 (gA g) := by
  refine x_met (by decide) hg (Nat.le_of_ble_eq_true rfl) (fun p e s m args below meth c X hr hlk Y ls hl => ?_)
  have hx := X.hx
  have hb := X.hb
  have hl : lv_has ls 3 [(0, .ref (gR g a)), (1, .int v1), (2, .int v2)] := hl
  unfold f_X5_writeAt at hf
  obtain ⟨hchk, hf⟩ := chk_t hf
  refine lv_iload_n hx hb dX5_writeAt_0 rfl (lv_at hl 1 rfl) ?_
  refine lv_if_lt (tgt := 14) hx hb dX5_writeAt_1 (by decide) (fun c => ?_) (fun c => ?_)
  · have hf := ite_t c hf
    exact x_vret X Y hr hlk hf dX5_writeAt_14
  · have hf := ite_f c hf
    refine lv_iload_n hx hb dX5_writeAt_4 rfl (lv_at hl 1 rfl) ?_
    refine lv_aload_n hx hb dX5_writeAt_5 rfl (lv_at hl 0 rfl) ?_
    refine x_len X Y (isD_I hchk) rfl dX5_writeAt_6 ?_
    refine lv_icmp_ge (tgt := 14) hx hb dX5_writeAt_7 (by decide) (fun c => ?_) (fun c => ?_)
    · have hf := ite_t c hf
      exact x_vret X Y hr hlk hf dX5_writeAt_14
    · have hf := ite_f c hf
      refine lv_aload_n hx hb dX5_writeAt_10 rfl (lv_at hl 0 rfl) ?_
      refine lv_iload_n hx hb dX5_writeAt_11 rfl (lv_at hl 1 rfl) ?_
      refine lv_iload_n hx hb dX5_writeAt_12 rfl (lv_at hl 2 rfl) ?_
      obtain ⟨hin, hf⟩ := oob_t hf
      refine x_iast X Y hchk hin dX5_writeAt_13 (fun H locs Y => ?_)
      exact x_vret X Y hr hlk hf dX5_writeAt_14
def f_X3_has (v1 : Int32) (I : HI) : Option (Int32 × HI) :=
  if v1 < (0 : Int32) then
    some ((0 : Int32), I)
  else
    if (I 4 1) ≤ v1 then
      some ((0 : Int32), I)
    else
      some ((1 : Int32), I)
abbrev rm_X3_has : Room := { frames := 0, cells := 0, slots := 0, locals := 0 }
set_option maxHeartbeats 4000000 in
set_option maxRecDepth 100000 in
theorem c_X3_has {l : Launch} {g : GX} (hg : gOk g) {v1 : Int32} {I : HI} {r : Int32 × HI} (hf : f_X3_has v1 I = some r) : Met l yX3_has (Cond.code yX3_has cX3_has 2 (some .boolean) :: WL) rm_X3_has (xP g [.ref (gR g 4), .int v1] I) (xQi g r.1 r.2) 0 0 (gA g) := by
  refine x_met (by decide) hg (Nat.le_of_ble_eq_true rfl) (fun p e s m args below meth c X hr hlk Y ls hl => ?_)
  have hx := X.hx
  have hb := X.hb
  have hl : lv_has ls 2 [(0, .ref (gR g 4)), (1, .int v1)] := hl
  unfold f_X3_has at hf
  refine lv_iload_n hx hb dX3_has_0 rfl (lv_at hl 1 rfl) ?_
  refine lv_if_lt (tgt := 16) hx hb dX3_has_1 (by decide) (fun c => ?_) (fun c => ?_)
  · have hf := ite_t c hf
    refine lv_iconst (v := 0) hx hb dX3_has_16 (by decide) ?_
    exact x_zret X Y hr hlk rfl hf dX3_has_17
  · have hf := ite_f c hf
    refine lv_iload_n hx hb dX3_has_4 rfl (lv_at hl 1 rfl) ?_
    refine lv_aload_n hx hb dX3_has_5 rfl (lv_at hl 0 rfl) ?_
    refine x_geti X Y cl_3 rfl (by decide) 1 (by decide) rfl wf_X3_15 dX3_has_6 ?_
    refine lv_icmp_ge (tgt := 16) hx hb dX3_has_9 (by decide) (fun c => ?_) (fun c => ?_)
    · have hf := ite_t c hf
      refine lv_iconst (v := 0) hx hb dX3_has_16 (by decide) ?_
      exact x_zret X Y hr hlk rfl hf dX3_has_17
    · have hf := ite_f c hf
      refine lv_iconst (v := 1) hx hb dX3_has_12 (by decide) ?_
      refine lv_goto (tgt := 17) hx hb dX3_has_13 (by decide) ?_
      exact x_zret X Y hr hlk rfl hf dX3_has_17
def f_X3_removeAt_L22_b (k : Int32 → HI → Option (Int32 × HI)) (v2 : Int32) (I : HI) : Option (Int32 × HI) :=
  if ((I 4 1) * (4 : Int32)) ≤ v2 then
    some (0, I)
  else
    (f_X5_at 5 (v2 + (4 : Int32)) I).bind fun q5 =>
    (f_X5_writeAt 5 v2 q5.1 q5.2).bind fun q6 =>
    k (v2 + (1 : Int32)) q6.2
def f_X3_removeAt_L22 : Nat → Int32 → HI → Option (Int32 × HI)
  | 0, _, _ => none
  | n + 1, v2, I => f_X3_removeAt_L22_b (f_X3_removeAt_L22 n) v2 I
def f_X3_removeAt (v1 : Int32) (I : HI) : Option (Int32 × HI) :=
  (f_X3_has v1 I).bind fun q7 =>
  if q7.1 = (0 : Int32) then
    some (0, q7.2)
  else
    let I8 := upI q7.2 4 1 ((q7.2 4 1) - (1 : Int32))
    let x9 := v1 * (4 : Int32)
    f_X3_removeAt_L22 4000 x9 I8
abbrev rm_X3_removeAt : Room := { frames := 1, cells := 0, slots := 0, locals := 22 }
set_option maxHeartbeats 4000000 in
set_option maxRecDepth 100000 in
theorem c_X3_removeAt {l : Launch} {g : GX} (hg : gOk g) {v1 : Int32} {I : HI} {r : Int32 × HI} (hf : f_X3_removeAt v1 I = some r) : Met l yX3_removeAt (Cond.code yX3_removeAt cX3_removeAt 3 none :: WL) rm_X3_removeAt (xP g [.ref (gR g 4), .int v1] I) (xQv g r.2) 0 0 (gA g) := by
  refine x_met (by decide) hg (Nat.le_of_ble_eq_true rfl) (fun p e s m args below meth c X hr hlk Y ls hl => ?_)
  have hx := X.hx
  have hb := X.hb
  have hl : lv_has ls 3 [(0, .ref (gR g 4)), (1, .int v1)] := hl
  have hL22 : ∀ (n : Nat) (v2 : Int32) (I : HI) (H : Heap) (locs : List Loc) (ls : Array Slot), f_X3_removeAt_L22 n v2 I = some r → XD g I s H locs → lv_has ls 3 [(0, .ref (gR g 4)), (2, .int v2)] → W p l e rm_X3_removeAt s m args below meth c H locs 0 0 (MQ below (xQv g r.2) args s 0 0 (gA g)) (F0 m 22 ls []) := by
    intro n
    induction n with
    | zero => intro v2 I H locs ls hf Y hl; exact nn_t hf
    | succ n ih =>
      intro v2 I H locs ls hf Y hl
      have hf : f_X3_removeAt_L22_b (f_X3_removeAt_L22 n) v2 I = some r := hf
      unfold f_X3_removeAt_L22_b at hf
      refine lv_iload_n hx hb dX3_removeAt_22 rfl (lv_at hl 1 rfl) ?_
      refine lv_aload_n hx hb dX3_removeAt_23 rfl (lv_at hl 0 rfl) ?_
      refine x_geti X Y cl_3 rfl (by decide) 1 (by decide) rfl wf_X3_15 dX3_removeAt_24 ?_
      refine lv_iconst (v := 4) hx hb dX3_removeAt_27 (by decide) ?_
      refine lv_imul hx hb dX3_removeAt_28 ?_
      refine lv_icmp_ge (tgt := 56) hx hb dX3_removeAt_29 (by decide) (fun c => ?_) (fun c => ?_)
      · have hf := ite_t c hf
        exact x_vret X Y hr hlk hf dX3_removeAt_56
      · have hf := ite_f c hf
        refine lv_aload_n hx hb dX3_removeAt_32 rfl (lv_at hl 0 rfl) ?_
        refine x_get (v := .ref (gR g 5)) X Y cl_3 rfl (by decide) 0 (by decide) wf_X3_9 rfl dX3_removeAt_33 ?_
        refine lv_iload_n hx hb dX3_removeAt_36 rfl (lv_at hl 1 rfl) ?_
        refine lv_aload_n hx hb dX3_removeAt_37 rfl (lv_at hl 0 rfl) ?_
        refine x_get (v := .ref (gR g 5)) X Y cl_3 rfl (by decide) 0 (by decide) wf_X3_9 rfl dX3_removeAt_38 ?_
        refine lv_iload_n hx hb dX3_removeAt_41 rfl (lv_at hl 1 rfl) ?_
        refine lv_iconst (v := 4) hx hb dX3_removeAt_42 (by decide) ?_
        refine lv_iadd hx hb dX3_removeAt_43 ?_
        obtain ⟨q5, hq, hf⟩ := bnd_t hf
        refine x_ci Y (x_rSN (rest := [_, _]) X Y k_X3_19 (c_X5_at X.hg hq) rfl ⟨rfl, rfl⟩ ⟨by decide, by decide⟩ hl.1 rfl (Nat.le_of_ble_eq_true rfl) dX3_removeAt_44 ⟨Nat.zero_le _, Nat.zero_le _⟩) (fun H locs Y => ?_)
        obtain ⟨q6, hq, hf⟩ := bnd_t hf
        refine x_cv Y (x_rSN (rest := []) X Y k_X3_27 (c_X5_writeAt X.hg hq) rfl ⟨rfl, rfl⟩ ⟨by decide, by decide⟩ hl.1 rfl (Nat.le_of_ble_eq_true rfl) dX3_removeAt_47 ⟨Nat.zero_le _, Nat.zero_le _⟩) (fun H locs Y => ?_)
        refine lv_iinc (v := _ + (1 : Int32)) (lv' := [(2, _), (0, _)]) hx hb dX3_removeAt_50 hl (k := 1) rfl rfl (by decide) rfl (fun ls hl => ?_)
        refine lv_goto (tgt := 22) hx hb dX3_removeAt_53 (by decide) ?_
        exact ih _ _ _ _ _ hf Y (lv_sub hl [1, 0] rfl)
  unfold f_X3_removeAt at hf
  refine lv_aload_n hx hb dX3_removeAt_0 rfl (lv_at hl 0 rfl) ?_
  refine lv_iload_n hx hb dX3_removeAt_1 rfl (lv_at hl 1 rfl) ?_
  obtain ⟨q7, hq, hf⟩ := bnd_t hf
  refine x_ci Y (x_rV (rest := []) X Y k_X3_31 (c_X3_has X.hg hq) cl_3.1 rfl (by decide) rfl ⟨rfl, rfl⟩ ⟨by decide, by decide⟩ hl.1 rfl (Nat.le_of_ble_eq_true rfl) dX3_removeAt_2 ⟨Nat.zero_le _, Nat.zero_le _⟩) (fun H locs Y => ?_)
  refine lv_if_eq (tgt := 56) hx hb dX3_removeAt_5 (by decide) (fun c => ?_) (fun c => ?_)
  · have hf := ite_t c hf
    exact x_vret X Y hr hlk hf dX3_removeAt_56
  · have hf := ite_f c hf
    refine lv_aload_n hx hb dX3_removeAt_8 rfl (lv_at hl 0 rfl) ?_
    refine lv_dup hx hb dX3_removeAt_9 rfl ?_
    refine x_geti X Y cl_3 rfl (by decide) 1 (by decide) rfl wf_X3_15 dX3_removeAt_10 ?_
    refine lv_iconst (v := 1) hx hb dX3_removeAt_13 (by decide) ?_
    refine lv_isub hx hb dX3_removeAt_14 ?_
    refine x_put X Y cl_3 rfl (by decide) 1 (by decide) rfl wf_X3_15 rfl rfl rfl dX3_removeAt_15 (fun H locs Y => ?_)
    refine lv_iload_n hx hb dX3_removeAt_18 rfl (lv_at hl 1 rfl) ?_
    refine lv_iconst (v := 4) hx hb dX3_removeAt_19 (by decide) ?_
    refine lv_imul hx hb dX3_removeAt_20 ?_
    refine lv_istore_n (lv' := [(2, _), (0, _), (1, _)]) hx hb dX3_removeAt_21 rfl hl (by decide) rfl (fun ls hl => ?_)
    exact hL22 _ _ _ _ _ _ hf Y (lv_sub hl [1, 0] rfl)
def f_X3_keepLatest_L2_b (v1 : Int32) (k : Int32 → HI → Option (Int32 × HI)) (v2 : Int32) (I : HI) : Option (Int32 × HI) :=
  if (6 : Int32) ≤ v2 then
    some (0, I)
  else
    if (I 4 1) ≤ v1 then
      some (0, I)
    else
      (f_X3_removeAt (0 : Int32) I).bind fun q2 =>
      k (v2 + (1 : Int32)) q2.2
def f_X3_keepLatest_L2 (v1 : Int32) : Nat → Int32 → HI → Option (Int32 × HI)
  | 0, _, _ => none
  | n + 1, v2, I => f_X3_keepLatest_L2_b v1 (f_X3_keepLatest_L2 v1 n) v2 I
def f_X3_keepLatest (v1 : Int32) (I : HI) : Option (Int32 × HI) :=
  f_X3_keepLatest_L2 v1 4000 (0 : Int32) I
abbrev rm_X3_keepLatest : Room := { frames := 2, cells := 0, slots := 0, locals := 44 }
set_option maxHeartbeats 4000000 in
set_option maxRecDepth 100000 in
theorem c_X3_keepLatest {l : Launch} {g : GX} (hg : gOk g) {v1 : Int32} {I : HI} {r : Int32 × HI} (hf : f_X3_keepLatest v1 I = some r) : Met l yX3_keepLatest (Cond.code yX3_keepLatest cX3_keepLatest 3 none :: WL) rm_X3_keepLatest (xP g [.ref (gR g 4), .int v1] I) (xQv g r.2) 0 0 (gA g) := by
  refine x_met (by decide) hg (Nat.le_of_ble_eq_true rfl) (fun p e s m args below meth c X hr hlk Y ls hl => ?_)
  have hx := X.hx
  have hb := X.hb
  have hl : lv_has ls 3 [(0, .ref (gR g 4)), (1, .int v1)] := hl
  have hL2 : ∀ (v1 : Int32) (n : Nat) (v2 : Int32) (I : HI) (H : Heap) (locs : List Loc) (ls : Array Slot), f_X3_keepLatest_L2 v1 n v2 I = some r → XD g I s H locs → lv_has ls 3 [(0, .ref (gR g 4)), (1, .int v1), (2, .int v2)] → W p l e rm_X3_keepLatest s m args below meth c H locs 0 0 (MQ below (xQv g r.2) args s 0 0 (gA g)) (F0 m 2 ls []) := by
    intro v1 n
    induction n with
    | zero => intro v2 I H locs ls hf Y hl; exact nn_t hf
    | succ n ih =>
      intro v2 I H locs ls hf Y hl
      have hf : f_X3_keepLatest_L2_b v1 (f_X3_keepLatest_L2 v1 n) v2 I = some r := hf
      unfold f_X3_keepLatest_L2_b at hf
      refine lv_iload_n hx hb dX3_keepLatest_2 rfl (lv_at hl 2 rfl) ?_
      refine lv_bipush (v := 6) hx hb dX3_keepLatest_3 (by decide) ?_
      refine lv_icmp_ge (tgt := 27) hx hb dX3_keepLatest_5 (by decide) (fun c => ?_) (fun c => ?_)
      · have hf := ite_t c hf
        exact x_vret X Y hr hlk hf dX3_keepLatest_27
      · have hf := ite_f c hf
        refine lv_aload_n hx hb dX3_keepLatest_8 rfl (lv_at hl 0 rfl) ?_
        refine x_geti X Y cl_3 rfl (by decide) 1 (by decide) rfl wf_X3_15 dX3_keepLatest_9 ?_
        refine lv_iload_n hx hb dX3_keepLatest_12 rfl (lv_at hl 1 rfl) ?_
        refine lv_icmp_le (tgt := 27) hx hb dX3_keepLatest_13 (by decide) (fun c => ?_) (fun c => ?_)
        · have hf := ite_t c hf
          exact x_vret X Y hr hlk hf dX3_keepLatest_27
        · have hf := ite_f c hf
          refine lv_aload_n hx hb dX3_keepLatest_16 rfl (lv_at hl 0 rfl) ?_
          refine lv_iconst (v := 0) hx hb dX3_keepLatest_17 (by decide) ?_
          obtain ⟨q2, hq, hf⟩ := bnd_t hf
          refine x_cv Y (x_rV (rest := []) X Y k_X3_35 (c_X3_removeAt X.hg hq) cl_3.1 rfl (by decide) rfl ⟨rfl, rfl⟩ ⟨by decide, by decide⟩ hl.1 rfl (Nat.le_of_ble_eq_true rfl) dX3_keepLatest_18 ⟨Nat.zero_le _, Nat.zero_le _⟩) (fun H locs Y => ?_)
          refine lv_iinc (v := _ + (1 : Int32)) (lv' := [(2, _), (0, _), (1, _)]) hx hb dX3_keepLatest_21 hl (k := 2) rfl rfl (by decide) rfl (fun ls hl => ?_)
          refine lv_goto (tgt := 2) hx hb dX3_keepLatest_24 (by decide) ?_
          exact ih _ _ _ _ _ hf Y (lv_sub hl [1, 2, 0] rfl)
  unfold f_X3_keepLatest at hf
  refine lv_iconst (v := 0) hx hb dX3_keepLatest_0 (by decide) ?_
  refine lv_istore_n (lv' := [(2, _), (0, _), (1, _)]) hx hb dX3_keepLatest_1 rfl hl (by decide) rfl (fun ls hl => ?_)
  exact hL2 _ _ _ _ _ _ _ hf Y (lv_sub hl [1, 2, 0] rfl)
def f_X3_append (v1 : Int32) (v2 : Int32) (v3 : Int32) (v4 : Int32) (I : HI) : Option (Int32 × HI) :=
  if (6 : Int32) ≤ (I 4 1) then
    some (0, I)
  else
    let x6 := (I 4 1) * (4 : Int32)
    (f_X5_writeAt 5 (x6 + (0 : Int32)) v1 I).bind fun q7 =>
    (f_X5_writeAt 5 (x6 + (1 : Int32)) v2 q7.2).bind fun q8 =>
    (f_X5_writeAt 5 (x6 + (2 : Int32)) v3 q8.2).bind fun q9 =>
    (f_X5_writeAt 5 (x6 + (3 : Int32)) v4 q9.2).bind fun q10 =>
    let I11 := upI q10.2 4 1 ((q10.2 4 1) + (1 : Int32))
    some (0, I11)
abbrev rm_X3_append : Room := { frames := 1, cells := 0, slots := 0, locals := 22 }
set_option maxHeartbeats 4000000 in
set_option maxRecDepth 100000 in
theorem c_X3_append {l : Launch} {g : GX} (hg : gOk g) {v1 : Int32} {v2 : Int32} {v3 : Int32} {v4 : Int32} {I : HI} {r : Int32 × HI} (hf : f_X3_append v1 v2 v3 v4 I = some r) : Met l yX3_append (Cond.code yX3_append cX3_append 6 none :: WL) rm_X3_append (xP g [.ref (gR g 4), .int v1, .int v2, .int v3, .int v4] I) (xQv g r.2) 0 0 (gA g) := by
  refine x_met (by decide) hg (Nat.le_of_ble_eq_true rfl) (fun p e s m args below meth c X hr hlk Y ls hl => ?_)
  have hx := X.hx
  have hb := X.hb
  have hl : lv_has ls 6 [(0, .ref (gR g 4)), (1, .int v1), (2, .int v2), (3, .int v3), (4, .int v4)] := hl
  unfold f_X3_append at hf
  refine lv_aload_n hx hb dX3_append_0 rfl (lv_at hl 0 rfl) ?_
  refine x_geti X Y cl_3 rfl (by decide) 1 (by decide) rfl wf_X3_15 dX3_append_1 ?_
  refine lv_bipush (v := 6) hx hb dX3_append_4 (by decide) ?_
  refine lv_icmp_ge (tgt := 76) hx hb dX3_append_6 (by decide) (fun c => ?_) (fun c => ?_)
  · have hf := ite_t c hf
    exact x_vret X Y hr hlk hf dX3_append_76
  · have hf := ite_f c hf
    refine lv_aload_n hx hb dX3_append_9 rfl (lv_at hl 0 rfl) ?_
    refine x_geti X Y cl_3 rfl (by decide) 1 (by decide) rfl wf_X3_15 dX3_append_10 ?_
    refine lv_iconst (v := 4) hx hb dX3_append_13 (by decide) ?_
    refine lv_imul hx hb dX3_append_14 ?_
    refine lv_istore (lv' := [(5, _), (0, _), (1, _), (2, _), (3, _), (4, _)]) hx hb dX3_append_15 hl (by decide) rfl (fun ls hl => ?_)
    refine lv_aload_n hx hb dX3_append_17 rfl (lv_at hl 1 rfl) ?_
    refine x_get (v := .ref (gR g 5)) X Y cl_3 rfl (by decide) 0 (by decide) wf_X3_9 rfl dX3_append_18 ?_
    refine lv_iload hx hb dX3_append_21 (lv_at hl 0 rfl) ?_
    refine lv_iconst (v := 0) hx hb dX3_append_23 (by decide) ?_
    refine lv_iadd hx hb dX3_append_24 ?_
    refine lv_iload_n hx hb dX3_append_25 rfl (lv_at hl 2 rfl) ?_
    obtain ⟨q7, hq, hf⟩ := bnd_t hf
    refine x_cv Y (x_rSN (rest := []) X Y k_X3_27 (c_X5_writeAt X.hg hq) rfl ⟨rfl, rfl⟩ ⟨by decide, by decide⟩ hl.1 rfl (Nat.le_of_ble_eq_true rfl) dX3_append_26 ⟨Nat.zero_le _, Nat.zero_le _⟩) (fun H locs Y => ?_)
    refine lv_aload_n hx hb dX3_append_29 rfl (lv_at hl 1 rfl) ?_
    refine x_get (v := .ref (gR g 5)) X Y cl_3 rfl (by decide) 0 (by decide) wf_X3_9 rfl dX3_append_30 ?_
    refine lv_iload hx hb dX3_append_33 (lv_at hl 0 rfl) ?_
    refine lv_iconst (v := 1) hx hb dX3_append_35 (by decide) ?_
    refine lv_iadd hx hb dX3_append_36 ?_
    refine lv_iload_n hx hb dX3_append_37 rfl (lv_at hl 3 rfl) ?_
    obtain ⟨q8, hq, hf⟩ := bnd_t hf
    refine x_cv Y (x_rSN (rest := []) X Y k_X3_27 (c_X5_writeAt X.hg hq) rfl ⟨rfl, rfl⟩ ⟨by decide, by decide⟩ hl.1 rfl (Nat.le_of_ble_eq_true rfl) dX3_append_38 ⟨Nat.zero_le _, Nat.zero_le _⟩) (fun H locs Y => ?_)
    refine lv_aload_n hx hb dX3_append_41 rfl (lv_at hl 1 rfl) ?_
    refine x_get (v := .ref (gR g 5)) X Y cl_3 rfl (by decide) 0 (by decide) wf_X3_9 rfl dX3_append_42 ?_
    refine lv_iload hx hb dX3_append_45 (lv_at hl 0 rfl) ?_
    refine lv_iconst (v := 2) hx hb dX3_append_47 (by decide) ?_
    refine lv_iadd hx hb dX3_append_48 ?_
    refine lv_iload_n hx hb dX3_append_49 rfl (lv_at hl 4 rfl) ?_
    obtain ⟨q9, hq, hf⟩ := bnd_t hf
    refine x_cv Y (x_rSN (rest := []) X Y k_X3_27 (c_X5_writeAt X.hg hq) rfl ⟨rfl, rfl⟩ ⟨by decide, by decide⟩ hl.1 rfl (Nat.le_of_ble_eq_true rfl) dX3_append_50 ⟨Nat.zero_le _, Nat.zero_le _⟩) (fun H locs Y => ?_)
    refine lv_aload_n hx hb dX3_append_53 rfl (lv_at hl 1 rfl) ?_
    refine x_get (v := .ref (gR g 5)) X Y cl_3 rfl (by decide) 0 (by decide) wf_X3_9 rfl dX3_append_54 ?_
    refine lv_iload hx hb dX3_append_57 (lv_at hl 0 rfl) ?_
    refine lv_iconst (v := 3) hx hb dX3_append_59 (by decide) ?_
    refine lv_iadd hx hb dX3_append_60 ?_
    refine lv_iload hx hb dX3_append_61 (lv_at hl 5 rfl) ?_
    obtain ⟨q10, hq, hf⟩ := bnd_t hf
    refine x_cv Y (x_rSN (rest := []) X Y k_X3_27 (c_X5_writeAt X.hg hq) rfl ⟨rfl, rfl⟩ ⟨by decide, by decide⟩ hl.1 rfl (Nat.le_of_ble_eq_true rfl) dX3_append_63 ⟨Nat.zero_le _, Nat.zero_le _⟩) (fun H locs Y => ?_)
    refine lv_aload_n hx hb dX3_append_66 rfl (lv_at hl 1 rfl) ?_
    refine lv_dup hx hb dX3_append_67 rfl ?_
    refine x_geti X Y cl_3 rfl (by decide) 1 (by decide) rfl wf_X3_15 dX3_append_68 ?_
    refine lv_iconst (v := 1) hx hb dX3_append_71 (by decide) ?_
    refine lv_iadd hx hb dX3_append_72 ?_
    refine x_put X Y cl_3 rfl (by decide) 1 (by decide) rfl wf_X3_15 rfl rfl rfl dX3_append_73 (fun H locs Y => ?_)
    exact x_vret X Y hr hlk hf dX3_append_76
def f_X3_numberOf (v1 : Int32) (v2 : Int32) (I : HI) : Option (Int32 × HI) :=
  (f_X5_at 5 ((v1 * (4 : Int32)) + v2) I).bind fun q2 =>
  some (q2.1, q2.2)
abbrev rm_X3_numberOf : Room := { frames := 1, cells := 0, slots := 0, locals := 21 }
set_option maxHeartbeats 4000000 in
set_option maxRecDepth 100000 in
theorem c_X3_numberOf {l : Launch} {g : GX} (hg : gOk g) {v1 : Int32} {v2 : Int32} {I : HI} {r : Int32 × HI} (hf : f_X3_numberOf v1 v2 I = some r) : Met l yX3_numberOf (Cond.code yX3_numberOf cX3_numberOf 3 (some .int) :: WL) rm_X3_numberOf (xP g [.ref (gR g 4), .int v1, .int v2] I) (xQi g r.1 r.2) 0 0 (gA g) := by
  refine x_met (by decide) hg (Nat.le_of_ble_eq_true rfl) (fun p e s m args below meth c X hr hlk Y ls hl => ?_)
  have hx := X.hx
  have hb := X.hb
  have hl : lv_has ls 3 [(0, .ref (gR g 4)), (1, .int v1), (2, .int v2)] := hl
  unfold f_X3_numberOf at hf
  refine lv_aload_n hx hb dX3_numberOf_0 rfl (lv_at hl 0 rfl) ?_
  refine x_get (v := .ref (gR g 5)) X Y cl_3 rfl (by decide) 0 (by decide) wf_X3_9 rfl dX3_numberOf_1 ?_
  refine lv_iload_n hx hb dX3_numberOf_4 rfl (lv_at hl 1 rfl) ?_
  refine lv_iconst (v := 4) hx hb dX3_numberOf_5 (by decide) ?_
  refine lv_imul hx hb dX3_numberOf_6 ?_
  refine lv_iload_n hx hb dX3_numberOf_7 rfl (lv_at hl 2 rfl) ?_
  refine lv_iadd hx hb dX3_numberOf_8 ?_
  obtain ⟨q2, hq, hf⟩ := bnd_t hf
  refine x_ci Y (x_rSN (rest := []) X Y k_X3_19 (c_X5_at X.hg hq) rfl ⟨rfl, rfl⟩ ⟨by decide, by decide⟩ hl.1 rfl (Nat.le_of_ble_eq_true rfl) dX3_numberOf_9 ⟨Nat.zero_le _, Nat.zero_le _⟩) (fun H locs Y => ?_)
  exact x_iret X Y hr hlk hf dX3_numberOf_12
def f_X3_firstOf (v1 : Int32) (I : HI) : Option (Int32 × HI) :=
  (f_X3_numberOf v1 (0 : Int32) I).bind fun q3 =>
  (f_X3_numberOf v1 (2 : Int32) q3.2).bind fun q4 =>
  some (q3.1 - q4.1, q4.2)
abbrev rm_X3_firstOf : Room := { frames := 2, cells := 0, slots := 0, locals := 43 }
set_option maxHeartbeats 4000000 in
set_option maxRecDepth 100000 in
theorem c_X3_firstOf {l : Launch} {g : GX} (hg : gOk g) {v1 : Int32} {I : HI} {r : Int32 × HI} (hf : f_X3_firstOf v1 I = some r) : Met l yX3_firstOf (Cond.code yX3_firstOf cX3_firstOf 2 (some .int) :: WL) rm_X3_firstOf (xP g [.ref (gR g 4), .int v1] I) (xQi g r.1 r.2) 0 0 (gA g) := by
  refine x_met (by decide) hg (Nat.le_of_ble_eq_true rfl) (fun p e s m args below meth c X hr hlk Y ls hl => ?_)
  have hx := X.hx
  have hb := X.hb
  have hl : lv_has ls 2 [(0, .ref (gR g 4)), (1, .int v1)] := hl
  unfold f_X3_firstOf at hf
  refine lv_aload_n hx hb dX3_firstOf_0 rfl (lv_at hl 0 rfl) ?_
  refine lv_iload_n hx hb dX3_firstOf_1 rfl (lv_at hl 1 rfl) ?_
  refine lv_iconst (v := 0) hx hb dX3_firstOf_2 (by decide) ?_
  obtain ⟨q3, hq, hf⟩ := bnd_t hf
  refine x_ci Y (x_rV (rest := []) X Y k_X3_23 (c_X3_numberOf X.hg hq) cl_3.1 rfl (by decide) rfl ⟨rfl, rfl⟩ ⟨by decide, by decide⟩ hl.1 rfl (Nat.le_of_ble_eq_true rfl) dX3_firstOf_3 ⟨Nat.zero_le _, Nat.zero_le _⟩) (fun H locs Y => ?_)
  refine lv_aload_n hx hb dX3_firstOf_6 rfl (lv_at hl 0 rfl) ?_
  refine lv_iload_n hx hb dX3_firstOf_7 rfl (lv_at hl 1 rfl) ?_
  refine lv_iconst (v := 2) hx hb dX3_firstOf_8 (by decide) ?_
  obtain ⟨q4, hq, hf⟩ := bnd_t hf
  refine x_ci Y (x_rV (rest := [_]) X Y k_X3_23 (c_X3_numberOf X.hg hq) cl_3.1 rfl (by decide) rfl ⟨rfl, rfl⟩ ⟨by decide, by decide⟩ hl.1 rfl (Nat.le_of_ble_eq_true rfl) dX3_firstOf_9 ⟨Nat.zero_le _, Nat.zero_le _⟩) (fun H locs Y => ?_)
  refine lv_isub hx hb dX3_firstOf_12 ?_
  exact x_iret X Y hr hlk hf dX3_firstOf_13
def f_X3_behindOf (v1 : Int32) (I : HI) : Option (Int32 × HI) :=
  (f_X3_numberOf v1 (1 : Int32) I).bind fun q3 =>
  (f_X3_numberOf v1 (2 : Int32) q3.2).bind fun q4 =>
  some ((q3.1 - q4.1) - (1 : Int32), q4.2)
abbrev rm_X3_behindOf : Room := { frames := 2, cells := 0, slots := 0, locals := 43 }
set_option maxHeartbeats 4000000 in
set_option maxRecDepth 100000 in
theorem c_X3_behindOf {l : Launch} {g : GX} (hg : gOk g) {v1 : Int32} {I : HI} {r : Int32 × HI} (hf : f_X3_behindOf v1 I = some r) : Met l yX3_behindOf (Cond.code yX3_behindOf cX3_behindOf 2 (some .int) :: WL) rm_X3_behindOf (xP g [.ref (gR g 4), .int v1] I) (xQi g r.1 r.2) 0 0 (gA g) := by
  refine x_met (by decide) hg (Nat.le_of_ble_eq_true rfl) (fun p e s m args below meth c X hr hlk Y ls hl => ?_)
  have hx := X.hx
  have hb := X.hb
  have hl : lv_has ls 2 [(0, .ref (gR g 4)), (1, .int v1)] := hl
  unfold f_X3_behindOf at hf
  refine lv_aload_n hx hb dX3_behindOf_0 rfl (lv_at hl 0 rfl) ?_
  refine lv_iload_n hx hb dX3_behindOf_1 rfl (lv_at hl 1 rfl) ?_
  refine lv_iconst (v := 1) hx hb dX3_behindOf_2 (by decide) ?_
  obtain ⟨q3, hq, hf⟩ := bnd_t hf
  refine x_ci Y (x_rV (rest := []) X Y k_X3_23 (c_X3_numberOf X.hg hq) cl_3.1 rfl (by decide) rfl ⟨rfl, rfl⟩ ⟨by decide, by decide⟩ hl.1 rfl (Nat.le_of_ble_eq_true rfl) dX3_behindOf_3 ⟨Nat.zero_le _, Nat.zero_le _⟩) (fun H locs Y => ?_)
  refine lv_aload_n hx hb dX3_behindOf_6 rfl (lv_at hl 0 rfl) ?_
  refine lv_iload_n hx hb dX3_behindOf_7 rfl (lv_at hl 1 rfl) ?_
  refine lv_iconst (v := 2) hx hb dX3_behindOf_8 (by decide) ?_
  obtain ⟨q4, hq, hf⟩ := bnd_t hf
  refine x_ci Y (x_rV (rest := [_]) X Y k_X3_23 (c_X3_numberOf X.hg hq) cl_3.1 rfl (by decide) rfl ⟨rfl, rfl⟩ ⟨by decide, by decide⟩ hl.1 rfl (Nat.le_of_ble_eq_true rfl) dX3_behindOf_9 ⟨Nat.zero_le _, Nat.zero_le _⟩) (fun H locs Y => ?_)
  refine lv_isub hx hb dX3_behindOf_12 ?_
  refine lv_iconst (v := 1) hx hb dX3_behindOf_13 (by decide) ?_
  refine lv_isub hx hb dX3_behindOf_14 ?_
  exact x_iret X Y hr hlk hf dX3_behindOf_15
