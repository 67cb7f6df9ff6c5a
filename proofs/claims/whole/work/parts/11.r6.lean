def f_X6_in (v0 : Int64) (v2 : Int64) (v4 : Int64) (I : HI) : Option (Int32 × HI) :=
  if (lg_cmp v0 v2) < (0 : Int32) then
    some ((0 : Int32), I)
  else
    if (0 : Int32) < (lg_cmp v0 v4) then
      some ((0 : Int32), I)
    else
      some ((1 : Int32), I)
abbrev rm_X6_in : Room := { frames := 0, cells := 0, slots := 0, locals := 0 }
set_option maxHeartbeats 4000000 in
set_option maxRecDepth 100000 in
theorem c_X6_in {l : Launch} {g : GX} (hg : gOk g) {v0 : Int64} {v2 : Int64} {v4 : Int64} {I : HI} {r : Int32 × HI} (hf : f_X6_in v0 v2 v4 I = some r) : Met l yX6_in (Cond.code yX6_in cX6_in 6 (some .boolean) :: WL) rm_X6_in (xP g [.long v0, .long v2, .long v4] I) (xQi g r.1 r.2) 0 0 (gA g) := by
  refine x_met (by decide) hg (Nat.le_of_ble_eq_true rfl) (fun p e s m args below meth c X hr hlk Y ls hl => ?_)
  have hx := X.hx
  have hb := X.hb
  have hl : lv_has ls 6 [(0, .long v0), (2, .long v2), (4, .long v4)] := hl
  unfold f_X6_in at hf
  refine lv_lload_n hx hb dX6_in_0 rfl (lv_at hl 0 rfl) ?_
  refine lv_lload_n hx hb dX6_in_1 rfl (lv_at hl 1 rfl) ?_
  refine W.lcmp hx hb dX6_in_2 ?_
  refine lv_if_lt (tgt := 17) hx hb dX6_in_3 (by decide) (fun c => ?_) (fun c => ?_)
  · have hf := ite_t c hf
    refine lv_iconst (v := 0) hx hb dX6_in_17 (by decide) ?_
    exact x_zret X Y hr hlk rfl hf dX6_in_18
  · have hf := ite_f c hf
    refine lv_lload_n hx hb dX6_in_6 rfl (lv_at hl 0 rfl) ?_
    refine lv_lload hx hb dX6_in_7 (lv_at hl 2 rfl) ?_
    refine W.lcmp hx hb dX6_in_9 ?_
    refine lv_if_gt (tgt := 17) hx hb dX6_in_10 (by decide) (fun c => ?_) (fun c => ?_)
    · have hf := ite_t c hf
      refine lv_iconst (v := 0) hx hb dX6_in_17 (by decide) ?_
      exact x_zret X Y hr hlk rfl hf dX6_in_18
    · have hf := ite_f c hf
      refine lv_iconst (v := 1) hx hb dX6_in_13 (by decide) ?_
      refine lv_goto (tgt := 18) hx hb dX6_in_14 (by decide) ?_
      exact x_zret X Y hr hlk rfl hf dX6_in_18
def f_X6_keep_L2_b (k : Int32 → HI → Option (Int32 × HI)) (v1 : Int32) (I : HI) : Option (Int32 × HI) :=
  if (447 : Int32) ≤ v1 then
    some (0, I)
  else
    if v1 < 0 ∨ 447 ≤ v1.toNatClampNeg then none else
    if v1 < 0 ∨ 447 ≤ v1.toNatClampNeg then none else
    let I2 := upI I 59 v1.toNatClampNeg (I 58 v1.toNatClampNeg)
    k (v1 + (1 : Int32)) I2
def f_X6_keep_L2 : Nat → Int32 → HI → Option (Int32 × HI)
  | 0, _, _ => none
  | n + 1, v1, I => f_X6_keep_L2_b (f_X6_keep_L2 n) v1 I
def f_X6_keep (I : HI) : Option (Int32 × HI) :=
  f_X6_keep_L2 4000 (0 : Int32) I
abbrev rm_X6_keep : Room := { frames := 0, cells := 0, slots := 0, locals := 0 }
set_option maxHeartbeats 4000000 in
set_option maxRecDepth 100000 in
theorem c_X6_keep {l : Launch} {g : GX} (hg : gOk g) {I : HI} {r : Int32 × HI} (hf : f_X6_keep I = some r) : Met l yX6_keep (Cond.code yX6_keep cX6_keep 2 none :: WL) rm_X6_keep (xP g [.ref (gR g 57)] I) (xQv g r.2) 0 0 (gA g) := by
  refine x_met (by decide) hg (Nat.le_of_ble_eq_true rfl) (fun p e s m args below meth c X hr hlk Y ls hl => ?_)
  have hx := X.hx
  have hb := X.hb
  have hl : lv_has ls 2 [(0, .ref (gR g 57))] := hl
  have hL2 : ∀ (n : Nat) (v1 : Int32) (I : HI) (H : Heap) (locs : List Loc) (ls : Array Slot), f_X6_keep_L2 n v1 I = some r → XD g I s H locs → lv_has ls 2 [(0, .ref (gR g 57)), (1, .int v1)] → W p l e rm_X6_keep s m args below meth c H locs 0 0 (MQ below (xQv g r.2) args s 0 0 (gA g)) (F0 m 2 ls []) := by
    intro n
    induction n with
    | zero => intro v1 I H locs ls hf Y hl; exact nn_t hf
    | succ n ih =>
      intro v1 I H locs ls hf Y hl
      have hf : f_X6_keep_L2_b (f_X6_keep_L2 n) v1 I = some r := hf
      unfold f_X6_keep_L2_b at hf
      refine lv_iload_n hx hb dX6_keep_2 rfl (lv_at hl 1 rfl) ?_
      refine lv_sipush (v := 447) hx hb dX6_keep_3 (by decide) ?_
      refine lv_icmp_ge (tgt := 27) hx hb dX6_keep_6 (by decide) (fun c => ?_) (fun c => ?_)
      · have hf := ite_t c hf
        exact x_vret X Y hr hlk hf dX6_keep_27
      · have hf := ite_f c hf
        refine lv_aload_n hx hb dX6_keep_9 rfl (lv_at hl 0 rfl) ?_
        refine x_get (v := .ref (gR g 59)) X Y cl_6 rfl (by decide) 1 (by decide) wf_X6_13 rfl dX6_keep_10 ?_
        refine lv_iload_n hx hb dX6_keep_13 rfl (lv_at hl 1 rfl) ?_
        refine lv_aload_n hx hb dX6_keep_14 rfl (lv_at hl 0 rfl) ?_
        refine x_get (v := .ref (gR g 58)) X Y cl_6 rfl (by decide) 0 (by decide) wf_X6_7 rfl dX6_keep_15 ?_
        refine lv_iload_n hx hb dX6_keep_18 rfl (lv_at hl 1 rfl) ?_
        obtain ⟨hin, hf⟩ := oob_t hf
        refine x_iald X Y rfl hin dX6_keep_19 ?_
        obtain ⟨hin, hf⟩ := oob_t hf
        refine x_iast X Y rfl hin dX6_keep_20 (fun H locs Y => ?_)
        refine lv_iinc (v := _ + (1 : Int32)) (lv' := [(1, _), (0, _)]) hx hb dX6_keep_21 hl (k := 1) rfl rfl (by decide) rfl (fun ls hl => ?_)
        refine lv_goto (tgt := 2) hx hb dX6_keep_24 (by decide) ?_
        exact ih _ _ _ _ _ hf Y (lv_sub hl [1, 0] rfl)
  unfold f_X6_keep at hf
  refine lv_iconst (v := 0) hx hb dX6_keep_0 (by decide) ?_
  refine lv_istore_n (lv' := [(1, _), (0, _)]) hx hb dX6_keep_1 rfl hl (by decide) rfl (fun ls hl => ?_)
  exact hL2 _ _ _ _ _ _ hf Y (lv_sub hl [1, 0] rfl)
def f_X6_changed_L52_b (v1 : Int32) (k : Int32 → HI → Option (Int32 × HI)) (v2 : Int32) (I : HI) : Option (Int32 × HI) :=
  if (447 : Int32) ≤ v2 then
    let I5 := upI I 57 3 ((I 57 3) + (1 : Int32))
    some (v1, I5)
  else
    if v2 < 0 ∨ 447 ≤ v2.toNatClampNeg then none else
    if (((447 : Int32) * (I 57 3)) + v2) < 0 ∨ 2682 ≤ (((447 : Int32) * (I 57 3)) + v2).toNatClampNeg then none else
    let I6 := upI I 60 (((447 : Int32) * (I 57 3)) + v2).toNatClampNeg (I 59 v2.toNatClampNeg)
    k (v2 + (1 : Int32)) I6
def f_X6_changed_L52 (v1 : Int32) : Nat → Int32 → HI → Option (Int32 × HI)
  | 0, _, _ => none
  | n + 1, v2, I => f_X6_changed_L52_b v1 (f_X6_changed_L52 v1 n) v2 I
def f_X6_changed_L11_b (v1 : Int32) (k : Int32 → HI → Option (Int32 × HI)) (v2 : Int32) (I : HI) : Option (Int32 × HI) :=
  if (2235 : Int32) ≤ v2 then
    let I7 := upI I 57 3 ((I 57 3) - (1 : Int32))
    f_X6_changed_L52 v1 4000 (0 : Int32) I7
  else
    if (v2 + (447 : Int32)) < 0 ∨ 2682 ≤ (v2 + (447 : Int32)).toNatClampNeg then none else
    if v2 < 0 ∨ 2682 ≤ v2.toNatClampNeg then none else
    let I8 := upI I 60 v2.toNatClampNeg (I 60 (v2 + (447 : Int32)).toNatClampNeg)
    k (v2 + (1 : Int32)) I8
def f_X6_changed_L11 (v1 : Int32) : Nat → Int32 → HI → Option (Int32 × HI)
  | 0, _, _ => none
  | n + 1, v2, I => f_X6_changed_L11_b v1 (f_X6_changed_L11 v1 n) v2 I
def f_X6_changed (v1 : Int32) (I : HI) : Option (Int32 × HI) :=
  if (I 57 3) = (6 : Int32) then
    f_X6_changed_L11 v1 4000 (0 : Int32) I
  else
    f_X6_changed_L52 v1 4000 (0 : Int32) I
abbrev rm_X6_changed : Room := { frames := 0, cells := 0, slots := 0, locals := 0 }
set_option maxHeartbeats 4000000 in
set_option maxRecDepth 100000 in
theorem c_X6_changed {l : Launch} {g : GX} (hg : gOk g) {v1 : Int32} {I : HI} {r : Int32 × HI} (hf : f_X6_changed v1 I = some r) : Met l yX6_changed (Cond.code yX6_changed cX6_changed 3 (some .int) :: WL) rm_X6_changed (xP g [.ref (gR g 57), .int v1] I) (xQi g r.1 r.2) 0 0 (gA g) := by
  refine x_met (by decide) hg (Nat.le_of_ble_eq_true rfl) (fun p e s m args below meth c X hr hlk Y ls hl => ?_)
  have hx := X.hx
  have hb := X.hb
  have hl : lv_has ls 3 [(0, .ref (gR g 57)), (1, .int v1)] := hl
  have hL52 : ∀ (v1 : Int32) (n : Nat) (v2 : Int32) (I : HI) (H : Heap) (locs : List Loc) (ls : Array Slot), f_X6_changed_L52 v1 n v2 I = some r → XD g I s H locs → lv_has ls 3 [(0, .ref (gR g 57)), (1, .int v1), (2, .int v2)] → W p l e rm_X6_changed s m args below meth c H locs 0 0 (MQ below (xQi g r.1 r.2) args s 0 0 (gA g)) (F0 m 52 ls []) := by
    intro v1 n
    induction n with
    | zero => intro v2 I H locs ls hf Y hl; exact nn_t hf
    | succ n ih =>
      intro v2 I H locs ls hf Y hl
      have hf : f_X6_changed_L52_b v1 (f_X6_changed_L52 v1 n) v2 I = some r := hf
      unfold f_X6_changed_L52_b at hf
      refine lv_iload_n hx hb dX6_changed_52 rfl (lv_at hl 2 rfl) ?_
      refine lv_sipush (v := 447) hx hb dX6_changed_53 (by decide) ?_
      refine lv_icmp_ge (tgt := 86) hx hb dX6_changed_56 (by decide) (fun c => ?_) (fun c => ?_)
      · have hf := ite_t c hf
        refine lv_aload_n hx hb dX6_changed_86 rfl (lv_at hl 0 rfl) ?_
        refine lv_dup hx hb dX6_changed_87 rfl ?_
        refine x_geti X Y cl_6 rfl (by decide) 3 (by decide) rfl wf_X6_28 dX6_changed_88 ?_
        refine lv_iconst (v := 1) hx hb dX6_changed_91 (by decide) ?_
        refine lv_iadd hx hb dX6_changed_92 ?_
        refine x_put X Y cl_6 rfl (by decide) 3 (by decide) rfl wf_X6_28 rfl rfl rfl dX6_changed_93 (fun H locs Y => ?_)
        refine lv_iload_n hx hb dX6_changed_96 rfl (lv_at hl 1 rfl) ?_
        exact x_iret X Y hr hlk hf dX6_changed_97
      · have hf := ite_f c hf
        refine lv_aload_n hx hb dX6_changed_59 rfl (lv_at hl 0 rfl) ?_
        refine x_get (v := .ref (gR g 60)) X Y cl_6 rfl (by decide) 2 (by decide) wf_X6_16 rfl dX6_changed_60 ?_
        refine lv_sipush (v := 447) hx hb dX6_changed_63 (by decide) ?_
        refine lv_aload_n hx hb dX6_changed_66 rfl (lv_at hl 0 rfl) ?_
        refine x_geti X Y cl_6 rfl (by decide) 3 (by decide) rfl wf_X6_28 dX6_changed_67 ?_
        refine lv_imul hx hb dX6_changed_70 ?_
        refine lv_iload_n hx hb dX6_changed_71 rfl (lv_at hl 2 rfl) ?_
        refine lv_iadd hx hb dX6_changed_72 ?_
        refine lv_aload_n hx hb dX6_changed_73 rfl (lv_at hl 0 rfl) ?_
        refine x_get (v := .ref (gR g 59)) X Y cl_6 rfl (by decide) 1 (by decide) wf_X6_13 rfl dX6_changed_74 ?_
        refine lv_iload_n hx hb dX6_changed_77 rfl (lv_at hl 2 rfl) ?_
        obtain ⟨hin, hf⟩ := oob_t hf
        refine x_iald X Y rfl hin dX6_changed_78 ?_
        obtain ⟨hin, hf⟩ := oob_t hf
        refine x_iast X Y rfl hin dX6_changed_79 (fun H locs Y => ?_)
        refine lv_iinc (v := _ + (1 : Int32)) (lv' := [(2, _), (0, _), (1, _)]) hx hb dX6_changed_80 hl (k := 2) rfl rfl (by decide) rfl (fun ls hl => ?_)
        refine lv_goto (tgt := 52) hx hb dX6_changed_83 (by decide) ?_
        exact ih _ _ _ _ _ hf Y (lv_sub hl [1, 2, 0] rfl)
  have hL11 : ∀ (v1 : Int32) (n : Nat) (v2 : Int32) (I : HI) (H : Heap) (locs : List Loc) (ls : Array Slot), f_X6_changed_L11 v1 n v2 I = some r → XD g I s H locs → lv_has ls 3 [(0, .ref (gR g 57)), (1, .int v1), (2, .int v2)] → W p l e rm_X6_changed s m args below meth c H locs 0 0 (MQ below (xQi g r.1 r.2) args s 0 0 (gA g)) (F0 m 11 ls []) := by
    intro v1 n
    induction n with
    | zero => intro v2 I H locs ls hf Y hl; exact nn_t hf
    | succ n ih =>
      intro v2 I H locs ls hf Y hl
      have hf : f_X6_changed_L11_b v1 (f_X6_changed_L11 v1 n) v2 I = some r := hf
      unfold f_X6_changed_L11_b at hf
      refine lv_iload_n hx hb dX6_changed_11 rfl (lv_at hl 2 rfl) ?_
      refine lv_sipush (v := 2235) hx hb dX6_changed_12 (by decide) ?_
      refine lv_icmp_ge (tgt := 40) hx hb dX6_changed_15 (by decide) (fun c => ?_) (fun c => ?_)
      · have hf := ite_t c hf
        refine lv_aload_n hx hb dX6_changed_40 rfl (lv_at hl 0 rfl) ?_
        refine lv_dup hx hb dX6_changed_41 rfl ?_
        refine x_geti X Y cl_6 rfl (by decide) 3 (by decide) rfl wf_X6_28 dX6_changed_42 ?_
        refine lv_iconst (v := 1) hx hb dX6_changed_45 (by decide) ?_
        refine lv_isub hx hb dX6_changed_46 ?_
        refine x_put X Y cl_6 rfl (by decide) 3 (by decide) rfl wf_X6_28 rfl rfl rfl dX6_changed_47 (fun H locs Y => ?_)
        refine lv_iconst (v := 0) hx hb dX6_changed_50 (by decide) ?_
        refine lv_istore_n (lv' := [(2, _), (0, _), (1, _)]) hx hb dX6_changed_51 rfl hl (by decide) rfl (fun ls hl => ?_)
        exact hL52 _ _ _ _ _ _ _ hf Y (lv_sub hl [1, 2, 0] rfl)
      · have hf := ite_f c hf
        refine lv_aload_n hx hb dX6_changed_18 rfl (lv_at hl 0 rfl) ?_
        refine x_get (v := .ref (gR g 60)) X Y cl_6 rfl (by decide) 2 (by decide) wf_X6_16 rfl dX6_changed_19 ?_
        refine lv_iload_n hx hb dX6_changed_22 rfl (lv_at hl 2 rfl) ?_
        refine lv_aload_n hx hb dX6_changed_23 rfl (lv_at hl 0 rfl) ?_
        refine x_get (v := .ref (gR g 60)) X Y cl_6 rfl (by decide) 2 (by decide) wf_X6_16 rfl dX6_changed_24 ?_
        refine lv_iload_n hx hb dX6_changed_27 rfl (lv_at hl 2 rfl) ?_
        refine lv_sipush (v := 447) hx hb dX6_changed_28 (by decide) ?_
        refine lv_iadd hx hb dX6_changed_31 ?_
        obtain ⟨hin, hf⟩ := oob_t hf
        refine x_iald X Y rfl hin dX6_changed_32 ?_
        obtain ⟨hin, hf⟩ := oob_t hf
        refine x_iast X Y rfl hin dX6_changed_33 (fun H locs Y => ?_)
        refine lv_iinc (v := _ + (1 : Int32)) (lv' := [(2, _), (0, _), (1, _)]) hx hb dX6_changed_34 hl (k := 2) rfl rfl (by decide) rfl (fun ls hl => ?_)
        refine lv_goto (tgt := 11) hx hb dX6_changed_37 (by decide) ?_
        exact ih _ _ _ _ _ hf Y (lv_sub hl [1, 2, 0] rfl)
  unfold f_X6_changed at hf
  refine lv_aload_n hx hb dX6_changed_0 rfl (lv_at hl 0 rfl) ?_
  refine x_geti X Y cl_6 rfl (by decide) 3 (by decide) rfl wf_X6_28 dX6_changed_1 ?_
  refine lv_bipush (v := 6) hx hb dX6_changed_4 (by decide) ?_
  refine lv_icmp_ne (tgt := 50) hx hb dX6_changed_6 (by decide) (fun c => ?_) (fun c => ?_)
  · have hf := ite_f c hf
    refine lv_iconst (v := 0) hx hb dX6_changed_50 (by decide) ?_
    refine lv_istore_n (lv' := [(2, _), (0, _), (1, _)]) hx hb dX6_changed_51 rfl hl (by decide) rfl (fun ls hl => ?_)
    exact hL52 _ _ _ _ _ _ _ hf Y (lv_sub hl [1, 2, 0] rfl)
  · have hf := ite_t c hf
    refine lv_iconst (v := 0) hx hb dX6_changed_9 (by decide) ?_
    refine lv_istore_n (lv' := [(2, _), (0, _), (1, _)]) hx hb dX6_changed_10 rfl hl (by decide) rfl (fun ls hl => ?_)
    exact hL11 _ _ _ _ _ _ _ hf Y (lv_sub hl [1, 2, 0] rfl)
def f_X6_isFiring_J158 (v1 : Int32) (v2 : Int32) (v4 : Int32) (w0 : Int32) (I : HI) : Option (Int32 × HI) :=
  let I9 := upI I 57 6 w0
  if v4 ≤ v1 then
    some ((0 : Int32), I9)
  else
    if v2 = (2 : Int32) then
      some ((1 : Int32), I9)
    else
      some ((0 : Int32), I9)
def f_X6_isFiring_J89 (v1 : Int32) (v2 : Int32) (v3 : Int32) (w0 : Int32) (I : HI) : Option (Int32 × HI) :=
  if w0 = (0 : Int32) then
    if v1 ≤ (v3 + (I 58 2)) then
      let I10 := upI I 57 6 v2
      if w0 = 0 ∨ w0 = 1 then some (w0, I10) else none
    else
      let I11 := upI I 57 6 (1 : Int32)
      if w0 = 0 ∨ w0 = 1 then some (w0, I11) else none
  else
    let I12 := upI I 57 6 (0 : Int32)
    if w0 = 0 ∨ w0 = 1 then some (w0, I12) else none
def f_X6_isFiring_J29 (v1 : Int32) (v2 : Int32) (v3 : Int32) (w0 : Int32) (I : HI) : Option (Int32 × HI) :=
  if w0 = (0 : Int32) then
    if (v3 - (I 58 2)) ≤ v1 then
      let I13 := upI I 57 6 v2
      if w0 = 0 ∨ w0 = 1 then some (w0, I13) else none
    else
      let I14 := upI I 57 6 (1 : Int32)
      if w0 = 0 ∨ w0 = 1 then some (w0, I14) else none
  else
    let I15 := upI I 57 6 (0 : Int32)
    if w0 = 0 ∨ w0 = 1 then some (w0, I15) else none
def f_X6_isFiring (v1 : Int32) (v2 : Int32) (v3 : Int32) (v4 : Int32) (I : HI) : Option (Int32 × HI) :=
  let I16 := upI I 57 6 v2
  if (I16 58 0) = (0 : Int32) then
    if v2 = (1 : Int32) then
      if v1 < v3 then
        f_X6_isFiring_J29 v1 v2 v3 (0 : Int32) I16
      else
        f_X6_isFiring_J29 v1 v2 v3 (1 : Int32) I16
    else
      f_X6_isFiring_J29 v1 v2 v3 (0 : Int32) I16
  else
    if (I16 58 0) = (1 : Int32) then
      if v2 = (1 : Int32) then
        if v3 < v1 then
          f_X6_isFiring_J89 v1 v2 v3 (0 : Int32) I16
        else
          f_X6_isFiring_J89 v1 v2 v3 (1 : Int32) I16
      else
        f_X6_isFiring_J89 v1 v2 v3 (0 : Int32) I16
    else
      if v4 ≤ v1 then
        if v1 < (I16 58 4) then
          if v2 = (0 : Int32) then
            f_X6_isFiring_J158 v1 v2 v4 (0 : Int32) I16
          else
            f_X6_isFiring_J158 v1 v2 v4 (2 : Int32) I16
        else
          f_X6_isFiring_J158 v1 v2 v4 (0 : Int32) I16
      else
        f_X6_isFiring_J158 v1 v2 v4 (1 : Int32) I16
abbrev rm_X6_isFiring : Room := { frames := 0, cells := 0, slots := 0, locals := 0 }
set_option maxHeartbeats 4000000 in
set_option maxRecDepth 100000 in
theorem c_X6_isFiring {l : Launch} {g : GX} (hg : gOk g) {v1 : Int32} {v2 : Int32} {v3 : Int32} {v4 : Int32} {I : HI} {r : Int32 × HI} (hf : f_X6_isFiring v1 v2 v3 v4 I = some r) : Met l yX6_isFiring (Cond.code yX6_isFiring cX6_isFiring 6 (some .boolean) :: WL) rm_X6_isFiring (xP g [.ref (gR g 57), .int v1, .int v2, .int v3, .int v4] I) (xQi g r.1 r.2) 0 0 (gA g) := by
  refine x_met (by decide) hg (Nat.le_of_ble_eq_true rfl) (fun p e s m args below meth c X hr hlk Y ls hl => ?_)
  have hx := X.hx
  have hb := X.hb
  have hl : lv_has ls 6 [(0, .ref (gR g 57)), (1, .int v1), (2, .int v2), (3, .int v3), (4, .int v4)] := hl
  have hJ158 : ∀ (v1 : Int32) (v2 : Int32) (v4 : Int32) (w0 : Int32) (I : HI) (H : Heap) (locs : List Loc) (ls : Array Slot), f_X6_isFiring_J158 v1 v2 v4 w0 I = some r → XD g I s H locs → lv_has ls 6 [(1, .int v1), (2, .int v2), (4, .int v4)] → W p l e rm_X6_isFiring s m args below meth c H locs 0 0 (MQ below (xQi g r.1 r.2) args s 0 0 (gA g)) (F0 m 158 ls [.int w0, .ref (gR g 57)]) := by
    intro v1 v2 v4 w0 I H locs ls hf Y hl
    unfold f_X6_isFiring_J158 at hf
    refine x_put X Y cl_6 rfl (by decide) 6 (by decide) rfl wf_X6_32 rfl rfl rfl dX6_isFiring_158 (fun H locs Y => ?_)
    refine lv_iload_n hx hb dX6_isFiring_161 rfl (lv_at hl 0 rfl) ?_
    refine lv_iload hx hb dX6_isFiring_162 (lv_at hl 2 rfl) ?_
    refine lv_icmp_ge (tgt := 176) hx hb dX6_isFiring_164 (by decide) (fun c => ?_) (fun c => ?_)
    · have hf := ite_t c hf
      refine lv_iconst (v := 0) hx hb dX6_isFiring_176 (by decide) ?_
      exact x_zret X Y hr hlk rfl hf dX6_isFiring_177
    · have hf := ite_f c hf
      refine lv_iload_n hx hb dX6_isFiring_167 rfl (lv_at hl 1 rfl) ?_
      refine lv_iconst (v := 2) hx hb dX6_isFiring_168 (by decide) ?_
      refine lv_icmp_ne (tgt := 176) hx hb dX6_isFiring_169 (by decide) (fun c => ?_) (fun c => ?_)
      · have hf := ite_f c hf
        refine lv_iconst (v := 0) hx hb dX6_isFiring_176 (by decide) ?_
        exact x_zret X Y hr hlk rfl hf dX6_isFiring_177
      · have hf := ite_t c hf
        refine lv_iconst (v := 1) hx hb dX6_isFiring_172 (by decide) ?_
        refine lv_goto (tgt := 177) hx hb dX6_isFiring_173 (by decide) ?_
        exact x_zret X Y hr hlk rfl hf dX6_isFiring_177
  have hJ89 : ∀ (v1 : Int32) (v2 : Int32) (v3 : Int32) (w0 : Int32) (I : HI) (H : Heap) (locs : List Loc) (ls : Array Slot), f_X6_isFiring_J89 v1 v2 v3 w0 I = some r → XD g I s H locs → lv_has ls 6 [(0, .ref (gR g 57)), (1, .int v1), (2, .int v2), (3, .int v3)] → W p l e rm_X6_isFiring s m args below meth c H locs 0 0 (MQ below (xQi g r.1 r.2) args s 0 0 (gA g)) (F0 m 89 ls [.int w0]) := by
    intro v1 v2 v3 w0 I H locs ls hf Y hl
    unfold f_X6_isFiring_J89 at hf
    refine lv_istore (lv' := [(5, _), (0, _), (1, _), (2, _), (3, _)]) hx hb dX6_isFiring_89 hl (by decide) rfl (fun ls hl => ?_)
    refine lv_aload_n hx hb dX6_isFiring_91 rfl (lv_at hl 1 rfl) ?_
    refine lv_iload hx hb dX6_isFiring_92 (lv_at hl 0 rfl) ?_
    refine lv_if_eq (tgt := 101) hx hb dX6_isFiring_94 (by decide) (fun c => ?_) (fun c => ?_)
    · have hf := ite_t c hf
      refine lv_iload_n hx hb dX6_isFiring_101 rfl (lv_at hl 2 rfl) ?_
      refine lv_iload_n hx hb dX6_isFiring_102 rfl (lv_at hl 4 rfl) ?_
      refine lv_aload_n hx hb dX6_isFiring_103 rfl (lv_at hl 1 rfl) ?_
      refine x_get (v := .ref (gR g 58)) X Y cl_6 rfl (by decide) 0 (by decide) wf_X6_7 rfl dX6_isFiring_104 ?_
      refine lv_iconst (v := 2) hx hb dX6_isFiring_107 (by decide) ?_
      refine x_ialdL (k := 2) X Y rfl (by decide) (by decide) (vin (by decide)) dX6_isFiring_108 ?_
      refine lv_iadd hx hb dX6_isFiring_109 ?_
      refine lv_icmp_le (tgt := 117) hx hb dX6_isFiring_110 (by decide) (fun c => ?_) (fun c => ?_)
      · have hf := ite_t c hf
        refine lv_iload_n hx hb dX6_isFiring_117 rfl (lv_at hl 3 rfl) ?_
        refine x_put X Y cl_6 rfl (by decide) 6 (by decide) rfl wf_X6_32 rfl rfl rfl dX6_isFiring_118 (fun H locs Y => ?_)
        refine lv_iload hx hb dX6_isFiring_121 (lv_at hl 0 rfl) ?_
        obtain ⟨hz, hf⟩ := bool_t hf
        exact x_zret X Y hr hlk hz hf dX6_isFiring_123
      · have hf := ite_f c hf
        refine lv_iconst (v := 1) hx hb dX6_isFiring_113 (by decide) ?_
        refine lv_goto (tgt := 118) hx hb dX6_isFiring_114 (by decide) ?_
        refine x_put X Y cl_6 rfl (by decide) 6 (by decide) rfl wf_X6_32 rfl rfl rfl dX6_isFiring_118 (fun H locs Y => ?_)
        refine lv_iload hx hb dX6_isFiring_121 (lv_at hl 0 rfl) ?_
        obtain ⟨hz, hf⟩ := bool_t hf
        exact x_zret X Y hr hlk hz hf dX6_isFiring_123
    · have hf := ite_f c hf
      refine lv_iconst (v := 0) hx hb dX6_isFiring_97 (by decide) ?_
      refine lv_goto (tgt := 118) hx hb dX6_isFiring_98 (by decide) ?_
      refine x_put X Y cl_6 rfl (by decide) 6 (by decide) rfl wf_X6_32 rfl rfl rfl dX6_isFiring_118 (fun H locs Y => ?_)
      refine lv_iload hx hb dX6_isFiring_121 (lv_at hl 0 rfl) ?_
      obtain ⟨hz, hf⟩ := bool_t hf
      exact x_zret X Y hr hlk hz hf dX6_isFiring_123
  have hJ29 : ∀ (v1 : Int32) (v2 : Int32) (v3 : Int32) (w0 : Int32) (I : HI) (H : Heap) (locs : List Loc) (ls : Array Slot), f_X6_isFiring_J29 v1 v2 v3 w0 I = some r → XD g I s H locs → lv_has ls 6 [(0, .ref (gR g 57)), (1, .int v1), (2, .int v2), (3, .int v3)] → W p l e rm_X6_isFiring s m args below meth c H locs 0 0 (MQ below (xQi g r.1 r.2) args s 0 0 (gA g)) (F0 m 29 ls [.int w0]) := by
    intro v1 v2 v3 w0 I H locs ls hf Y hl
    unfold f_X6_isFiring_J29 at hf
    refine lv_istore (lv' := [(5, _), (0, _), (1, _), (2, _), (3, _)]) hx hb dX6_isFiring_29 hl (by decide) rfl (fun ls hl => ?_)
    refine lv_aload_n hx hb dX6_isFiring_31 rfl (lv_at hl 1 rfl) ?_
    refine lv_iload hx hb dX6_isFiring_32 (lv_at hl 0 rfl) ?_
    refine lv_if_eq (tgt := 41) hx hb dX6_isFiring_34 (by decide) (fun c => ?_) (fun c => ?_)
    · have hf := ite_t c hf
      refine lv_iload_n hx hb dX6_isFiring_41 rfl (lv_at hl 2 rfl) ?_
      refine lv_iload_n hx hb dX6_isFiring_42 rfl (lv_at hl 4 rfl) ?_
      refine lv_aload_n hx hb dX6_isFiring_43 rfl (lv_at hl 1 rfl) ?_
      refine x_get (v := .ref (gR g 58)) X Y cl_6 rfl (by decide) 0 (by decide) wf_X6_7 rfl dX6_isFiring_44 ?_
      refine lv_iconst (v := 2) hx hb dX6_isFiring_47 (by decide) ?_
      refine x_ialdL (k := 2) X Y rfl (by decide) (by decide) (vin (by decide)) dX6_isFiring_48 ?_
      refine lv_isub hx hb dX6_isFiring_49 ?_
      refine lv_icmp_ge (tgt := 57) hx hb dX6_isFiring_50 (by decide) (fun c => ?_) (fun c => ?_)
      · have hf := ite_t c hf
        refine lv_iload_n hx hb dX6_isFiring_57 rfl (lv_at hl 3 rfl) ?_
        refine x_put X Y cl_6 rfl (by decide) 6 (by decide) rfl wf_X6_32 rfl rfl rfl dX6_isFiring_58 (fun H locs Y => ?_)
        refine lv_iload hx hb dX6_isFiring_61 (lv_at hl 0 rfl) ?_
        obtain ⟨hz, hf⟩ := bool_t hf
        exact x_zret X Y hr hlk hz hf dX6_isFiring_63
      · have hf := ite_f c hf
        refine lv_iconst (v := 1) hx hb dX6_isFiring_53 (by decide) ?_
        refine lv_goto (tgt := 58) hx hb dX6_isFiring_54 (by decide) ?_
        refine x_put X Y cl_6 rfl (by decide) 6 (by decide) rfl wf_X6_32 rfl rfl rfl dX6_isFiring_58 (fun H locs Y => ?_)
        refine lv_iload hx hb dX6_isFiring_61 (lv_at hl 0 rfl) ?_
        obtain ⟨hz, hf⟩ := bool_t hf
        exact x_zret X Y hr hlk hz hf dX6_isFiring_63
    · have hf := ite_f c hf
      refine lv_iconst (v := 0) hx hb dX6_isFiring_37 (by decide) ?_
      refine lv_goto (tgt := 58) hx hb dX6_isFiring_38 (by decide) ?_
      refine x_put X Y cl_6 rfl (by decide) 6 (by decide) rfl wf_X6_32 rfl rfl rfl dX6_isFiring_58 (fun H locs Y => ?_)
      refine lv_iload hx hb dX6_isFiring_61 (lv_at hl 0 rfl) ?_
      obtain ⟨hz, hf⟩ := bool_t hf
      exact x_zret X Y hr hlk hz hf dX6_isFiring_63
  unfold f_X6_isFiring at hf
  refine lv_aload_n hx hb dX6_isFiring_0 rfl (lv_at hl 0 rfl) ?_
  refine lv_iload_n hx hb dX6_isFiring_1 rfl (lv_at hl 2 rfl) ?_
  refine x_put X Y cl_6 rfl (by decide) 6 (by decide) rfl wf_X6_32 rfl rfl rfl dX6_isFiring_2 (fun H locs Y => ?_)
  refine lv_aload_n hx hb dX6_isFiring_5 rfl (lv_at hl 0 rfl) ?_
  refine x_get (v := .ref (gR g 58)) X Y cl_6 rfl (by decide) 0 (by decide) wf_X6_7 rfl dX6_isFiring_6 ?_
  refine lv_iconst (v := 0) hx hb dX6_isFiring_9 (by decide) ?_
  refine x_ialdL (k := 0) X Y rfl (by decide) (by decide) (vin (by decide)) dX6_isFiring_10 ?_
  refine lv_if_ne (tgt := 64) hx hb dX6_isFiring_11 (by decide) (fun c => ?_) (fun c => ?_)
  · have hf := ite_f c hf
    refine lv_aload_n hx hb dX6_isFiring_64 rfl (lv_at hl 0 rfl) ?_
    refine x_get (v := .ref (gR g 58)) X Y cl_6 rfl (by decide) 0 (by decide) wf_X6_7 rfl dX6_isFiring_65 ?_
    refine lv_iconst (v := 0) hx hb dX6_isFiring_68 (by decide) ?_
    refine x_ialdL (k := 0) X Y rfl (by decide) (by decide) (vin (by decide)) dX6_isFiring_69 ?_
    refine lv_iconst (v := 1) hx hb dX6_isFiring_70 (by decide) ?_
    refine lv_icmp_ne (tgt := 124) hx hb dX6_isFiring_71 (by decide) (fun c => ?_) (fun c => ?_)
    · have hf := ite_f c hf
      refine lv_aload_n hx hb dX6_isFiring_124 rfl (lv_at hl 0 rfl) ?_
      refine lv_iload_n hx hb dX6_isFiring_125 rfl (lv_at hl 1 rfl) ?_
      refine lv_iload hx hb dX6_isFiring_126 (lv_at hl 4 rfl) ?_
      refine lv_icmp_ge (tgt := 135) hx hb dX6_isFiring_128 (by decide) (fun c => ?_) (fun c => ?_)
      · have hf := ite_t c hf
        refine lv_iload_n hx hb dX6_isFiring_135 rfl (lv_at hl 1 rfl) ?_
        refine lv_aload_n hx hb dX6_isFiring_136 rfl (lv_at hl 0 rfl) ?_
        refine x_get (v := .ref (gR g 58)) X Y cl_6 rfl (by decide) 0 (by decide) wf_X6_7 rfl dX6_isFiring_137 ?_
        refine lv_iconst (v := 4) hx hb dX6_isFiring_140 (by decide) ?_
        refine x_ialdL (k := 4) X Y rfl (by decide) (by decide) (vin (by decide)) dX6_isFiring_141 ?_
        refine lv_icmp_lt (tgt := 149) hx hb dX6_isFiring_142 (by decide) (fun c => ?_) (fun c => ?_)
        · have hf := ite_t c hf
          refine lv_iload_n hx hb dX6_isFiring_149 rfl (lv_at hl 2 rfl) ?_
          refine lv_if_ne (tgt := 157) hx hb dX6_isFiring_150 (by decide) (fun c => ?_) (fun c => ?_)
          · have hf := ite_f c hf
            refine lv_iconst (v := 2) hx hb dX6_isFiring_157 (by decide) ?_
            exact hJ158 _ _ _ _ _ _ _ _ hf Y (lv_sub hl [1, 2, 4] rfl)
          · have hf := ite_t c hf
            refine lv_iconst (v := 0) hx hb dX6_isFiring_153 (by decide) ?_
            refine lv_goto (tgt := 158) hx hb dX6_isFiring_154 (by decide) ?_
            exact hJ158 _ _ _ _ _ _ _ _ hf Y (lv_sub hl [1, 2, 4] rfl)
        · have hf := ite_f c hf
          refine lv_iconst (v := 0) hx hb dX6_isFiring_145 (by decide) ?_
          refine lv_goto (tgt := 158) hx hb dX6_isFiring_146 (by decide) ?_
          exact hJ158 _ _ _ _ _ _ _ _ hf Y (lv_sub hl [1, 2, 4] rfl)
      · have hf := ite_f c hf
        refine lv_iconst (v := 1) hx hb dX6_isFiring_131 (by decide) ?_
        refine lv_goto (tgt := 158) hx hb dX6_isFiring_132 (by decide) ?_
        exact hJ158 _ _ _ _ _ _ _ _ hf Y (lv_sub hl [1, 2, 4] rfl)
    · have hf := ite_t c hf
      refine lv_iload_n hx hb dX6_isFiring_74 rfl (lv_at hl 2 rfl) ?_
      refine lv_iconst (v := 1) hx hb dX6_isFiring_75 (by decide) ?_
      refine lv_icmp_ne (tgt := 88) hx hb dX6_isFiring_76 (by decide) (fun c => ?_) (fun c => ?_)
      · have hf := ite_f c hf
        refine lv_iconst (v := 0) hx hb dX6_isFiring_88 (by decide) ?_
        exact hJ89 _ _ _ _ _ _ _ _ hf Y (lv_sub hl [0, 1, 2, 3] rfl)
      · have hf := ite_t c hf
        refine lv_iload_n hx hb dX6_isFiring_79 rfl (lv_at hl 1 rfl) ?_
        refine lv_iload_n hx hb dX6_isFiring_80 rfl (lv_at hl 3 rfl) ?_
        refine lv_icmp_gt (tgt := 88) hx hb dX6_isFiring_81 (by decide) (fun c => ?_) (fun c => ?_)
        · have hf := ite_t c hf
          refine lv_iconst (v := 0) hx hb dX6_isFiring_88 (by decide) ?_
          exact hJ89 _ _ _ _ _ _ _ _ hf Y (lv_sub hl [0, 1, 2, 3] rfl)
        · have hf := ite_f c hf
          refine lv_iconst (v := 1) hx hb dX6_isFiring_84 (by decide) ?_
          refine lv_goto (tgt := 89) hx hb dX6_isFiring_85 (by decide) ?_
          exact hJ89 _ _ _ _ _ _ _ _ hf Y (lv_sub hl [0, 1, 2, 3] rfl)
  · have hf := ite_t c hf
    refine lv_iload_n hx hb dX6_isFiring_14 rfl (lv_at hl 2 rfl) ?_
    refine lv_iconst (v := 1) hx hb dX6_isFiring_15 (by decide) ?_
    refine lv_icmp_ne (tgt := 28) hx hb dX6_isFiring_16 (by decide) (fun c => ?_) (fun c => ?_)
    · have hf := ite_f c hf
      refine lv_iconst (v := 0) hx hb dX6_isFiring_28 (by decide) ?_
      exact hJ29 _ _ _ _ _ _ _ _ hf Y (lv_sub hl [0, 1, 2, 3] rfl)
    · have hf := ite_t c hf
      refine lv_iload_n hx hb dX6_isFiring_19 rfl (lv_at hl 1 rfl) ?_
      refine lv_iload_n hx hb dX6_isFiring_20 rfl (lv_at hl 3 rfl) ?_
      refine lv_icmp_lt (tgt := 28) hx hb dX6_isFiring_21 (by decide) (fun c => ?_) (fun c => ?_)
      · have hf := ite_t c hf
        refine lv_iconst (v := 0) hx hb dX6_isFiring_28 (by decide) ?_
        exact hJ29 _ _ _ _ _ _ _ _ hf Y (lv_sub hl [0, 1, 2, 3] rfl)
      · have hf := ite_f c hf
        refine lv_iconst (v := 1) hx hb dX6_isFiring_24 (by decide) ?_
        refine lv_goto (tgt := 29) hx hb dX6_isFiring_25 (by decide) ?_
        exact hJ29 _ _ _ _ _ _ _ _ hf Y (lv_sub hl [0, 1, 2, 3] rfl)
def f_X6_firings_L7_b (v1 : Int32) (k : Int32 → Int32 → Int32 → HI → Option (Int32 × HI)) (v2 : Int32) (v3 : Int32) (v4 : Int32) (I : HI) : Option (Int32 × HI) :=
  if (I 58 10) ≤ v4 then
    some (v3, I)
  else
    if ((47 : Int32) + v4) < 0 ∨ 447 ≤ ((47 : Int32) + v4).toNatClampNeg then none else
    (f_X6_isFiring (I 58 ((47 : Int32) + v4).toNatClampNeg) v2 v1 v1 I).bind fun q2 =>
    if q2.1 = (0 : Int32) then
      let x3 := v3 + (0 : Int32)
      let x4 := q2.2 57 6
      k x4 x3 (v4 + (1 : Int32)) q2.2
    else
      let x5 := v3 + (1 : Int32)
      let x6 := q2.2 57 6
      k x6 x5 (v4 + (1 : Int32)) q2.2
def f_X6_firings_L7 (v1 : Int32) : Nat → Int32 → Int32 → Int32 → HI → Option (Int32 × HI)
  | 0, _, _, _, _ => none
  | n + 1, v2, v3, v4, I => f_X6_firings_L7_b v1 (f_X6_firings_L7 v1 n) v2 v3 v4 I
def f_X6_firings (v1 : Int32) (I : HI) : Option (Int32 × HI) :=
  f_X6_firings_L7 v1 4000 (0 : Int32) (0 : Int32) (0 : Int32) I
abbrev rm_X6_firings : Room := { frames := 1, cells := 0, slots := 0, locals := 25 }
set_option maxHeartbeats 4000000 in
set_option maxRecDepth 100000 in
theorem c_X6_firings {l : Launch} {g : GX} (hg : gOk g) {v1 : Int32} {I : HI} {r : Int32 × HI} (hf : f_X6_firings v1 I = some r) : Met l yX6_firings (Cond.code yX6_firings cX6_firings 5 (some .int) :: WL) rm_X6_firings (xP g [.ref (gR g 57), .int v1] I) (xQi g r.1 r.2) 0 0 (gA g) := by
  refine x_met (by decide) hg (Nat.le_of_ble_eq_true rfl) (fun p e s m args below meth c X hr hlk Y ls hl => ?_)
  have hx := X.hx
  have hb := X.hb
  have hl : lv_has ls 5 [(0, .ref (gR g 57)), (1, .int v1)] := hl
  have hL7 : ∀ (v1 : Int32) (n : Nat) (v2 : Int32) (v3 : Int32) (v4 : Int32) (I : HI) (H : Heap) (locs : List Loc) (ls : Array Slot), f_X6_firings_L7 v1 n v2 v3 v4 I = some r → XD g I s H locs → lv_has ls 5 [(0, .ref (gR g 57)), (1, .int v1), (2, .int v2), (3, .int v3), (4, .int v4)] → W p l e rm_X6_firings s m args below meth c H locs 0 0 (MQ below (xQi g r.1 r.2) args s 0 0 (gA g)) (F0 m 7 ls []) := by
    intro v1 n
    induction n with
    | zero => intro v2 v3 v4 I H locs ls hf Y hl; exact nn_t hf
    | succ n ih =>
      intro v2 v3 v4 I H locs ls hf Y hl
      have hf : f_X6_firings_L7_b v1 (f_X6_firings_L7 v1 n) v2 v3 v4 I = some r := hf
      unfold f_X6_firings_L7_b at hf
      refine lv_iload hx hb dX6_firings_7 (lv_at hl 4 rfl) ?_
      refine lv_aload_n hx hb dX6_firings_9 rfl (lv_at hl 0 rfl) ?_
      refine x_get (v := .ref (gR g 58)) X Y cl_6 rfl (by decide) 0 (by decide) wf_X6_7 rfl dX6_firings_10 ?_
      refine lv_bipush (v := 10) hx hb dX6_firings_13 (by decide) ?_
      refine x_ialdL (k := 10) X Y rfl (by decide) (by decide) (vin (by decide)) dX6_firings_15 ?_
      refine lv_icmp_ge (tgt := 58) hx hb dX6_firings_16 (by decide) (fun c => ?_) (fun c => ?_)
      · have hf := ite_t c hf
        refine lv_iload_n hx hb dX6_firings_58 rfl (lv_at hl 3 rfl) ?_
        exact x_iret X Y hr hlk hf dX6_firings_59
      · have hf := ite_f c hf
        refine lv_iload_n hx hb dX6_firings_19 rfl (lv_at hl 3 rfl) ?_
        refine lv_aload_n hx hb dX6_firings_20 rfl (lv_at hl 0 rfl) ?_
        refine lv_aload_n hx hb dX6_firings_21 rfl (lv_at hl 0 rfl) ?_
        refine x_get (v := .ref (gR g 58)) X Y cl_6 rfl (by decide) 0 (by decide) wf_X6_7 rfl dX6_firings_22 ?_
        refine lv_bipush (v := 47) hx hb dX6_firings_25 (by decide) ?_
        refine lv_iload hx hb dX6_firings_27 (lv_at hl 4 rfl) ?_
        refine lv_iadd hx hb dX6_firings_29 ?_
        obtain ⟨hin, hf⟩ := oob_t hf
        refine x_iald X Y rfl hin dX6_firings_30 ?_
        refine lv_iload_n hx hb dX6_firings_31 rfl (lv_at hl 2 rfl) ?_
        refine lv_iload_n hx hb dX6_firings_32 rfl (lv_at hl 1 rfl) ?_
        refine lv_iload_n hx hb dX6_firings_33 rfl (lv_at hl 1 rfl) ?_
        obtain ⟨q2, hq, hf⟩ := bnd_t hf
        refine x_ci Y (x_rV (rest := [_]) X Y k_X6_35 (c_X6_isFiring X.hg hq) cl_6.1 rfl (by decide) rfl ⟨rfl, rfl⟩ ⟨by decide, by decide⟩ hl.1 rfl (Nat.le_of_ble_eq_true rfl) dX6_firings_34 ⟨Nat.zero_le _, Nat.zero_le _⟩) (fun H locs Y => ?_)
        refine lv_if_eq (tgt := 44) hx hb dX6_firings_37 (by decide) (fun c => ?_) (fun c => ?_)
        · have hf := ite_t c hf
          refine lv_iconst (v := 0) hx hb dX6_firings_44 (by decide) ?_
          refine lv_iadd hx hb dX6_firings_45 ?_
          refine lv_istore_n (lv' := [(3, _), (0, _), (1, _), (2, _), (4, _)]) hx hb dX6_firings_46 rfl hl (by decide) rfl (fun ls hl => ?_)
          refine lv_aload_n hx hb dX6_firings_47 rfl (lv_at hl 1 rfl) ?_
          refine x_geti X Y cl_6 rfl (by decide) 6 (by decide) rfl wf_X6_32 dX6_firings_48 ?_
          refine lv_istore_n (lv' := [(2, _), (3, _), (0, _), (1, _), (4, _)]) hx hb dX6_firings_51 rfl hl (by decide) rfl (fun ls hl => ?_)
          refine lv_iinc (v := _ + (1 : Int32)) (lv' := [(4, _), (2, _), (3, _), (0, _), (1, _)]) hx hb dX6_firings_52 hl (k := 4) rfl rfl (by decide) rfl (fun ls hl => ?_)
          refine lv_goto (tgt := 7) hx hb dX6_firings_55 (by decide) ?_
          exact ih _ _ _ _ _ _ _ hf Y (lv_sub hl [3, 4, 1, 2, 0] rfl)
        · have hf := ite_f c hf
          refine lv_iconst (v := 1) hx hb dX6_firings_40 (by decide) ?_
          refine lv_goto (tgt := 45) hx hb dX6_firings_41 (by decide) ?_
          refine lv_iadd hx hb dX6_firings_45 ?_
          refine lv_istore_n (lv' := [(3, _), (0, _), (1, _), (2, _), (4, _)]) hx hb dX6_firings_46 rfl hl (by decide) rfl (fun ls hl => ?_)
          refine lv_aload_n hx hb dX6_firings_47 rfl (lv_at hl 1 rfl) ?_
          refine x_geti X Y cl_6 rfl (by decide) 6 (by decide) rfl wf_X6_32 dX6_firings_48 ?_
          refine lv_istore_n (lv' := [(2, _), (3, _), (0, _), (1, _), (4, _)]) hx hb dX6_firings_51 rfl hl (by decide) rfl (fun ls hl => ?_)
          refine lv_iinc (v := _ + (1 : Int32)) (lv' := [(4, _), (2, _), (3, _), (0, _), (1, _)]) hx hb dX6_firings_52 hl (k := 4) rfl rfl (by decide) rfl (fun ls hl => ?_)
          refine lv_goto (tgt := 7) hx hb dX6_firings_55 (by decide) ?_
          exact ih _ _ _ _ _ _ _ hf Y (lv_sub hl [3, 4, 1, 2, 0] rfl)
  unfold f_X6_firings at hf
  refine lv_iconst (v := 0) hx hb dX6_firings_0 (by decide) ?_
  refine lv_istore_n (lv' := [(2, _), (0, _), (1, _)]) hx hb dX6_firings_1 rfl hl (by decide) rfl (fun ls hl => ?_)
  refine lv_iconst (v := 0) hx hb dX6_firings_2 (by decide) ?_
  refine lv_istore_n (lv' := [(3, _), (2, _), (0, _), (1, _)]) hx hb dX6_firings_3 rfl hl (by decide) rfl (fun ls hl => ?_)
  refine lv_iconst (v := 0) hx hb dX6_firings_4 (by decide) ?_
  refine lv_istore (lv' := [(4, _), (3, _), (2, _), (0, _), (1, _)]) hx hb dX6_firings_5 hl (by decide) rfl (fun ls hl => ?_)
  exact hL7 _ _ _ _ _ _ _ _ _ hf Y (lv_sub hl [3, 4, 2, 1, 0] rfl)
def f_X6_hasRoom (I : HI) : Option (Int32 × HI) :=
  if (I 58 22) < (I 58 8) then
    some ((1 : Int32), I)
  else
    if (I 58 9) = (1 : Int32) then
      some ((1 : Int32), I)
    else
      some ((0 : Int32), I)
abbrev rm_X6_hasRoom : Room := { frames := 0, cells := 0, slots := 0, locals := 0 }
set_option maxHeartbeats 4000000 in
set_option maxRecDepth 100000 in
theorem c_X6_hasRoom {l : Launch} {g : GX} (hg : gOk g) {I : HI} {r : Int32 × HI} (hf : f_X6_hasRoom I = some r) : Met l yX6_hasRoom (Cond.code yX6_hasRoom cX6_hasRoom 1 (some .boolean) :: WL) rm_X6_hasRoom (xP g [.ref (gR g 57)] I) (xQi g r.1 r.2) 0 0 (gA g) := by
  refine x_met (by decide) hg (Nat.le_of_ble_eq_true rfl) (fun p e s m args below meth c X hr hlk Y ls hl => ?_)
  have hx := X.hx
  have hb := X.hb
  have hl : lv_has ls 1 [(0, .ref (gR g 57))] := hl
  unfold f_X6_hasRoom at hf
  refine lv_aload_n hx hb dX6_hasRoom_0 rfl (lv_at hl 0 rfl) ?_
  refine x_get (v := .ref (gR g 58)) X Y cl_6 rfl (by decide) 0 (by decide) wf_X6_7 rfl dX6_hasRoom_1 ?_
  refine lv_bipush (v := 22) hx hb dX6_hasRoom_4 (by decide) ?_
  refine x_ialdL (k := 22) X Y rfl (by decide) (by decide) (vin (by decide)) dX6_hasRoom_6 ?_
  refine lv_aload_n hx hb dX6_hasRoom_7 rfl (lv_at hl 0 rfl) ?_
  refine x_get (v := .ref (gR g 58)) X Y cl_6 rfl (by decide) 0 (by decide) wf_X6_7 rfl dX6_hasRoom_8 ?_
  refine lv_bipush (v := 8) hx hb dX6_hasRoom_11 (by decide) ?_
  refine x_ialdL (k := 8) X Y rfl (by decide) (by decide) (vin (by decide)) dX6_hasRoom_13 ?_
  refine lv_icmp_lt (tgt := 28) hx hb dX6_hasRoom_14 (by decide) (fun c => ?_) (fun c => ?_)
  · have hf := ite_t c hf
    refine lv_iconst (v := 1) hx hb dX6_hasRoom_28 (by decide) ?_
    refine lv_goto (tgt := 33) hx hb dX6_hasRoom_29 (by decide) ?_
    exact x_zret X Y hr hlk rfl hf dX6_hasRoom_33
  · have hf := ite_f c hf
    refine lv_aload_n hx hb dX6_hasRoom_17 rfl (lv_at hl 0 rfl) ?_
    refine x_get (v := .ref (gR g 58)) X Y cl_6 rfl (by decide) 0 (by decide) wf_X6_7 rfl dX6_hasRoom_18 ?_
    refine lv_bipush (v := 9) hx hb dX6_hasRoom_21 (by decide) ?_
    refine x_ialdL (k := 9) X Y rfl (by decide) (by decide) (vin (by decide)) dX6_hasRoom_23 ?_
    refine lv_iconst (v := 1) hx hb dX6_hasRoom_24 (by decide) ?_
    refine lv_icmp_ne (tgt := 32) hx hb dX6_hasRoom_25 (by decide) (fun c => ?_) (fun c => ?_)
    · have hf := ite_f c hf
      refine lv_iconst (v := 0) hx hb dX6_hasRoom_32 (by decide) ?_
      exact x_zret X Y hr hlk rfl hf dX6_hasRoom_33
    · have hf := ite_t c hf
      refine lv_iconst (v := 1) hx hb dX6_hasRoom_28 (by decide) ?_
      refine lv_goto (tgt := 33) hx hb dX6_hasRoom_29 (by decide) ?_
      exact x_zret X Y hr hlk rfl hf dX6_hasRoom_33
def f_X6_isLongEnough (I : HI) : Option (Int32 × HI) :=
  if (I 58 16) < (I 58 6) then
    some ((0 : Int32), I)
  else
    if (I 58 16) < (I 58 7) then
      some ((0 : Int32), I)
    else
      some ((1 : Int32), I)
abbrev rm_X6_isLongEnough : Room := { frames := 0, cells := 0, slots := 0, locals := 0 }
set_option maxHeartbeats 4000000 in
set_option maxRecDepth 100000 in
theorem c_X6_isLongEnough {l : Launch} {g : GX} (hg : gOk g) {I : HI} {r : Int32 × HI} (hf : f_X6_isLongEnough I = some r) : Met l yX6_isLongEnough (Cond.code yX6_isLongEnough cX6_isLongEnough 1 (some .boolean) :: WL) rm_X6_isLongEnough (xP g [.ref (gR g 57)] I) (xQi g r.1 r.2) 0 0 (gA g) := by
  refine x_met (by decide) hg (Nat.le_of_ble_eq_true rfl) (fun p e s m args below meth c X hr hlk Y ls hl => ?_)
  have hx := X.hx
  have hb := X.hb
  have hl : lv_has ls 1 [(0, .ref (gR g 57))] := hl
  unfold f_X6_isLongEnough at hf
  refine lv_aload_n hx hb dX6_isLongEnough_0 rfl (lv_at hl 0 rfl) ?_
  refine x_get (v := .ref (gR g 58)) X Y cl_6 rfl (by decide) 0 (by decide) wf_X6_7 rfl dX6_isLongEnough_1 ?_
  refine lv_bipush (v := 16) hx hb dX6_isLongEnough_4 (by decide) ?_
  refine x_ialdL (k := 16) X Y rfl (by decide) (by decide) (vin (by decide)) dX6_isLongEnough_6 ?_
  refine lv_aload_n hx hb dX6_isLongEnough_7 rfl (lv_at hl 0 rfl) ?_
  refine x_get (v := .ref (gR g 58)) X Y cl_6 rfl (by decide) 0 (by decide) wf_X6_7 rfl dX6_isLongEnough_8 ?_
  refine lv_bipush (v := 6) hx hb dX6_isLongEnough_11 (by decide) ?_
  refine x_ialdL (k := 6) X Y rfl (by decide) (by decide) (vin (by decide)) dX6_isLongEnough_13 ?_
  refine lv_icmp_lt (tgt := 38) hx hb dX6_isLongEnough_14 (by decide) (fun c => ?_) (fun c => ?_)
  · have hf := ite_t c hf
    refine lv_iconst (v := 0) hx hb dX6_isLongEnough_38 (by decide) ?_
    exact x_zret X Y hr hlk rfl hf dX6_isLongEnough_39
  · have hf := ite_f c hf
    refine lv_aload_n hx hb dX6_isLongEnough_17 rfl (lv_at hl 0 rfl) ?_
    refine x_get (v := .ref (gR g 58)) X Y cl_6 rfl (by decide) 0 (by decide) wf_X6_7 rfl dX6_isLongEnough_18 ?_
    refine lv_bipush (v := 16) hx hb dX6_isLongEnough_21 (by decide) ?_
    refine x_ialdL (k := 16) X Y rfl (by decide) (by decide) (vin (by decide)) dX6_isLongEnough_23 ?_
    refine lv_aload_n hx hb dX6_isLongEnough_24 rfl (lv_at hl 0 rfl) ?_
    refine x_get (v := .ref (gR g 58)) X Y cl_6 rfl (by decide) 0 (by decide) wf_X6_7 rfl dX6_isLongEnough_25 ?_
    refine lv_bipush (v := 7) hx hb dX6_isLongEnough_28 (by decide) ?_
    refine x_ialdL (k := 7) X Y rfl (by decide) (by decide) (vin (by decide)) dX6_isLongEnough_30 ?_
    refine lv_icmp_lt (tgt := 38) hx hb dX6_isLongEnough_31 (by decide) (fun c => ?_) (fun c => ?_)
    · have hf := ite_t c hf
      refine lv_iconst (v := 0) hx hb dX6_isLongEnough_38 (by decide) ?_
      exact x_zret X Y hr hlk rfl hf dX6_isLongEnough_39
    · have hf := ite_f c hf
      refine lv_iconst (v := 1) hx hb dX6_isLongEnough_34 (by decide) ?_
      refine lv_goto (tgt := 39) hx hb dX6_isLongEnough_35 (by decide) ?_
      exact x_zret X Y hr hlk rfl hf dX6_isLongEnough_39
def f_X6_takesOut_L15_b (k : Int32 → HI → Option (Int32 × HI)) (v2 : Int32) (I : HI) : Option (Int32 × HI) :=
  if ((4 : Int32) * (I 58 22)) ≤ v2 then
    some (0, I)
  else
    if (((23 : Int32) + v2) + (4 : Int32)) < 0 ∨ 447 ≤ (((23 : Int32) + v2) + (4 : Int32)).toNatClampNeg then none else
    if ((23 : Int32) + v2) < 0 ∨ 447 ≤ ((23 : Int32) + v2).toNatClampNeg then none else
    let I3 := upI I 58 ((23 : Int32) + v2).toNatClampNeg (I 58 (((23 : Int32) + v2) + (4 : Int32)).toNatClampNeg)
    k (v2 + (1 : Int32)) I3
def f_X6_takesOut_L15 : Nat → Int32 → HI → Option (Int32 × HI)
  | 0, _, _ => none
  | n + 1, v2, I => f_X6_takesOut_L15_b (f_X6_takesOut_L15 n) v2 I
def f_X6_takesOut (v1 : Int32) (I : HI) : Option (Int32 × HI) :=
  let I4 := upI I 58 22 ((I 58 22) - (1 : Int32))
  let x5 := (4 : Int32) * v1
  f_X6_takesOut_L15 4000 x5 I4
abbrev rm_X6_takesOut : Room := { frames := 0, cells := 0, slots := 0, locals := 0 }
set_option maxHeartbeats 4000000 in
set_option maxRecDepth 100000 in
theorem c_X6_takesOut {l : Launch} {g : GX} (hg : gOk g) {v1 : Int32} {I : HI} {r : Int32 × HI} (hf : f_X6_takesOut v1 I = some r) : Met l yX6_takesOut (Cond.code yX6_takesOut cX6_takesOut 3 none :: WL) rm_X6_takesOut (xP g [.ref (gR g 57), .int v1] I) (xQv g r.2) 0 0 (gA g) := by
  refine x_met (by decide) hg (Nat.le_of_ble_eq_true rfl) (fun p e s m args below meth c X hr hlk Y ls hl => ?_)
  have hx := X.hx
  have hb := X.hb
  have hl : lv_has ls 3 [(0, .ref (gR g 57)), (1, .int v1)] := hl
  have hL15 : ∀ (n : Nat) (v2 : Int32) (I : HI) (H : Heap) (locs : List Loc) (ls : Array Slot), f_X6_takesOut_L15 n v2 I = some r → XD g I s H locs → lv_has ls 3 [(0, .ref (gR g 57)), (2, .int v2)] → W p l e rm_X6_takesOut s m args below meth c H locs 0 0 (MQ below (xQv g r.2) args s 0 0 (gA g)) (F0 m 15 ls []) := by
    intro n
    induction n with
    | zero => intro v2 I H locs ls hf Y hl; exact nn_t hf
    | succ n ih =>
      intro v2 I H locs ls hf Y hl
      have hf : f_X6_takesOut_L15_b (f_X6_takesOut_L15 n) v2 I = some r := hf
      unfold f_X6_takesOut_L15_b at hf
      refine lv_iload_n hx hb dX6_takesOut_15 rfl (lv_at hl 1 rfl) ?_
      refine lv_iconst (v := 4) hx hb dX6_takesOut_16 (by decide) ?_
      refine lv_aload_n hx hb dX6_takesOut_17 rfl (lv_at hl 0 rfl) ?_
      refine x_get (v := .ref (gR g 58)) X Y cl_6 rfl (by decide) 0 (by decide) wf_X6_7 rfl dX6_takesOut_18 ?_
      refine lv_bipush (v := 22) hx hb dX6_takesOut_21 (by decide) ?_
      refine x_ialdL (k := 22) X Y rfl (by decide) (by decide) (vin (by decide)) dX6_takesOut_23 ?_
      refine lv_imul hx hb dX6_takesOut_24 ?_
      refine lv_icmp_ge (tgt := 54) hx hb dX6_takesOut_25 (by decide) (fun c => ?_) (fun c => ?_)
      · have hf := ite_t c hf
        exact x_vret X Y hr hlk hf dX6_takesOut_54
      · have hf := ite_f c hf
        refine lv_aload_n hx hb dX6_takesOut_28 rfl (lv_at hl 0 rfl) ?_
        refine x_get (v := .ref (gR g 58)) X Y cl_6 rfl (by decide) 0 (by decide) wf_X6_7 rfl dX6_takesOut_29 ?_
        refine lv_bipush (v := 23) hx hb dX6_takesOut_32 (by decide) ?_
        refine lv_iload_n hx hb dX6_takesOut_34 rfl (lv_at hl 1 rfl) ?_
        refine lv_iadd hx hb dX6_takesOut_35 ?_
        refine lv_aload_n hx hb dX6_takesOut_36 rfl (lv_at hl 0 rfl) ?_
        refine x_get (v := .ref (gR g 58)) X Y cl_6 rfl (by decide) 0 (by decide) wf_X6_7 rfl dX6_takesOut_37 ?_
        refine lv_bipush (v := 23) hx hb dX6_takesOut_40 (by decide) ?_
        refine lv_iload_n hx hb dX6_takesOut_42 rfl (lv_at hl 1 rfl) ?_
        refine lv_iadd hx hb dX6_takesOut_43 ?_
        refine lv_iconst (v := 4) hx hb dX6_takesOut_44 (by decide) ?_
        refine lv_iadd hx hb dX6_takesOut_45 ?_
        obtain ⟨hin, hf⟩ := oob_t hf
        refine x_iald X Y rfl hin dX6_takesOut_46 ?_
        obtain ⟨hin, hf⟩ := oob_t hf
        refine x_iast X Y rfl hin dX6_takesOut_47 (fun H locs Y => ?_)
        refine lv_iinc (v := _ + (1 : Int32)) (lv' := [(2, _), (0, _)]) hx hb dX6_takesOut_48 hl (k := 1) rfl rfl (by decide) rfl (fun ls hl => ?_)
        refine lv_goto (tgt := 15) hx hb dX6_takesOut_51 (by decide) ?_
        exact ih _ _ _ _ _ hf Y (lv_sub hl [1, 0] rfl)
  unfold f_X6_takesOut at hf
  refine lv_aload_n hx hb dX6_takesOut_0 rfl (lv_at hl 0 rfl) ?_
  refine x_get (v := .ref (gR g 58)) X Y cl_6 rfl (by decide) 0 (by decide) wf_X6_7 rfl dX6_takesOut_1 ?_
  refine lv_bipush (v := 22) hx hb dX6_takesOut_4 (by decide) ?_
  refine lv_dup2_11 hx hb dX6_takesOut_6 rfl rfl ?_
  refine x_ialdL (k := 22) X Y rfl (by decide) (by decide) (vin (by decide)) dX6_takesOut_7 ?_
  refine lv_iconst (v := 1) hx hb dX6_takesOut_8 (by decide) ?_
  refine lv_isub hx hb dX6_takesOut_9 ?_
  refine x_iastL (k := 22) X Y rfl (by decide) (vin (by decide)) dX6_takesOut_10 (fun H locs Y => ?_)
  refine lv_iconst (v := 4) hx hb dX6_takesOut_11 (by decide) ?_
  refine lv_iload_n hx hb dX6_takesOut_12 rfl (lv_at hl 1 rfl) ?_
  refine lv_imul hx hb dX6_takesOut_13 ?_
  refine lv_istore_n (lv' := [(2, _), (0, _), (1, _)]) hx hb dX6_takesOut_14 rfl hl (by decide) rfl (fun ls hl => ?_)
  exact hL15 _ _ _ _ _ _ hf Y (lv_sub hl [1, 0] rfl)
def f_X6_dropsOldest_L0_b (v1 : Int32) (k : HI → Option (Int32 × HI)) (I : HI) : Option (Int32 × HI) :=
  if (I 58 22) ≤ v1 then
    some (0, I)
  else
    (f_X6_takesOut (0 : Int32) I).bind fun q2 =>
    k q2.2
def f_X6_dropsOldest_L0 (v1 : Int32) : Nat → HI → Option (Int32 × HI)
  | 0, _ => none
  | n + 1, I => f_X6_dropsOldest_L0_b v1 (f_X6_dropsOldest_L0 v1 n) I
def f_X6_dropsOldest (v1 : Int32) (I : HI) : Option (Int32 × HI) :=
  f_X6_dropsOldest_L0 v1 4000 I
abbrev rm_X6_dropsOldest : Room := { frames := 1, cells := 0, slots := 0, locals := 22 }
set_option maxHeartbeats 4000000 in
set_option maxRecDepth 100000 in
theorem c_X6_dropsOldest {l : Launch} {g : GX} (hg : gOk g) {v1 : Int32} {I : HI} {r : Int32 × HI} (hf : f_X6_dropsOldest v1 I = some r) : Met l yX6_dropsOldest (Cond.code yX6_dropsOldest cX6_dropsOldest 2 none :: WL) rm_X6_dropsOldest (xP g [.ref (gR g 57), .int v1] I) (xQv g r.2) 0 0 (gA g) := by
  refine x_met (by decide) hg (Nat.le_of_ble_eq_true rfl) (fun p e s m args below meth c X hr hlk Y ls hl => ?_)
  have hx := X.hx
  have hb := X.hb
  have hl : lv_has ls 2 [(0, .ref (gR g 57)), (1, .int v1)] := hl
  have hL0 : ∀ (v1 : Int32) (n : Nat) (I : HI) (H : Heap) (locs : List Loc) (ls : Array Slot), f_X6_dropsOldest_L0 v1 n I = some r → XD g I s H locs → lv_has ls 2 [(0, .ref (gR g 57)), (1, .int v1)] → W p l e rm_X6_dropsOldest s m args below meth c H locs 0 0 (MQ below (xQv g r.2) args s 0 0 (gA g)) (F0 m 0 ls []) := by
    intro v1 n
    induction n with
    | zero => intro I H locs ls hf Y hl; exact nn_t hf
    | succ n ih =>
      intro I H locs ls hf Y hl
      have hf : f_X6_dropsOldest_L0_b v1 (f_X6_dropsOldest_L0 v1 n) I = some r := hf
      unfold f_X6_dropsOldest_L0_b at hf
      refine lv_aload_n hx hb dX6_dropsOldest_0 rfl (lv_at hl 0 rfl) ?_
      refine x_get (v := .ref (gR g 58)) X Y cl_6 rfl (by decide) 0 (by decide) wf_X6_7 rfl dX6_dropsOldest_1 ?_
      refine lv_bipush (v := 22) hx hb dX6_dropsOldest_4 (by decide) ?_
      refine x_ialdL (k := 22) X Y rfl (by decide) (by decide) (vin (by decide)) dX6_dropsOldest_6 ?_
      refine lv_iload_n hx hb dX6_dropsOldest_7 rfl (lv_at hl 1 rfl) ?_
      refine lv_icmp_le (tgt := 19) hx hb dX6_dropsOldest_8 (by decide) (fun c => ?_) (fun c => ?_)
      · have hf := ite_t c hf
        exact x_vret X Y hr hlk hf dX6_dropsOldest_19
      · have hf := ite_f c hf
        refine lv_aload_n hx hb dX6_dropsOldest_11 rfl (lv_at hl 0 rfl) ?_
        refine lv_iconst (v := 0) hx hb dX6_dropsOldest_12 (by decide) ?_
        obtain ⟨q2, hq, hf⟩ := bnd_t hf
        refine x_cv Y (x_rV (rest := []) X Y k_X6_39 (c_X6_takesOut X.hg hq) cl_6.1 rfl (by decide) rfl ⟨rfl, rfl⟩ ⟨by decide, by decide⟩ hl.1 rfl (Nat.le_of_ble_eq_true rfl) dX6_dropsOldest_13 ⟨Nat.zero_le _, Nat.zero_le _⟩) (fun H locs Y => ?_)
        refine lv_goto (tgt := 0) hx hb dX6_dropsOldest_16 (by decide) ?_
        exact ih  _ _ _ _ hf Y (lv_sub hl [0, 1] rfl)
  unfold f_X6_dropsOldest at hf
  exact hL0 _ _ _ _ _ _ hf Y (lv_sub hl [0, 1] rfl)
def f_X6_captures (I : HI) : Option (Int32 × HI) :=
  let I7 := upI I 58 17 (1 : Int32)
  let I8 := upI I7 58 18 (I7 58 10)
  let I9 := upI I8 58 19 (I8 58 5)
  let I10 := upI I9 58 20 (I9 58 6)
  let I11 := upI I10 58 21 (I10 58 0)
  let I12 := upI I11 58 13 ((I11 58 13) + (1 : Int32))
  some (0, I12)
abbrev rm_X6_captures : Room := { frames := 0, cells := 0, slots := 0, locals := 0 }
set_option maxHeartbeats 4000000 in
set_option maxRecDepth 100000 in
theorem c_X6_captures {l : Launch} {g : GX} (hg : gOk g) {I : HI} {r : Int32 × HI} (hf : f_X6_captures I = some r) : Met l yX6_captures (Cond.code yX6_captures cX6_captures 1 none :: WL) rm_X6_captures (xP g [.ref (gR g 57)] I) (xQv g r.2) 0 0 (gA g) := by
  refine x_met (by decide) hg (Nat.le_of_ble_eq_true rfl) (fun p e s m args below meth c X hr hlk Y ls hl => ?_)
  have hx := X.hx
  have hb := X.hb
  have hl : lv_has ls 1 [(0, .ref (gR g 57))] := hl
  unfold f_X6_captures at hf
  refine lv_aload_n hx hb dX6_captures_0 rfl (lv_at hl 0 rfl) ?_
  refine x_get (v := .ref (gR g 58)) X Y cl_6 rfl (by decide) 0 (by decide) wf_X6_7 rfl dX6_captures_1 ?_
  refine lv_bipush (v := 17) hx hb dX6_captures_4 (by decide) ?_
  refine lv_iconst (v := 1) hx hb dX6_captures_6 (by decide) ?_
  refine x_iastL (k := 17) X Y rfl (by decide) (vin (by decide)) dX6_captures_7 (fun H locs Y => ?_)
  refine lv_aload_n hx hb dX6_captures_8 rfl (lv_at hl 0 rfl) ?_
  refine x_get (v := .ref (gR g 58)) X Y cl_6 rfl (by decide) 0 (by decide) wf_X6_7 rfl dX6_captures_9 ?_
  refine lv_bipush (v := 18) hx hb dX6_captures_12 (by decide) ?_
  refine lv_aload_n hx hb dX6_captures_14 rfl (lv_at hl 0 rfl) ?_
  refine x_get (v := .ref (gR g 58)) X Y cl_6 rfl (by decide) 0 (by decide) wf_X6_7 rfl dX6_captures_15 ?_
  refine lv_bipush (v := 10) hx hb dX6_captures_18 (by decide) ?_
  refine x_ialdL (k := 10) X Y rfl (by decide) (by decide) (vin (by decide)) dX6_captures_20 ?_
  refine x_iastL (k := 18) X Y rfl (by decide) (vin (by decide)) dX6_captures_21 (fun H locs Y => ?_)
  refine lv_aload_n hx hb dX6_captures_22 rfl (lv_at hl 0 rfl) ?_
  refine x_get (v := .ref (gR g 58)) X Y cl_6 rfl (by decide) 0 (by decide) wf_X6_7 rfl dX6_captures_23 ?_
  refine lv_bipush (v := 19) hx hb dX6_captures_26 (by decide) ?_
  refine lv_aload_n hx hb dX6_captures_28 rfl (lv_at hl 0 rfl) ?_
  refine x_get (v := .ref (gR g 58)) X Y cl_6 rfl (by decide) 0 (by decide) wf_X6_7 rfl dX6_captures_29 ?_
  refine lv_iconst (v := 5) hx hb dX6_captures_32 (by decide) ?_
  refine x_ialdL (k := 5) X Y rfl (by decide) (by decide) (vin (by decide)) dX6_captures_33 ?_
  refine x_iastL (k := 19) X Y rfl (by decide) (vin (by decide)) dX6_captures_34 (fun H locs Y => ?_)
  refine lv_aload_n hx hb dX6_captures_35 rfl (lv_at hl 0 rfl) ?_
  refine x_get (v := .ref (gR g 58)) X Y cl_6 rfl (by decide) 0 (by decide) wf_X6_7 rfl dX6_captures_36 ?_
  refine lv_bipush (v := 20) hx hb dX6_captures_39 (by decide) ?_
  refine lv_aload_n hx hb dX6_captures_41 rfl (lv_at hl 0 rfl) ?_
  refine x_get (v := .ref (gR g 58)) X Y cl_6 rfl (by decide) 0 (by decide) wf_X6_7 rfl dX6_captures_42 ?_
  refine lv_bipush (v := 6) hx hb dX6_captures_45 (by decide) ?_
  refine x_ialdL (k := 6) X Y rfl (by decide) (by decide) (vin (by decide)) dX6_captures_47 ?_
  refine x_iastL (k := 20) X Y rfl (by decide) (vin (by decide)) dX6_captures_48 (fun H locs Y => ?_)
  refine lv_aload_n hx hb dX6_captures_49 rfl (lv_at hl 0 rfl) ?_
  refine x_get (v := .ref (gR g 58)) X Y cl_6 rfl (by decide) 0 (by decide) wf_X6_7 rfl dX6_captures_50 ?_
  refine lv_bipush (v := 21) hx hb dX6_captures_53 (by decide) ?_
  refine lv_aload_n hx hb dX6_captures_55 rfl (lv_at hl 0 rfl) ?_
  refine x_get (v := .ref (gR g 58)) X Y cl_6 rfl (by decide) 0 (by decide) wf_X6_7 rfl dX6_captures_56 ?_
  refine lv_iconst (v := 0) hx hb dX6_captures_59 (by decide) ?_
  refine x_ialdL (k := 0) X Y rfl (by decide) (by decide) (vin (by decide)) dX6_captures_60 ?_
  refine x_iastL (k := 21) X Y rfl (by decide) (vin (by decide)) dX6_captures_61 (fun H locs Y => ?_)
  refine lv_aload_n hx hb dX6_captures_62 rfl (lv_at hl 0 rfl) ?_
  refine x_get (v := .ref (gR g 58)) X Y cl_6 rfl (by decide) 0 (by decide) wf_X6_7 rfl dX6_captures_63 ?_
  refine lv_bipush (v := 13) hx hb dX6_captures_66 (by decide) ?_
  refine lv_dup2_11 hx hb dX6_captures_68 rfl rfl ?_
  refine x_ialdL (k := 13) X Y rfl (by decide) (by decide) (vin (by decide)) dX6_captures_69 ?_
  refine lv_iconst (v := 1) hx hb dX6_captures_70 (by decide) ?_
  refine lv_iadd hx hb dX6_captures_71 ?_
  refine x_iastL (k := 13) X Y rfl (by decide) (vin (by decide)) dX6_captures_72 (fun H locs Y => ?_)
  exact x_vret X Y hr hlk hf dX6_captures_73
def f_X6_lacking (I : HI) : Option (Int32 × HI) :=
  if (I 58 17) = (0 : Int32) then
    some ((0 : Int32), I)
  else
    some ((((I 58 18) - (I 58 20)) + (I 58 19)) - (I 58 10), I)
abbrev rm_X6_lacking : Room := { frames := 0, cells := 0, slots := 0, locals := 0 }
set_option maxHeartbeats 4000000 in
set_option maxRecDepth 100000 in
theorem c_X6_lacking {l : Launch} {g : GX} (hg : gOk g) {I : HI} {r : Int32 × HI} (hf : f_X6_lacking I = some r) : Met l yX6_lacking (Cond.code yX6_lacking cX6_lacking 1 (some .int) :: WL) rm_X6_lacking (xP g [.ref (gR g 57)] I) (xQi g r.1 r.2) 0 0 (gA g) := by
  refine x_met (by decide) hg (Nat.le_of_ble_eq_true rfl) (fun p e s m args below meth c X hr hlk Y ls hl => ?_)
  have hx := X.hx
  have hb := X.hb
  have hl : lv_has ls 1 [(0, .ref (gR g 57))] := hl
  unfold f_X6_lacking at hf
  refine lv_aload_n hx hb dX6_lacking_0 rfl (lv_at hl 0 rfl) ?_
  refine x_get (v := .ref (gR g 58)) X Y cl_6 rfl (by decide) 0 (by decide) wf_X6_7 rfl dX6_lacking_1 ?_
  refine lv_bipush (v := 17) hx hb dX6_lacking_4 (by decide) ?_
  refine x_ialdL (k := 17) X Y rfl (by decide) (by decide) (vin (by decide)) dX6_lacking_6 ?_
  refine lv_if_ne (tgt := 14) hx hb dX6_lacking_7 (by decide) (fun c => ?_) (fun c => ?_)
  · have hf := ite_f c hf
    refine lv_aload_n hx hb dX6_lacking_14 rfl (lv_at hl 0 rfl) ?_
    refine x_get (v := .ref (gR g 58)) X Y cl_6 rfl (by decide) 0 (by decide) wf_X6_7 rfl dX6_lacking_15 ?_
    refine lv_bipush (v := 18) hx hb dX6_lacking_18 (by decide) ?_
    refine x_ialdL (k := 18) X Y rfl (by decide) (by decide) (vin (by decide)) dX6_lacking_20 ?_
    refine lv_aload_n hx hb dX6_lacking_21 rfl (lv_at hl 0 rfl) ?_
    refine x_get (v := .ref (gR g 58)) X Y cl_6 rfl (by decide) 0 (by decide) wf_X6_7 rfl dX6_lacking_22 ?_
    refine lv_bipush (v := 20) hx hb dX6_lacking_25 (by decide) ?_
    refine x_ialdL (k := 20) X Y rfl (by decide) (by decide) (vin (by decide)) dX6_lacking_27 ?_
    refine lv_isub hx hb dX6_lacking_28 ?_
    refine lv_aload_n hx hb dX6_lacking_29 rfl (lv_at hl 0 rfl) ?_
    refine x_get (v := .ref (gR g 58)) X Y cl_6 rfl (by decide) 0 (by decide) wf_X6_7 rfl dX6_lacking_30 ?_
    refine lv_bipush (v := 19) hx hb dX6_lacking_33 (by decide) ?_
    refine x_ialdL (k := 19) X Y rfl (by decide) (by decide) (vin (by decide)) dX6_lacking_35 ?_
    refine lv_iadd hx hb dX6_lacking_36 ?_
    refine lv_aload_n hx hb dX6_lacking_37 rfl (lv_at hl 0 rfl) ?_
    refine x_get (v := .ref (gR g 58)) X Y cl_6 rfl (by decide) 0 (by decide) wf_X6_7 rfl dX6_lacking_38 ?_
    refine lv_bipush (v := 10) hx hb dX6_lacking_41 (by decide) ?_
    refine x_ialdL (k := 10) X Y rfl (by decide) (by decide) (vin (by decide)) dX6_lacking_43 ?_
    refine lv_isub hx hb dX6_lacking_44 ?_
    exact x_iret X Y hr hlk hf dX6_lacking_45
  · have hf := ite_t c hf
    refine lv_iconst (v := 0) hx hb dX6_lacking_10 (by decide) ?_
    refine lv_goto (tgt := 45) hx hb dX6_lacking_11 (by decide) ?_
    exact x_iret X Y hr hlk hf dX6_lacking_45
def f_X6_completes_L15_b (k : Int32 → HI → Option (Int32 × HI)) (v1 : Int32) (I : HI) : Option (Int32 × HI) :=
  if (4 : Int32) ≤ v1 then
    let I7 := upI I 58 22 ((I 58 22) + (1 : Int32))
    let I8 := upI I7 58 17 (0 : Int32)
    let I9 := upI I8 58 16 (0 : Int32)
    let I10 := upI I9 58 15 ((I9 58 15) + (1 : Int32))
    some (0, I10)
  else
    if ((18 : Int32) + v1) < 0 ∨ 447 ≤ ((18 : Int32) + v1).toNatClampNeg then none else
    if (((23 : Int32) + ((4 : Int32) * (I 58 22))) + v1) < 0 ∨ 447 ≤ (((23 : Int32) + ((4 : Int32) * (I 58 22))) + v1).toNatClampNeg then none else
    let I11 := upI I 58 (((23 : Int32) + ((4 : Int32) * (I 58 22))) + v1).toNatClampNeg (I 58 ((18 : Int32) + v1).toNatClampNeg)
    k (v1 + (1 : Int32)) I11
def f_X6_completes_L15 : Nat → Int32 → HI → Option (Int32 × HI)
  | 0, _, _ => none
  | n + 1, v1, I => f_X6_completes_L15_b (f_X6_completes_L15 n) v1 I
def f_X6_completes (I : HI) : Option (Int32 × HI) :=
  (f_X6_dropsOldest ((I 58 8) - (1 : Int32)) I).bind fun q12 =>
  f_X6_completes_L15 4000 (0 : Int32) q12.2
abbrev rm_X6_completes : Room := { frames := 2, cells := 0, slots := 0, locals := 43 }
set_option maxHeartbeats 4000000 in
set_option maxRecDepth 100000 in
theorem c_X6_completes {l : Launch} {g : GX} (hg : gOk g) {I : HI} {r : Int32 × HI} (hf : f_X6_completes I = some r) : Met l yX6_completes (Cond.code yX6_completes cX6_completes 2 none :: WL) rm_X6_completes (xP g [.ref (gR g 57)] I) (xQv g r.2) 0 0 (gA g) := by
  refine x_met (by decide) hg (Nat.le_of_ble_eq_true rfl) (fun p e s m args below meth c X hr hlk Y ls hl => ?_)
  have hx := X.hx
  have hb := X.hb
  have hl : lv_has ls 2 [(0, .ref (gR g 57))] := hl
  have hL15 : ∀ (n : Nat) (v1 : Int32) (I : HI) (H : Heap) (locs : List Loc) (ls : Array Slot), f_X6_completes_L15 n v1 I = some r → XD g I s H locs → lv_has ls 2 [(0, .ref (gR g 57)), (1, .int v1)] → W p l e rm_X6_completes s m args below meth c H locs 0 0 (MQ below (xQv g r.2) args s 0 0 (gA g)) (F0 m 15 ls []) := by
    intro n
    induction n with
    | zero => intro v1 I H locs ls hf Y hl; exact nn_t hf
    | succ n ih =>
      intro v1 I H locs ls hf Y hl
      have hf : f_X6_completes_L15_b (f_X6_completes_L15 n) v1 I = some r := hf
      unfold f_X6_completes_L15_b at hf
      refine lv_iload_n hx hb dX6_completes_15 rfl (lv_at hl 1 rfl) ?_
      refine lv_iconst (v := 4) hx hb dX6_completes_16 (by decide) ?_
      refine lv_icmp_ge (tgt := 54) hx hb dX6_completes_17 (by decide) (fun c => ?_) (fun c => ?_)
      · have hf := ite_t c hf
        refine lv_aload_n hx hb dX6_completes_54 rfl (lv_at hl 0 rfl) ?_
        refine x_get (v := .ref (gR g 58)) X Y cl_6 rfl (by decide) 0 (by decide) wf_X6_7 rfl dX6_completes_55 ?_
        refine lv_bipush (v := 22) hx hb dX6_completes_58 (by decide) ?_
        refine lv_dup2_11 hx hb dX6_completes_60 rfl rfl ?_
        refine x_ialdL (k := 22) X Y rfl (by decide) (by decide) (vin (by decide)) dX6_completes_61 ?_
        refine lv_iconst (v := 1) hx hb dX6_completes_62 (by decide) ?_
        refine lv_iadd hx hb dX6_completes_63 ?_
        refine x_iastL (k := 22) X Y rfl (by decide) (vin (by decide)) dX6_completes_64 (fun H locs Y => ?_)
        refine lv_aload_n hx hb dX6_completes_65 rfl (lv_at hl 0 rfl) ?_
        refine x_get (v := .ref (gR g 58)) X Y cl_6 rfl (by decide) 0 (by decide) wf_X6_7 rfl dX6_completes_66 ?_
        refine lv_bipush (v := 17) hx hb dX6_completes_69 (by decide) ?_
        refine lv_iconst (v := 0) hx hb dX6_completes_71 (by decide) ?_
        refine x_iastL (k := 17) X Y rfl (by decide) (vin (by decide)) dX6_completes_72 (fun H locs Y => ?_)
        refine lv_aload_n hx hb dX6_completes_73 rfl (lv_at hl 0 rfl) ?_
        refine x_get (v := .ref (gR g 58)) X Y cl_6 rfl (by decide) 0 (by decide) wf_X6_7 rfl dX6_completes_74 ?_
        refine lv_bipush (v := 16) hx hb dX6_completes_77 (by decide) ?_
        refine lv_iconst (v := 0) hx hb dX6_completes_79 (by decide) ?_
        refine x_iastL (k := 16) X Y rfl (by decide) (vin (by decide)) dX6_completes_80 (fun H locs Y => ?_)
        refine lv_aload_n hx hb dX6_completes_81 rfl (lv_at hl 0 rfl) ?_
        refine x_get (v := .ref (gR g 58)) X Y cl_6 rfl (by decide) 0 (by decide) wf_X6_7 rfl dX6_completes_82 ?_
        refine lv_bipush (v := 15) hx hb dX6_completes_85 (by decide) ?_
        refine lv_dup2_11 hx hb dX6_completes_87 rfl rfl ?_
        refine x_ialdL (k := 15) X Y rfl (by decide) (by decide) (vin (by decide)) dX6_completes_88 ?_
        refine lv_iconst (v := 1) hx hb dX6_completes_89 (by decide) ?_
        refine lv_iadd hx hb dX6_completes_90 ?_
        refine x_iastL (k := 15) X Y rfl (by decide) (vin (by decide)) dX6_completes_91 (fun H locs Y => ?_)
        exact x_vret X Y hr hlk hf dX6_completes_92
      · have hf := ite_f c hf
        refine lv_aload_n hx hb dX6_completes_20 rfl (lv_at hl 0 rfl) ?_
        refine x_get (v := .ref (gR g 58)) X Y cl_6 rfl (by decide) 0 (by decide) wf_X6_7 rfl dX6_completes_21 ?_
        refine lv_bipush (v := 23) hx hb dX6_completes_24 (by decide) ?_
        refine lv_iconst (v := 4) hx hb dX6_completes_26 (by decide) ?_
        refine lv_aload_n hx hb dX6_completes_27 rfl (lv_at hl 0 rfl) ?_
        refine x_get (v := .ref (gR g 58)) X Y cl_6 rfl (by decide) 0 (by decide) wf_X6_7 rfl dX6_completes_28 ?_
        refine lv_bipush (v := 22) hx hb dX6_completes_31 (by decide) ?_
        refine x_ialdL (k := 22) X Y rfl (by decide) (by decide) (vin (by decide)) dX6_completes_33 ?_
        refine lv_imul hx hb dX6_completes_34 ?_
        refine lv_iadd hx hb dX6_completes_35 ?_
        refine lv_iload_n hx hb dX6_completes_36 rfl (lv_at hl 1 rfl) ?_
        refine lv_iadd hx hb dX6_completes_37 ?_
        refine lv_aload_n hx hb dX6_completes_38 rfl (lv_at hl 0 rfl) ?_
        refine x_get (v := .ref (gR g 58)) X Y cl_6 rfl (by decide) 0 (by decide) wf_X6_7 rfl dX6_completes_39 ?_
        refine lv_bipush (v := 18) hx hb dX6_completes_42 (by decide) ?_
        refine lv_iload_n hx hb dX6_completes_44 rfl (lv_at hl 1 rfl) ?_
        refine lv_iadd hx hb dX6_completes_45 ?_
        obtain ⟨hin, hf⟩ := oob_t hf
        refine x_iald X Y rfl hin dX6_completes_46 ?_
        obtain ⟨hin, hf⟩ := oob_t hf
        refine x_iast X Y rfl hin dX6_completes_47 (fun H locs Y => ?_)
        refine lv_iinc (v := _ + (1 : Int32)) (lv' := [(1, _), (0, _)]) hx hb dX6_completes_48 hl (k := 1) rfl rfl (by decide) rfl (fun ls hl => ?_)
        refine lv_goto (tgt := 15) hx hb dX6_completes_51 (by decide) ?_
        exact ih _ _ _ _ _ hf Y (lv_sub hl [1, 0] rfl)
  unfold f_X6_completes at hf
  refine lv_aload_n hx hb dX6_completes_0 rfl (lv_at hl 0 rfl) ?_
  refine lv_aload_n hx hb dX6_completes_1 rfl (lv_at hl 0 rfl) ?_
  refine x_get (v := .ref (gR g 58)) X Y cl_6 rfl (by decide) 0 (by decide) wf_X6_7 rfl dX6_completes_2 ?_
  refine lv_bipush (v := 8) hx hb dX6_completes_5 (by decide) ?_
  refine x_ialdL (k := 8) X Y rfl (by decide) (by decide) (vin (by decide)) dX6_completes_7 ?_
  refine lv_iconst (v := 1) hx hb dX6_completes_8 (by decide) ?_
  refine lv_isub hx hb dX6_completes_9 ?_
  obtain ⟨q12, hq, hf⟩ := bnd_t hf
  refine x_cv Y (x_rV (rest := []) X Y k_X6_43 (c_X6_dropsOldest X.hg hq) cl_6.1 rfl (by decide) rfl ⟨rfl, rfl⟩ ⟨by decide, by decide⟩ hl.1 rfl (Nat.le_of_ble_eq_true rfl) dX6_completes_10 ⟨Nat.zero_le _, Nat.zero_le _⟩) (fun H locs Y => ?_)
  refine lv_iconst (v := 0) hx hb dX6_completes_13 (by decide) ?_
  refine lv_istore_n (lv' := [(1, _), (0, _)]) hx hb dX6_completes_14 rfl hl (by decide) rfl (fun ls hl => ?_)
  exact hL15 _ _ _ _ _ _ hf Y (lv_sub hl [1, 0] rfl)
def f_X6_comes_J109 (v1 : Int32) (I : HI) : Option (Int32 × HI) :=
  if ((47 : Int32) + (I 58 10)) < 0 ∨ 447 ≤ ((47 : Int32) + (I 58 10)).toNatClampNeg then none else
  let I14 := upI I 58 ((47 : Int32) + (I 58 10)).toNatClampNeg v1
  let I15 := upI I14 58 10 ((I14 58 10) + (1 : Int32))
  let I16 := upI I15 58 16 ((I15 58 16) + (1 : Int32))
  if (I16 58 17) = (1 : Int32) then
    (f_X6_lacking I16).bind fun q17 =>
    if q17.1 = (0 : Int32) then
      (f_X6_completes q17.2).bind fun q18 =>
      some (0, q18.2)
    else
      some (0, q17.2)
  else
    some (0, I16)
def f_X6_comes_J90 (v1 : Int32) (v2 : Int32) (I : HI) : Option (Int32 × HI) :=
  if v2 = (0 : Int32) then
    let I19 := upI I 58 14 ((I 58 14) + (0 : Int32))
    f_X6_comes_J109 v1 I19
  else
    let I20 := upI I 58 14 ((I 58 14) + (1 : Int32))
    f_X6_comes_J109 v1 I20
def f_X6_comes_J53 (v1 : Int32) (v2 : Int32) (w0 : Int32) (w1 : Int32) (w2 : Int32) (I : HI) : Option (Int32 × HI) :=
  if w2 < 0 ∨ 447 ≤ w2.toNatClampNeg then none else
  let I21 := upI I 58 w2.toNatClampNeg (w1 + w0)
  if v2 = (0 : Int32) then
    f_X6_comes_J90 v1 v2 I21
  else
    if (I21 58 17) = (0 : Int32) then
      (f_X6_isLongEnough I21).bind fun q22 =>
      if q22.1 = (0 : Int32) then
        f_X6_comes_J90 v1 v2 q22.2
      else
        (f_X6_hasRoom q22.2).bind fun q23 =>
        if q23.1 = (0 : Int32) then
          f_X6_comes_J90 v1 v2 q23.2
        else
          (f_X6_captures q23.2).bind fun q24 =>
          f_X6_comes_J109 v1 q24.2
    else
      f_X6_comes_J90 v1 v2 I21
def f_X6_comes (v1 : Int32) (I : HI) : Option (Int32 × HI) :=
  (f_X6_isFiring v1 (I 58 11) (I 58 1) (I 58 3) I).bind fun q25 =>
  let I26 := upI q25.2 58 11 (q25.2 57 6)
  if q25.1 = (0 : Int32) then
    f_X6_comes_J53 v1 q25.1 (0 : Int32) (I26 58 12) (12 : Int32) I26
  else
    f_X6_comes_J53 v1 q25.1 (1 : Int32) (I26 58 12) (12 : Int32) I26
abbrev rm_X6_comes : Room := { frames := 3, cells := 0, slots := 0, locals := 64 }
set_option maxHeartbeats 4000000 in
set_option maxRecDepth 100000 in
theorem c_X6_comes {l : Launch} {g : GX} (hg : gOk g) {v1 : Int32} {I : HI} {r : Int32 × HI} (hf : f_X6_comes v1 I = some r) : Met l yX6_comes (Cond.code yX6_comes cX6_comes 3 none :: WL) rm_X6_comes (xP g [.ref (gR g 57), .int v1] I) (xQv g r.2) 0 0 (gA g) := by
  refine x_met (by decide) hg (Nat.le_of_ble_eq_true rfl) (fun p e s m args below meth c X hr hlk Y ls hl => ?_)
  have hx := X.hx
  have hb := X.hb
  have hl : lv_has ls 3 [(0, .ref (gR g 57)), (1, .int v1)] := hl
  have hJ109 : ∀ (v1 : Int32) (I : HI) (H : Heap) (locs : List Loc) (ls : Array Slot), f_X6_comes_J109 v1 I = some r → XD g I s H locs → lv_has ls 3 [(0, .ref (gR g 57)), (1, .int v1)] → W p l e rm_X6_comes s m args below meth c H locs 0 0 (MQ below (xQv g r.2) args s 0 0 (gA g)) (F0 m 109 ls []) := by
    intro v1 I H locs ls hf Y hl
    unfold f_X6_comes_J109 at hf
    refine lv_aload_n hx hb dX6_comes_109 rfl (lv_at hl 0 rfl) ?_
    refine x_get (v := .ref (gR g 58)) X Y cl_6 rfl (by decide) 0 (by decide) wf_X6_7 rfl dX6_comes_110 ?_
    refine lv_bipush (v := 47) hx hb dX6_comes_113 (by decide) ?_
    refine lv_aload_n hx hb dX6_comes_115 rfl (lv_at hl 0 rfl) ?_
    refine x_get (v := .ref (gR g 58)) X Y cl_6 rfl (by decide) 0 (by decide) wf_X6_7 rfl dX6_comes_116 ?_
    refine lv_bipush (v := 10) hx hb dX6_comes_119 (by decide) ?_
    refine x_ialdL (k := 10) X Y rfl (by decide) (by decide) (vin (by decide)) dX6_comes_121 ?_
    refine lv_iadd hx hb dX6_comes_122 ?_
    refine lv_iload_n hx hb dX6_comes_123 rfl (lv_at hl 1 rfl) ?_
    obtain ⟨hin, hf⟩ := oob_t hf
    refine x_iast X Y rfl hin dX6_comes_124 (fun H locs Y => ?_)
    refine lv_aload_n hx hb dX6_comes_125 rfl (lv_at hl 0 rfl) ?_
    refine x_get (v := .ref (gR g 58)) X Y cl_6 rfl (by decide) 0 (by decide) wf_X6_7 rfl dX6_comes_126 ?_
    refine lv_bipush (v := 10) hx hb dX6_comes_129 (by decide) ?_
    refine lv_dup2_11 hx hb dX6_comes_131 rfl rfl ?_
    refine x_ialdL (k := 10) X Y rfl (by decide) (by decide) (vin (by decide)) dX6_comes_132 ?_
    refine lv_iconst (v := 1) hx hb dX6_comes_133 (by decide) ?_
    refine lv_iadd hx hb dX6_comes_134 ?_
    refine x_iastL (k := 10) X Y rfl (by decide) (vin (by decide)) dX6_comes_135 (fun H locs Y => ?_)
    refine lv_aload_n hx hb dX6_comes_136 rfl (lv_at hl 0 rfl) ?_
    refine x_get (v := .ref (gR g 58)) X Y cl_6 rfl (by decide) 0 (by decide) wf_X6_7 rfl dX6_comes_137 ?_
    refine lv_bipush (v := 16) hx hb dX6_comes_140 (by decide) ?_
    refine lv_dup2_11 hx hb dX6_comes_142 rfl rfl ?_
    refine x_ialdL (k := 16) X Y rfl (by decide) (by decide) (vin (by decide)) dX6_comes_143 ?_
    refine lv_iconst (v := 1) hx hb dX6_comes_144 (by decide) ?_
    refine lv_iadd hx hb dX6_comes_145 ?_
    refine x_iastL (k := 16) X Y rfl (by decide) (vin (by decide)) dX6_comes_146 (fun H locs Y => ?_)
    refine lv_aload_n hx hb dX6_comes_147 rfl (lv_at hl 0 rfl) ?_
    refine x_get (v := .ref (gR g 58)) X Y cl_6 rfl (by decide) 0 (by decide) wf_X6_7 rfl dX6_comes_148 ?_
    refine lv_bipush (v := 17) hx hb dX6_comes_151 (by decide) ?_
    refine x_ialdL (k := 17) X Y rfl (by decide) (by decide) (vin (by decide)) dX6_comes_153 ?_
    refine lv_iconst (v := 1) hx hb dX6_comes_154 (by decide) ?_
    refine lv_icmp_ne (tgt := 169) hx hb dX6_comes_155 (by decide) (fun c => ?_) (fun c => ?_)
    · have hf := ite_f c hf
      exact x_vret X Y hr hlk hf dX6_comes_169
    · have hf := ite_t c hf
      refine lv_aload_n hx hb dX6_comes_158 rfl (lv_at hl 0 rfl) ?_
      obtain ⟨q17, hq, hf⟩ := bnd_t hf
      refine x_ci Y (x_rV (rest := []) X Y k_X6_56 (c_X6_lacking X.hg hq) cl_6.1 rfl (by decide) rfl ⟨rfl, rfl⟩ ⟨by decide, by decide⟩ hl.1 rfl (Nat.le_of_ble_eq_true rfl) dX6_comes_159 ⟨Nat.zero_le _, Nat.zero_le _⟩) (fun H locs Y => ?_)
      refine lv_if_ne (tgt := 169) hx hb dX6_comes_162 (by decide) (fun c => ?_) (fun c => ?_)
      · have hf := ite_f c hf
        exact x_vret X Y hr hlk hf dX6_comes_169
      · have hf := ite_t c hf
        refine lv_aload_n hx hb dX6_comes_165 rfl (lv_at hl 0 rfl) ?_
        obtain ⟨q18, hq, hf⟩ := bnd_t hf
        refine x_cv Y (x_rV (rest := []) X Y k_X6_60 (c_X6_completes X.hg hq) cl_6.1 rfl (by decide) rfl ⟨rfl, rfl⟩ ⟨by decide, by decide⟩ hl.1 rfl (Nat.le_of_ble_eq_true rfl) dX6_comes_166 ⟨Nat.zero_le _, Nat.zero_le _⟩) (fun H locs Y => ?_)
        exact x_vret X Y hr hlk hf dX6_comes_169
  have hJ90 : ∀ (v1 : Int32) (v2 : Int32) (I : HI) (H : Heap) (locs : List Loc) (ls : Array Slot), f_X6_comes_J90 v1 v2 I = some r → XD g I s H locs → lv_has ls 3 [(0, .ref (gR g 57)), (1, .int v1), (2, .int v2)] → W p l e rm_X6_comes s m args below meth c H locs 0 0 (MQ below (xQv g r.2) args s 0 0 (gA g)) (F0 m 90 ls []) := by
    intro v1 v2 I H locs ls hf Y hl
    unfold f_X6_comes_J90 at hf
    refine lv_aload_n hx hb dX6_comes_90 rfl (lv_at hl 0 rfl) ?_
    refine x_get (v := .ref (gR g 58)) X Y cl_6 rfl (by decide) 0 (by decide) wf_X6_7 rfl dX6_comes_91 ?_
    refine lv_bipush (v := 14) hx hb dX6_comes_94 (by decide) ?_
    refine lv_dup2_11 hx hb dX6_comes_96 rfl rfl ?_
    refine x_ialdL (k := 14) X Y rfl (by decide) (by decide) (vin (by decide)) dX6_comes_97 ?_
    refine lv_iload_n hx hb dX6_comes_98 rfl (lv_at hl 2 rfl) ?_
    refine lv_if_eq (tgt := 106) hx hb dX6_comes_99 (by decide) (fun c => ?_) (fun c => ?_)
    · have hf := ite_t c hf
      refine lv_iconst (v := 0) hx hb dX6_comes_106 (by decide) ?_
      refine lv_iadd hx hb dX6_comes_107 ?_
      refine x_iastL (k := 14) X Y rfl (by decide) (vin (by decide)) dX6_comes_108 (fun H locs Y => ?_)
      exact hJ109 _ _ _ _ _ hf Y (lv_sub hl [0, 1] rfl)
    · have hf := ite_f c hf
      refine lv_iconst (v := 1) hx hb dX6_comes_102 (by decide) ?_
      refine lv_goto (tgt := 107) hx hb dX6_comes_103 (by decide) ?_
      refine lv_iadd hx hb dX6_comes_107 ?_
      refine x_iastL (k := 14) X Y rfl (by decide) (vin (by decide)) dX6_comes_108 (fun H locs Y => ?_)
      exact hJ109 _ _ _ _ _ hf Y (lv_sub hl [0, 1] rfl)
  have hJ53 : ∀ (v1 : Int32) (v2 : Int32) (w0 : Int32) (w1 : Int32) (w2 : Int32) (I : HI) (H : Heap) (locs : List Loc) (ls : Array Slot), f_X6_comes_J53 v1 v2 w0 w1 w2 I = some r → XD g I s H locs → lv_has ls 3 [(0, .ref (gR g 57)), (1, .int v1), (2, .int v2)] → W p l e rm_X6_comes s m args below meth c H locs 0 0 (MQ below (xQv g r.2) args s 0 0 (gA g)) (F0 m 53 ls [.int w0, .int w1, .int w2, .ref (gR g 58)]) := by
    intro v1 v2 w0 w1 w2 I H locs ls hf Y hl
    unfold f_X6_comes_J53 at hf
    refine lv_iadd hx hb dX6_comes_53 ?_
    obtain ⟨hin, hf⟩ := oob_t hf
    refine x_iast X Y rfl hin dX6_comes_54 (fun H locs Y => ?_)
    refine lv_iload_n hx hb dX6_comes_55 rfl (lv_at hl 2 rfl) ?_
    refine lv_if_eq (tgt := 90) hx hb dX6_comes_56 (by decide) (fun c => ?_) (fun c => ?_)
    · have hf := ite_t c hf
      exact hJ90 _ _ _ _ _ _ hf Y (lv_sub hl [0, 1, 2] rfl)
    · have hf := ite_f c hf
      refine lv_aload_n hx hb dX6_comes_59 rfl (lv_at hl 0 rfl) ?_
      refine x_get (v := .ref (gR g 58)) X Y cl_6 rfl (by decide) 0 (by decide) wf_X6_7 rfl dX6_comes_60 ?_
      refine lv_bipush (v := 17) hx hb dX6_comes_63 (by decide) ?_
      refine x_ialdL (k := 17) X Y rfl (by decide) (by decide) (vin (by decide)) dX6_comes_65 ?_
      refine lv_if_ne (tgt := 90) hx hb dX6_comes_66 (by decide) (fun c => ?_) (fun c => ?_)
      · have hf := ite_f c hf
        exact hJ90 _ _ _ _ _ _ hf Y (lv_sub hl [0, 1, 2] rfl)
      · have hf := ite_t c hf
        refine lv_aload_n hx hb dX6_comes_69 rfl (lv_at hl 0 rfl) ?_
        obtain ⟨q22, hq, hf⟩ := bnd_t hf
        refine x_ci Y (x_rV (rest := []) X Y k_X6_46 (c_X6_isLongEnough X.hg hq) cl_6.1 rfl (by decide) rfl ⟨rfl, rfl⟩ ⟨by decide, by decide⟩ hl.1 rfl (Nat.le_of_ble_eq_true rfl) dX6_comes_70 ⟨Nat.zero_le _, Nat.zero_le _⟩) (fun H locs Y => ?_)
        refine lv_if_eq (tgt := 90) hx hb dX6_comes_73 (by decide) (fun c => ?_) (fun c => ?_)
        · have hf := ite_t c hf
          exact hJ90 _ _ _ _ _ _ hf Y (lv_sub hl [0, 1, 2] rfl)
        · have hf := ite_f c hf
          refine lv_aload_n hx hb dX6_comes_76 rfl (lv_at hl 0 rfl) ?_
          obtain ⟨q23, hq, hf⟩ := bnd_t hf
          refine x_ci Y (x_rV (rest := []) X Y k_X6_50 (c_X6_hasRoom X.hg hq) cl_6.1 rfl (by decide) rfl ⟨rfl, rfl⟩ ⟨by decide, by decide⟩ hl.1 rfl (Nat.le_of_ble_eq_true rfl) dX6_comes_77 ⟨Nat.zero_le _, Nat.zero_le _⟩) (fun H locs Y => ?_)
          refine lv_if_eq (tgt := 90) hx hb dX6_comes_80 (by decide) (fun c => ?_) (fun c => ?_)
          · have hf := ite_t c hf
            exact hJ90 _ _ _ _ _ _ hf Y (lv_sub hl [0, 1, 2] rfl)
          · have hf := ite_f c hf
            refine lv_aload_n hx hb dX6_comes_83 rfl (lv_at hl 0 rfl) ?_
            obtain ⟨q24, hq, hf⟩ := bnd_t hf
            refine x_cv Y (x_rV (rest := []) X Y k_X6_53 (c_X6_captures X.hg hq) cl_6.1 rfl (by decide) rfl ⟨rfl, rfl⟩ ⟨by decide, by decide⟩ hl.1 rfl (Nat.le_of_ble_eq_true rfl) dX6_comes_84 ⟨Nat.zero_le _, Nat.zero_le _⟩) (fun H locs Y => ?_)
            refine lv_goto (tgt := 109) hx hb dX6_comes_87 (by decide) ?_
            exact hJ109 _ _ _ _ _ hf Y (lv_sub hl [0, 1] rfl)
  unfold f_X6_comes at hf
  refine lv_aload_n hx hb dX6_comes_0 rfl (lv_at hl 0 rfl) ?_
  refine lv_iload_n hx hb dX6_comes_1 rfl (lv_at hl 1 rfl) ?_
  refine lv_aload_n hx hb dX6_comes_2 rfl (lv_at hl 0 rfl) ?_
  refine x_get (v := .ref (gR g 58)) X Y cl_6 rfl (by decide) 0 (by decide) wf_X6_7 rfl dX6_comes_3 ?_
  refine lv_bipush (v := 11) hx hb dX6_comes_6 (by decide) ?_
  refine x_ialdL (k := 11) X Y rfl (by decide) (by decide) (vin (by decide)) dX6_comes_8 ?_
  refine lv_aload_n hx hb dX6_comes_9 rfl (lv_at hl 0 rfl) ?_
  refine x_get (v := .ref (gR g 58)) X Y cl_6 rfl (by decide) 0 (by decide) wf_X6_7 rfl dX6_comes_10 ?_
  refine lv_iconst (v := 1) hx hb dX6_comes_13 (by decide) ?_
  refine x_ialdL (k := 1) X Y rfl (by decide) (by decide) (vin (by decide)) dX6_comes_14 ?_
  refine lv_aload_n hx hb dX6_comes_15 rfl (lv_at hl 0 rfl) ?_
  refine x_get (v := .ref (gR g 58)) X Y cl_6 rfl (by decide) 0 (by decide) wf_X6_7 rfl dX6_comes_16 ?_
  refine lv_iconst (v := 3) hx hb dX6_comes_19 (by decide) ?_
  refine x_ialdL (k := 3) X Y rfl (by decide) (by decide) (vin (by decide)) dX6_comes_20 ?_
  obtain ⟨q25, hq, hf⟩ := bnd_t hf
  refine x_ci Y (x_rV (rest := []) X Y k_X6_35 (c_X6_isFiring X.hg hq) cl_6.1 rfl (by decide) rfl ⟨rfl, rfl⟩ ⟨by decide, by decide⟩ hl.1 rfl (Nat.le_of_ble_eq_true rfl) dX6_comes_21 ⟨Nat.zero_le _, Nat.zero_le _⟩) (fun H locs Y => ?_)
  refine lv_istore_n (lv' := [(2, _), (0, _), (1, _)]) hx hb dX6_comes_24 rfl hl (by decide) rfl (fun ls hl => ?_)
  refine lv_aload_n hx hb dX6_comes_25 rfl (lv_at hl 1 rfl) ?_
  refine x_get (v := .ref (gR g 58)) X Y cl_6 rfl (by decide) 0 (by decide) wf_X6_7 rfl dX6_comes_26 ?_
  refine lv_bipush (v := 11) hx hb dX6_comes_29 (by decide) ?_
  refine lv_aload_n hx hb dX6_comes_31 rfl (lv_at hl 1 rfl) ?_
  refine x_geti X Y cl_6 rfl (by decide) 6 (by decide) rfl wf_X6_32 dX6_comes_32 ?_
  refine x_iastL (k := 11) X Y rfl (by decide) (vin (by decide)) dX6_comes_35 (fun H locs Y => ?_)
  refine lv_aload_n hx hb dX6_comes_36 rfl (lv_at hl 1 rfl) ?_
  refine x_get (v := .ref (gR g 58)) X Y cl_6 rfl (by decide) 0 (by decide) wf_X6_7 rfl dX6_comes_37 ?_
  refine lv_bipush (v := 12) hx hb dX6_comes_40 (by decide) ?_
  refine lv_dup2_11 hx hb dX6_comes_42 rfl rfl ?_
  refine x_ialdL (k := 12) X Y rfl (by decide) (by decide) (vin (by decide)) dX6_comes_43 ?_
  refine lv_iload_n hx hb dX6_comes_44 rfl (lv_at hl 0 rfl) ?_
  refine lv_if_eq (tgt := 52) hx hb dX6_comes_45 (by decide) (fun c => ?_) (fun c => ?_)
  · have hf := ite_t c hf
    refine lv_iconst (v := 0) hx hb dX6_comes_52 (by decide) ?_
    exact hJ53 _ _ _ _ _ _ _ _ _ hf Y (lv_sub hl [1, 2, 0] rfl)
  · have hf := ite_f c hf
    refine lv_iconst (v := 1) hx hb dX6_comes_48 (by decide) ?_
    refine lv_goto (tgt := 53) hx hb dX6_comes_49 (by decide) ?_
    exact hJ53 _ _ _ _ _ _ _ _ _ hf Y (lv_sub hl [1, 2, 0] rfl)
def f_X6_isSample (v0 : Int32) (I : HI) : Option (Int32 × HI) :=
  (f_X6_in (v0.toInt64) (-100 : Int64) (100 : Int64) I).bind fun q2 =>
  if q2.1 = 0 ∨ q2.1 = 1 then some (q2.1, q2.2) else none
abbrev rm_X6_isSample : Room := { frames := 1, cells := 0, slots := 0, locals := 25 }
set_option maxHeartbeats 4000000 in
set_option maxRecDepth 100000 in
theorem c_X6_isSample {l : Launch} {g : GX} (hg : gOk g) {v0 : Int32} {I : HI} {r : Int32 × HI} (hf : f_X6_isSample v0 I = some r) : Met l yX6_isSample (Cond.code yX6_isSample cX6_isSample 1 (some .boolean) :: WL) rm_X6_isSample (xP g [.int v0] I) (xQi g r.1 r.2) 0 0 (gA g) := by
  refine x_met (by decide) hg (Nat.le_of_ble_eq_true rfl) (fun p e s m args below meth c X hr hlk Y ls hl => ?_)
  have hx := X.hx
  have hb := X.hb
  have hl : lv_has ls 1 [(0, .int v0)] := hl
  unfold f_X6_isSample at hf
  refine lv_iload_n hx hb dX6_isSample_0 rfl (lv_at hl 0 rfl) ?_
  refine lv_i2l hx hb dX6_isSample_1 rfl ?_
  refine lv_ldc2 (v := -100) hx hb X.1.2.2.2.1 (X.w wk_X6_63) dX6_isSample_2 ?_
  refine lv_ldc2 (v := 100) hx hb X.1.2.2.2.1 (X.w wk_X6_65) dX6_isSample_5 ?_
  obtain ⟨q2, hq, hf⟩ := bnd_t hf
  refine x_ci Y (x_rS (rest := []) X Y k_X6_67 (c_X6_in X.hg hq) rfl ⟨rfl, rfl⟩ ⟨by decide, by decide⟩ hl.1 rfl (Nat.le_of_ble_eq_true rfl) dX6_isSample_8 ⟨Nat.zero_le _, Nat.zero_le _⟩) (fun H locs Y => ?_)
  obtain ⟨hz, hf⟩ := bool_t hf
  exact x_zret X Y hr hlk hz hf dX6_isSample_11
def f_X6_doFeed_L51_b (v1 : Int32) (v2 : Int32) (v3 : Int32) (k : Int32 → HI → Option (Int32 × HI)) (v4 : Int32) (I : HI) : Option (Int32 × HI) :=
  if v2 ≤ v4 then
    some ((I 58 15) - v3, I)
  else
    (f_X6_comes v1 I).bind fun q4 =>
    k (v4 + (1 : Int32)) q4.2
def f_X6_doFeed_L51 (v1 : Int32) (v2 : Int32) (v3 : Int32) : Nat → Int32 → HI → Option (Int32 × HI)
  | 0, _, _ => none
  | n + 1, v4, I => f_X6_doFeed_L51_b v1 v2 v3 (f_X6_doFeed_L51 v1 v2 v3 n) v4 I
def f_X6_doFeed (v1 : Int32) (v2 : Int32) (I : HI) : Option (Int32 × HI) :=
  (f_X6_isSample v1 I).bind fun q5 =>
  if q5.1 = (0 : Int32) then
    some ((-2 : Int32), q5.2)
  else
    (f_X6_in (v2.toInt64) (1 : Int64) (100 : Int64) q5.2).bind fun q6 =>
    if q6.1 = (0 : Int32) then
      some ((-2 : Int32), q6.2)
    else
      if ((q6.2 58 10) + v2) ≤ (400 : Int32) then
        let x7 := q6.2 58 15
        f_X6_doFeed_L51 v1 v2 x7 4000 (0 : Int32) q6.2
      else
        some ((-4 : Int32), q6.2)
abbrev rm_X6_doFeed : Room := { frames := 4, cells := 0, slots := 0, locals := 86 }
set_option maxHeartbeats 4000000 in
set_option maxRecDepth 100000 in
theorem c_X6_doFeed {l : Launch} {g : GX} (hg : gOk g) {v1 : Int32} {v2 : Int32} {I : HI} {r : Int32 × HI} (hf : f_X6_doFeed v1 v2 I = some r) : Met l yX6_doFeed (Cond.code yX6_doFeed cX6_doFeed 5 (some .int) :: WL) rm_X6_doFeed (xP g [.ref (gR g 57), .int v1, .int v2] I) (xQi g r.1 r.2) 0 0 (gA g) := by
  refine x_met (by decide) hg (Nat.le_of_ble_eq_true rfl) (fun p e s m args below meth c X hr hlk Y ls hl => ?_)
  have hx := X.hx
  have hb := X.hb
  have hl : lv_has ls 5 [(0, .ref (gR g 57)), (1, .int v1), (2, .int v2)] := hl
  have hL51 : ∀ (v1 : Int32) (v2 : Int32) (v3 : Int32) (n : Nat) (v4 : Int32) (I : HI) (H : Heap) (locs : List Loc) (ls : Array Slot), f_X6_doFeed_L51 v1 v2 v3 n v4 I = some r → XD g I s H locs → lv_has ls 5 [(0, .ref (gR g 57)), (1, .int v1), (2, .int v2), (3, .int v3), (4, .int v4)] → W p l e rm_X6_doFeed s m args below meth c H locs 0 0 (MQ below (xQi g r.1 r.2) args s 0 0 (gA g)) (F0 m 51 ls []) := by
    intro v1 v2 v3 n
    induction n with
    | zero => intro v4 I H locs ls hf Y hl; exact nn_t hf
    | succ n ih =>
      intro v4 I H locs ls hf Y hl
      have hf : f_X6_doFeed_L51_b v1 v2 v3 (f_X6_doFeed_L51 v1 v2 v3 n) v4 I = some r := hf
      unfold f_X6_doFeed_L51_b at hf
      refine lv_iload hx hb dX6_doFeed_51 (lv_at hl 4 rfl) ?_
      refine lv_iload_n hx hb dX6_doFeed_53 rfl (lv_at hl 2 rfl) ?_
      refine lv_icmp_ge (tgt := 68) hx hb dX6_doFeed_54 (by decide) (fun c => ?_) (fun c => ?_)
      · have hf := ite_t c hf
        refine lv_aload_n hx hb dX6_doFeed_68 rfl (lv_at hl 0 rfl) ?_
        refine x_get (v := .ref (gR g 58)) X Y cl_6 rfl (by decide) 0 (by decide) wf_X6_7 rfl dX6_doFeed_69 ?_
        refine lv_bipush (v := 15) hx hb dX6_doFeed_72 (by decide) ?_
        refine x_ialdL (k := 15) X Y rfl (by decide) (by decide) (vin (by decide)) dX6_doFeed_74 ?_
        refine lv_iload_n hx hb dX6_doFeed_75 rfl (lv_at hl 3 rfl) ?_
        refine lv_isub hx hb dX6_doFeed_76 ?_
        exact x_iret X Y hr hlk hf dX6_doFeed_77
      · have hf := ite_f c hf
        refine lv_aload_n hx hb dX6_doFeed_57 rfl (lv_at hl 0 rfl) ?_
        refine lv_iload_n hx hb dX6_doFeed_58 rfl (lv_at hl 1 rfl) ?_
        obtain ⟨q4, hq, hf⟩ := bnd_t hf
        refine x_cv Y (x_rV (rest := []) X Y k_X6_75 (c_X6_comes X.hg hq) cl_6.1 rfl (by decide) rfl ⟨rfl, rfl⟩ ⟨by decide, by decide⟩ hl.1 rfl (Nat.le_of_ble_eq_true rfl) dX6_doFeed_59 ⟨Nat.zero_le _, Nat.zero_le _⟩) (fun H locs Y => ?_)
        refine lv_iinc (v := _ + (1 : Int32)) (lv' := [(4, _), (0, _), (1, _), (2, _), (3, _)]) hx hb dX6_doFeed_62 hl (k := 4) rfl rfl (by decide) rfl (fun ls hl => ?_)
        refine lv_goto (tgt := 51) hx hb dX6_doFeed_65 (by decide) ?_
        exact ih _ _ _ _ _ hf Y (lv_sub hl [1, 2, 3, 4, 0] rfl)
  unfold f_X6_doFeed at hf
  refine lv_iload_n hx hb dX6_doFeed_0 rfl (lv_at hl 1 rfl) ?_
  obtain ⟨q5, hq, hf⟩ := bnd_t hf
  refine x_ci Y (x_rS (rest := []) X Y k_X6_71 (c_X6_isSample X.hg hq) rfl ⟨rfl, rfl⟩ ⟨by decide, by decide⟩ hl.1 rfl (Nat.le_of_ble_eq_true rfl) dX6_doFeed_1 ⟨Nat.zero_le _, Nat.zero_le _⟩) (fun H locs Y => ?_)
  refine lv_if_eq (tgt := 19) hx hb dX6_doFeed_4 (by decide) (fun c => ?_) (fun c => ?_)
  · have hf := ite_t c hf
    refine lv_bipush (v := -2) hx hb dX6_doFeed_19 (by decide) ?_
    exact x_iret X Y hr hlk hf dX6_doFeed_21
  · have hf := ite_f c hf
    refine lv_iload_n hx hb dX6_doFeed_7 rfl (lv_at hl 2 rfl) ?_
    refine lv_i2l hx hb dX6_doFeed_8 rfl ?_
    refine lv_lconst (v := 1) hx hb dX6_doFeed_9 (by decide) ?_
    refine lv_ldc2 (v := 100) hx hb X.1.2.2.2.1 (X.w wk_X6_65) dX6_doFeed_10 ?_
    obtain ⟨q6, hq, hf⟩ := bnd_t hf
    refine x_ci Y (x_rS (rest := []) X Y k_X6_67 (c_X6_in X.hg hq) rfl ⟨rfl, rfl⟩ ⟨by decide, by decide⟩ hl.1 rfl (Nat.le_of_ble_eq_true rfl) dX6_doFeed_13 ⟨Nat.zero_le _, Nat.zero_le _⟩) (fun H locs Y => ?_)
    refine lv_if_ne (tgt := 22) hx hb dX6_doFeed_16 (by decide) (fun c => ?_) (fun c => ?_)
    · have hf := ite_f c hf
      refine lv_aload_n hx hb dX6_doFeed_22 rfl (lv_at hl 0 rfl) ?_
      refine x_get (v := .ref (gR g 58)) X Y cl_6 rfl (by decide) 0 (by decide) wf_X6_7 rfl dX6_doFeed_23 ?_
      refine lv_bipush (v := 10) hx hb dX6_doFeed_26 (by decide) ?_
      refine x_ialdL (k := 10) X Y rfl (by decide) (by decide) (vin (by decide)) dX6_doFeed_28 ?_
      refine lv_iload_n hx hb dX6_doFeed_29 rfl (lv_at hl 2 rfl) ?_
      refine lv_iadd hx hb dX6_doFeed_30 ?_
      refine lv_sipush (v := 400) hx hb dX6_doFeed_31 (by decide) ?_
      refine lv_icmp_le (tgt := 40) hx hb dX6_doFeed_34 (by decide) (fun c => ?_) (fun c => ?_)
      · have hf := ite_t c hf
        refine lv_aload_n hx hb dX6_doFeed_40 rfl (lv_at hl 0 rfl) ?_
        refine x_get (v := .ref (gR g 58)) X Y cl_6 rfl (by decide) 0 (by decide) wf_X6_7 rfl dX6_doFeed_41 ?_
        refine lv_bipush (v := 15) hx hb dX6_doFeed_44 (by decide) ?_
        refine x_ialdL (k := 15) X Y rfl (by decide) (by decide) (vin (by decide)) dX6_doFeed_46 ?_
        refine lv_istore_n (lv' := [(3, _), (0, _), (1, _), (2, _)]) hx hb dX6_doFeed_47 rfl hl (by decide) rfl (fun ls hl => ?_)
        refine lv_iconst (v := 0) hx hb dX6_doFeed_48 (by decide) ?_
        refine lv_istore (lv' := [(4, _), (3, _), (0, _), (1, _), (2, _)]) hx hb dX6_doFeed_49 hl (by decide) rfl (fun ls hl => ?_)
        exact hL51 _ _ _ _ _ _ _ _ _ hf Y (lv_sub hl [2, 3, 4, 1, 0] rfl)
      · have hf := ite_f c hf
        refine lv_bipush (v := -4) hx hb dX6_doFeed_37 (by decide) ?_
        exact x_iret X Y hr hlk hf dX6_doFeed_39
    · have hf := ite_t c hf
      refine lv_bipush (v := -2) hx hb dX6_doFeed_19 (by decide) ?_
      exact x_iret X Y hr hlk hf dX6_doFeed_21
def f_X6_isSetting (v0 : Int32) (v1 : Int32) (I : HI) : Option (Int32 × HI) :=
  if v0 = (0 : Int32) then
    (f_X6_in (v1.toInt64) (0 : Int64) (2 : Int64) I).bind fun q10 =>
    if q10.1 = 0 ∨ q10.1 = 1 then some (q10.1, q10.2) else none
  else
  if v0 = (1 : Int32) then
    (f_X6_isSample v1 I).bind fun q12 =>
    if q12.1 = 0 ∨ q12.1 = 1 then some (q12.1, q12.2) else none
  else
  if v0 = (2 : Int32) then
    (f_X6_in (v1.toInt64) (0 : Int64) (50 : Int64) I).bind fun q14 =>
    if q14.1 = 0 ∨ q14.1 = 1 then some (q14.1, q14.2) else none
  else
  if v0 = (3 : Int32) then
    (f_X6_isSample v1 I).bind fun q16 =>
    if q16.1 = 0 ∨ q16.1 = 1 then some (q16.1, q16.2) else none
  else
  if v0 = (4 : Int32) then
    (f_X6_isSample v1 I).bind fun q18 =>
    if q18.1 = 0 ∨ q18.1 = 1 then some (q18.1, q18.2) else none
  else
  if v0 = (5 : Int32) then
    (f_X6_in (v1.toInt64) (1 : Int64) (32 : Int64) I).bind fun q20 =>
    if q20.1 = 0 ∨ q20.1 = 1 then some (q20.1, q20.2) else none
  else
  if v0 = (6 : Int32) then
    (f_X6_in (v1.toInt64) (0 : Int64) (31 : Int64) I).bind fun q22 =>
    if q22.1 = 0 ∨ q22.1 = 1 then some (q22.1, q22.2) else none
  else
  if v0 = (7 : Int32) then
    (f_X6_in (v1.toInt64) (0 : Int64) (60 : Int64) I).bind fun q24 =>
    if q24.1 = 0 ∨ q24.1 = 1 then some (q24.1, q24.2) else none
  else
  if v0 = (8 : Int32) then
    (f_X6_in (v1.toInt64) (1 : Int64) (6 : Int64) I).bind fun q26 =>
    if q26.1 = 0 ∨ q26.1 = 1 then some (q26.1, q26.2) else none
  else
  if v0 = (9 : Int32) then
    (f_X6_in (v1.toInt64) (0 : Int64) (1 : Int64) I).bind fun q27 =>
    if q27.1 = (0 : Int32) then
      some ((0 : Int32), q27.2)
    else
      some ((1 : Int32), q27.2)
  else
    some ((0 : Int32), I)
abbrev rm_X6_isSetting : Room := { frames := 2, cells := 0, slots := 0, locals := 45 }
set_option maxHeartbeats 4000000 in
set_option maxRecDepth 100000 in
theorem c_X6_isSetting {l : Launch} {g : GX} (hg : gOk g) {v0 : Int32} {v1 : Int32} {I : HI} {r : Int32 × HI} (hf : f_X6_isSetting v0 v1 I = some r) : Met l yX6_isSetting (Cond.code yX6_isSetting cX6_isSetting 2 (some .boolean) :: WL) rm_X6_isSetting (xP g [.int v0, .int v1] I) (xQi g r.1 r.2) 0 0 (gA g) := by
  refine x_met (by decide) hg (Nat.le_of_ble_eq_true rfl) (fun p e s m args below meth c X hr hlk Y ls hl => ?_)
  have hx := X.hx
  have hb := X.hb
  have hl : lv_has ls 2 [(0, .int v0), (1, .int v1)] := hl
  unfold f_X6_isSetting at hf
  refine lv_iload_n hx hb dX6_isSetting_0 rfl (lv_at hl 0 rfl) ?_
  by_cases c9 : v0 = (0 : Int32)
  · have hf := ite_t c9 hf
    refine x_tab (off := 51) (tgt := 52) hx hb c9 dX6_isSetting_1 (by decide) (by decide) ?_
    refine lv_iload_n hx hb dX6_isSetting_52 rfl (lv_at hl 1 rfl) ?_
    refine lv_i2l hx hb dX6_isSetting_53 rfl ?_
    refine lv_lconst (v := 0) hx hb dX6_isSetting_54 (by decide) ?_
    refine lv_ldc2 (v := 2) hx hb X.1.2.2.2.1 (X.w wk_X6_78) dX6_isSetting_55 ?_
    obtain ⟨q10, hq, hf⟩ := bnd_t hf
    refine x_ci Y (x_rS (rest := []) X Y k_X6_67 (c_X6_in X.hg hq) rfl ⟨rfl, rfl⟩ ⟨by decide, by decide⟩ hl.1 rfl (Nat.le_of_ble_eq_true rfl) dX6_isSetting_58 ⟨Nat.zero_le _, Nat.zero_le _⟩) (fun H locs Y => ?_)
    obtain ⟨hz, hf⟩ := bool_t hf
    exact x_zret X Y hr hlk hz hf dX6_isSetting_61
  have hf := ite_f c9 hf
  by_cases c11 : v0 = (1 : Int32)
  · have hf := ite_t c11 hf
    refine x_tab (off := 61) (tgt := 62) hx hb c11 dX6_isSetting_1 (by decide) (by decide) ?_
    refine lv_iload_n hx hb dX6_isSetting_62 rfl (lv_at hl 1 rfl) ?_
    obtain ⟨q12, hq, hf⟩ := bnd_t hf
    refine x_ci Y (x_rS (rest := []) X Y k_X6_71 (c_X6_isSample X.hg hq) rfl ⟨rfl, rfl⟩ ⟨by decide, by decide⟩ hl.1 rfl (Nat.le_of_ble_eq_true rfl) dX6_isSetting_63 ⟨Nat.zero_le _, Nat.zero_le _⟩) (fun H locs Y => ?_)
    obtain ⟨hz, hf⟩ := bool_t hf
    exact x_zret X Y hr hlk hz hf dX6_isSetting_66
  have hf := ite_f c11 hf
  by_cases c13 : v0 = (2 : Int32)
  · have hf := ite_t c13 hf
    refine x_tab (off := 66) (tgt := 67) hx hb c13 dX6_isSetting_1 (by decide) (by decide) ?_
    refine lv_iload_n hx hb dX6_isSetting_67 rfl (lv_at hl 1 rfl) ?_
    refine lv_i2l hx hb dX6_isSetting_68 rfl ?_
    refine lv_lconst (v := 0) hx hb dX6_isSetting_69 (by decide) ?_
    refine lv_ldc2 (v := 50) hx hb X.1.2.2.2.1 (X.w wk_X6_80) dX6_isSetting_70 ?_
    obtain ⟨q14, hq, hf⟩ := bnd_t hf
    refine x_ci Y (x_rS (rest := []) X Y k_X6_67 (c_X6_in X.hg hq) rfl ⟨rfl, rfl⟩ ⟨by decide, by decide⟩ hl.1 rfl (Nat.le_of_ble_eq_true rfl) dX6_isSetting_73 ⟨Nat.zero_le _, Nat.zero_le _⟩) (fun H locs Y => ?_)
    obtain ⟨hz, hf⟩ := bool_t hf
    exact x_zret X Y hr hlk hz hf dX6_isSetting_76
  have hf := ite_f c13 hf
  by_cases c15 : v0 = (3 : Int32)
  · have hf := ite_t c15 hf
    refine x_tab (off := 61) (tgt := 62) hx hb c15 dX6_isSetting_1 (by decide) (by decide) ?_
    refine lv_iload_n hx hb dX6_isSetting_62 rfl (lv_at hl 1 rfl) ?_
    obtain ⟨q16, hq, hf⟩ := bnd_t hf
    refine x_ci Y (x_rS (rest := []) X Y k_X6_71 (c_X6_isSample X.hg hq) rfl ⟨rfl, rfl⟩ ⟨by decide, by decide⟩ hl.1 rfl (Nat.le_of_ble_eq_true rfl) dX6_isSetting_63 ⟨Nat.zero_le _, Nat.zero_le _⟩) (fun H locs Y => ?_)
    obtain ⟨hz, hf⟩ := bool_t hf
    exact x_zret X Y hr hlk hz hf dX6_isSetting_66
  have hf := ite_f c15 hf
  by_cases c17 : v0 = (4 : Int32)
  · have hf := ite_t c17 hf
    refine x_tab (off := 61) (tgt := 62) hx hb c17 dX6_isSetting_1 (by decide) (by decide) ?_
    refine lv_iload_n hx hb dX6_isSetting_62 rfl (lv_at hl 1 rfl) ?_
    obtain ⟨q18, hq, hf⟩ := bnd_t hf
    refine x_ci Y (x_rS (rest := []) X Y k_X6_71 (c_X6_isSample X.hg hq) rfl ⟨rfl, rfl⟩ ⟨by decide, by decide⟩ hl.1 rfl (Nat.le_of_ble_eq_true rfl) dX6_isSetting_63 ⟨Nat.zero_le _, Nat.zero_le _⟩) (fun H locs Y => ?_)
    obtain ⟨hz, hf⟩ := bool_t hf
    exact x_zret X Y hr hlk hz hf dX6_isSetting_66
  have hf := ite_f c17 hf
  by_cases c19 : v0 = (5 : Int32)
  · have hf := ite_t c19 hf
    refine x_tab (off := 76) (tgt := 77) hx hb c19 dX6_isSetting_1 (by decide) (by decide) ?_
    refine lv_iload_n hx hb dX6_isSetting_77 rfl (lv_at hl 1 rfl) ?_
    refine lv_i2l hx hb dX6_isSetting_78 rfl ?_
    refine lv_lconst (v := 1) hx hb dX6_isSetting_79 (by decide) ?_
    refine lv_ldc2 (v := 32) hx hb X.1.2.2.2.1 (X.w wk_X6_82) dX6_isSetting_80 ?_
    obtain ⟨q20, hq, hf⟩ := bnd_t hf
    refine x_ci Y (x_rS (rest := []) X Y k_X6_67 (c_X6_in X.hg hq) rfl ⟨rfl, rfl⟩ ⟨by decide, by decide⟩ hl.1 rfl (Nat.le_of_ble_eq_true rfl) dX6_isSetting_83 ⟨Nat.zero_le _, Nat.zero_le _⟩) (fun H locs Y => ?_)
    obtain ⟨hz, hf⟩ := bool_t hf
    exact x_zret X Y hr hlk hz hf dX6_isSetting_86
  have hf := ite_f c19 hf
  by_cases c21 : v0 = (6 : Int32)
  · have hf := ite_t c21 hf
    refine x_tab (off := 86) (tgt := 87) hx hb c21 dX6_isSetting_1 (by decide) (by decide) ?_
    refine lv_iload_n hx hb dX6_isSetting_87 rfl (lv_at hl 1 rfl) ?_
    refine lv_i2l hx hb dX6_isSetting_88 rfl ?_
    refine lv_lconst (v := 0) hx hb dX6_isSetting_89 (by decide) ?_
    refine lv_ldc2 (v := 31) hx hb X.1.2.2.2.1 (X.w wk_X6_84) dX6_isSetting_90 ?_
    obtain ⟨q22, hq, hf⟩ := bnd_t hf
    refine x_ci Y (x_rS (rest := []) X Y k_X6_67 (c_X6_in X.hg hq) rfl ⟨rfl, rfl⟩ ⟨by decide, by decide⟩ hl.1 rfl (Nat.le_of_ble_eq_true rfl) dX6_isSetting_93 ⟨Nat.zero_le _, Nat.zero_le _⟩) (fun H locs Y => ?_)
    obtain ⟨hz, hf⟩ := bool_t hf
    exact x_zret X Y hr hlk hz hf dX6_isSetting_96
  have hf := ite_f c21 hf
  by_cases c23 : v0 = (7 : Int32)
  · have hf := ite_t c23 hf
    refine x_tab (off := 96) (tgt := 97) hx hb c23 dX6_isSetting_1 (by decide) (by decide) ?_
    refine lv_iload_n hx hb dX6_isSetting_97 rfl (lv_at hl 1 rfl) ?_
    refine lv_i2l hx hb dX6_isSetting_98 rfl ?_
    refine lv_lconst (v := 0) hx hb dX6_isSetting_99 (by decide) ?_
    refine lv_ldc2 (v := 60) hx hb X.1.2.2.2.1 (X.w wk_X6_86) dX6_isSetting_100 ?_
    obtain ⟨q24, hq, hf⟩ := bnd_t hf
    refine x_ci Y (x_rS (rest := []) X Y k_X6_67 (c_X6_in X.hg hq) rfl ⟨rfl, rfl⟩ ⟨by decide, by decide⟩ hl.1 rfl (Nat.le_of_ble_eq_true rfl) dX6_isSetting_103 ⟨Nat.zero_le _, Nat.zero_le _⟩) (fun H locs Y => ?_)
    obtain ⟨hz, hf⟩ := bool_t hf
    exact x_zret X Y hr hlk hz hf dX6_isSetting_106
  have hf := ite_f c23 hf
  by_cases c25 : v0 = (8 : Int32)
  · have hf := ite_t c25 hf
    refine x_tab (off := 106) (tgt := 107) hx hb c25 dX6_isSetting_1 (by decide) (by decide) ?_
    refine lv_iload_n hx hb dX6_isSetting_107 rfl (lv_at hl 1 rfl) ?_
    refine lv_i2l hx hb dX6_isSetting_108 rfl ?_
    refine lv_lconst (v := 1) hx hb dX6_isSetting_109 (by decide) ?_
    refine lv_ldc2 (v := 6) hx hb X.1.2.2.2.1 (X.w wk_X6_88) dX6_isSetting_110 ?_
    obtain ⟨q26, hq, hf⟩ := bnd_t hf
    refine x_ci Y (x_rS (rest := []) X Y k_X6_67 (c_X6_in X.hg hq) rfl ⟨rfl, rfl⟩ ⟨by decide, by decide⟩ hl.1 rfl (Nat.le_of_ble_eq_true rfl) dX6_isSetting_113 ⟨Nat.zero_le _, Nat.zero_le _⟩) (fun H locs Y => ?_)
    obtain ⟨hz, hf⟩ := bool_t hf
    exact x_zret X Y hr hlk hz hf dX6_isSetting_116
  have hf := ite_f c25 hf
  refine lv_tableOut (tgt := 117) hx hb dX6_isSetting_1 (by have := lv_neT c9 (a := 0) (by decide); have := lv_neT c11 (a := 1) (by decide); have := lv_neT c13 (a := 2) (by decide); have := lv_neT c15 (a := 3) (by decide); have := lv_neT c17 (a := 4) (by decide); have := lv_neT c19 (a := 5) (by decide); have := lv_neT c21 (a := 6) (by decide); have := lv_neT c23 (a := 7) (by decide); have := lv_neT c25 (a := 8) (by decide); omega) (by decide) ?_
  refine lv_iload_n hx hb dX6_isSetting_117 rfl (lv_at hl 0 rfl) ?_
  refine lv_bipush (v := 9) hx hb dX6_isSetting_118 (by decide) ?_
  refine lv_icmp_ne (tgt := 137) hx hb dX6_isSetting_120 (by decide) (fun c => ?_) (fun c => ?_)
  · have hf := ite_f c hf
    refine lv_iconst (v := 0) hx hb dX6_isSetting_137 (by decide) ?_
    exact x_zret X Y hr hlk rfl hf dX6_isSetting_138
  · have hf := ite_t c hf
    refine lv_iload_n hx hb dX6_isSetting_123 rfl (lv_at hl 1 rfl) ?_
    refine lv_i2l hx hb dX6_isSetting_124 rfl ?_
    refine lv_lconst (v := 0) hx hb dX6_isSetting_125 (by decide) ?_
    refine lv_lconst (v := 1) hx hb dX6_isSetting_126 (by decide) ?_
    obtain ⟨q27, hq, hf⟩ := bnd_t hf
    refine x_ci Y (x_rS (rest := []) X Y k_X6_67 (c_X6_in X.hg hq) rfl ⟨rfl, rfl⟩ ⟨by decide, by decide⟩ hl.1 rfl (Nat.le_of_ble_eq_true rfl) dX6_isSetting_127 ⟨Nat.zero_le _, Nat.zero_le _⟩) (fun H locs Y => ?_)
    refine lv_if_eq (tgt := 137) hx hb dX6_isSetting_130 (by decide) (fun c => ?_) (fun c => ?_)
    · have hf := ite_t c hf
      refine lv_iconst (v := 0) hx hb dX6_isSetting_137 (by decide) ?_
      exact x_zret X Y hr hlk rfl hf dX6_isSetting_138
    · have hf := ite_f c hf
      refine lv_iconst (v := 1) hx hb dX6_isSetting_133 (by decide) ?_
      refine lv_goto (tgt := 138) hx hb dX6_isSetting_134 (by decide) ?_
      exact x_zret X Y hr hlk rfl hf dX6_isSetting_138
def f_X6_doSet_J158 (v8 : Int32) (I : HI) : Option (Int32 × HI) :=
  (f_X6_dropsOldest (I 58 8) I).bind fun q5 =>
  some (v8 + (1000 : Int32), q5.2)
def f_X6_doSet_J130 (v1 : Int32) (v2 : Int32) (I : HI) : Option (Int32 × HI) :=
  if v1 < 0 ∨ 447 ≤ v1.toNatClampNeg then none else
  let x6 := I 58 v1.toNatClampNeg
  if v1 < 0 ∨ 447 ≤ v1.toNatClampNeg then none else
  let I7 := upI I 58 v1.toNatClampNeg v2
  if (4 : Int32) < v1 then
    f_X6_doSet_J158 x6 I7
  else
    let I8 := upI I7 58 11 (0 : Int32)
    f_X6_doSet_J158 x6 I8
def f_X6_doSet_J96 (v1 : Int32) (v2 : Int32) (v3 : Int32) (v4 : Int32) (v5 : Int32) (v6 : Int32) (w0 : Int32) (I : HI) : Option (Int32 × HI) :=
  if v5 ≤ v4 then
    some ((-5 : Int32), I)
  else
    if v6 ≤ w0 then
      some ((-5 : Int32), I)
    else
      if v3 = (0 : Int32) then
        f_X6_doSet_J130 v1 v2 I
      else
        if (I 58 17) = (1 : Int32) then
          some ((-5 : Int32), I)
        else
          f_X6_doSet_J130 v1 v2 I
def f_X6_doSet_J77 (v1 : Int32) (v2 : Int32) (v3 : Int32) (v4 : Int32) (v5 : Int32) (w0 : Int32) (I : HI) : Option (Int32 × HI) :=
  if v1 = (6 : Int32) then
    f_X6_doSet_J96 v1 v2 v3 v4 v5 w0 v2 I
  else
    f_X6_doSet_J96 v1 v2 v3 v4 v5 w0 (I 58 6) I
def f_X6_doSet_J60 (v1 : Int32) (v2 : Int32) (v3 : Int32) (v4 : Int32) (w0 : Int32) (I : HI) : Option (Int32 × HI) :=
  if v1 = (5 : Int32) then
    f_X6_doSet_J77 v1 v2 v3 v4 w0 v2 I
  else
    f_X6_doSet_J77 v1 v2 v3 v4 w0 (I 58 5) I
def f_X6_doSet_J43 (v1 : Int32) (v2 : Int32) (v3 : Int32) (w0 : Int32) (I : HI) : Option (Int32 × HI) :=
  if v1 = (4 : Int32) then
    f_X6_doSet_J60 v1 v2 v3 w0 v2 I
  else
    f_X6_doSet_J60 v1 v2 v3 w0 (I 58 4) I
def f_X6_doSet_J27 (v1 : Int32) (v2 : Int32) (w0 : Int32) (I : HI) : Option (Int32 × HI) :=
  if v1 = (3 : Int32) then
    f_X6_doSet_J43 v1 v2 w0 v2 I
  else
    f_X6_doSet_J43 v1 v2 w0 (I 58 3) I
def f_X6_doSet (v1 : Int32) (v2 : Int32) (I : HI) : Option (Int32 × HI) :=
  (f_X6_isSetting v1 v2 I).bind fun q9 =>
  if q9.1 = (0 : Int32) then
    some ((-2 : Int32), q9.2)
  else
    if v1 = (5 : Int32) then
      f_X6_doSet_J27 v1 v2 (1 : Int32) q9.2
    else
      if v1 = (6 : Int32) then
        f_X6_doSet_J27 v1 v2 (1 : Int32) q9.2
      else
        f_X6_doSet_J27 v1 v2 (0 : Int32) q9.2
abbrev rm_X6_doSet : Room := { frames := 3, cells := 0, slots := 0, locals := 66 }
set_option maxHeartbeats 4000000 in
set_option maxRecDepth 100000 in
theorem c_X6_doSet {l : Launch} {g : GX} (hg : gOk g) {v1 : Int32} {v2 : Int32} {I : HI} {r : Int32 × HI} (hf : f_X6_doSet v1 v2 I = some r) : Met l yX6_doSet (Cond.code yX6_doSet cX6_doSet 9 (some .int) :: WL) rm_X6_doSet (xP g [.ref (gR g 57), .int v1, .int v2] I) (xQi g r.1 r.2) 0 0 (gA g) := by
  refine x_met (by decide) hg (Nat.le_of_ble_eq_true rfl) (fun p e s m args below meth c X hr hlk Y ls hl => ?_)
  have hx := X.hx
  have hb := X.hb
  have hl : lv_has ls 9 [(0, .ref (gR g 57)), (1, .int v1), (2, .int v2)] := hl
  have hJ158 : ∀ (v8 : Int32) (I : HI) (H : Heap) (locs : List Loc) (ls : Array Slot), f_X6_doSet_J158 v8 I = some r → XD g I s H locs → lv_has ls 9 [(0, .ref (gR g 57)), (8, .int v8)] → W p l e rm_X6_doSet s m args below meth c H locs 0 0 (MQ below (xQi g r.1 r.2) args s 0 0 (gA g)) (F0 m 158 ls []) := by
    intro v8 I H locs ls hf Y hl
    unfold f_X6_doSet_J158 at hf
    refine lv_aload_n hx hb dX6_doSet_158 rfl (lv_at hl 0 rfl) ?_
    refine lv_aload_n hx hb dX6_doSet_159 rfl (lv_at hl 0 rfl) ?_
    refine x_get (v := .ref (gR g 58)) X Y cl_6 rfl (by decide) 0 (by decide) wf_X6_7 rfl dX6_doSet_160 ?_
    refine lv_bipush (v := 8) hx hb dX6_doSet_163 (by decide) ?_
    refine x_ialdL (k := 8) X Y rfl (by decide) (by decide) (vin (by decide)) dX6_doSet_165 ?_
    obtain ⟨q5, hq, hf⟩ := bnd_t hf
    refine x_cv Y (x_rV (rest := []) X Y k_X6_43 (c_X6_dropsOldest X.hg hq) cl_6.1 rfl (by decide) rfl ⟨rfl, rfl⟩ ⟨by decide, by decide⟩ hl.1 rfl (Nat.le_of_ble_eq_true rfl) dX6_doSet_166 ⟨Nat.zero_le _, Nat.zero_le _⟩) (fun H locs Y => ?_)
    refine lv_iload hx hb dX6_doSet_169 (lv_at hl 1 rfl) ?_
    refine lv_sipush (v := 1000) hx hb dX6_doSet_171 (by decide) ?_
    refine lv_iadd hx hb dX6_doSet_174 ?_
    exact x_iret X Y hr hlk hf dX6_doSet_175
  have hJ130 : ∀ (v1 : Int32) (v2 : Int32) (I : HI) (H : Heap) (locs : List Loc) (ls : Array Slot), f_X6_doSet_J130 v1 v2 I = some r → XD g I s H locs → lv_has ls 9 [(0, .ref (gR g 57)), (1, .int v1), (2, .int v2)] → W p l e rm_X6_doSet s m args below meth c H locs 0 0 (MQ below (xQi g r.1 r.2) args s 0 0 (gA g)) (F0 m 130 ls []) := by
    intro v1 v2 I H locs ls hf Y hl
    unfold f_X6_doSet_J130 at hf
    refine lv_aload_n hx hb dX6_doSet_130 rfl (lv_at hl 0 rfl) ?_
    refine x_get (v := .ref (gR g 58)) X Y cl_6 rfl (by decide) 0 (by decide) wf_X6_7 rfl dX6_doSet_131 ?_
    refine lv_iload_n hx hb dX6_doSet_134 rfl (lv_at hl 1 rfl) ?_
    obtain ⟨hin, hf⟩ := oob_t hf
    refine x_iald X Y rfl hin dX6_doSet_135 ?_
    refine lv_istore (lv' := [(8, _), (0, _), (1, _), (2, _)]) hx hb dX6_doSet_136 hl (by decide) rfl (fun ls hl => ?_)
    refine lv_aload_n hx hb dX6_doSet_138 rfl (lv_at hl 1 rfl) ?_
    refine x_get (v := .ref (gR g 58)) X Y cl_6 rfl (by decide) 0 (by decide) wf_X6_7 rfl dX6_doSet_139 ?_
    refine lv_iload_n hx hb dX6_doSet_142 rfl (lv_at hl 2 rfl) ?_
    refine lv_iload_n hx hb dX6_doSet_143 rfl (lv_at hl 3 rfl) ?_
    obtain ⟨hin, hf⟩ := oob_t hf
    refine x_iast X Y rfl hin dX6_doSet_144 (fun H locs Y => ?_)
    refine lv_iload_n hx hb dX6_doSet_145 rfl (lv_at hl 2 rfl) ?_
    refine lv_iconst (v := 4) hx hb dX6_doSet_146 (by decide) ?_
    refine lv_icmp_gt (tgt := 158) hx hb dX6_doSet_147 (by decide) (fun c => ?_) (fun c => ?_)
    · have hf := ite_t c hf
      exact hJ158 _ _ _ _ _ hf Y (lv_sub hl [1, 0] rfl)
    · have hf := ite_f c hf
      refine lv_aload_n hx hb dX6_doSet_150 rfl (lv_at hl 1 rfl) ?_
      refine x_get (v := .ref (gR g 58)) X Y cl_6 rfl (by decide) 0 (by decide) wf_X6_7 rfl dX6_doSet_151 ?_
      refine lv_bipush (v := 11) hx hb dX6_doSet_154 (by decide) ?_
      refine lv_iconst (v := 0) hx hb dX6_doSet_156 (by decide) ?_
      refine x_iastL (k := 11) X Y rfl (by decide) (vin (by decide)) dX6_doSet_157 (fun H locs Y => ?_)
      exact hJ158 _ _ _ _ _ hf Y (lv_sub hl [1, 0] rfl)
  have hJ96 : ∀ (v1 : Int32) (v2 : Int32) (v3 : Int32) (v4 : Int32) (v5 : Int32) (v6 : Int32) (w0 : Int32) (I : HI) (H : Heap) (locs : List Loc) (ls : Array Slot), f_X6_doSet_J96 v1 v2 v3 v4 v5 v6 w0 I = some r → XD g I s H locs → lv_has ls 9 [(0, .ref (gR g 57)), (1, .int v1), (2, .int v2), (3, .int v3), (4, .int v4), (5, .int v5), (6, .int v6)] → W p l e rm_X6_doSet s m args below meth c H locs 0 0 (MQ below (xQi g r.1 r.2) args s 0 0 (gA g)) (F0 m 96 ls [.int w0]) := by
    intro v1 v2 v3 v4 v5 v6 w0 I H locs ls hf Y hl
    unfold f_X6_doSet_J96 at hf
    refine lv_istore (lv' := [(7, _), (0, _), (1, _), (2, _), (3, _), (4, _), (5, _), (6, _)]) hx hb dX6_doSet_96 hl (by decide) rfl (fun ls hl => ?_)
    refine lv_iload hx hb dX6_doSet_98 (lv_at hl 5 rfl) ?_
    refine lv_iload hx hb dX6_doSet_100 (lv_at hl 6 rfl) ?_
    refine lv_icmp_ge (tgt := 127) hx hb dX6_doSet_102 (by decide) (fun c => ?_) (fun c => ?_)
    · have hf := ite_t c hf
      refine lv_bipush (v := -5) hx hb dX6_doSet_127 (by decide) ?_
      exact x_iret X Y hr hlk hf dX6_doSet_129
    · have hf := ite_f c hf
      refine lv_iload hx hb dX6_doSet_105 (lv_at hl 0 rfl) ?_
      refine lv_iload hx hb dX6_doSet_107 (lv_at hl 7 rfl) ?_
      refine lv_icmp_ge (tgt := 127) hx hb dX6_doSet_109 (by decide) (fun c => ?_) (fun c => ?_)
      · have hf := ite_t c hf
        refine lv_bipush (v := -5) hx hb dX6_doSet_127 (by decide) ?_
        exact x_iret X Y hr hlk hf dX6_doSet_129
      · have hf := ite_f c hf
        refine lv_iload_n hx hb dX6_doSet_112 rfl (lv_at hl 4 rfl) ?_
        refine lv_if_eq (tgt := 130) hx hb dX6_doSet_113 (by decide) (fun c => ?_) (fun c => ?_)
        · have hf := ite_t c hf
          exact hJ130 _ _ _ _ _ _ hf Y (lv_sub hl [1, 2, 3] rfl)
        · have hf := ite_f c hf
          refine lv_aload_n hx hb dX6_doSet_116 rfl (lv_at hl 1 rfl) ?_
          refine x_get (v := .ref (gR g 58)) X Y cl_6 rfl (by decide) 0 (by decide) wf_X6_7 rfl dX6_doSet_117 ?_
          refine lv_bipush (v := 17) hx hb dX6_doSet_120 (by decide) ?_
          refine x_ialdL (k := 17) X Y rfl (by decide) (by decide) (vin (by decide)) dX6_doSet_122 ?_
          refine lv_iconst (v := 1) hx hb dX6_doSet_123 (by decide) ?_
          refine lv_icmp_ne (tgt := 130) hx hb dX6_doSet_124 (by decide) (fun c => ?_) (fun c => ?_)
          · have hf := ite_f c hf
            exact hJ130 _ _ _ _ _ _ hf Y (lv_sub hl [1, 2, 3] rfl)
          · have hf := ite_t c hf
            refine lv_bipush (v := -5) hx hb dX6_doSet_127 (by decide) ?_
            exact x_iret X Y hr hlk hf dX6_doSet_129
  have hJ77 : ∀ (v1 : Int32) (v2 : Int32) (v3 : Int32) (v4 : Int32) (v5 : Int32) (w0 : Int32) (I : HI) (H : Heap) (locs : List Loc) (ls : Array Slot), f_X6_doSet_J77 v1 v2 v3 v4 v5 w0 I = some r → XD g I s H locs → lv_has ls 9 [(0, .ref (gR g 57)), (1, .int v1), (2, .int v2), (3, .int v3), (4, .int v4), (5, .int v5)] → W p l e rm_X6_doSet s m args below meth c H locs 0 0 (MQ below (xQi g r.1 r.2) args s 0 0 (gA g)) (F0 m 77 ls [.int w0]) := by
    intro v1 v2 v3 v4 v5 w0 I H locs ls hf Y hl
    unfold f_X6_doSet_J77 at hf
    refine lv_istore (lv' := [(6, _), (0, _), (1, _), (2, _), (3, _), (4, _), (5, _)]) hx hb dX6_doSet_77 hl (by decide) rfl (fun ls hl => ?_)
    refine lv_iload_n hx hb dX6_doSet_79 rfl (lv_at hl 2 rfl) ?_
    refine lv_bipush (v := 6) hx hb dX6_doSet_80 (by decide) ?_
    refine lv_icmp_ne (tgt := 89) hx hb dX6_doSet_82 (by decide) (fun c => ?_) (fun c => ?_)
    · have hf := ite_f c hf
      refine lv_aload_n hx hb dX6_doSet_89 rfl (lv_at hl 1 rfl) ?_
      refine x_get (v := .ref (gR g 58)) X Y cl_6 rfl (by decide) 0 (by decide) wf_X6_7 rfl dX6_doSet_90 ?_
      refine lv_bipush (v := 6) hx hb dX6_doSet_93 (by decide) ?_
      refine x_ialdL (k := 6) X Y rfl (by decide) (by decide) (vin (by decide)) dX6_doSet_95 ?_
      exact hJ96 _ _ _ _ _ _ _ _ _ _ _ hf Y (lv_sub hl [1, 2, 3, 4, 5, 6, 0] rfl)
    · have hf := ite_t c hf
      refine lv_iload_n hx hb dX6_doSet_85 rfl (lv_at hl 3 rfl) ?_
      refine lv_goto (tgt := 96) hx hb dX6_doSet_86 (by decide) ?_
      exact hJ96 _ _ _ _ _ _ _ _ _ _ _ hf Y (lv_sub hl [1, 2, 3, 4, 5, 6, 0] rfl)
  have hJ60 : ∀ (v1 : Int32) (v2 : Int32) (v3 : Int32) (v4 : Int32) (w0 : Int32) (I : HI) (H : Heap) (locs : List Loc) (ls : Array Slot), f_X6_doSet_J60 v1 v2 v3 v4 w0 I = some r → XD g I s H locs → lv_has ls 9 [(0, .ref (gR g 57)), (1, .int v1), (2, .int v2), (3, .int v3), (4, .int v4)] → W p l e rm_X6_doSet s m args below meth c H locs 0 0 (MQ below (xQi g r.1 r.2) args s 0 0 (gA g)) (F0 m 60 ls [.int w0]) := by
    intro v1 v2 v3 v4 w0 I H locs ls hf Y hl
    unfold f_X6_doSet_J60 at hf
    refine lv_istore (lv' := [(5, _), (0, _), (1, _), (2, _), (3, _), (4, _)]) hx hb dX6_doSet_60 hl (by decide) rfl (fun ls hl => ?_)
    refine lv_iload_n hx hb dX6_doSet_62 rfl (lv_at hl 2 rfl) ?_
    refine lv_iconst (v := 5) hx hb dX6_doSet_63 (by decide) ?_
    refine lv_icmp_ne (tgt := 71) hx hb dX6_doSet_64 (by decide) (fun c => ?_) (fun c => ?_)
    · have hf := ite_f c hf
      refine lv_aload_n hx hb dX6_doSet_71 rfl (lv_at hl 1 rfl) ?_
      refine x_get (v := .ref (gR g 58)) X Y cl_6 rfl (by decide) 0 (by decide) wf_X6_7 rfl dX6_doSet_72 ?_
      refine lv_iconst (v := 5) hx hb dX6_doSet_75 (by decide) ?_
      refine x_ialdL (k := 5) X Y rfl (by decide) (by decide) (vin (by decide)) dX6_doSet_76 ?_
      exact hJ77 _ _ _ _ _ _ _ _ _ _ hf Y (lv_sub hl [1, 2, 3, 4, 5, 0] rfl)
    · have hf := ite_t c hf
      refine lv_iload_n hx hb dX6_doSet_67 rfl (lv_at hl 3 rfl) ?_
      refine lv_goto (tgt := 77) hx hb dX6_doSet_68 (by decide) ?_
      exact hJ77 _ _ _ _ _ _ _ _ _ _ hf Y (lv_sub hl [1, 2, 3, 4, 5, 0] rfl)
  have hJ43 : ∀ (v1 : Int32) (v2 : Int32) (v3 : Int32) (w0 : Int32) (I : HI) (H : Heap) (locs : List Loc) (ls : Array Slot), f_X6_doSet_J43 v1 v2 v3 w0 I = some r → XD g I s H locs → lv_has ls 9 [(0, .ref (gR g 57)), (1, .int v1), (2, .int v2), (3, .int v3)] → W p l e rm_X6_doSet s m args below meth c H locs 0 0 (MQ below (xQi g r.1 r.2) args s 0 0 (gA g)) (F0 m 43 ls [.int w0]) := by
    intro v1 v2 v3 w0 I H locs ls hf Y hl
    unfold f_X6_doSet_J43 at hf
    refine lv_istore (lv' := [(4, _), (0, _), (1, _), (2, _), (3, _)]) hx hb dX6_doSet_43 hl (by decide) rfl (fun ls hl => ?_)
    refine lv_iload_n hx hb dX6_doSet_45 rfl (lv_at hl 2 rfl) ?_
    refine lv_iconst (v := 4) hx hb dX6_doSet_46 (by decide) ?_
    refine lv_icmp_ne (tgt := 54) hx hb dX6_doSet_47 (by decide) (fun c => ?_) (fun c => ?_)
    · have hf := ite_f c hf
      refine lv_aload_n hx hb dX6_doSet_54 rfl (lv_at hl 1 rfl) ?_
      refine x_get (v := .ref (gR g 58)) X Y cl_6 rfl (by decide) 0 (by decide) wf_X6_7 rfl dX6_doSet_55 ?_
      refine lv_iconst (v := 4) hx hb dX6_doSet_58 (by decide) ?_
      refine x_ialdL (k := 4) X Y rfl (by decide) (by decide) (vin (by decide)) dX6_doSet_59 ?_
      exact hJ60 _ _ _ _ _ _ _ _ _ hf Y (lv_sub hl [1, 2, 3, 4, 0] rfl)
    · have hf := ite_t c hf
      refine lv_iload_n hx hb dX6_doSet_50 rfl (lv_at hl 3 rfl) ?_
      refine lv_goto (tgt := 60) hx hb dX6_doSet_51 (by decide) ?_
      exact hJ60 _ _ _ _ _ _ _ _ _ hf Y (lv_sub hl [1, 2, 3, 4, 0] rfl)
  have hJ27 : ∀ (v1 : Int32) (v2 : Int32) (w0 : Int32) (I : HI) (H : Heap) (locs : List Loc) (ls : Array Slot), f_X6_doSet_J27 v1 v2 w0 I = some r → XD g I s H locs → lv_has ls 9 [(0, .ref (gR g 57)), (1, .int v1), (2, .int v2)] → W p l e rm_X6_doSet s m args below meth c H locs 0 0 (MQ below (xQi g r.1 r.2) args s 0 0 (gA g)) (F0 m 27 ls [.int w0]) := by
    intro v1 v2 w0 I H locs ls hf Y hl
    unfold f_X6_doSet_J27 at hf
    refine lv_istore_n (lv' := [(3, _), (0, _), (1, _), (2, _)]) hx hb dX6_doSet_27 rfl hl (by decide) rfl (fun ls hl => ?_)
    refine lv_iload_n hx hb dX6_doSet_28 rfl (lv_at hl 2 rfl) ?_
    refine lv_iconst (v := 3) hx hb dX6_doSet_29 (by decide) ?_
    refine lv_icmp_ne (tgt := 37) hx hb dX6_doSet_30 (by decide) (fun c => ?_) (fun c => ?_)
    · have hf := ite_f c hf
      refine lv_aload_n hx hb dX6_doSet_37 rfl (lv_at hl 1 rfl) ?_
      refine x_get (v := .ref (gR g 58)) X Y cl_6 rfl (by decide) 0 (by decide) wf_X6_7 rfl dX6_doSet_38 ?_
      refine lv_iconst (v := 3) hx hb dX6_doSet_41 (by decide) ?_
      refine x_ialdL (k := 3) X Y rfl (by decide) (by decide) (vin (by decide)) dX6_doSet_42 ?_
      exact hJ43 _ _ _ _ _ _ _ _ hf Y (lv_sub hl [1, 2, 3, 0] rfl)
    · have hf := ite_t c hf
      refine lv_iload_n hx hb dX6_doSet_33 rfl (lv_at hl 3 rfl) ?_
      refine lv_goto (tgt := 43) hx hb dX6_doSet_34 (by decide) ?_
      exact hJ43 _ _ _ _ _ _ _ _ hf Y (lv_sub hl [1, 2, 3, 0] rfl)
  unfold f_X6_doSet at hf
  refine lv_iload_n hx hb dX6_doSet_0 rfl (lv_at hl 1 rfl) ?_
  refine lv_iload_n hx hb dX6_doSet_1 rfl (lv_at hl 2 rfl) ?_
  obtain ⟨q9, hq, hf⟩ := bnd_t hf
  refine x_ci Y (x_rS (rest := []) X Y k_X6_90 (c_X6_isSetting X.hg hq) rfl ⟨rfl, rfl⟩ ⟨by decide, by decide⟩ hl.1 rfl (Nat.le_of_ble_eq_true rfl) dX6_doSet_2 ⟨Nat.zero_le _, Nat.zero_le _⟩) (fun H locs Y => ?_)
  refine lv_if_ne (tgt := 11) hx hb dX6_doSet_5 (by decide) (fun c => ?_) (fun c => ?_)
  · have hf := ite_f c hf
    refine lv_iload_n hx hb dX6_doSet_11 rfl (lv_at hl 1 rfl) ?_
    refine lv_iconst (v := 5) hx hb dX6_doSet_12 (by decide) ?_
    refine lv_icmp_eq (tgt := 22) hx hb dX6_doSet_13 (by decide) (fun c => ?_) (fun c => ?_)
    · have hf := ite_t c hf
      refine lv_iconst (v := 1) hx hb dX6_doSet_22 (by decide) ?_
      refine lv_goto (tgt := 27) hx hb dX6_doSet_23 (by decide) ?_
      exact hJ27 _ _ _ _ _ _ _ hf Y (lv_sub hl [0, 1, 2] rfl)
    · have hf := ite_f c hf
      refine lv_iload_n hx hb dX6_doSet_16 rfl (lv_at hl 1 rfl) ?_
      refine lv_bipush (v := 6) hx hb dX6_doSet_17 (by decide) ?_
      refine lv_icmp_ne (tgt := 26) hx hb dX6_doSet_19 (by decide) (fun c => ?_) (fun c => ?_)
      · have hf := ite_f c hf
        refine lv_iconst (v := 0) hx hb dX6_doSet_26 (by decide) ?_
        exact hJ27 _ _ _ _ _ _ _ hf Y (lv_sub hl [0, 1, 2] rfl)
      · have hf := ite_t c hf
        refine lv_iconst (v := 1) hx hb dX6_doSet_22 (by decide) ?_
        refine lv_goto (tgt := 27) hx hb dX6_doSet_23 (by decide) ?_
        exact hJ27 _ _ _ _ _ _ _ hf Y (lv_sub hl [0, 1, 2] rfl)
  · have hf := ite_t c hf
    refine lv_bipush (v := -2) hx hb dX6_doSet_8 (by decide) ?_
    exact x_iret X Y hr hlk hf dX6_doSet_10
def f_X6_doClear (I : HI) : Option (Int32 × HI) :=
  let x6 := I 58 22
  let I7 := upI I 58 10 (0 : Int32)
  let I8 := upI I7 58 11 (0 : Int32)
  let I9 := upI I8 58 16 (0 : Int32)
  let I10 := upI I9 58 17 (0 : Int32)
  let I11 := upI I10 58 22 (0 : Int32)
  some (x6, I11)
abbrev rm_X6_doClear : Room := { frames := 0, cells := 0, slots := 0, locals := 0 }
set_option maxHeartbeats 4000000 in
set_option maxRecDepth 100000 in
theorem c_X6_doClear {l : Launch} {g : GX} (hg : gOk g) {I : HI} {r : Int32 × HI} (hf : f_X6_doClear I = some r) : Met l yX6_doClear (Cond.code yX6_doClear cX6_doClear 2 (some .int) :: WL) rm_X6_doClear (xP g [.ref (gR g 57)] I) (xQi g r.1 r.2) 0 0 (gA g) := by
  refine x_met (by decide) hg (Nat.le_of_ble_eq_true rfl) (fun p e s m args below meth c X hr hlk Y ls hl => ?_)
  have hx := X.hx
  have hb := X.hb
  have hl : lv_has ls 2 [(0, .ref (gR g 57))] := hl
  unfold f_X6_doClear at hf
  refine lv_aload_n hx hb dX6_doClear_0 rfl (lv_at hl 0 rfl) ?_
  refine x_get (v := .ref (gR g 58)) X Y cl_6 rfl (by decide) 0 (by decide) wf_X6_7 rfl dX6_doClear_1 ?_
  refine lv_bipush (v := 22) hx hb dX6_doClear_4 (by decide) ?_
  refine x_ialdL (k := 22) X Y rfl (by decide) (by decide) (vin (by decide)) dX6_doClear_6 ?_
  refine lv_istore_n (lv' := [(1, _), (0, _)]) hx hb dX6_doClear_7 rfl hl (by decide) rfl (fun ls hl => ?_)
  refine lv_aload_n hx hb dX6_doClear_8 rfl (lv_at hl 1 rfl) ?_
  refine x_get (v := .ref (gR g 58)) X Y cl_6 rfl (by decide) 0 (by decide) wf_X6_7 rfl dX6_doClear_9 ?_
  refine lv_bipush (v := 10) hx hb dX6_doClear_12 (by decide) ?_
  refine lv_iconst (v := 0) hx hb dX6_doClear_14 (by decide) ?_
  refine x_iastL (k := 10) X Y rfl (by decide) (vin (by decide)) dX6_doClear_15 (fun H locs Y => ?_)
  refine lv_aload_n hx hb dX6_doClear_16 rfl (lv_at hl 1 rfl) ?_
  refine x_get (v := .ref (gR g 58)) X Y cl_6 rfl (by decide) 0 (by decide) wf_X6_7 rfl dX6_doClear_17 ?_
  refine lv_bipush (v := 11) hx hb dX6_doClear_20 (by decide) ?_
  refine lv_iconst (v := 0) hx hb dX6_doClear_22 (by decide) ?_
  refine x_iastL (k := 11) X Y rfl (by decide) (vin (by decide)) dX6_doClear_23 (fun H locs Y => ?_)
  refine lv_aload_n hx hb dX6_doClear_24 rfl (lv_at hl 1 rfl) ?_
  refine x_get (v := .ref (gR g 58)) X Y cl_6 rfl (by decide) 0 (by decide) wf_X6_7 rfl dX6_doClear_25 ?_
  refine lv_bipush (v := 16) hx hb dX6_doClear_28 (by decide) ?_
  refine lv_iconst (v := 0) hx hb dX6_doClear_30 (by decide) ?_
  refine x_iastL (k := 16) X Y rfl (by decide) (vin (by decide)) dX6_doClear_31 (fun H locs Y => ?_)
  refine lv_aload_n hx hb dX6_doClear_32 rfl (lv_at hl 1 rfl) ?_
  refine x_get (v := .ref (gR g 58)) X Y cl_6 rfl (by decide) 0 (by decide) wf_X6_7 rfl dX6_doClear_33 ?_
  refine lv_bipush (v := 17) hx hb dX6_doClear_36 (by decide) ?_
  refine lv_iconst (v := 0) hx hb dX6_doClear_38 (by decide) ?_
  refine x_iastL (k := 17) X Y rfl (by decide) (vin (by decide)) dX6_doClear_39 (fun H locs Y => ?_)
  refine lv_aload_n hx hb dX6_doClear_40 rfl (lv_at hl 1 rfl) ?_
  refine x_get (v := .ref (gR g 58)) X Y cl_6 rfl (by decide) 0 (by decide) wf_X6_7 rfl dX6_doClear_41 ?_
  refine lv_bipush (v := 22) hx hb dX6_doClear_44 (by decide) ?_
  refine lv_iconst (v := 0) hx hb dX6_doClear_46 (by decide) ?_
  refine x_iastL (k := 22) X Y rfl (by decide) (vin (by decide)) dX6_doClear_47 (fun H locs Y => ?_)
  refine lv_iload_n hx hb dX6_doClear_48 rfl (lv_at hl 0 rfl) ?_
  exact x_iret X Y hr hlk hf dX6_doClear_49
def f_X6_set (v1 : Int32) (v2 : Int32) (I : HI) : Option (Int32 × HI) :=
  (f_X6_keep I).bind fun q4 =>
  (f_X6_doSet v1 v2 q4.2).bind fun q5 =>
  if (0 : Int32) ≤ q5.1 then
    (f_X6_changed q5.1 q5.2).bind fun q6 =>
    some (q6.1, q6.2)
  else
    some (q5.1, q5.2)
abbrev rm_X6_set : Room := { frames := 4, cells := 0, slots := 0, locals := 94 }
set_option maxHeartbeats 4000000 in
set_option maxRecDepth 100000 in
theorem c_X6_set {l : Launch} {g : GX} (hg : gOk g) {v1 : Int32} {v2 : Int32} {I : HI} {r : Int32 × HI} (hf : f_X6_set v1 v2 I = some r) : Met l yX6_set (Cond.code yX6_set cX6_set 4 (some .int) :: WL) rm_X6_set (xP g [.ref (gR g 57), .int v1, .int v2] I) (xQi g r.1 r.2) 0 0 (gA g) := by
  refine x_met (by decide) hg (Nat.le_of_ble_eq_true rfl) (fun p e s m args below meth c X hr hlk Y ls hl => ?_)
  have hx := X.hx
  have hb := X.hb
  have hl : lv_has ls 4 [(0, .ref (gR g 57)), (1, .int v1), (2, .int v2)] := hl
  unfold f_X6_set at hf
  refine lv_aload_n hx hb dX6_set_0 rfl (lv_at hl 0 rfl) ?_
  obtain ⟨q4, hq, hf⟩ := bnd_t hf
  refine x_cv Y (x_rV (rest := []) X Y k_X6_94 (c_X6_keep X.hg hq) cl_6.1 rfl (by decide) rfl ⟨rfl, rfl⟩ ⟨by decide, by decide⟩ hl.1 rfl (Nat.le_of_ble_eq_true rfl) dX6_set_1 ⟨Nat.zero_le _, Nat.zero_le _⟩) (fun H locs Y => ?_)
  refine lv_aload_n hx hb dX6_set_4 rfl (lv_at hl 0 rfl) ?_
  refine lv_iload_n hx hb dX6_set_5 rfl (lv_at hl 1 rfl) ?_
  refine lv_iload_n hx hb dX6_set_6 rfl (lv_at hl 2 rfl) ?_
  obtain ⟨q5, hq, hf⟩ := bnd_t hf
  refine x_ci Y (x_rV (rest := []) X Y k_X6_97 (c_X6_doSet X.hg hq) cl_6.1 rfl (by decide) rfl ⟨rfl, rfl⟩ ⟨by decide, by decide⟩ hl.1 rfl (Nat.le_of_ble_eq_true rfl) dX6_set_7 ⟨Nat.zero_le _, Nat.zero_le _⟩) (fun H locs Y => ?_)
  refine lv_istore_n (lv' := [(3, _), (0, _), (1, _), (2, _)]) hx hb dX6_set_10 rfl hl (by decide) rfl (fun ls hl => ?_)
  refine lv_iload_n hx hb dX6_set_11 rfl (lv_at hl 0 rfl) ?_
  refine lv_if_ge (tgt := 19) hx hb dX6_set_12 (by decide) (fun c => ?_) (fun c => ?_)
  · have hf := ite_t c hf
    refine lv_aload_n hx hb dX6_set_19 rfl (lv_at hl 1 rfl) ?_
    refine lv_iload_n hx hb dX6_set_20 rfl (lv_at hl 0 rfl) ?_
    obtain ⟨q6, hq, hf⟩ := bnd_t hf
    refine x_ci Y (x_rV (rest := []) X Y k_X6_101 (c_X6_changed X.hg hq) cl_6.1 rfl (by decide) rfl ⟨rfl, rfl⟩ ⟨by decide, by decide⟩ hl.1 rfl (Nat.le_of_ble_eq_true rfl) dX6_set_21 ⟨Nat.zero_le _, Nat.zero_le _⟩) (fun H locs Y => ?_)
    exact x_iret X Y hr hlk hf dX6_set_24
  · have hf := ite_f c hf
    refine lv_iload_n hx hb dX6_set_15 rfl (lv_at hl 0 rfl) ?_
    refine lv_goto (tgt := 24) hx hb dX6_set_16 (by decide) ?_
    exact x_iret X Y hr hlk hf dX6_set_24
def f_X6_feed (v1 : Int32) (v2 : Int32) (I : HI) : Option (Int32 × HI) :=
  (f_X6_keep I).bind fun q4 =>
  (f_X6_doFeed v1 v2 q4.2).bind fun q5 =>
  if (0 : Int32) ≤ q5.1 then
    (f_X6_changed q5.1 q5.2).bind fun q6 =>
    some (q6.1, q6.2)
  else
    some (q5.1, q5.2)
abbrev rm_X6_feed : Room := { frames := 5, cells := 0, slots := 0, locals := 110 }
set_option maxHeartbeats 4000000 in
set_option maxRecDepth 100000 in
theorem c_X6_feed {l : Launch} {g : GX} (hg : gOk g) {v1 : Int32} {v2 : Int32} {I : HI} {r : Int32 × HI} (hf : f_X6_feed v1 v2 I = some r) : Met l yX6_feed (Cond.code yX6_feed cX6_feed 4 (some .int) :: WL) rm_X6_feed (xP g [.ref (gR g 57), .int v1, .int v2] I) (xQi g r.1 r.2) 0 0 (gA g) := by
  refine x_met (by decide) hg (Nat.le_of_ble_eq_true rfl) (fun p e s m args below meth c X hr hlk Y ls hl => ?_)
  have hx := X.hx
  have hb := X.hb
  have hl : lv_has ls 4 [(0, .ref (gR g 57)), (1, .int v1), (2, .int v2)] := hl
  unfold f_X6_feed at hf
  refine lv_aload_n hx hb dX6_feed_0 rfl (lv_at hl 0 rfl) ?_
  obtain ⟨q4, hq, hf⟩ := bnd_t hf
  refine x_cv Y (x_rV (rest := []) X Y k_X6_94 (c_X6_keep X.hg hq) cl_6.1 rfl (by decide) rfl ⟨rfl, rfl⟩ ⟨by decide, by decide⟩ hl.1 rfl (Nat.le_of_ble_eq_true rfl) dX6_feed_1 ⟨Nat.zero_le _, Nat.zero_le _⟩) (fun H locs Y => ?_)
  refine lv_aload_n hx hb dX6_feed_4 rfl (lv_at hl 0 rfl) ?_
  refine lv_iload_n hx hb dX6_feed_5 rfl (lv_at hl 1 rfl) ?_
  refine lv_iload_n hx hb dX6_feed_6 rfl (lv_at hl 2 rfl) ?_
  obtain ⟨q5, hq, hf⟩ := bnd_t hf
  refine x_ci Y (x_rV (rest := []) X Y k_X6_105 (c_X6_doFeed X.hg hq) cl_6.1 rfl (by decide) rfl ⟨rfl, rfl⟩ ⟨by decide, by decide⟩ hl.1 rfl (Nat.le_of_ble_eq_true rfl) dX6_feed_7 ⟨Nat.zero_le _, Nat.zero_le _⟩) (fun H locs Y => ?_)
  refine lv_istore_n (lv' := [(3, _), (0, _), (1, _), (2, _)]) hx hb dX6_feed_10 rfl hl (by decide) rfl (fun ls hl => ?_)
  refine lv_iload_n hx hb dX6_feed_11 rfl (lv_at hl 0 rfl) ?_
  refine lv_if_ge (tgt := 19) hx hb dX6_feed_12 (by decide) (fun c => ?_) (fun c => ?_)
  · have hf := ite_t c hf
    refine lv_aload_n hx hb dX6_feed_19 rfl (lv_at hl 1 rfl) ?_
    refine lv_iload_n hx hb dX6_feed_20 rfl (lv_at hl 0 rfl) ?_
    obtain ⟨q6, hq, hf⟩ := bnd_t hf
    refine x_ci Y (x_rV (rest := []) X Y k_X6_101 (c_X6_changed X.hg hq) cl_6.1 rfl (by decide) rfl ⟨rfl, rfl⟩ ⟨by decide, by decide⟩ hl.1 rfl (Nat.le_of_ble_eq_true rfl) dX6_feed_21 ⟨Nat.zero_le _, Nat.zero_le _⟩) (fun H locs Y => ?_)
    exact x_iret X Y hr hlk hf dX6_feed_24
  · have hf := ite_f c hf
    refine lv_iload_n hx hb dX6_feed_15 rfl (lv_at hl 0 rfl) ?_
    refine lv_goto (tgt := 24) hx hb dX6_feed_16 (by decide) ?_
    exact x_iret X Y hr hlk hf dX6_feed_24
def f_X6_clear (I : HI) : Option (Int32 × HI) :=
  (f_X6_keep I).bind fun q4 =>
  (f_X6_doClear q4.2).bind fun q5 =>
  (f_X6_changed q5.1 q5.2).bind fun q6 =>
  some (q6.1, q6.2)
abbrev rm_X6_clear : Room := { frames := 1, cells := 0, slots := 0, locals := 22 }
set_option maxHeartbeats 4000000 in
set_option maxRecDepth 100000 in
theorem c_X6_clear {l : Launch} {g : GX} (hg : gOk g) {I : HI} {r : Int32 × HI} (hf : f_X6_clear I = some r) : Met l yX6_clear (Cond.code yX6_clear cX6_clear 1 (some .int) :: WL) rm_X6_clear (xP g [.ref (gR g 57)] I) (xQi g r.1 r.2) 0 0 (gA g) := by
  refine x_met (by decide) hg (Nat.le_of_ble_eq_true rfl) (fun p e s m args below meth c X hr hlk Y ls hl => ?_)
  have hx := X.hx
  have hb := X.hb
  have hl : lv_has ls 1 [(0, .ref (gR g 57))] := hl
  unfold f_X6_clear at hf
  refine lv_aload_n hx hb dX6_clear_0 rfl (lv_at hl 0 rfl) ?_
  obtain ⟨q4, hq, hf⟩ := bnd_t hf
  refine x_cv Y (x_rV (rest := []) X Y k_X6_94 (c_X6_keep X.hg hq) cl_6.1 rfl (by decide) rfl ⟨rfl, rfl⟩ ⟨by decide, by decide⟩ hl.1 rfl (Nat.le_of_ble_eq_true rfl) dX6_clear_1 ⟨Nat.zero_le _, Nat.zero_le _⟩) (fun H locs Y => ?_)
  refine lv_aload_n hx hb dX6_clear_4 rfl (lv_at hl 0 rfl) ?_
  refine lv_aload_n hx hb dX6_clear_5 rfl (lv_at hl 0 rfl) ?_
  obtain ⟨q5, hq, hf⟩ := bnd_t hf
  refine x_ci Y (x_rV (rest := [_]) X Y k_X6_108 (c_X6_doClear X.hg hq) cl_6.1 rfl (by decide) rfl ⟨rfl, rfl⟩ ⟨by decide, by decide⟩ hl.1 rfl (Nat.le_of_ble_eq_true rfl) dX6_clear_6 ⟨Nat.zero_le _, Nat.zero_le _⟩) (fun H locs Y => ?_)
  obtain ⟨q6, hq, hf⟩ := bnd_t hf
  refine x_ci Y (x_rV (rest := []) X Y k_X6_101 (c_X6_changed X.hg hq) cl_6.1 rfl (by decide) rfl ⟨rfl, rfl⟩ ⟨by decide, by decide⟩ hl.1 rfl (Nat.le_of_ble_eq_true rfl) dX6_clear_9 ⟨Nat.zero_le _, Nat.zero_le _⟩) (fun H locs Y => ?_)
  exact x_iret X Y hr hlk hf dX6_clear_12
def f_X6_isSegment (v1 : Int32) (I : HI) : Option (Int32 × HI) :=
  (f_X6_in (v1.toInt64) (0 : Int64) (((I 58 22).toInt64) - (1 : Int64)) I).bind fun q2 =>
  if q2.1 = 0 ∨ q2.1 = 1 then some (q2.1, q2.2) else none
abbrev rm_X6_isSegment : Room := { frames := 1, cells := 0, slots := 0, locals := 25 }
set_option maxHeartbeats 4000000 in
set_option maxRecDepth 100000 in
theorem c_X6_isSegment {l : Launch} {g : GX} (hg : gOk g) {v1 : Int32} {I : HI} {r : Int32 × HI} (hf : f_X6_isSegment v1 I = some r) : Met l yX6_isSegment (Cond.code yX6_isSegment cX6_isSegment 2 (some .boolean) :: WL) rm_X6_isSegment (xP g [.ref (gR g 57), .int v1] I) (xQi g r.1 r.2) 0 0 (gA g) := by
  refine x_met (by decide) hg (Nat.le_of_ble_eq_true rfl) (fun p e s m args below meth c X hr hlk Y ls hl => ?_)
  have hx := X.hx
  have hb := X.hb
  have hl : lv_has ls 2 [(0, .ref (gR g 57)), (1, .int v1)] := hl
  unfold f_X6_isSegment at hf
  refine lv_iload_n hx hb dX6_isSegment_0 rfl (lv_at hl 1 rfl) ?_
  refine lv_i2l hx hb dX6_isSegment_1 rfl ?_
  refine lv_lconst (v := 0) hx hb dX6_isSegment_2 (by decide) ?_
  refine lv_aload_n hx hb dX6_isSegment_3 rfl (lv_at hl 0 rfl) ?_
  refine x_get (v := .ref (gR g 58)) X Y cl_6 rfl (by decide) 0 (by decide) wf_X6_7 rfl dX6_isSegment_4 ?_
  refine lv_bipush (v := 22) hx hb dX6_isSegment_7 (by decide) ?_
  refine x_ialdL (k := 22) X Y rfl (by decide) (by decide) (vin (by decide)) dX6_isSegment_9 ?_
  refine lv_i2l hx hb dX6_isSegment_10 rfl ?_
  refine lv_lconst (v := 1) hx hb dX6_isSegment_11 (by decide) ?_
  refine lv_lsub hx hb dX6_isSegment_12 ?_
  obtain ⟨q2, hq, hf⟩ := bnd_t hf
  refine x_ci Y (x_rS (rest := []) X Y k_X6_67 (c_X6_in X.hg hq) rfl ⟨rfl, rfl⟩ ⟨by decide, by decide⟩ hl.1 rfl (Nat.le_of_ble_eq_true rfl) dX6_isSegment_13 ⟨Nat.zero_le _, Nat.zero_le _⟩) (fun H locs Y => ?_)
  obtain ⟨hz, hf⟩ := bool_t hf
  exact x_zret X Y hr hlk hz hf dX6_isSegment_16
def f_X6_drop (v1 : Int32) (I : HI) : Option (Int32 × HI) :=
  (f_X6_isSegment v1 I).bind fun q5 =>
  if q5.1 = (0 : Int32) then
    some ((-1 : Int32), q5.2)
  else
    (f_X6_keep q5.2).bind fun q6 =>
    (f_X6_takesOut v1 q6.2).bind fun q7 =>
    (f_X6_changed (q7.2 58 22) q7.2).bind fun q8 =>
    some (q8.1, q8.2)
abbrev rm_X6_drop : Room := { frames := 2, cells := 0, slots := 0, locals := 46 }
set_option maxHeartbeats 4000000 in
set_option maxRecDepth 100000 in
theorem c_X6_drop {l : Launch} {g : GX} (hg : gOk g) {v1 : Int32} {I : HI} {r : Int32 × HI} (hf : f_X6_drop v1 I = some r) : Met l yX6_drop (Cond.code yX6_drop cX6_drop 2 (some .int) :: WL) rm_X6_drop (xP g [.ref (gR g 57), .int v1] I) (xQi g r.1 r.2) 0 0 (gA g) := by
  refine x_met (by decide) hg (Nat.le_of_ble_eq_true rfl) (fun p e s m args below meth c X hr hlk Y ls hl => ?_)
  have hx := X.hx
  have hb := X.hb
  have hl : lv_has ls 2 [(0, .ref (gR g 57)), (1, .int v1)] := hl
  unfold f_X6_drop at hf
  refine lv_aload_n hx hb dX6_drop_0 rfl (lv_at hl 0 rfl) ?_
  refine lv_iload_n hx hb dX6_drop_1 rfl (lv_at hl 1 rfl) ?_
  obtain ⟨q5, hq, hf⟩ := bnd_t hf
  refine x_ci Y (x_rV (rest := []) X Y k_X6_111 (c_X6_isSegment X.hg hq) cl_6.1 rfl (by decide) rfl ⟨rfl, rfl⟩ ⟨by decide, by decide⟩ hl.1 rfl (Nat.le_of_ble_eq_true rfl) dX6_drop_2 ⟨Nat.zero_le _, Nat.zero_le _⟩) (fun H locs Y => ?_)
  refine lv_if_ne (tgt := 10) hx hb dX6_drop_5 (by decide) (fun c => ?_) (fun c => ?_)
  · have hf := ite_f c hf
    refine lv_aload_n hx hb dX6_drop_10 rfl (lv_at hl 0 rfl) ?_
    obtain ⟨q6, hq, hf⟩ := bnd_t hf
    refine x_cv Y (x_rV (rest := []) X Y k_X6_94 (c_X6_keep X.hg hq) cl_6.1 rfl (by decide) rfl ⟨rfl, rfl⟩ ⟨by decide, by decide⟩ hl.1 rfl (Nat.le_of_ble_eq_true rfl) dX6_drop_11 ⟨Nat.zero_le _, Nat.zero_le _⟩) (fun H locs Y => ?_)
    refine lv_aload_n hx hb dX6_drop_14 rfl (lv_at hl 0 rfl) ?_
    refine lv_iload_n hx hb dX6_drop_15 rfl (lv_at hl 1 rfl) ?_
    obtain ⟨q7, hq, hf⟩ := bnd_t hf
    refine x_cv Y (x_rV (rest := []) X Y k_X6_39 (c_X6_takesOut X.hg hq) cl_6.1 rfl (by decide) rfl ⟨rfl, rfl⟩ ⟨by decide, by decide⟩ hl.1 rfl (Nat.le_of_ble_eq_true rfl) dX6_drop_16 ⟨Nat.zero_le _, Nat.zero_le _⟩) (fun H locs Y => ?_)
    refine lv_aload_n hx hb dX6_drop_19 rfl (lv_at hl 0 rfl) ?_
    refine lv_aload_n hx hb dX6_drop_20 rfl (lv_at hl 0 rfl) ?_
    refine x_get (v := .ref (gR g 58)) X Y cl_6 rfl (by decide) 0 (by decide) wf_X6_7 rfl dX6_drop_21 ?_
    refine lv_bipush (v := 22) hx hb dX6_drop_24 (by decide) ?_
    refine x_ialdL (k := 22) X Y rfl (by decide) (by decide) (vin (by decide)) dX6_drop_26 ?_
    obtain ⟨q8, hq, hf⟩ := bnd_t hf
    refine x_ci Y (x_rV (rest := []) X Y k_X6_101 (c_X6_changed X.hg hq) cl_6.1 rfl (by decide) rfl ⟨rfl, rfl⟩ ⟨by decide, by decide⟩ hl.1 rfl (Nat.le_of_ble_eq_true rfl) dX6_drop_27 ⟨Nat.zero_le _, Nat.zero_le _⟩) (fun H locs Y => ?_)
    exact x_iret X Y hr hlk hf dX6_drop_30
  · have hf := ite_t c hf
    refine lv_iconst (v := -1) hx hb dX6_drop_8 (by decide) ?_
    exact x_iret X Y hr hlk hf dX6_drop_9
def f_X6_of (v1 : Int32) (v2 : Int32) (I : HI) : Option (Int32 × HI) :=
  if (((23 : Int32) + ((4 : Int32) * v1)) + v2) < 0 ∨ 447 ≤ (((23 : Int32) + ((4 : Int32) * v1)) + v2).toNatClampNeg then none else
  some (I 58 (((23 : Int32) + ((4 : Int32) * v1)) + v2).toNatClampNeg, I)
abbrev rm_X6_of : Room := { frames := 0, cells := 0, slots := 0, locals := 0 }
set_option maxHeartbeats 4000000 in
set_option maxRecDepth 100000 in
theorem c_X6_of {l : Launch} {g : GX} (hg : gOk g) {v1 : Int32} {v2 : Int32} {I : HI} {r : Int32 × HI} (hf : f_X6_of v1 v2 I = some r) : Met l yX6_of (Cond.code yX6_of cX6_of 3 (some .int) :: WL) rm_X6_of (xP g [.ref (gR g 57), .int v1, .int v2] I) (xQi g r.1 r.2) 0 0 (gA g) := by
  refine x_met (by decide) hg (Nat.le_of_ble_eq_true rfl) (fun p e s m args below meth c X hr hlk Y ls hl => ?_)
  have hx := X.hx
  have hb := X.hb
  have hl : lv_has ls 3 [(0, .ref (gR g 57)), (1, .int v1), (2, .int v2)] := hl
  unfold f_X6_of at hf
  refine lv_aload_n hx hb dX6_of_0 rfl (lv_at hl 0 rfl) ?_
  refine x_get (v := .ref (gR g 58)) X Y cl_6 rfl (by decide) 0 (by decide) wf_X6_7 rfl dX6_of_1 ?_
  refine lv_bipush (v := 23) hx hb dX6_of_4 (by decide) ?_
  refine lv_iconst (v := 4) hx hb dX6_of_6 (by decide) ?_
  refine lv_iload_n hx hb dX6_of_7 rfl (lv_at hl 1 rfl) ?_
  refine lv_imul hx hb dX6_of_8 ?_
  refine lv_iadd hx hb dX6_of_9 ?_
  refine lv_iload_n hx hb dX6_of_10 rfl (lv_at hl 2 rfl) ?_
  refine lv_iadd hx hb dX6_of_11 ?_
  obtain ⟨hin, hf⟩ := oob_t hf
  refine x_iald X Y rfl hin dX6_of_12 ?_
  exact x_iret X Y hr hlk hf dX6_of_13
def f_X6_numberOf (v1 : Int32) (v2 : Int32) (I : HI) : Option (Int32 × HI) :=
  (f_X6_of v1 (0 : Int32) I).bind fun q3 =>
  (f_X6_of v1 (2 : Int32) q3.2).bind fun q4 =>
  some ((q3.1 - q4.1) + v2, q4.2)
abbrev rm_X6_numberOf : Room := { frames := 1, cells := 0, slots := 0, locals := 22 }
set_option maxHeartbeats 4000000 in
set_option maxRecDepth 100000 in
theorem c_X6_numberOf {l : Launch} {g : GX} (hg : gOk g) {v1 : Int32} {v2 : Int32} {I : HI} {r : Int32 × HI} (hf : f_X6_numberOf v1 v2 I = some r) : Met l yX6_numberOf (Cond.code yX6_numberOf cX6_numberOf 3 (some .int) :: WL) rm_X6_numberOf (xP g [.ref (gR g 57), .int v1, .int v2] I) (xQi g r.1 r.2) 0 0 (gA g) := by
  refine x_met (by decide) hg (Nat.le_of_ble_eq_true rfl) (fun p e s m args below meth c X hr hlk Y ls hl => ?_)
  have hx := X.hx
  have hb := X.hb
  have hl : lv_has ls 3 [(0, .ref (gR g 57)), (1, .int v1), (2, .int v2)] := hl
  unfold f_X6_numberOf at hf
  refine lv_aload_n hx hb dX6_numberOf_0 rfl (lv_at hl 0 rfl) ?_
  refine lv_iload_n hx hb dX6_numberOf_1 rfl (lv_at hl 1 rfl) ?_
  refine lv_iconst (v := 0) hx hb dX6_numberOf_2 (by decide) ?_
  obtain ⟨q3, hq, hf⟩ := bnd_t hf
  refine x_ci Y (x_rV (rest := []) X Y k_X6_114 (c_X6_of X.hg hq) cl_6.1 rfl (by decide) rfl ⟨rfl, rfl⟩ ⟨by decide, by decide⟩ hl.1 rfl (Nat.le_of_ble_eq_true rfl) dX6_numberOf_3 ⟨Nat.zero_le _, Nat.zero_le _⟩) (fun H locs Y => ?_)
  refine lv_aload_n hx hb dX6_numberOf_6 rfl (lv_at hl 0 rfl) ?_
  refine lv_iload_n hx hb dX6_numberOf_7 rfl (lv_at hl 1 rfl) ?_
  refine lv_iconst (v := 2) hx hb dX6_numberOf_8 (by decide) ?_
  obtain ⟨q4, hq, hf⟩ := bnd_t hf
  refine x_ci Y (x_rV (rest := [_]) X Y k_X6_114 (c_X6_of X.hg hq) cl_6.1 rfl (by decide) rfl ⟨rfl, rfl⟩ ⟨by decide, by decide⟩ hl.1 rfl (Nat.le_of_ble_eq_true rfl) dX6_numberOf_9 ⟨Nat.zero_le _, Nat.zero_le _⟩) (fun H locs Y => ?_)
  refine lv_isub hx hb dX6_numberOf_12 ?_
  refine lv_iload_n hx hb dX6_numberOf_13 rfl (lv_at hl 2 rfl) ?_
  refine lv_iadd hx hb dX6_numberOf_14 ?_
  exact x_iret X Y hr hlk hf dX6_numberOf_15
def f_X6_sampleAt (v1 : Int32) (v2 : Int32) (I : HI) : Option (Int32 × HI) :=
  (f_X6_numberOf v1 v2 I).bind fun q2 =>
  if ((47 : Int32) + q2.1) < 0 ∨ 447 ≤ ((47 : Int32) + q2.1).toNatClampNeg then none else
  some (q2.2 58 ((47 : Int32) + q2.1).toNatClampNeg, q2.2)
abbrev rm_X6_sampleAt : Room := { frames := 2, cells := 0, slots := 0, locals := 44 }
set_option maxHeartbeats 4000000 in
set_option maxRecDepth 100000 in
theorem c_X6_sampleAt {l : Launch} {g : GX} (hg : gOk g) {v1 : Int32} {v2 : Int32} {I : HI} {r : Int32 × HI} (hf : f_X6_sampleAt v1 v2 I = some r) : Met l yX6_sampleAt (Cond.code yX6_sampleAt cX6_sampleAt 3 (some .int) :: WL) rm_X6_sampleAt (xP g [.ref (gR g 57), .int v1, .int v2] I) (xQi g r.1 r.2) 0 0 (gA g) := by
  refine x_met (by decide) hg (Nat.le_of_ble_eq_true rfl) (fun p e s m args below meth c X hr hlk Y ls hl => ?_)
  have hx := X.hx
  have hb := X.hb
  have hl : lv_has ls 3 [(0, .ref (gR g 57)), (1, .int v1), (2, .int v2)] := hl
  unfold f_X6_sampleAt at hf
  refine lv_aload_n hx hb dX6_sampleAt_0 rfl (lv_at hl 0 rfl) ?_
  refine x_get (v := .ref (gR g 58)) X Y cl_6 rfl (by decide) 0 (by decide) wf_X6_7 rfl dX6_sampleAt_1 ?_
  refine lv_bipush (v := 47) hx hb dX6_sampleAt_4 (by decide) ?_
  refine lv_aload_n hx hb dX6_sampleAt_6 rfl (lv_at hl 0 rfl) ?_
  refine lv_iload_n hx hb dX6_sampleAt_7 rfl (lv_at hl 1 rfl) ?_
  refine lv_iload_n hx hb dX6_sampleAt_8 rfl (lv_at hl 2 rfl) ?_
  obtain ⟨q2, hq, hf⟩ := bnd_t hf
  refine x_ci Y (x_rV (rest := [_, _]) X Y k_X6_117 (c_X6_numberOf X.hg hq) cl_6.1 rfl (by decide) rfl ⟨rfl, rfl⟩ ⟨by decide, by decide⟩ hl.1 rfl (Nat.le_of_ble_eq_true rfl) dX6_sampleAt_9 ⟨Nat.zero_le _, Nat.zero_le _⟩) (fun H locs Y => ?_)
  refine lv_iadd hx hb dX6_sampleAt_12 ?_
  obtain ⟨hin, hf⟩ := oob_t hf
  refine x_iald X Y rfl hin dX6_sampleAt_13 ?_
  exact x_iret X Y hr hlk hf dX6_sampleAt_14
def f_X6_least_L5_b (v1 : Int32) (k : Int32 → Int32 → HI → Option (Int32 × HI)) (v2 : Int32) (v3 : Int32) (I : HI) : Option (Int32 × HI) :=
  (f_X6_of v1 (1 : Int32) I).bind fun q3 =>
  if q3.1 ≤ v3 then
    some (v2, q3.2)
  else
    (f_X6_sampleAt v1 v3 q3.2).bind fun q4 =>
    if v2 ≤ q4.1 then
      k v2 (v3 + (1 : Int32)) q4.2
    else
      k q4.1 (v3 + (1 : Int32)) q4.2
def f_X6_least_L5 (v1 : Int32) : Nat → Int32 → Int32 → HI → Option (Int32 × HI)
  | 0, _, _, _ => none
  | n + 1, v2, v3, I => f_X6_least_L5_b v1 (f_X6_least_L5 v1 n) v2 v3 I
def f_X6_least (v1 : Int32) (I : HI) : Option (Int32 × HI) :=
  f_X6_least_L5 v1 4000 (100 : Int32) (0 : Int32) I
abbrev rm_X6_least : Room := { frames := 3, cells := 0, slots := 0, locals := 66 }
set_option maxHeartbeats 4000000 in
set_option maxRecDepth 100000 in
theorem c_X6_least {l : Launch} {g : GX} (hg : gOk g) {v1 : Int32} {I : HI} {r : Int32 × HI} (hf : f_X6_least v1 I = some r) : Met l yX6_least (Cond.code yX6_least cX6_least 5 (some .int) :: WL) rm_X6_least (xP g [.ref (gR g 57), .int v1] I) (xQi g r.1 r.2) 0 0 (gA g) := by
  refine x_met (by decide) hg (Nat.le_of_ble_eq_true rfl) (fun p e s m args below meth c X hr hlk Y ls hl => ?_)
  have hx := X.hx
  have hb := X.hb
  have hl : lv_has ls 5 [(0, .ref (gR g 57)), (1, .int v1)] := hl
  have hL5 : ∀ (v1 : Int32) (n : Nat) (v2 : Int32) (v3 : Int32) (I : HI) (H : Heap) (locs : List Loc) (ls : Array Slot), f_X6_least_L5 v1 n v2 v3 I = some r → XD g I s H locs → lv_has ls 5 [(0, .ref (gR g 57)), (1, .int v1), (2, .int v2), (3, .int v3)] → W p l e rm_X6_least s m args below meth c H locs 0 0 (MQ below (xQi g r.1 r.2) args s 0 0 (gA g)) (F0 m 5 ls []) := by
    intro v1 n
    induction n with
    | zero => intro v2 v3 I H locs ls hf Y hl; exact nn_t hf
    | succ n ih =>
      intro v2 v3 I H locs ls hf Y hl
      have hf : f_X6_least_L5_b v1 (f_X6_least_L5 v1 n) v2 v3 I = some r := hf
      unfold f_X6_least_L5_b at hf
      refine lv_iload_n hx hb dX6_least_5 rfl (lv_at hl 3 rfl) ?_
      refine lv_aload_n hx hb dX6_least_6 rfl (lv_at hl 0 rfl) ?_
      refine lv_iload_n hx hb dX6_least_7 rfl (lv_at hl 1 rfl) ?_
      refine lv_iconst (v := 1) hx hb dX6_least_8 (by decide) ?_
      obtain ⟨q3, hq, hf⟩ := bnd_t hf
      refine x_ci Y (x_rV (rest := [_]) X Y k_X6_114 (c_X6_of X.hg hq) cl_6.1 rfl (by decide) rfl ⟨rfl, rfl⟩ ⟨by decide, by decide⟩ hl.1 rfl (Nat.le_of_ble_eq_true rfl) dX6_least_9 ⟨Nat.zero_le _, Nat.zero_le _⟩) (fun H locs Y => ?_)
      refine lv_icmp_ge (tgt := 42) hx hb dX6_least_12 (by decide) (fun c => ?_) (fun c => ?_)
      · have hf := ite_t c hf
        refine lv_iload_n hx hb dX6_least_42 rfl (lv_at hl 2 rfl) ?_
        exact x_iret X Y hr hlk hf dX6_least_43
      · have hf := ite_f c hf
        refine lv_aload_n hx hb dX6_least_15 rfl (lv_at hl 0 rfl) ?_
        refine lv_iload_n hx hb dX6_least_16 rfl (lv_at hl 1 rfl) ?_
        refine lv_iload_n hx hb dX6_least_17 rfl (lv_at hl 3 rfl) ?_
        obtain ⟨q4, hq, hf⟩ := bnd_t hf
        refine x_ci Y (x_rV (rest := []) X Y k_X6_120 (c_X6_sampleAt X.hg hq) cl_6.1 rfl (by decide) rfl ⟨rfl, rfl⟩ ⟨by decide, by decide⟩ hl.1 rfl (Nat.le_of_ble_eq_true rfl) dX6_least_18 ⟨Nat.zero_le _, Nat.zero_le _⟩) (fun H locs Y => ?_)
        refine lv_istore (lv' := [(4, _), (0, _), (1, _), (2, _), (3, _)]) hx hb dX6_least_21 hl (by decide) rfl (fun ls hl => ?_)
        refine lv_iload hx hb dX6_least_23 (lv_at hl 0 rfl) ?_
        refine lv_iload_n hx hb dX6_least_25 rfl (lv_at hl 3 rfl) ?_
        refine lv_icmp_ge (tgt := 34) hx hb dX6_least_26 (by decide) (fun c => ?_) (fun c => ?_)
        · have hf := ite_t c hf
          refine lv_iload_n hx hb dX6_least_34 rfl (lv_at hl 3 rfl) ?_
          refine lv_istore_n (lv' := [(2, _), (4, _), (0, _), (1, _), (3, _)]) hx hb dX6_least_35 rfl hl (by decide) rfl (fun ls hl => ?_)
          refine lv_iinc (v := _ + (1 : Int32)) (lv' := [(3, _), (2, _), (4, _), (0, _), (1, _)]) hx hb dX6_least_36 hl (k := 4) rfl rfl (by decide) rfl (fun ls hl => ?_)
          refine lv_goto (tgt := 5) hx hb dX6_least_39 (by decide) ?_
          exact ih _ _ _ _ _ _ hf Y (lv_sub hl [3, 4, 1, 0] rfl)
        · have hf := ite_f c hf
          refine lv_iload hx hb dX6_least_29 (lv_at hl 0 rfl) ?_
          refine lv_goto (tgt := 35) hx hb dX6_least_31 (by decide) ?_
          refine lv_istore_n (lv' := [(2, _), (4, _), (0, _), (1, _), (3, _)]) hx hb dX6_least_35 rfl hl (by decide) rfl (fun ls hl => ?_)
          refine lv_iinc (v := _ + (1 : Int32)) (lv' := [(3, _), (2, _), (4, _), (0, _), (1, _)]) hx hb dX6_least_36 hl (k := 4) rfl rfl (by decide) rfl (fun ls hl => ?_)
          refine lv_goto (tgt := 5) hx hb dX6_least_39 (by decide) ?_
          exact ih _ _ _ _ _ _ hf Y (lv_sub hl [3, 4, 1, 0] rfl)
  unfold f_X6_least at hf
  refine lv_bipush (v := 100) hx hb dX6_least_0 (by decide) ?_
  refine lv_istore_n (lv' := [(2, _), (0, _), (1, _)]) hx hb dX6_least_2 rfl hl (by decide) rfl (fun ls hl => ?_)
  refine lv_iconst (v := 0) hx hb dX6_least_3 (by decide) ?_
  refine lv_istore_n (lv' := [(3, _), (2, _), (0, _), (1, _)]) hx hb dX6_least_4 rfl hl (by decide) rfl (fun ls hl => ?_)
  exact hL5 _ _ _ _ _ _ _ _ hf Y (lv_sub hl [2, 3, 1, 0] rfl)
def f_X6_greatest_L5_b (v1 : Int32) (k : Int32 → Int32 → HI → Option (Int32 × HI)) (v2 : Int32) (v3 : Int32) (I : HI) : Option (Int32 × HI) :=
  (f_X6_of v1 (1 : Int32) I).bind fun q3 =>
  if q3.1 ≤ v3 then
    some (v2, q3.2)
  else
    (f_X6_sampleAt v1 v3 q3.2).bind fun q4 =>
    if q4.1 ≤ v2 then
      k v2 (v3 + (1 : Int32)) q4.2
    else
      k q4.1 (v3 + (1 : Int32)) q4.2
def f_X6_greatest_L5 (v1 : Int32) : Nat → Int32 → Int32 → HI → Option (Int32 × HI)
  | 0, _, _, _ => none
  | n + 1, v2, v3, I => f_X6_greatest_L5_b v1 (f_X6_greatest_L5 v1 n) v2 v3 I
def f_X6_greatest (v1 : Int32) (I : HI) : Option (Int32 × HI) :=
  f_X6_greatest_L5 v1 4000 (-100 : Int32) (0 : Int32) I
abbrev rm_X6_greatest : Room := { frames := 3, cells := 0, slots := 0, locals := 66 }
set_option maxHeartbeats 4000000 in
set_option maxRecDepth 100000 in
theorem c_X6_greatest {l : Launch} {g : GX} (hg : gOk g) {v1 : Int32} {I : HI} {r : Int32 × HI} (hf : f_X6_greatest v1 I = some r) : Met l yX6_greatest (Cond.code yX6_greatest cX6_greatest 5 (some .int) :: WL) rm_X6_greatest (xP g [.ref (gR g 57), .int v1] I) (xQi g r.1 r.2) 0 0 (gA g) := by
  refine x_met (by decide) hg (Nat.le_of_ble_eq_true rfl) (fun p e s m args below meth c X hr hlk Y ls hl => ?_)
  have hx := X.hx
  have hb := X.hb
  have hl : lv_has ls 5 [(0, .ref (gR g 57)), (1, .int v1)] := hl
  have hL5 : ∀ (v1 : Int32) (n : Nat) (v2 : Int32) (v3 : Int32) (I : HI) (H : Heap) (locs : List Loc) (ls : Array Slot), f_X6_greatest_L5 v1 n v2 v3 I = some r → XD g I s H locs → lv_has ls 5 [(0, .ref (gR g 57)), (1, .int v1), (2, .int v2), (3, .int v3)] → W p l e rm_X6_greatest s m args below meth c H locs 0 0 (MQ below (xQi g r.1 r.2) args s 0 0 (gA g)) (F0 m 5 ls []) := by
    intro v1 n
    induction n with
    | zero => intro v2 v3 I H locs ls hf Y hl; exact nn_t hf
    | succ n ih =>
      intro v2 v3 I H locs ls hf Y hl
      have hf : f_X6_greatest_L5_b v1 (f_X6_greatest_L5 v1 n) v2 v3 I = some r := hf
      unfold f_X6_greatest_L5_b at hf
      refine lv_iload_n hx hb dX6_greatest_5 rfl (lv_at hl 3 rfl) ?_
      refine lv_aload_n hx hb dX6_greatest_6 rfl (lv_at hl 0 rfl) ?_
      refine lv_iload_n hx hb dX6_greatest_7 rfl (lv_at hl 1 rfl) ?_
      refine lv_iconst (v := 1) hx hb dX6_greatest_8 (by decide) ?_
      obtain ⟨q3, hq, hf⟩ := bnd_t hf
      refine x_ci Y (x_rV (rest := [_]) X Y k_X6_114 (c_X6_of X.hg hq) cl_6.1 rfl (by decide) rfl ⟨rfl, rfl⟩ ⟨by decide, by decide⟩ hl.1 rfl (Nat.le_of_ble_eq_true rfl) dX6_greatest_9 ⟨Nat.zero_le _, Nat.zero_le _⟩) (fun H locs Y => ?_)
      refine lv_icmp_ge (tgt := 42) hx hb dX6_greatest_12 (by decide) (fun c => ?_) (fun c => ?_)
      · have hf := ite_t c hf
        refine lv_iload_n hx hb dX6_greatest_42 rfl (lv_at hl 2 rfl) ?_
        exact x_iret X Y hr hlk hf dX6_greatest_43
      · have hf := ite_f c hf
        refine lv_aload_n hx hb dX6_greatest_15 rfl (lv_at hl 0 rfl) ?_
        refine lv_iload_n hx hb dX6_greatest_16 rfl (lv_at hl 1 rfl) ?_
        refine lv_iload_n hx hb dX6_greatest_17 rfl (lv_at hl 3 rfl) ?_
        obtain ⟨q4, hq, hf⟩ := bnd_t hf
        refine x_ci Y (x_rV (rest := []) X Y k_X6_120 (c_X6_sampleAt X.hg hq) cl_6.1 rfl (by decide) rfl ⟨rfl, rfl⟩ ⟨by decide, by decide⟩ hl.1 rfl (Nat.le_of_ble_eq_true rfl) dX6_greatest_18 ⟨Nat.zero_le _, Nat.zero_le _⟩) (fun H locs Y => ?_)
        refine lv_istore (lv' := [(4, _), (0, _), (1, _), (2, _), (3, _)]) hx hb dX6_greatest_21 hl (by decide) rfl (fun ls hl => ?_)
        refine lv_iload hx hb dX6_greatest_23 (lv_at hl 0 rfl) ?_
        refine lv_iload_n hx hb dX6_greatest_25 rfl (lv_at hl 3 rfl) ?_
        refine lv_icmp_le (tgt := 34) hx hb dX6_greatest_26 (by decide) (fun c => ?_) (fun c => ?_)
        · have hf := ite_t c hf
          refine lv_iload_n hx hb dX6_greatest_34 rfl (lv_at hl 3 rfl) ?_
          refine lv_istore_n (lv' := [(2, _), (4, _), (0, _), (1, _), (3, _)]) hx hb dX6_greatest_35 rfl hl (by decide) rfl (fun ls hl => ?_)
          refine lv_iinc (v := _ + (1 : Int32)) (lv' := [(3, _), (2, _), (4, _), (0, _), (1, _)]) hx hb dX6_greatest_36 hl (k := 4) rfl rfl (by decide) rfl (fun ls hl => ?_)
          refine lv_goto (tgt := 5) hx hb dX6_greatest_39 (by decide) ?_
          exact ih _ _ _ _ _ _ hf Y (lv_sub hl [3, 4, 1, 0] rfl)
        · have hf := ite_f c hf
          refine lv_iload hx hb dX6_greatest_29 (lv_at hl 0 rfl) ?_
          refine lv_goto (tgt := 35) hx hb dX6_greatest_31 (by decide) ?_
          refine lv_istore_n (lv' := [(2, _), (4, _), (0, _), (1, _), (3, _)]) hx hb dX6_greatest_35 rfl hl (by decide) rfl (fun ls hl => ?_)
          refine lv_iinc (v := _ + (1 : Int32)) (lv' := [(3, _), (2, _), (4, _), (0, _), (1, _)]) hx hb dX6_greatest_36 hl (k := 4) rfl rfl (by decide) rfl (fun ls hl => ?_)
          refine lv_goto (tgt := 5) hx hb dX6_greatest_39 (by decide) ?_
          exact ih _ _ _ _ _ _ hf Y (lv_sub hl [3, 4, 1, 0] rfl)
  unfold f_X6_greatest at hf
  refine lv_bipush (v := -100) hx hb dX6_greatest_0 (by decide) ?_
  refine lv_istore_n (lv' := [(2, _), (0, _), (1, _)]) hx hb dX6_greatest_2 rfl hl (by decide) rfl (fun ls hl => ?_)
  refine lv_iconst (v := 0) hx hb dX6_greatest_3 (by decide) ?_
  refine lv_istore_n (lv' := [(3, _), (2, _), (0, _), (1, _)]) hx hb dX6_greatest_4 rfl hl (by decide) rfl (fun ls hl => ?_)
  exact hL5 _ _ _ _ _ _ _ _ hf Y (lv_sub hl [2, 3, 1, 0] rfl)
def f_X6_sumOf_L4_b (v1 : Int32) (k : Int32 → Int32 → HI → Option (Int32 × HI)) (v2 : Int32) (v3 : Int32) (I : HI) : Option (Int32 × HI) :=
  (f_X6_of v1 (1 : Int32) I).bind fun q3 =>
  if q3.1 ≤ v3 then
    some (v2, q3.2)
  else
    (f_X6_sampleAt v1 v3 q3.2).bind fun q4 =>
    let x5 := v2 + q4.1
    k x5 (v3 + (1 : Int32)) q4.2
def f_X6_sumOf_L4 (v1 : Int32) : Nat → Int32 → Int32 → HI → Option (Int32 × HI)
  | 0, _, _, _ => none
  | n + 1, v2, v3, I => f_X6_sumOf_L4_b v1 (f_X6_sumOf_L4 v1 n) v2 v3 I
def f_X6_sumOf (v1 : Int32) (I : HI) : Option (Int32 × HI) :=
  f_X6_sumOf_L4 v1 4000 (0 : Int32) (0 : Int32) I
abbrev rm_X6_sumOf : Room := { frames := 3, cells := 0, slots := 0, locals := 66 }
set_option maxHeartbeats 4000000 in
set_option maxRecDepth 100000 in
theorem c_X6_sumOf {l : Launch} {g : GX} (hg : gOk g) {v1 : Int32} {I : HI} {r : Int32 × HI} (hf : f_X6_sumOf v1 I = some r) : Met l yX6_sumOf (Cond.code yX6_sumOf cX6_sumOf 4 (some .int) :: WL) rm_X6_sumOf (xP g [.ref (gR g 57), .int v1] I) (xQi g r.1 r.2) 0 0 (gA g) := by
  refine x_met (by decide) hg (Nat.le_of_ble_eq_true rfl) (fun p e s m args below meth c X hr hlk Y ls hl => ?_)
  have hx := X.hx
  have hb := X.hb
  have hl : lv_has ls 4 [(0, .ref (gR g 57)), (1, .int v1)] := hl
  have hL4 : ∀ (v1 : Int32) (n : Nat) (v2 : Int32) (v3 : Int32) (I : HI) (H : Heap) (locs : List Loc) (ls : Array Slot), f_X6_sumOf_L4 v1 n v2 v3 I = some r → XD g I s H locs → lv_has ls 4 [(0, .ref (gR g 57)), (1, .int v1), (2, .int v2), (3, .int v3)] → W p l e rm_X6_sumOf s m args below meth c H locs 0 0 (MQ below (xQi g r.1 r.2) args s 0 0 (gA g)) (F0 m 4 ls []) := by
    intro v1 n
    induction n with
    | zero => intro v2 v3 I H locs ls hf Y hl; exact nn_t hf
    | succ n ih =>
      intro v2 v3 I H locs ls hf Y hl
      have hf : f_X6_sumOf_L4_b v1 (f_X6_sumOf_L4 v1 n) v2 v3 I = some r := hf
      unfold f_X6_sumOf_L4_b at hf
      refine lv_iload_n hx hb dX6_sumOf_4 rfl (lv_at hl 3 rfl) ?_
      refine lv_aload_n hx hb dX6_sumOf_5 rfl (lv_at hl 0 rfl) ?_
      refine lv_iload_n hx hb dX6_sumOf_6 rfl (lv_at hl 1 rfl) ?_
      refine lv_iconst (v := 1) hx hb dX6_sumOf_7 (by decide) ?_
      obtain ⟨q3, hq, hf⟩ := bnd_t hf
      refine x_ci Y (x_rV (rest := [_]) X Y k_X6_114 (c_X6_of X.hg hq) cl_6.1 rfl (by decide) rfl ⟨rfl, rfl⟩ ⟨by decide, by decide⟩ hl.1 rfl (Nat.le_of_ble_eq_true rfl) dX6_sumOf_8 ⟨Nat.zero_le _, Nat.zero_le _⟩) (fun H locs Y => ?_)
      refine lv_icmp_ge (tgt := 29) hx hb dX6_sumOf_11 (by decide) (fun c => ?_) (fun c => ?_)
      · have hf := ite_t c hf
        refine lv_iload_n hx hb dX6_sumOf_29 rfl (lv_at hl 2 rfl) ?_
        exact x_iret X Y hr hlk hf dX6_sumOf_30
      · have hf := ite_f c hf
        refine lv_iload_n hx hb dX6_sumOf_14 rfl (lv_at hl 2 rfl) ?_
        refine lv_aload_n hx hb dX6_sumOf_15 rfl (lv_at hl 0 rfl) ?_
        refine lv_iload_n hx hb dX6_sumOf_16 rfl (lv_at hl 1 rfl) ?_
        refine lv_iload_n hx hb dX6_sumOf_17 rfl (lv_at hl 3 rfl) ?_
        obtain ⟨q4, hq, hf⟩ := bnd_t hf
        refine x_ci Y (x_rV (rest := [_]) X Y k_X6_120 (c_X6_sampleAt X.hg hq) cl_6.1 rfl (by decide) rfl ⟨rfl, rfl⟩ ⟨by decide, by decide⟩ hl.1 rfl (Nat.le_of_ble_eq_true rfl) dX6_sumOf_18 ⟨Nat.zero_le _, Nat.zero_le _⟩) (fun H locs Y => ?_)
        refine lv_iadd hx hb dX6_sumOf_21 ?_
        refine lv_istore_n (lv' := [(2, _), (0, _), (1, _), (3, _)]) hx hb dX6_sumOf_22 rfl hl (by decide) rfl (fun ls hl => ?_)
        refine lv_iinc (v := _ + (1 : Int32)) (lv' := [(3, _), (2, _), (0, _), (1, _)]) hx hb dX6_sumOf_23 hl (k := 3) rfl rfl (by decide) rfl (fun ls hl => ?_)
        refine lv_goto (tgt := 4) hx hb dX6_sumOf_26 (by decide) ?_
        exact ih _ _ _ _ _ _ hf Y (lv_sub hl [2, 3, 1, 0] rfl)
  unfold f_X6_sumOf at hf
  refine lv_iconst (v := 0) hx hb dX6_sumOf_0 (by decide) ?_
  refine lv_istore_n (lv' := [(2, _), (0, _), (1, _)]) hx hb dX6_sumOf_1 rfl hl (by decide) rfl (fun ls hl => ?_)
  refine lv_iconst (v := 0) hx hb dX6_sumOf_2 (by decide) ?_
  refine lv_istore_n (lv' := [(3, _), (2, _), (0, _), (1, _)]) hx hb dX6_sumOf_3 rfl hl (by decide) rfl (fun ls hl => ?_)
  exact hL4 _ _ _ _ _ _ _ _ hf Y (lv_sub hl [2, 3, 1, 0] rfl)
def f_X6_risesIn_L4_b (v1 : Int32) (k : Int32 → Int32 → HI → Option (Int32 × HI)) (v2 : Int32) (v3 : Int32) (I : HI) : Option (Int32 × HI) :=
  (f_X6_of v1 (1 : Int32) I).bind fun q4 =>
  if q4.1 ≤ v3 then
    some (v2, q4.2)
  else
    (f_X6_sampleAt v1 v3 q4.2).bind fun q5 =>
    (f_X6_sampleAt v1 (v3 - (1 : Int32)) q5.2).bind fun q6 =>
    if q5.1 ≤ q6.1 then
      let x7 := v2 + (0 : Int32)
      k x7 (v3 + (1 : Int32)) q6.2
    else
      let x8 := v2 + (1 : Int32)
      k x8 (v3 + (1 : Int32)) q6.2
def f_X6_risesIn_L4 (v1 : Int32) : Nat → Int32 → Int32 → HI → Option (Int32 × HI)
  | 0, _, _, _ => none
  | n + 1, v2, v3, I => f_X6_risesIn_L4_b v1 (f_X6_risesIn_L4 v1 n) v2 v3 I
def f_X6_risesIn (v1 : Int32) (I : HI) : Option (Int32 × HI) :=
  f_X6_risesIn_L4 v1 4000 (0 : Int32) (1 : Int32) I
abbrev rm_X6_risesIn : Room := { frames := 3, cells := 0, slots := 0, locals := 66 }
set_option maxHeartbeats 4000000 in
set_option maxRecDepth 100000 in
theorem c_X6_risesIn {l : Launch} {g : GX} (hg : gOk g) {v1 : Int32} {I : HI} {r : Int32 × HI} (hf : f_X6_risesIn v1 I = some r) : Met l yX6_risesIn (Cond.code yX6_risesIn cX6_risesIn 4 (some .int) :: WL) rm_X6_risesIn (xP g [.ref (gR g 57), .int v1] I) (xQi g r.1 r.2) 0 0 (gA g) := by
  refine x_met (by decide) hg (Nat.le_of_ble_eq_true rfl) (fun p e s m args below meth c X hr hlk Y ls hl => ?_)
  have hx := X.hx
  have hb := X.hb
  have hl : lv_has ls 4 [(0, .ref (gR g 57)), (1, .int v1)] := hl
  have hL4 : ∀ (v1 : Int32) (n : Nat) (v2 : Int32) (v3 : Int32) (I : HI) (H : Heap) (locs : List Loc) (ls : Array Slot), f_X6_risesIn_L4 v1 n v2 v3 I = some r → XD g I s H locs → lv_has ls 4 [(0, .ref (gR g 57)), (1, .int v1), (2, .int v2), (3, .int v3)] → W p l e rm_X6_risesIn s m args below meth c H locs 0 0 (MQ below (xQi g r.1 r.2) args s 0 0 (gA g)) (F0 m 4 ls []) := by
    intro v1 n
    induction n with
    | zero => intro v2 v3 I H locs ls hf Y hl; exact nn_t hf
    | succ n ih =>
      intro v2 v3 I H locs ls hf Y hl
      have hf : f_X6_risesIn_L4_b v1 (f_X6_risesIn_L4 v1 n) v2 v3 I = some r := hf
      unfold f_X6_risesIn_L4_b at hf
      refine lv_iload_n hx hb dX6_risesIn_4 rfl (lv_at hl 3 rfl) ?_
      refine lv_aload_n hx hb dX6_risesIn_5 rfl (lv_at hl 0 rfl) ?_
      refine lv_iload_n hx hb dX6_risesIn_6 rfl (lv_at hl 1 rfl) ?_
      refine lv_iconst (v := 1) hx hb dX6_risesIn_7 (by decide) ?_
      obtain ⟨q4, hq, hf⟩ := bnd_t hf
      refine x_ci Y (x_rV (rest := [_]) X Y k_X6_114 (c_X6_of X.hg hq) cl_6.1 rfl (by decide) rfl ⟨rfl, rfl⟩ ⟨by decide, by decide⟩ hl.1 rfl (Nat.le_of_ble_eq_true rfl) dX6_risesIn_8 ⟨Nat.zero_le _, Nat.zero_le _⟩) (fun H locs Y => ?_)
      refine lv_icmp_ge (tgt := 45) hx hb dX6_risesIn_11 (by decide) (fun c => ?_) (fun c => ?_)
      · have hf := ite_t c hf
        refine lv_iload_n hx hb dX6_risesIn_45 rfl (lv_at hl 2 rfl) ?_
        exact x_iret X Y hr hlk hf dX6_risesIn_46
      · have hf := ite_f c hf
        refine lv_iload_n hx hb dX6_risesIn_14 rfl (lv_at hl 2 rfl) ?_
        refine lv_aload_n hx hb dX6_risesIn_15 rfl (lv_at hl 0 rfl) ?_
        refine lv_iload_n hx hb dX6_risesIn_16 rfl (lv_at hl 1 rfl) ?_
        refine lv_iload_n hx hb dX6_risesIn_17 rfl (lv_at hl 3 rfl) ?_
        obtain ⟨q5, hq, hf⟩ := bnd_t hf
        refine x_ci Y (x_rV (rest := [_]) X Y k_X6_120 (c_X6_sampleAt X.hg hq) cl_6.1 rfl (by decide) rfl ⟨rfl, rfl⟩ ⟨by decide, by decide⟩ hl.1 rfl (Nat.le_of_ble_eq_true rfl) dX6_risesIn_18 ⟨Nat.zero_le _, Nat.zero_le _⟩) (fun H locs Y => ?_)
        refine lv_aload_n hx hb dX6_risesIn_21 rfl (lv_at hl 0 rfl) ?_
        refine lv_iload_n hx hb dX6_risesIn_22 rfl (lv_at hl 1 rfl) ?_
        refine lv_iload_n hx hb dX6_risesIn_23 rfl (lv_at hl 3 rfl) ?_
        refine lv_iconst (v := 1) hx hb dX6_risesIn_24 (by decide) ?_
        refine lv_isub hx hb dX6_risesIn_25 ?_
        obtain ⟨q6, hq, hf⟩ := bnd_t hf
        refine x_ci Y (x_rV (rest := [_, _]) X Y k_X6_120 (c_X6_sampleAt X.hg hq) cl_6.1 rfl (by decide) rfl ⟨rfl, rfl⟩ ⟨by decide, by decide⟩ hl.1 rfl (Nat.le_of_ble_eq_true rfl) dX6_risesIn_26 ⟨Nat.zero_le _, Nat.zero_le _⟩) (fun H locs Y => ?_)
        refine lv_icmp_le (tgt := 36) hx hb dX6_risesIn_29 (by decide) (fun c => ?_) (fun c => ?_)
        · have hf := ite_t c hf
          refine lv_iconst (v := 0) hx hb dX6_risesIn_36 (by decide) ?_
          refine lv_iadd hx hb dX6_risesIn_37 ?_
          refine lv_istore_n (lv' := [(2, _), (0, _), (1, _), (3, _)]) hx hb dX6_risesIn_38 rfl hl (by decide) rfl (fun ls hl => ?_)
          refine lv_iinc (v := _ + (1 : Int32)) (lv' := [(3, _), (2, _), (0, _), (1, _)]) hx hb dX6_risesIn_39 hl (k := 3) rfl rfl (by decide) rfl (fun ls hl => ?_)
          refine lv_goto (tgt := 4) hx hb dX6_risesIn_42 (by decide) ?_
          exact ih _ _ _ _ _ _ hf Y (lv_sub hl [2, 3, 1, 0] rfl)
        · have hf := ite_f c hf
          refine lv_iconst (v := 1) hx hb dX6_risesIn_32 (by decide) ?_
          refine lv_goto (tgt := 37) hx hb dX6_risesIn_33 (by decide) ?_
          refine lv_iadd hx hb dX6_risesIn_37 ?_
          refine lv_istore_n (lv' := [(2, _), (0, _), (1, _), (3, _)]) hx hb dX6_risesIn_38 rfl hl (by decide) rfl (fun ls hl => ?_)
          refine lv_iinc (v := _ + (1 : Int32)) (lv' := [(3, _), (2, _), (0, _), (1, _)]) hx hb dX6_risesIn_39 hl (k := 3) rfl rfl (by decide) rfl (fun ls hl => ?_)
          refine lv_goto (tgt := 4) hx hb dX6_risesIn_42 (by decide) ?_
          exact ih _ _ _ _ _ _ hf Y (lv_sub hl [2, 3, 1, 0] rfl)
  unfold f_X6_risesIn at hf
  refine lv_iconst (v := 0) hx hb dX6_risesIn_0 (by decide) ?_
  refine lv_istore_n (lv' := [(2, _), (0, _), (1, _)]) hx hb dX6_risesIn_1 rfl hl (by decide) rfl (fun ls hl => ?_)
  refine lv_iconst (v := 1) hx hb dX6_risesIn_2 (by decide) ?_
  refine lv_istore_n (lv' := [(3, _), (2, _), (0, _), (1, _)]) hx hb dX6_risesIn_3 rfl hl (by decide) rfl (fun ls hl => ?_)
  exact hL4 _ _ _ _ _ _ _ _ hf Y (lv_sub hl [2, 3, 1, 0] rfl)
def f_X6_segment (v1 : Int32) (v2 : Int32) (I : HI) : Option (Int32 × HI) :=
  (f_X6_isSegment v1 I).bind fun q7 =>
  if q7.1 = (0 : Int32) then
    some ((-1 : Int32), q7.2)
  else
    if v2 = (0 : Int32) then
      (f_X6_of v1 v2 q7.2).bind fun q9 =>
      some (q9.1, q9.2)
    else
    if v2 = (1 : Int32) then
      (f_X6_of v1 v2 q7.2).bind fun q11 =>
      some (q11.1, q11.2)
    else
    if v2 = (2 : Int32) then
      (f_X6_of v1 v2 q7.2).bind fun q13 =>
      some (q13.1, q13.2)
    else
    if v2 = (3 : Int32) then
      (f_X6_of v1 v2 q7.2).bind fun q15 =>
      some (q15.1, q15.2)
    else
    if v2 = (4 : Int32) then
      (f_X6_least v1 q7.2).bind fun q17 =>
      some (q17.1 + (1000 : Int32), q17.2)
    else
    if v2 = (5 : Int32) then
      (f_X6_greatest v1 q7.2).bind fun q19 =>
      some (q19.1 + (1000 : Int32), q19.2)
    else
    if v2 = (6 : Int32) then
      (f_X6_sumOf v1 q7.2).bind fun q21 =>
      some (q21.1 + (10000 : Int32), q21.2)
    else
    if v2 = (7 : Int32) then
      (f_X6_risesIn v1 q7.2).bind fun q23 =>
      some (q23.1, q23.2)
    else
    some ((-2 : Int32), q7.2)
abbrev rm_X6_segment : Room := { frames := 4, cells := 0, slots := 0, locals := 90 }
set_option maxHeartbeats 4000000 in
set_option maxRecDepth 100000 in
theorem c_X6_segment {l : Launch} {g : GX} (hg : gOk g) {v1 : Int32} {v2 : Int32} {I : HI} {r : Int32 × HI} (hf : f_X6_segment v1 v2 I = some r) : Met l yX6_segment (Cond.code yX6_segment cX6_segment 3 (some .int) :: WL) rm_X6_segment (xP g [.ref (gR g 57), .int v1, .int v2] I) (xQi g r.1 r.2) 0 0 (gA g) := by
  refine x_met (by decide) hg (Nat.le_of_ble_eq_true rfl) (fun p e s m args below meth c X hr hlk Y ls hl => ?_)
  have hx := X.hx
  have hb := X.hb
  have hl : lv_has ls 3 [(0, .ref (gR g 57)), (1, .int v1), (2, .int v2)] := hl
  unfold f_X6_segment at hf
  refine lv_aload_n hx hb dX6_segment_0 rfl (lv_at hl 0 rfl) ?_
  refine lv_iload_n hx hb dX6_segment_1 rfl (lv_at hl 1 rfl) ?_
  obtain ⟨q7, hq, hf⟩ := bnd_t hf
  refine x_ci Y (x_rV (rest := []) X Y k_X6_111 (c_X6_isSegment X.hg hq) cl_6.1 rfl (by decide) rfl ⟨rfl, rfl⟩ ⟨by decide, by decide⟩ hl.1 rfl (Nat.le_of_ble_eq_true rfl) dX6_segment_2 ⟨Nat.zero_le _, Nat.zero_le _⟩) (fun H locs Y => ?_)
  refine lv_if_ne (tgt := 10) hx hb dX6_segment_5 (by decide) (fun c => ?_) (fun c => ?_)
  · have hf := ite_f c hf
    refine lv_iload_n hx hb dX6_segment_10 rfl (lv_at hl 2 rfl) ?_
    by_cases c8 : v2 = (0 : Int32)
    · have hf := ite_t c8 hf
      refine x_tab (off := 45) (tgt := 56) hx hb c8 dX6_segment_11 (by decide) (by decide) ?_
      refine lv_aload_n hx hb dX6_segment_56 rfl (lv_at hl 0 rfl) ?_
      refine lv_iload_n hx hb dX6_segment_57 rfl (lv_at hl 1 rfl) ?_
      refine lv_iload_n hx hb dX6_segment_58 rfl (lv_at hl 2 rfl) ?_
      obtain ⟨q9, hq, hf⟩ := bnd_t hf
      refine x_ci Y (x_rV (rest := []) X Y k_X6_114 (c_X6_of X.hg hq) cl_6.1 rfl (by decide) rfl ⟨rfl, rfl⟩ ⟨by decide, by decide⟩ hl.1 rfl (Nat.le_of_ble_eq_true rfl) dX6_segment_59 ⟨Nat.zero_le _, Nat.zero_le _⟩) (fun H locs Y => ?_)
      exact x_iret X Y hr hlk hf dX6_segment_62
    have hf := ite_f c8 hf
    by_cases c10 : v2 = (1 : Int32)
    · have hf := ite_t c10 hf
      refine x_tab (off := 45) (tgt := 56) hx hb c10 dX6_segment_11 (by decide) (by decide) ?_
      refine lv_aload_n hx hb dX6_segment_56 rfl (lv_at hl 0 rfl) ?_
      refine lv_iload_n hx hb dX6_segment_57 rfl (lv_at hl 1 rfl) ?_
      refine lv_iload_n hx hb dX6_segment_58 rfl (lv_at hl 2 rfl) ?_
      obtain ⟨q11, hq, hf⟩ := bnd_t hf
      refine x_ci Y (x_rV (rest := []) X Y k_X6_114 (c_X6_of X.hg hq) cl_6.1 rfl (by decide) rfl ⟨rfl, rfl⟩ ⟨by decide, by decide⟩ hl.1 rfl (Nat.le_of_ble_eq_true rfl) dX6_segment_59 ⟨Nat.zero_le _, Nat.zero_le _⟩) (fun H locs Y => ?_)
      exact x_iret X Y hr hlk hf dX6_segment_62
    have hf := ite_f c10 hf
    by_cases c12 : v2 = (2 : Int32)
    · have hf := ite_t c12 hf
      refine x_tab (off := 45) (tgt := 56) hx hb c12 dX6_segment_11 (by decide) (by decide) ?_
      refine lv_aload_n hx hb dX6_segment_56 rfl (lv_at hl 0 rfl) ?_
      refine lv_iload_n hx hb dX6_segment_57 rfl (lv_at hl 1 rfl) ?_
      refine lv_iload_n hx hb dX6_segment_58 rfl (lv_at hl 2 rfl) ?_
      obtain ⟨q13, hq, hf⟩ := bnd_t hf
      refine x_ci Y (x_rV (rest := []) X Y k_X6_114 (c_X6_of X.hg hq) cl_6.1 rfl (by decide) rfl ⟨rfl, rfl⟩ ⟨by decide, by decide⟩ hl.1 rfl (Nat.le_of_ble_eq_true rfl) dX6_segment_59 ⟨Nat.zero_le _, Nat.zero_le _⟩) (fun H locs Y => ?_)
      exact x_iret X Y hr hlk hf dX6_segment_62
    have hf := ite_f c12 hf
    by_cases c14 : v2 = (3 : Int32)
    · have hf := ite_t c14 hf
      refine x_tab (off := 45) (tgt := 56) hx hb c14 dX6_segment_11 (by decide) (by decide) ?_
      refine lv_aload_n hx hb dX6_segment_56 rfl (lv_at hl 0 rfl) ?_
      refine lv_iload_n hx hb dX6_segment_57 rfl (lv_at hl 1 rfl) ?_
      refine lv_iload_n hx hb dX6_segment_58 rfl (lv_at hl 2 rfl) ?_
      obtain ⟨q15, hq, hf⟩ := bnd_t hf
      refine x_ci Y (x_rV (rest := []) X Y k_X6_114 (c_X6_of X.hg hq) cl_6.1 rfl (by decide) rfl ⟨rfl, rfl⟩ ⟨by decide, by decide⟩ hl.1 rfl (Nat.le_of_ble_eq_true rfl) dX6_segment_59 ⟨Nat.zero_le _, Nat.zero_le _⟩) (fun H locs Y => ?_)
      exact x_iret X Y hr hlk hf dX6_segment_62
    have hf := ite_f c14 hf
    by_cases c16 : v2 = (4 : Int32)
    · have hf := ite_t c16 hf
      refine x_tab (off := 52) (tgt := 63) hx hb c16 dX6_segment_11 (by decide) (by decide) ?_
      refine lv_aload_n hx hb dX6_segment_63 rfl (lv_at hl 0 rfl) ?_
      refine lv_iload_n hx hb dX6_segment_64 rfl (lv_at hl 1 rfl) ?_
      obtain ⟨q17, hq, hf⟩ := bnd_t hf
      refine x_ci Y (x_rV (rest := []) X Y k_X6_123 (c_X6_least X.hg hq) cl_6.1 rfl (by decide) rfl ⟨rfl, rfl⟩ ⟨by decide, by decide⟩ hl.1 rfl (Nat.le_of_ble_eq_true rfl) dX6_segment_65 ⟨Nat.zero_le _, Nat.zero_le _⟩) (fun H locs Y => ?_)
      refine lv_sipush (v := 1000) hx hb dX6_segment_68 (by decide) ?_
      refine lv_iadd hx hb dX6_segment_71 ?_
      exact x_iret X Y hr hlk hf dX6_segment_72
    have hf := ite_f c16 hf
    by_cases c18 : v2 = (5 : Int32)
    · have hf := ite_t c18 hf
      refine x_tab (off := 62) (tgt := 73) hx hb c18 dX6_segment_11 (by decide) (by decide) ?_
      refine lv_aload_n hx hb dX6_segment_73 rfl (lv_at hl 0 rfl) ?_
      refine lv_iload_n hx hb dX6_segment_74 rfl (lv_at hl 1 rfl) ?_
      obtain ⟨q19, hq, hf⟩ := bnd_t hf
      refine x_ci Y (x_rV (rest := []) X Y k_X6_126 (c_X6_greatest X.hg hq) cl_6.1 rfl (by decide) rfl ⟨rfl, rfl⟩ ⟨by decide, by decide⟩ hl.1 rfl (Nat.le_of_ble_eq_true rfl) dX6_segment_75 ⟨Nat.zero_le _, Nat.zero_le _⟩) (fun H locs Y => ?_)
      refine lv_sipush (v := 1000) hx hb dX6_segment_78 (by decide) ?_
      refine lv_iadd hx hb dX6_segment_81 ?_
      exact x_iret X Y hr hlk hf dX6_segment_82
    have hf := ite_f c18 hf
    by_cases c20 : v2 = (6 : Int32)
    · have hf := ite_t c20 hf
      refine x_tab (off := 72) (tgt := 83) hx hb c20 dX6_segment_11 (by decide) (by decide) ?_
      refine lv_aload_n hx hb dX6_segment_83 rfl (lv_at hl 0 rfl) ?_
      refine lv_iload_n hx hb dX6_segment_84 rfl (lv_at hl 1 rfl) ?_
      obtain ⟨q21, hq, hf⟩ := bnd_t hf
      refine x_ci Y (x_rV (rest := []) X Y k_X6_129 (c_X6_sumOf X.hg hq) cl_6.1 rfl (by decide) rfl ⟨rfl, rfl⟩ ⟨by decide, by decide⟩ hl.1 rfl (Nat.le_of_ble_eq_true rfl) dX6_segment_85 ⟨Nat.zero_le _, Nat.zero_le _⟩) (fun H locs Y => ?_)
      refine lv_sipush (v := 10000) hx hb dX6_segment_88 (by decide) ?_
      refine lv_iadd hx hb dX6_segment_91 ?_
      exact x_iret X Y hr hlk hf dX6_segment_92
    have hf := ite_f c20 hf
    by_cases c22 : v2 = (7 : Int32)
    · have hf := ite_t c22 hf
      refine x_tab (off := 82) (tgt := 93) hx hb c22 dX6_segment_11 (by decide) (by decide) ?_
      refine lv_aload_n hx hb dX6_segment_93 rfl (lv_at hl 0 rfl) ?_
      refine lv_iload_n hx hb dX6_segment_94 rfl (lv_at hl 1 rfl) ?_
      obtain ⟨q23, hq, hf⟩ := bnd_t hf
      refine x_ci Y (x_rV (rest := []) X Y k_X6_132 (c_X6_risesIn X.hg hq) cl_6.1 rfl (by decide) rfl ⟨rfl, rfl⟩ ⟨by decide, by decide⟩ hl.1 rfl (Nat.le_of_ble_eq_true rfl) dX6_segment_95 ⟨Nat.zero_le _, Nat.zero_le _⟩) (fun H locs Y => ?_)
      exact x_iret X Y hr hlk hf dX6_segment_98
    have hf := ite_f c22 hf
    refine lv_tableOut (tgt := 99) hx hb dX6_segment_11 (by have := lv_neT c8 (a := 0) (by decide); have := lv_neT c10 (a := 1) (by decide); have := lv_neT c12 (a := 2) (by decide); have := lv_neT c14 (a := 3) (by decide); have := lv_neT c16 (a := 4) (by decide); have := lv_neT c18 (a := 5) (by decide); have := lv_neT c20 (a := 6) (by decide); have := lv_neT c22 (a := 7) (by decide); omega) (by decide) ?_
    refine lv_bipush (v := -2) hx hb dX6_segment_99 (by decide) ?_
    exact x_iret X Y hr hlk hf dX6_segment_101
  · have hf := ite_t c hf
    refine lv_iconst (v := -1) hx hb dX6_segment_8 (by decide) ?_
    exact x_iret X Y hr hlk hf dX6_segment_9
def f_X6_sampleOf (v1 : Int32) (v2 : Int32) (I : HI) : Option (Int32 × HI) :=
  (f_X6_isSegment v1 I).bind fun q5 =>
  if q5.1 = (0 : Int32) then
    some ((-1 : Int32), q5.2)
  else
    (f_X6_of v1 (1 : Int32) q5.2).bind fun q6 =>
    (f_X6_in (v2.toInt64) (0 : Int64) ((q6.1.toInt64) - (1 : Int64)) q6.2).bind fun q7 =>
    if q7.1 = (0 : Int32) then
      some ((-1 : Int32), q7.2)
    else
      (f_X6_sampleAt v1 v2 q7.2).bind fun q8 =>
      some (q8.1 + (1000 : Int32), q8.2)
abbrev rm_X6_sampleOf : Room := { frames := 3, cells := 0, slots := 0, locals := 66 }
set_option maxHeartbeats 4000000 in
set_option maxRecDepth 100000 in
theorem c_X6_sampleOf {l : Launch} {g : GX} (hg : gOk g) {v1 : Int32} {v2 : Int32} {I : HI} {r : Int32 × HI} (hf : f_X6_sampleOf v1 v2 I = some r) : Met l yX6_sampleOf (Cond.code yX6_sampleOf cX6_sampleOf 3 (some .int) :: WL) rm_X6_sampleOf (xP g [.ref (gR g 57), .int v1, .int v2] I) (xQi g r.1 r.2) 0 0 (gA g) := by
  refine x_met (by decide) hg (Nat.le_of_ble_eq_true rfl) (fun p e s m args below meth c X hr hlk Y ls hl => ?_)
  have hx := X.hx
  have hb := X.hb
  have hl : lv_has ls 3 [(0, .ref (gR g 57)), (1, .int v1), (2, .int v2)] := hl
  unfold f_X6_sampleOf at hf
  refine lv_aload_n hx hb dX6_sampleOf_0 rfl (lv_at hl 0 rfl) ?_
  refine lv_iload_n hx hb dX6_sampleOf_1 rfl (lv_at hl 1 rfl) ?_
  obtain ⟨q5, hq, hf⟩ := bnd_t hf
  refine x_ci Y (x_rV (rest := []) X Y k_X6_111 (c_X6_isSegment X.hg hq) cl_6.1 rfl (by decide) rfl ⟨rfl, rfl⟩ ⟨by decide, by decide⟩ hl.1 rfl (Nat.le_of_ble_eq_true rfl) dX6_sampleOf_2 ⟨Nat.zero_le _, Nat.zero_le _⟩) (fun H locs Y => ?_)
  refine lv_if_eq (tgt := 26) hx hb dX6_sampleOf_5 (by decide) (fun c => ?_) (fun c => ?_)
  · have hf := ite_t c hf
    refine lv_iconst (v := -1) hx hb dX6_sampleOf_26 (by decide) ?_
    exact x_iret X Y hr hlk hf dX6_sampleOf_27
  · have hf := ite_f c hf
    refine lv_iload_n hx hb dX6_sampleOf_8 rfl (lv_at hl 2 rfl) ?_
    refine lv_i2l hx hb dX6_sampleOf_9 rfl ?_
    refine lv_lconst (v := 0) hx hb dX6_sampleOf_10 (by decide) ?_
    refine lv_aload_n hx hb dX6_sampleOf_11 rfl (lv_at hl 0 rfl) ?_
    refine lv_iload_n hx hb dX6_sampleOf_12 rfl (lv_at hl 1 rfl) ?_
    refine lv_iconst (v := 1) hx hb dX6_sampleOf_13 (by decide) ?_
    obtain ⟨q6, hq, hf⟩ := bnd_t hf
    refine x_ci Y (x_rV (rest := [_, _]) X Y k_X6_114 (c_X6_of X.hg hq) cl_6.1 rfl (by decide) rfl ⟨rfl, rfl⟩ ⟨by decide, by decide⟩ hl.1 rfl (Nat.le_of_ble_eq_true rfl) dX6_sampleOf_14 ⟨Nat.zero_le _, Nat.zero_le _⟩) (fun H locs Y => ?_)
    refine lv_i2l hx hb dX6_sampleOf_17 rfl ?_
    refine lv_lconst (v := 1) hx hb dX6_sampleOf_18 (by decide) ?_
    refine lv_lsub hx hb dX6_sampleOf_19 ?_
    obtain ⟨q7, hq, hf⟩ := bnd_t hf
    refine x_ci Y (x_rS (rest := []) X Y k_X6_67 (c_X6_in X.hg hq) rfl ⟨rfl, rfl⟩ ⟨by decide, by decide⟩ hl.1 rfl (Nat.le_of_ble_eq_true rfl) dX6_sampleOf_20 ⟨Nat.zero_le _, Nat.zero_le _⟩) (fun H locs Y => ?_)
    refine lv_if_ne (tgt := 28) hx hb dX6_sampleOf_23 (by decide) (fun c => ?_) (fun c => ?_)
    · have hf := ite_f c hf
      refine lv_aload_n hx hb dX6_sampleOf_28 rfl (lv_at hl 0 rfl) ?_
      refine lv_iload_n hx hb dX6_sampleOf_29 rfl (lv_at hl 1 rfl) ?_
      refine lv_iload_n hx hb dX6_sampleOf_30 rfl (lv_at hl 2 rfl) ?_
      obtain ⟨q8, hq, hf⟩ := bnd_t hf
      refine x_ci Y (x_rV (rest := []) X Y k_X6_120 (c_X6_sampleAt X.hg hq) cl_6.1 rfl (by decide) rfl ⟨rfl, rfl⟩ ⟨by decide, by decide⟩ hl.1 rfl (Nat.le_of_ble_eq_true rfl) dX6_sampleOf_31 ⟨Nat.zero_le _, Nat.zero_le _⟩) (fun H locs Y => ?_)
      refine lv_sipush (v := 1000) hx hb dX6_sampleOf_34 (by decide) ?_
      refine lv_iadd hx hb dX6_sampleOf_37 ?_
      exact x_iret X Y hr hlk hf dX6_sampleOf_38
    · have hf := ite_t c hf
      refine lv_iconst (v := -1) hx hb dX6_sampleOf_26 (by decide) ?_
      exact x_iret X Y hr hlk hf dX6_sampleOf_27
def f_X6_sample (v1 : Int32) (I : HI) : Option (Int32 × HI) :=
  (f_X6_in (v1.toInt64) (0 : Int64) (((I 58 10).toInt64) - (1 : Int64)) I).bind fun q2 =>
  if q2.1 = (0 : Int32) then
    some ((-1 : Int32), q2.2)
  else
    if ((47 : Int32) + v1) < 0 ∨ 447 ≤ ((47 : Int32) + v1).toNatClampNeg then none else
    some ((q2.2 58 ((47 : Int32) + v1).toNatClampNeg) + (1000 : Int32), q2.2)
abbrev rm_X6_sample : Room := { frames := 1, cells := 0, slots := 0, locals := 25 }
set_option maxHeartbeats 4000000 in
set_option maxRecDepth 100000 in
theorem c_X6_sample {l : Launch} {g : GX} (hg : gOk g) {v1 : Int32} {I : HI} {r : Int32 × HI} (hf : f_X6_sample v1 I = some r) : Met l yX6_sample (Cond.code yX6_sample cX6_sample 2 (some .int) :: WL) rm_X6_sample (xP g [.ref (gR g 57), .int v1] I) (xQi g r.1 r.2) 0 0 (gA g) := by
  refine x_met (by decide) hg (Nat.le_of_ble_eq_true rfl) (fun p e s m args below meth c X hr hlk Y ls hl => ?_)
  have hx := X.hx
  have hb := X.hb
  have hl : lv_has ls 2 [(0, .ref (gR g 57)), (1, .int v1)] := hl
  unfold f_X6_sample at hf
  refine lv_iload_n hx hb dX6_sample_0 rfl (lv_at hl 1 rfl) ?_
  refine lv_i2l hx hb dX6_sample_1 rfl ?_
  refine lv_lconst (v := 0) hx hb dX6_sample_2 (by decide) ?_
  refine lv_aload_n hx hb dX6_sample_3 rfl (lv_at hl 0 rfl) ?_
  refine x_get (v := .ref (gR g 58)) X Y cl_6 rfl (by decide) 0 (by decide) wf_X6_7 rfl dX6_sample_4 ?_
  refine lv_bipush (v := 10) hx hb dX6_sample_7 (by decide) ?_
  refine x_ialdL (k := 10) X Y rfl (by decide) (by decide) (vin (by decide)) dX6_sample_9 ?_
  refine lv_i2l hx hb dX6_sample_10 rfl ?_
  refine lv_lconst (v := 1) hx hb dX6_sample_11 (by decide) ?_
  refine lv_lsub hx hb dX6_sample_12 ?_
  obtain ⟨q2, hq, hf⟩ := bnd_t hf
  refine x_ci Y (x_rS (rest := []) X Y k_X6_67 (c_X6_in X.hg hq) rfl ⟨rfl, rfl⟩ ⟨by decide, by decide⟩ hl.1 rfl (Nat.le_of_ble_eq_true rfl) dX6_sample_13 ⟨Nat.zero_le _, Nat.zero_le _⟩) (fun H locs Y => ?_)
  refine lv_if_eq (tgt := 35) hx hb dX6_sample_16 (by decide) (fun c => ?_) (fun c => ?_)
  · have hf := ite_t c hf
    refine lv_iconst (v := -1) hx hb dX6_sample_35 (by decide) ?_
    exact x_iret X Y hr hlk hf dX6_sample_36
  · have hf := ite_f c hf
    refine lv_aload_n hx hb dX6_sample_19 rfl (lv_at hl 0 rfl) ?_
    refine x_get (v := .ref (gR g 58)) X Y cl_6 rfl (by decide) 0 (by decide) wf_X6_7 rfl dX6_sample_20 ?_
    refine lv_bipush (v := 47) hx hb dX6_sample_23 (by decide) ?_
    refine lv_iload_n hx hb dX6_sample_25 rfl (lv_at hl 1 rfl) ?_
    refine lv_iadd hx hb dX6_sample_26 ?_
    obtain ⟨hin, hf⟩ := oob_t hf
    refine x_iald X Y rfl hin dX6_sample_27 ?_
    refine lv_sipush (v := 1000) hx hb dX6_sample_28 (by decide) ?_
    refine lv_iadd hx hb dX6_sample_31 ?_
    refine lv_goto (tgt := 36) hx hb dX6_sample_32 (by decide) ?_
    exact x_iret X Y hr hlk hf dX6_sample_36
def f_X6_phase (I : HI) : Option (Int32 × HI) :=
  if (I 58 17) = (1 : Int32) then
    some ((3 : Int32), I)
  else
    (f_X6_hasRoom I).bind fun q3 =>
    if q3.1 = (0 : Int32) then
      some ((2 : Int32), q3.2)
    else
      (f_X6_isLongEnough q3.2).bind fun q4 =>
      if q4.1 = (0 : Int32) then
        some ((0 : Int32), q4.2)
      else
        some ((1 : Int32), q4.2)
abbrev rm_X6_phase : Room := { frames := 1, cells := 0, slots := 0, locals := 20 }
set_option maxHeartbeats 4000000 in
set_option maxRecDepth 100000 in
theorem c_X6_phase {l : Launch} {g : GX} (hg : gOk g) {I : HI} {r : Int32 × HI} (hf : f_X6_phase I = some r) : Met l yX6_phase (Cond.code yX6_phase cX6_phase 1 (some .int) :: WL) rm_X6_phase (xP g [.ref (gR g 57)] I) (xQi g r.1 r.2) 0 0 (gA g) := by
  refine x_met (by decide) hg (Nat.le_of_ble_eq_true rfl) (fun p e s m args below meth c X hr hlk Y ls hl => ?_)
  have hx := X.hx
  have hb := X.hb
  have hl : lv_has ls 1 [(0, .ref (gR g 57))] := hl
  unfold f_X6_phase at hf
  refine lv_aload_n hx hb dX6_phase_0 rfl (lv_at hl 0 rfl) ?_
  refine x_get (v := .ref (gR g 58)) X Y cl_6 rfl (by decide) 0 (by decide) wf_X6_7 rfl dX6_phase_1 ?_
  refine lv_bipush (v := 17) hx hb dX6_phase_4 (by decide) ?_
  refine x_ialdL (k := 17) X Y rfl (by decide) (by decide) (vin (by decide)) dX6_phase_6 ?_
  refine lv_iconst (v := 1) hx hb dX6_phase_7 (by decide) ?_
  refine lv_icmp_ne (tgt := 15) hx hb dX6_phase_8 (by decide) (fun c => ?_) (fun c => ?_)
  · have hf := ite_f c hf
    refine lv_aload_n hx hb dX6_phase_15 rfl (lv_at hl 0 rfl) ?_
    obtain ⟨q3, hq, hf⟩ := bnd_t hf
    refine x_ci Y (x_rV (rest := []) X Y k_X6_50 (c_X6_hasRoom X.hg hq) cl_6.1 rfl (by decide) rfl ⟨rfl, rfl⟩ ⟨by decide, by decide⟩ hl.1 rfl (Nat.le_of_ble_eq_true rfl) dX6_phase_16 ⟨Nat.zero_le _, Nat.zero_le _⟩) (fun H locs Y => ?_)
    refine lv_if_ne (tgt := 26) hx hb dX6_phase_19 (by decide) (fun c => ?_) (fun c => ?_)
    · have hf := ite_f c hf
      refine lv_aload_n hx hb dX6_phase_26 rfl (lv_at hl 0 rfl) ?_
      obtain ⟨q4, hq, hf⟩ := bnd_t hf
      refine x_ci Y (x_rV (rest := []) X Y k_X6_46 (c_X6_isLongEnough X.hg hq) cl_6.1 rfl (by decide) rfl ⟨rfl, rfl⟩ ⟨by decide, by decide⟩ hl.1 rfl (Nat.le_of_ble_eq_true rfl) dX6_phase_27 ⟨Nat.zero_le _, Nat.zero_le _⟩) (fun H locs Y => ?_)
      refine lv_if_eq (tgt := 37) hx hb dX6_phase_30 (by decide) (fun c => ?_) (fun c => ?_)
      · have hf := ite_t c hf
        refine lv_iconst (v := 0) hx hb dX6_phase_37 (by decide) ?_
        exact x_iret X Y hr hlk hf dX6_phase_38
      · have hf := ite_f c hf
        refine lv_iconst (v := 1) hx hb dX6_phase_33 (by decide) ?_
        refine lv_goto (tgt := 38) hx hb dX6_phase_34 (by decide) ?_
        exact x_iret X Y hr hlk hf dX6_phase_38
    · have hf := ite_t c hf
      refine lv_iconst (v := 2) hx hb dX6_phase_22 (by decide) ?_
      refine lv_goto (tgt := 38) hx hb dX6_phase_23 (by decide) ?_
      exact x_iret X Y hr hlk hf dX6_phase_38
  · have hf := ite_t c hf
    refine lv_iconst (v := 3) hx hb dX6_phase_11 (by decide) ?_
    refine lv_goto (tgt := 38) hx hb dX6_phase_12 (by decide) ?_
    exact x_iret X Y hr hlk hf dX6_phase_38
def f_X6_count (v1 : Int32) (I : HI) : Option (Int32 × HI) :=
  (f_X6_in (v1.toInt64) (10 : Int64) (19 : Int64) I).bind fun q4 =>
  if q4.1 = (0 : Int32) then
    if v1 = (0 : Int32) then
      some (q4.2 58 10, q4.2)
    else
    if v1 = (1 : Int32) then
      some (q4.2 58 22, q4.2)
    else
    if v1 = (2 : Int32) then
      (f_X6_phase q4.2).bind fun q8 =>
      some (q8.1, q8.2)
    else
    if v1 = (3 : Int32) then
      some (q4.2 58 11, q4.2)
    else
    if v1 = (4 : Int32) then
      some (q4.2 58 12, q4.2)
    else
    if v1 = (5 : Int32) then
      some (q4.2 58 13, q4.2)
    else
    if v1 = (6 : Int32) then
      some (q4.2 58 14, q4.2)
    else
    if v1 = (7 : Int32) then
      some (q4.2 58 15, q4.2)
    else
    if v1 = (8 : Int32) then
      some (q4.2 58 16, q4.2)
    else
    if v1 = (9 : Int32) then
      (f_X6_lacking q4.2).bind fun q16 =>
      some (q16.1, q16.2)
    else
    if v1 = (10 : Int32) then
      some ((-2 : Int32), q4.2)
    else
    if v1 = (11 : Int32) then
      some ((-2 : Int32), q4.2)
    else
    if v1 = (12 : Int32) then
      some ((-2 : Int32), q4.2)
    else
    if v1 = (13 : Int32) then
      some ((-2 : Int32), q4.2)
    else
    if v1 = (14 : Int32) then
      some ((-2 : Int32), q4.2)
    else
    if v1 = (15 : Int32) then
      some ((-2 : Int32), q4.2)
    else
    if v1 = (16 : Int32) then
      some ((-2 : Int32), q4.2)
    else
    if v1 = (17 : Int32) then
      some ((-2 : Int32), q4.2)
    else
    if v1 = (18 : Int32) then
      some ((-2 : Int32), q4.2)
    else
    if v1 = (19 : Int32) then
      some ((-2 : Int32), q4.2)
    else
    if v1 = (20 : Int32) then
      some (q4.2 57 8, q4.2)
    else
    if v1 = (21 : Int32) then
      some (q4.2 57 3, q4.2)
    else
    some ((-2 : Int32), q4.2)
  else
    if (v1 - (10 : Int32)) < 0 ∨ 447 ≤ (v1 - (10 : Int32)).toNatClampNeg then none else
    some ((q4.2 58 (v1 - (10 : Int32)).toNatClampNeg) + (1000 : Int32), q4.2)
abbrev rm_X6_count : Room := { frames := 2, cells := 0, slots := 0, locals := 40 }
set_option maxHeartbeats 4000000 in
set_option maxRecDepth 100000 in
theorem c_X6_count {l : Launch} {g : GX} (hg : gOk g) {v1 : Int32} {I : HI} {r : Int32 × HI} (hf : f_X6_count v1 I = some r) : Met l yX6_count (Cond.code yX6_count cX6_count 2 (some .int) :: WL) rm_X6_count (xP g [.ref (gR g 57), .int v1] I) (xQi g r.1 r.2) 0 0 (gA g) := by
  refine x_met (by decide) hg (Nat.le_of_ble_eq_true rfl) (fun p e s m args below meth c X hr hlk Y ls hl => ?_)
  have hx := X.hx
  have hb := X.hb
  have hl : lv_has ls 2 [(0, .ref (gR g 57)), (1, .int v1)] := hl
  unfold f_X6_count at hf
  refine lv_iload_n hx hb dX6_count_0 rfl (lv_at hl 1 rfl) ?_
  refine lv_i2l hx hb dX6_count_1 rfl ?_
  refine lv_ldc2 (v := 10) hx hb X.1.2.2.2.1 (X.w wk_X6_135) dX6_count_2 ?_
  refine lv_ldc2 (v := 19) hx hb X.1.2.2.2.1 (X.w wk_X6_137) dX6_count_5 ?_
  obtain ⟨q4, hq, hf⟩ := bnd_t hf
  refine x_ci Y (x_rS (rest := []) X Y k_X6_67 (c_X6_in X.hg hq) rfl ⟨rfl, rfl⟩ ⟨by decide, by decide⟩ hl.1 rfl (Nat.le_of_ble_eq_true rfl) dX6_count_8 ⟨Nat.zero_le _, Nat.zero_le _⟩) (fun H locs Y => ?_)
  refine lv_if_eq (tgt := 28) hx hb dX6_count_11 (by decide) (fun c => ?_) (fun c => ?_)
  · have hf := ite_t c hf
    refine lv_iload_n hx hb dX6_count_28 rfl (lv_at hl 1 rfl) ?_
    by_cases c5 : v1 = (0 : Int32)
    · have hf := ite_t c5 hf
      refine x_tab (off := 103) (tgt := 132) hx hb c5 dX6_count_29 (by decide) (by decide) ?_
      refine lv_aload_n hx hb dX6_count_132 rfl (lv_at hl 0 rfl) ?_
      refine x_get (v := .ref (gR g 58)) X Y cl_6 rfl (by decide) 0 (by decide) wf_X6_7 rfl dX6_count_133 ?_
      refine lv_bipush (v := 10) hx hb dX6_count_136 (by decide) ?_
      refine x_ialdL (k := 10) X Y rfl (by decide) (by decide) (vin (by decide)) dX6_count_138 ?_
      exact x_iret X Y hr hlk hf dX6_count_139
    have hf := ite_f c5 hf
    by_cases c6 : v1 = (1 : Int32)
    · have hf := ite_t c6 hf
      refine x_tab (off := 111) (tgt := 140) hx hb c6 dX6_count_29 (by decide) (by decide) ?_
      refine lv_aload_n hx hb dX6_count_140 rfl (lv_at hl 0 rfl) ?_
      refine x_get (v := .ref (gR g 58)) X Y cl_6 rfl (by decide) 0 (by decide) wf_X6_7 rfl dX6_count_141 ?_
      refine lv_bipush (v := 22) hx hb dX6_count_144 (by decide) ?_
      refine x_ialdL (k := 22) X Y rfl (by decide) (by decide) (vin (by decide)) dX6_count_146 ?_
      exact x_iret X Y hr hlk hf dX6_count_147
    have hf := ite_f c6 hf
    by_cases c7 : v1 = (2 : Int32)
    · have hf := ite_t c7 hf
      refine x_tab (off := 119) (tgt := 148) hx hb c7 dX6_count_29 (by decide) (by decide) ?_
      refine lv_aload_n hx hb dX6_count_148 rfl (lv_at hl 0 rfl) ?_
      obtain ⟨q8, hq, hf⟩ := bnd_t hf
      refine x_ci Y (x_rV (rest := []) X Y k_X6_139 (c_X6_phase X.hg hq) cl_6.1 rfl (by decide) rfl ⟨rfl, rfl⟩ ⟨by decide, by decide⟩ hl.1 rfl (Nat.le_of_ble_eq_true rfl) dX6_count_149 ⟨Nat.zero_le _, Nat.zero_le _⟩) (fun H locs Y => ?_)
      exact x_iret X Y hr hlk hf dX6_count_152
    have hf := ite_f c7 hf
    by_cases c9 : v1 = (3 : Int32)
    · have hf := ite_t c9 hf
      refine x_tab (off := 124) (tgt := 153) hx hb c9 dX6_count_29 (by decide) (by decide) ?_
      refine lv_aload_n hx hb dX6_count_153 rfl (lv_at hl 0 rfl) ?_
      refine x_get (v := .ref (gR g 58)) X Y cl_6 rfl (by decide) 0 (by decide) wf_X6_7 rfl dX6_count_154 ?_
      refine lv_bipush (v := 11) hx hb dX6_count_157 (by decide) ?_
      refine x_ialdL (k := 11) X Y rfl (by decide) (by decide) (vin (by decide)) dX6_count_159 ?_
      exact x_iret X Y hr hlk hf dX6_count_160
    have hf := ite_f c9 hf
    by_cases c10 : v1 = (4 : Int32)
    · have hf := ite_t c10 hf
      refine x_tab (off := 132) (tgt := 161) hx hb c10 dX6_count_29 (by decide) (by decide) ?_
      refine lv_aload_n hx hb dX6_count_161 rfl (lv_at hl 0 rfl) ?_
      refine x_get (v := .ref (gR g 58)) X Y cl_6 rfl (by decide) 0 (by decide) wf_X6_7 rfl dX6_count_162 ?_
      refine lv_bipush (v := 12) hx hb dX6_count_165 (by decide) ?_
      refine x_ialdL (k := 12) X Y rfl (by decide) (by decide) (vin (by decide)) dX6_count_167 ?_
      exact x_iret X Y hr hlk hf dX6_count_168
    have hf := ite_f c10 hf
    by_cases c11 : v1 = (5 : Int32)
    · have hf := ite_t c11 hf
      refine x_tab (off := 140) (tgt := 169) hx hb c11 dX6_count_29 (by decide) (by decide) ?_
      refine lv_aload_n hx hb dX6_count_169 rfl (lv_at hl 0 rfl) ?_
      refine x_get (v := .ref (gR g 58)) X Y cl_6 rfl (by decide) 0 (by decide) wf_X6_7 rfl dX6_count_170 ?_
      refine lv_bipush (v := 13) hx hb dX6_count_173 (by decide) ?_
      refine x_ialdL (k := 13) X Y rfl (by decide) (by decide) (vin (by decide)) dX6_count_175 ?_
      exact x_iret X Y hr hlk hf dX6_count_176
    have hf := ite_f c11 hf
    by_cases c12 : v1 = (6 : Int32)
    · have hf := ite_t c12 hf
      refine x_tab (off := 148) (tgt := 177) hx hb c12 dX6_count_29 (by decide) (by decide) ?_
      refine lv_aload_n hx hb dX6_count_177 rfl (lv_at hl 0 rfl) ?_
      refine x_get (v := .ref (gR g 58)) X Y cl_6 rfl (by decide) 0 (by decide) wf_X6_7 rfl dX6_count_178 ?_
      refine lv_bipush (v := 14) hx hb dX6_count_181 (by decide) ?_
      refine x_ialdL (k := 14) X Y rfl (by decide) (by decide) (vin (by decide)) dX6_count_183 ?_
      exact x_iret X Y hr hlk hf dX6_count_184
    have hf := ite_f c12 hf
    by_cases c13 : v1 = (7 : Int32)
    · have hf := ite_t c13 hf
      refine x_tab (off := 156) (tgt := 185) hx hb c13 dX6_count_29 (by decide) (by decide) ?_
      refine lv_aload_n hx hb dX6_count_185 rfl (lv_at hl 0 rfl) ?_
      refine x_get (v := .ref (gR g 58)) X Y cl_6 rfl (by decide) 0 (by decide) wf_X6_7 rfl dX6_count_186 ?_
      refine lv_bipush (v := 15) hx hb dX6_count_189 (by decide) ?_
      refine x_ialdL (k := 15) X Y rfl (by decide) (by decide) (vin (by decide)) dX6_count_191 ?_
      exact x_iret X Y hr hlk hf dX6_count_192
    have hf := ite_f c13 hf
    by_cases c14 : v1 = (8 : Int32)
    · have hf := ite_t c14 hf
      refine x_tab (off := 164) (tgt := 193) hx hb c14 dX6_count_29 (by decide) (by decide) ?_
      refine lv_aload_n hx hb dX6_count_193 rfl (lv_at hl 0 rfl) ?_
      refine x_get (v := .ref (gR g 58)) X Y cl_6 rfl (by decide) 0 (by decide) wf_X6_7 rfl dX6_count_194 ?_
      refine lv_bipush (v := 16) hx hb dX6_count_197 (by decide) ?_
      refine x_ialdL (k := 16) X Y rfl (by decide) (by decide) (vin (by decide)) dX6_count_199 ?_
      exact x_iret X Y hr hlk hf dX6_count_200
    have hf := ite_f c14 hf
    by_cases c15 : v1 = (9 : Int32)
    · have hf := ite_t c15 hf
      refine x_tab (off := 172) (tgt := 201) hx hb c15 dX6_count_29 (by decide) (by decide) ?_
      refine lv_aload_n hx hb dX6_count_201 rfl (lv_at hl 0 rfl) ?_
      obtain ⟨q16, hq, hf⟩ := bnd_t hf
      refine x_ci Y (x_rV (rest := []) X Y k_X6_56 (c_X6_lacking X.hg hq) cl_6.1 rfl (by decide) rfl ⟨rfl, rfl⟩ ⟨by decide, by decide⟩ hl.1 rfl (Nat.le_of_ble_eq_true rfl) dX6_count_202 ⟨Nat.zero_le _, Nat.zero_le _⟩) (fun H locs Y => ?_)
      exact x_iret X Y hr hlk hf dX6_count_205
    have hf := ite_f c15 hf
    by_cases c17 : v1 = (10 : Int32)
    · have hf := ite_t c17 hf
      refine x_tab (off := 187) (tgt := 216) hx hb c17 dX6_count_29 (by decide) (by decide) ?_
      refine lv_bipush (v := -2) hx hb dX6_count_216 (by decide) ?_
      exact x_iret X Y hr hlk hf dX6_count_218
    have hf := ite_f c17 hf
    by_cases c18 : v1 = (11 : Int32)
    · have hf := ite_t c18 hf
      refine x_tab (off := 187) (tgt := 216) hx hb c18 dX6_count_29 (by decide) (by decide) ?_
      refine lv_bipush (v := -2) hx hb dX6_count_216 (by decide) ?_
      exact x_iret X Y hr hlk hf dX6_count_218
    have hf := ite_f c18 hf
    by_cases c19 : v1 = (12 : Int32)
    · have hf := ite_t c19 hf
      refine x_tab (off := 187) (tgt := 216) hx hb c19 dX6_count_29 (by decide) (by decide) ?_
      refine lv_bipush (v := -2) hx hb dX6_count_216 (by decide) ?_
      exact x_iret X Y hr hlk hf dX6_count_218
    have hf := ite_f c19 hf
    by_cases c20 : v1 = (13 : Int32)
    · have hf := ite_t c20 hf
      refine x_tab (off := 187) (tgt := 216) hx hb c20 dX6_count_29 (by decide) (by decide) ?_
      refine lv_bipush (v := -2) hx hb dX6_count_216 (by decide) ?_
      exact x_iret X Y hr hlk hf dX6_count_218
    have hf := ite_f c20 hf
    by_cases c21 : v1 = (14 : Int32)
    · have hf := ite_t c21 hf
      refine x_tab (off := 187) (tgt := 216) hx hb c21 dX6_count_29 (by decide) (by decide) ?_
      refine lv_bipush (v := -2) hx hb dX6_count_216 (by decide) ?_
      exact x_iret X Y hr hlk hf dX6_count_218
    have hf := ite_f c21 hf
    by_cases c22 : v1 = (15 : Int32)
    · have hf := ite_t c22 hf
      refine x_tab (off := 187) (tgt := 216) hx hb c22 dX6_count_29 (by decide) (by decide) ?_
      refine lv_bipush (v := -2) hx hb dX6_count_216 (by decide) ?_
      exact x_iret X Y hr hlk hf dX6_count_218
    have hf := ite_f c22 hf
    by_cases c23 : v1 = (16 : Int32)
    · have hf := ite_t c23 hf
      refine x_tab (off := 187) (tgt := 216) hx hb c23 dX6_count_29 (by decide) (by decide) ?_
      refine lv_bipush (v := -2) hx hb dX6_count_216 (by decide) ?_
      exact x_iret X Y hr hlk hf dX6_count_218
    have hf := ite_f c23 hf
    by_cases c24 : v1 = (17 : Int32)
    · have hf := ite_t c24 hf
      refine x_tab (off := 187) (tgt := 216) hx hb c24 dX6_count_29 (by decide) (by decide) ?_
      refine lv_bipush (v := -2) hx hb dX6_count_216 (by decide) ?_
      exact x_iret X Y hr hlk hf dX6_count_218
    have hf := ite_f c24 hf
    by_cases c25 : v1 = (18 : Int32)
    · have hf := ite_t c25 hf
      refine x_tab (off := 187) (tgt := 216) hx hb c25 dX6_count_29 (by decide) (by decide) ?_
      refine lv_bipush (v := -2) hx hb dX6_count_216 (by decide) ?_
      exact x_iret X Y hr hlk hf dX6_count_218
    have hf := ite_f c25 hf
    by_cases c26 : v1 = (19 : Int32)
    · have hf := ite_t c26 hf
      refine x_tab (off := 187) (tgt := 216) hx hb c26 dX6_count_29 (by decide) (by decide) ?_
      refine lv_bipush (v := -2) hx hb dX6_count_216 (by decide) ?_
      exact x_iret X Y hr hlk hf dX6_count_218
    have hf := ite_f c26 hf
    by_cases c27 : v1 = (20 : Int32)
    · have hf := ite_t c27 hf
      refine x_tab (off := 177) (tgt := 206) hx hb c27 dX6_count_29 (by decide) (by decide) ?_
      refine lv_aload_n hx hb dX6_count_206 rfl (lv_at hl 0 rfl) ?_
      refine x_geti X Y cl_6 rfl (by decide) 8 (by decide) rfl wf_X6_142 dX6_count_207 ?_
      exact x_iret X Y hr hlk hf dX6_count_210
    have hf := ite_f c27 hf
    by_cases c28 : v1 = (21 : Int32)
    · have hf := ite_t c28 hf
      refine x_tab (off := 182) (tgt := 211) hx hb c28 dX6_count_29 (by decide) (by decide) ?_
      refine lv_aload_n hx hb dX6_count_211 rfl (lv_at hl 0 rfl) ?_
      refine x_geti X Y cl_6 rfl (by decide) 3 (by decide) rfl wf_X6_28 dX6_count_212 ?_
      exact x_iret X Y hr hlk hf dX6_count_215
    have hf := ite_f c28 hf
    refine lv_tableOut (tgt := 216) hx hb dX6_count_29 (by have := lv_neT c5 (a := 0) (by decide); have := lv_neT c6 (a := 1) (by decide); have := lv_neT c7 (a := 2) (by decide); have := lv_neT c9 (a := 3) (by decide); have := lv_neT c10 (a := 4) (by decide); have := lv_neT c11 (a := 5) (by decide); have := lv_neT c12 (a := 6) (by decide); have := lv_neT c13 (a := 7) (by decide); have := lv_neT c14 (a := 8) (by decide); have := lv_neT c15 (a := 9) (by decide); have := lv_neT c17 (a := 10) (by decide); have := lv_neT c18 (a := 11) (by decide); have := lv_neT c19 (a := 12) (by decide); have := lv_neT c20 (a := 13) (by decide); have := lv_neT c21 (a := 14) (by decide); have := lv_neT c22 (a := 15) (by decide); have := lv_neT c23 (a := 16) (by decide); have := lv_neT c24 (a := 17) (by decide); have := lv_neT c25 (a := 18) (by decide); have := lv_neT c26 (a := 19) (by decide); have := lv_neT c27 (a := 20) (by decide); have := lv_neT c28 (a := 21) (by decide); omega) (by decide) ?_
    refine lv_bipush (v := -2) hx hb dX6_count_216 (by decide) ?_
    exact x_iret X Y hr hlk hf dX6_count_218
  · have hf := ite_f c hf
    refine lv_aload_n hx hb dX6_count_14 rfl (lv_at hl 0 rfl) ?_
    refine x_get (v := .ref (gR g 58)) X Y cl_6 rfl (by decide) 0 (by decide) wf_X6_7 rfl dX6_count_15 ?_
    refine lv_iload_n hx hb dX6_count_18 rfl (lv_at hl 1 rfl) ?_
    refine lv_bipush (v := 10) hx hb dX6_count_19 (by decide) ?_
    refine lv_isub hx hb dX6_count_21 ?_
    obtain ⟨hin, hf⟩ := oob_t hf
    refine x_iald X Y rfl hin dX6_count_22 ?_
    refine lv_sipush (v := 1000) hx hb dX6_count_23 (by decide) ?_
    refine lv_iadd hx hb dX6_count_26 ?_
    exact x_iret X Y hr hlk hf dX6_count_27
def f_X6_isLevel (v1 : Int32) (I : HI) : Option (Int32 × HI) :=
  if (I 58 0) ≤ (1 : Int32) then
    some ((1 : Int32), I)
  else
    if (I 58 4) ≤ v1 then
      some ((0 : Int32), I)
    else
      some ((1 : Int32), I)
abbrev rm_X6_isLevel : Room := { frames := 0, cells := 0, slots := 0, locals := 0 }
set_option maxHeartbeats 4000000 in
set_option maxRecDepth 100000 in
theorem c_X6_isLevel {l : Launch} {g : GX} (hg : gOk g) {v1 : Int32} {I : HI} {r : Int32 × HI} (hf : f_X6_isLevel v1 I = some r) : Met l yX6_isLevel (Cond.code yX6_isLevel cX6_isLevel 2 (some .boolean) :: WL) rm_X6_isLevel (xP g [.ref (gR g 57), .int v1] I) (xQi g r.1 r.2) 0 0 (gA g) := by
  refine x_met (by decide) hg (Nat.le_of_ble_eq_true rfl) (fun p e s m args below meth c X hr hlk Y ls hl => ?_)
  have hx := X.hx
  have hb := X.hb
  have hl : lv_has ls 2 [(0, .ref (gR g 57)), (1, .int v1)] := hl
  unfold f_X6_isLevel at hf
  refine lv_aload_n hx hb dX6_isLevel_0 rfl (lv_at hl 0 rfl) ?_
  refine x_get (v := .ref (gR g 58)) X Y cl_6 rfl (by decide) 0 (by decide) wf_X6_7 rfl dX6_isLevel_1 ?_
  refine lv_iconst (v := 0) hx hb dX6_isLevel_4 (by decide) ?_
  refine x_ialdL (k := 0) X Y rfl (by decide) (by decide) (vin (by decide)) dX6_isLevel_5 ?_
  refine lv_iconst (v := 1) hx hb dX6_isLevel_6 (by decide) ?_
  refine lv_icmp_le (tgt := 20) hx hb dX6_isLevel_7 (by decide) (fun c => ?_) (fun c => ?_)
  · have hf := ite_t c hf
    refine lv_iconst (v := 1) hx hb dX6_isLevel_20 (by decide) ?_
    refine lv_goto (tgt := 25) hx hb dX6_isLevel_21 (by decide) ?_
    exact x_zret X Y hr hlk rfl hf dX6_isLevel_25
  · have hf := ite_f c hf
    refine lv_iload_n hx hb dX6_isLevel_10 rfl (lv_at hl 1 rfl) ?_
    refine lv_aload_n hx hb dX6_isLevel_11 rfl (lv_at hl 0 rfl) ?_
    refine x_get (v := .ref (gR g 58)) X Y cl_6 rfl (by decide) 0 (by decide) wf_X6_7 rfl dX6_isLevel_12 ?_
    refine lv_iconst (v := 4) hx hb dX6_isLevel_15 (by decide) ?_
    refine x_ialdL (k := 4) X Y rfl (by decide) (by decide) (vin (by decide)) dX6_isLevel_16 ?_
    refine lv_icmp_ge (tgt := 24) hx hb dX6_isLevel_17 (by decide) (fun c => ?_) (fun c => ?_)
    · have hf := ite_t c hf
      refine lv_iconst (v := 0) hx hb dX6_isLevel_24 (by decide) ?_
      exact x_zret X Y hr hlk rfl hf dX6_isLevel_25
    · have hf := ite_f c hf
      refine lv_iconst (v := 1) hx hb dX6_isLevel_20 (by decide) ?_
      refine lv_goto (tgt := 25) hx hb dX6_isLevel_21 (by decide) ?_
      exact x_zret X Y hr hlk rfl hf dX6_isLevel_25
def f_X6_fires (v1 : Int32) (I : HI) : Option (Int32 × HI) :=
  (f_X6_isSample v1 I).bind fun q4 =>
  if q4.1 = (0 : Int32) then
    some ((-2 : Int32), q4.2)
  else
    (f_X6_isLevel v1 q4.2).bind fun q5 =>
    if q5.1 = (0 : Int32) then
      some ((-5 : Int32), q5.2)
    else
      (f_X6_firings v1 q5.2).bind fun q6 =>
      some (q6.1, q6.2)
abbrev rm_X6_fires : Room := { frames := 2, cells := 0, slots := 0, locals := 49 }
set_option maxHeartbeats 4000000 in
set_option maxRecDepth 100000 in
theorem c_X6_fires {l : Launch} {g : GX} (hg : gOk g) {v1 : Int32} {I : HI} {r : Int32 × HI} (hf : f_X6_fires v1 I = some r) : Met l yX6_fires (Cond.code yX6_fires cX6_fires 2 (some .int) :: WL) rm_X6_fires (xP g [.ref (gR g 57), .int v1] I) (xQi g r.1 r.2) 0 0 (gA g) := by
  refine x_met (by decide) hg (Nat.le_of_ble_eq_true rfl) (fun p e s m args below meth c X hr hlk Y ls hl => ?_)
  have hx := X.hx
  have hb := X.hb
  have hl : lv_has ls 2 [(0, .ref (gR g 57)), (1, .int v1)] := hl
  unfold f_X6_fires at hf
  refine lv_iload_n hx hb dX6_fires_0 rfl (lv_at hl 1 rfl) ?_
  obtain ⟨q4, hq, hf⟩ := bnd_t hf
  refine x_ci Y (x_rS (rest := []) X Y k_X6_71 (c_X6_isSample X.hg hq) rfl ⟨rfl, rfl⟩ ⟨by decide, by decide⟩ hl.1 rfl (Nat.le_of_ble_eq_true rfl) dX6_fires_1 ⟨Nat.zero_le _, Nat.zero_le _⟩) (fun H locs Y => ?_)
  refine lv_if_ne (tgt := 10) hx hb dX6_fires_4 (by decide) (fun c => ?_) (fun c => ?_)
  · have hf := ite_f c hf
    refine lv_aload_n hx hb dX6_fires_10 rfl (lv_at hl 0 rfl) ?_
    refine lv_iload_n hx hb dX6_fires_11 rfl (lv_at hl 1 rfl) ?_
    obtain ⟨q5, hq, hf⟩ := bnd_t hf
    refine x_ci Y (x_rV (rest := []) X Y k_X6_145 (c_X6_isLevel X.hg hq) cl_6.1 rfl (by decide) rfl ⟨rfl, rfl⟩ ⟨by decide, by decide⟩ hl.1 rfl (Nat.le_of_ble_eq_true rfl) dX6_fires_12 ⟨Nat.zero_le _, Nat.zero_le _⟩) (fun H locs Y => ?_)
    refine lv_if_eq (tgt := 26) hx hb dX6_fires_15 (by decide) (fun c => ?_) (fun c => ?_)
    · have hf := ite_t c hf
      refine lv_bipush (v := -5) hx hb dX6_fires_26 (by decide) ?_
      exact x_iret X Y hr hlk hf dX6_fires_28
    · have hf := ite_f c hf
      refine lv_aload_n hx hb dX6_fires_18 rfl (lv_at hl 0 rfl) ?_
      refine lv_iload_n hx hb dX6_fires_19 rfl (lv_at hl 1 rfl) ?_
      obtain ⟨q6, hq, hf⟩ := bnd_t hf
      refine x_ci Y (x_rV (rest := []) X Y k_X6_148 (c_X6_firings X.hg hq) cl_6.1 rfl (by decide) rfl ⟨rfl, rfl⟩ ⟨by decide, by decide⟩ hl.1 rfl (Nat.le_of_ble_eq_true rfl) dX6_fires_20 ⟨Nat.zero_le _, Nat.zero_le _⟩) (fun H locs Y => ?_)
      refine lv_goto (tgt := 28) hx hb dX6_fires_23 (by decide) ?_
      exact x_iret X Y hr hlk hf dX6_fires_28
  · have hf := ite_t c hf
    refine lv_bipush (v := -2) hx hb dX6_fires_7 (by decide) ?_
    exact x_iret X Y hr hlk hf dX6_fires_9
def f_X6_bestLevel_J79 (v1 : Int32) (v2 : Int32) (v3 : Int32) (I : HI) : Option (Int32 × HI) :=
  if v1 = (0 : Int32) then
    some (v2 + (1000 : Int32), I)
  else
    some (v3, I)
def f_X6_bestLevel_L23_b (v1 : Int32) (k : Int32 → Int32 → Int32 → HI → Option (Int32 × HI)) (v2 : Int32) (v3 : Int32) (v4 : Int32) (I : HI) : Option (Int32 × HI) :=
  if (100 : Int32) < v4 then
    f_X6_bestLevel_J79 v1 v2 v3 I
  else
    (f_X6_isLevel v4 I).bind fun q4 =>
    if q4.1 = (0 : Int32) then
      f_X6_bestLevel_J79 v1 v2 v3 q4.2
    else
      (f_X6_firings v4 q4.2).bind fun q5 =>
      if q5.1 ≤ v3 then
        if q5.1 ≤ v3 then
          k v2 v3 (v4 + (1 : Int32)) q5.2
        else
          k v2 q5.1 (v4 + (1 : Int32)) q5.2
      else
        if q5.1 ≤ v3 then
          k v4 v3 (v4 + (1 : Int32)) q5.2
        else
          k v4 q5.1 (v4 + (1 : Int32)) q5.2
def f_X6_bestLevel_L23 (v1 : Int32) : Nat → Int32 → Int32 → Int32 → HI → Option (Int32 × HI)
  | 0, _, _, _, _ => none
  | n + 1, v2, v3, v4, I => f_X6_bestLevel_L23_b v1 (f_X6_bestLevel_L23 v1 n) v2 v3 v4 I
def f_X6_bestLevel (v1 : Int32) (I : HI) : Option (Int32 × HI) :=
  (f_X6_in (v1.toInt64) (0 : Int64) (1 : Int64) I).bind fun q6 =>
  if q6.1 = (0 : Int32) then
    some ((-2 : Int32), q6.2)
  else
    f_X6_bestLevel_L23 v1 4000 (-6 : Int32) (-6 : Int32) (-100 : Int32) q6.2
abbrev rm_X6_bestLevel : Room := { frames := 2, cells := 0, slots := 0, locals := 49 }
set_option maxHeartbeats 4000000 in
set_option maxRecDepth 100000 in
theorem c_X6_bestLevel {l : Launch} {g : GX} (hg : gOk g) {v1 : Int32} {I : HI} {r : Int32 × HI} (hf : f_X6_bestLevel v1 I = some r) : Met l yX6_bestLevel (Cond.code yX6_bestLevel cX6_bestLevel 6 (some .int) :: WL) rm_X6_bestLevel (xP g [.ref (gR g 57), .int v1] I) (xQi g r.1 r.2) 0 0 (gA g) := by
  refine x_met (by decide) hg (Nat.le_of_ble_eq_true rfl) (fun p e s m args below meth c X hr hlk Y ls hl => ?_)
  have hx := X.hx
  have hb := X.hb
  have hl : lv_has ls 6 [(0, .ref (gR g 57)), (1, .int v1)] := hl
  have hJ79 : ∀ (v1 : Int32) (v2 : Int32) (v3 : Int32) (I : HI) (H : Heap) (locs : List Loc) (ls : Array Slot), f_X6_bestLevel_J79 v1 v2 v3 I = some r → XD g I s H locs → lv_has ls 6 [(1, .int v1), (2, .int v2), (3, .int v3)] → W p l e rm_X6_bestLevel s m args below meth c H locs 0 0 (MQ below (xQi g r.1 r.2) args s 0 0 (gA g)) (F0 m 79 ls []) := by
    intro v1 v2 v3 I H locs ls hf Y hl
    unfold f_X6_bestLevel_J79 at hf
    refine lv_iload_n hx hb dX6_bestLevel_79 rfl (lv_at hl 0 rfl) ?_
    refine lv_if_ne (tgt := 91) hx hb dX6_bestLevel_80 (by decide) (fun c => ?_) (fun c => ?_)
    · have hf := ite_f c hf
      refine lv_iload_n hx hb dX6_bestLevel_91 rfl (lv_at hl 2 rfl) ?_
      exact x_iret X Y hr hlk hf dX6_bestLevel_92
    · have hf := ite_t c hf
      refine lv_iload_n hx hb dX6_bestLevel_83 rfl (lv_at hl 1 rfl) ?_
      refine lv_sipush (v := 1000) hx hb dX6_bestLevel_84 (by decide) ?_
      refine lv_iadd hx hb dX6_bestLevel_87 ?_
      refine lv_goto (tgt := 92) hx hb dX6_bestLevel_88 (by decide) ?_
      exact x_iret X Y hr hlk hf dX6_bestLevel_92
  have hL23 : ∀ (v1 : Int32) (n : Nat) (v2 : Int32) (v3 : Int32) (v4 : Int32) (I : HI) (H : Heap) (locs : List Loc) (ls : Array Slot), f_X6_bestLevel_L23 v1 n v2 v3 v4 I = some r → XD g I s H locs → lv_has ls 6 [(0, .ref (gR g 57)), (1, .int v1), (2, .int v2), (3, .int v3), (4, .int v4)] → W p l e rm_X6_bestLevel s m args below meth c H locs 0 0 (MQ below (xQi g r.1 r.2) args s 0 0 (gA g)) (F0 m 23 ls []) := by
    intro v1 n
    induction n with
    | zero => intro v2 v3 v4 I H locs ls hf Y hl; exact nn_t hf
    | succ n ih =>
      intro v2 v3 v4 I H locs ls hf Y hl
      have hf : f_X6_bestLevel_L23_b v1 (f_X6_bestLevel_L23 v1 n) v2 v3 v4 I = some r := hf
      unfold f_X6_bestLevel_L23_b at hf
      refine lv_iload hx hb dX6_bestLevel_23 (lv_at hl 4 rfl) ?_
      refine lv_bipush (v := 100) hx hb dX6_bestLevel_25 (by decide) ?_
      refine lv_icmp_gt (tgt := 79) hx hb dX6_bestLevel_27 (by decide) (fun c => ?_) (fun c => ?_)
      · have hf := ite_t c hf
        exact hJ79 _ _ _ _ _ _ _ hf Y (lv_sub hl [1, 2, 3] rfl)
      · have hf := ite_f c hf
        refine lv_aload_n hx hb dX6_bestLevel_30 rfl (lv_at hl 0 rfl) ?_
        refine lv_iload hx hb dX6_bestLevel_31 (lv_at hl 4 rfl) ?_
        obtain ⟨q4, hq, hf⟩ := bnd_t hf
        refine x_ci Y (x_rV (rest := []) X Y k_X6_145 (c_X6_isLevel X.hg hq) cl_6.1 rfl (by decide) rfl ⟨rfl, rfl⟩ ⟨by decide, by decide⟩ hl.1 rfl (Nat.le_of_ble_eq_true rfl) dX6_bestLevel_33 ⟨Nat.zero_le _, Nat.zero_le _⟩) (fun H locs Y => ?_)
        refine lv_if_eq (tgt := 79) hx hb dX6_bestLevel_36 (by decide) (fun c => ?_) (fun c => ?_)
        · have hf := ite_t c hf
          exact hJ79 _ _ _ _ _ _ _ hf Y (lv_sub hl [1, 2, 3] rfl)
        · have hf := ite_f c hf
          refine lv_aload_n hx hb dX6_bestLevel_39 rfl (lv_at hl 0 rfl) ?_
          refine lv_iload hx hb dX6_bestLevel_40 (lv_at hl 4 rfl) ?_
          obtain ⟨q5, hq, hf⟩ := bnd_t hf
          refine x_ci Y (x_rV (rest := []) X Y k_X6_148 (c_X6_firings X.hg hq) cl_6.1 rfl (by decide) rfl ⟨rfl, rfl⟩ ⟨by decide, by decide⟩ hl.1 rfl (Nat.le_of_ble_eq_true rfl) dX6_bestLevel_42 ⟨Nat.zero_le _, Nat.zero_le _⟩) (fun H locs Y => ?_)
          refine lv_istore (lv' := [(5, _), (0, _), (1, _), (2, _), (3, _), (4, _)]) hx hb dX6_bestLevel_45 hl (by decide) rfl (fun ls hl => ?_)
          refine lv_iload hx hb dX6_bestLevel_47 (lv_at hl 0 rfl) ?_
          refine lv_iload_n hx hb dX6_bestLevel_49 rfl (lv_at hl 4 rfl) ?_
          refine lv_icmp_le (tgt := 58) hx hb dX6_bestLevel_50 (by decide) (fun c => ?_) (fun c => ?_)
          · have hf := ite_t c hf
            refine lv_iload_n hx hb dX6_bestLevel_58 rfl (lv_at hl 3 rfl) ?_
            refine lv_istore_n (lv' := [(2, _), (5, _), (0, _), (1, _), (3, _), (4, _)]) hx hb dX6_bestLevel_59 rfl hl (by decide) rfl (fun ls hl => ?_)
            refine lv_iload hx hb dX6_bestLevel_60 (lv_at hl 1 rfl) ?_
            refine lv_iload_n hx hb dX6_bestLevel_62 rfl (lv_at hl 4 rfl) ?_
            refine lv_icmp_le (tgt := 71) hx hb dX6_bestLevel_63 (by decide) (fun c => ?_) (fun c => ?_)
            · have hf := ite_t c hf
              refine lv_iload_n hx hb dX6_bestLevel_71 rfl (lv_at hl 4 rfl) ?_
              refine lv_istore_n (lv' := [(3, _), (2, _), (5, _), (0, _), (1, _), (4, _)]) hx hb dX6_bestLevel_72 rfl hl (by decide) rfl (fun ls hl => ?_)
              refine lv_iinc (v := _ + (1 : Int32)) (lv' := [(4, _), (3, _), (2, _), (5, _), (0, _), (1, _)]) hx hb dX6_bestLevel_73 hl (k := 5) rfl rfl (by decide) rfl (fun ls hl => ?_)
              refine lv_goto (tgt := 23) hx hb dX6_bestLevel_76 (by decide) ?_
              exact ih _ _ _ _ _ _ _ hf Y (lv_sub hl [4, 5, 2, 1, 0] rfl)
            · have hf := ite_f c hf
              refine lv_iload hx hb dX6_bestLevel_66 (lv_at hl 1 rfl) ?_
              refine lv_goto (tgt := 72) hx hb dX6_bestLevel_68 (by decide) ?_
              refine lv_istore_n (lv' := [(3, _), (2, _), (5, _), (0, _), (1, _), (4, _)]) hx hb dX6_bestLevel_72 rfl hl (by decide) rfl (fun ls hl => ?_)
              refine lv_iinc (v := _ + (1 : Int32)) (lv' := [(4, _), (3, _), (2, _), (5, _), (0, _), (1, _)]) hx hb dX6_bestLevel_73 hl (k := 5) rfl rfl (by decide) rfl (fun ls hl => ?_)
              refine lv_goto (tgt := 23) hx hb dX6_bestLevel_76 (by decide) ?_
              exact ih _ _ _ _ _ _ _ hf Y (lv_sub hl [4, 5, 2, 1, 0] rfl)
          · have hf := ite_f c hf
            refine lv_iload hx hb dX6_bestLevel_53 (lv_at hl 5 rfl) ?_
            refine lv_goto (tgt := 59) hx hb dX6_bestLevel_55 (by decide) ?_
            refine lv_istore_n (lv' := [(2, _), (5, _), (0, _), (1, _), (3, _), (4, _)]) hx hb dX6_bestLevel_59 rfl hl (by decide) rfl (fun ls hl => ?_)
            refine lv_iload hx hb dX6_bestLevel_60 (lv_at hl 1 rfl) ?_
            refine lv_iload_n hx hb dX6_bestLevel_62 rfl (lv_at hl 4 rfl) ?_
            refine lv_icmp_le (tgt := 71) hx hb dX6_bestLevel_63 (by decide) (fun c => ?_) (fun c => ?_)
            · have hf := ite_t c hf
              refine lv_iload_n hx hb dX6_bestLevel_71 rfl (lv_at hl 4 rfl) ?_
              refine lv_istore_n (lv' := [(3, _), (2, _), (5, _), (0, _), (1, _), (4, _)]) hx hb dX6_bestLevel_72 rfl hl (by decide) rfl (fun ls hl => ?_)
              refine lv_iinc (v := _ + (1 : Int32)) (lv' := [(4, _), (3, _), (2, _), (5, _), (0, _), (1, _)]) hx hb dX6_bestLevel_73 hl (k := 5) rfl rfl (by decide) rfl (fun ls hl => ?_)
              refine lv_goto (tgt := 23) hx hb dX6_bestLevel_76 (by decide) ?_
              exact ih _ _ _ _ _ _ _ hf Y (lv_sub hl [4, 5, 2, 1, 0] rfl)
            · have hf := ite_f c hf
              refine lv_iload hx hb dX6_bestLevel_66 (lv_at hl 1 rfl) ?_
              refine lv_goto (tgt := 72) hx hb dX6_bestLevel_68 (by decide) ?_
              refine lv_istore_n (lv' := [(3, _), (2, _), (5, _), (0, _), (1, _), (4, _)]) hx hb dX6_bestLevel_72 rfl hl (by decide) rfl (fun ls hl => ?_)
              refine lv_iinc (v := _ + (1 : Int32)) (lv' := [(4, _), (3, _), (2, _), (5, _), (0, _), (1, _)]) hx hb dX6_bestLevel_73 hl (k := 5) rfl rfl (by decide) rfl (fun ls hl => ?_)
              refine lv_goto (tgt := 23) hx hb dX6_bestLevel_76 (by decide) ?_
              exact ih _ _ _ _ _ _ _ hf Y (lv_sub hl [4, 5, 2, 1, 0] rfl)
  unfold f_X6_bestLevel at hf
  refine lv_iload_n hx hb dX6_bestLevel_0 rfl (lv_at hl 1 rfl) ?_
  refine lv_i2l hx hb dX6_bestLevel_1 rfl ?_
  refine lv_lconst (v := 0) hx hb dX6_bestLevel_2 (by decide) ?_
  refine lv_lconst (v := 1) hx hb dX6_bestLevel_3 (by decide) ?_
  obtain ⟨q6, hq, hf⟩ := bnd_t hf
  refine x_ci Y (x_rS (rest := []) X Y k_X6_67 (c_X6_in X.hg hq) rfl ⟨rfl, rfl⟩ ⟨by decide, by decide⟩ hl.1 rfl (Nat.le_of_ble_eq_true rfl) dX6_bestLevel_4 ⟨Nat.zero_le _, Nat.zero_le _⟩) (fun H locs Y => ?_)
  refine lv_if_ne (tgt := 13) hx hb dX6_bestLevel_7 (by decide) (fun c => ?_) (fun c => ?_)
  · have hf := ite_f c hf
    refine lv_bipush (v := -6) hx hb dX6_bestLevel_13 (by decide) ?_
    refine lv_istore_n (lv' := [(2, _), (0, _), (1, _)]) hx hb dX6_bestLevel_15 rfl hl (by decide) rfl (fun ls hl => ?_)
    refine lv_bipush (v := -6) hx hb dX6_bestLevel_16 (by decide) ?_
    refine lv_istore_n (lv' := [(3, _), (2, _), (0, _), (1, _)]) hx hb dX6_bestLevel_18 rfl hl (by decide) rfl (fun ls hl => ?_)
    refine lv_bipush (v := -100) hx hb dX6_bestLevel_19 (by decide) ?_
    refine lv_istore (lv' := [(4, _), (3, _), (2, _), (0, _), (1, _)]) hx hb dX6_bestLevel_21 hl (by decide) rfl (fun ls hl => ?_)
    exact hL23 _ _ _ _ _ _ _ _ _ hf Y (lv_sub hl [3, 4, 2, 1, 0] rfl)
  · have hf := ite_t c hf
    refine lv_bipush (v := -2) hx hb dX6_bestLevel_10 (by decide) ?_
    exact x_iret X Y hr hlk hf dX6_bestLevel_12
def f_X6_unlikeOf_L84_b (v1 : Int32) (v2 : Int32) (v6 : Int32) (k : Int32 → Int32 → HI → Option (Int32 × HI)) (v7 : Int32) (v8 : Int32) (I : HI) : Option (Int32 × HI) :=
  if v6 ≤ v8 then
    some (v7, I)
  else
    (f_X6_of v1 (2 : Int32) I).bind fun q13 =>
    (f_X6_sampleAt v1 (q13.1 + v8) q13.2).bind fun q14 =>
    (f_X6_of v2 (2 : Int32) q14.2).bind fun q15 =>
    (f_X6_sampleAt v2 (q15.1 + v8) q15.2).bind fun q16 =>
    let x17 := q14.1 - q16.1
    if (0 : Int32) ≤ x17 then
      let x18 := v7 + x17
      k x18 (v8 + (1 : Int32)) q16.2
    else
      let x19 := v7 + (-x17)
      k x19 (v8 + (1 : Int32)) q16.2
def f_X6_unlikeOf_L84 (v1 : Int32) (v2 : Int32) (v6 : Int32) : Nat → Int32 → Int32 → HI → Option (Int32 × HI)
  | 0, _, _, _ => none
  | n + 1, v7, v8, I => f_X6_unlikeOf_L84_b v1 v2 v6 (f_X6_unlikeOf_L84 v1 v2 v6 n) v7 v8 I
def f_X6_unlikeOf_J30 (v1 : Int32) (v2 : Int32) (w0 : Int32) (I : HI) : Option (Int32 × HI) :=
  (f_X6_of v1 (1 : Int32) I).bind fun q20 =>
  (f_X6_of v1 (2 : Int32) q20.2).bind fun q21 =>
  let x22 := q20.1 - q21.1
  (f_X6_of v2 (1 : Int32) q21.2).bind fun q23 =>
  (f_X6_of v2 (2 : Int32) q23.2).bind fun q24 =>
  let x25 := q23.1 - q24.1
  if x25 ≤ x22 then
    let x26 := -w0
    f_X6_unlikeOf_L84 v1 v2 x25 4000 (0 : Int32) x26 q24.2
  else
    let x27 := -w0
    f_X6_unlikeOf_L84 v1 v2 x22 4000 (0 : Int32) x27 q24.2
def f_X6_unlikeOf (v1 : Int32) (v2 : Int32) (I : HI) : Option (Int32 × HI) :=
  (f_X6_of v1 (2 : Int32) I).bind fun q28 =>
  (f_X6_of v2 (2 : Int32) q28.2).bind fun q29 =>
  if q29.1 ≤ q28.1 then
    (f_X6_of v2 (2 : Int32) q29.2).bind fun q30 =>
    f_X6_unlikeOf_J30 v1 v2 q30.1 q30.2
  else
    (f_X6_of v1 (2 : Int32) q29.2).bind fun q31 =>
    f_X6_unlikeOf_J30 v1 v2 q31.1 q31.2
abbrev rm_X6_unlikeOf : Room := { frames := 3, cells := 0, slots := 0, locals := 66 }
set_option maxHeartbeats 4000000 in
set_option maxRecDepth 100000 in
theorem c_X6_unlikeOf {l : Launch} {g : GX} (hg : gOk g) {v1 : Int32} {v2 : Int32} {I : HI} {r : Int32 × HI} (hf : f_X6_unlikeOf v1 v2 I = some r) : Met l yX6_unlikeOf (Cond.code yX6_unlikeOf cX6_unlikeOf 10 (some .int) :: WL) rm_X6_unlikeOf (xP g [.ref (gR g 57), .int v1, .int v2] I) (xQi g r.1 r.2) 0 0 (gA g) := by
  refine x_met (by decide) hg (Nat.le_of_ble_eq_true rfl) (fun p e s m args below meth c X hr hlk Y ls hl => ?_)
  have hx := X.hx
  have hb := X.hb
  have hl : lv_has ls 10 [(0, .ref (gR g 57)), (1, .int v1), (2, .int v2)] := hl
  have hL84 : ∀ (v1 : Int32) (v2 : Int32) (v6 : Int32) (n : Nat) (v7 : Int32) (v8 : Int32) (I : HI) (H : Heap) (locs : List Loc) (ls : Array Slot), f_X6_unlikeOf_L84 v1 v2 v6 n v7 v8 I = some r → XD g I s H locs → lv_has ls 10 [(0, .ref (gR g 57)), (1, .int v1), (2, .int v2), (6, .int v6), (7, .int v7), (8, .int v8)] → W p l e rm_X6_unlikeOf s m args below meth c H locs 0 0 (MQ below (xQi g r.1 r.2) args s 0 0 (gA g)) (F0 m 84 ls []) := by
    intro v1 v2 v6 n
    induction n with
    | zero => intro v7 v8 I H locs ls hf Y hl; exact nn_t hf
    | succ n ih =>
      intro v7 v8 I H locs ls hf Y hl
      have hf : f_X6_unlikeOf_L84_b v1 v2 v6 (f_X6_unlikeOf_L84 v1 v2 v6 n) v7 v8 I = some r := hf
      unfold f_X6_unlikeOf_L84_b at hf
      refine lv_iload hx hb dX6_unlikeOf_84 (lv_at hl 5 rfl) ?_
      refine lv_iload hx hb dX6_unlikeOf_86 (lv_at hl 3 rfl) ?_
      refine lv_icmp_ge (tgt := 146) hx hb dX6_unlikeOf_88 (by decide) (fun c => ?_) (fun c => ?_)
      · have hf := ite_t c hf
        refine lv_iload hx hb dX6_unlikeOf_146 (lv_at hl 4 rfl) ?_
        exact x_iret X Y hr hlk hf dX6_unlikeOf_148
      · have hf := ite_f c hf
        refine lv_aload_n hx hb dX6_unlikeOf_91 rfl (lv_at hl 0 rfl) ?_
        refine lv_iload_n hx hb dX6_unlikeOf_92 rfl (lv_at hl 1 rfl) ?_
        refine lv_aload_n hx hb dX6_unlikeOf_93 rfl (lv_at hl 0 rfl) ?_
        refine lv_iload_n hx hb dX6_unlikeOf_94 rfl (lv_at hl 1 rfl) ?_
        refine lv_iconst (v := 2) hx hb dX6_unlikeOf_95 (by decide) ?_
        obtain ⟨q13, hq, hf⟩ := bnd_t hf
        refine x_ci Y (x_rV (rest := [_, _]) X Y k_X6_114 (c_X6_of X.hg hq) cl_6.1 rfl (by decide) rfl ⟨rfl, rfl⟩ ⟨by decide, by decide⟩ hl.1 rfl (Nat.le_of_ble_eq_true rfl) dX6_unlikeOf_96 ⟨Nat.zero_le _, Nat.zero_le _⟩) (fun H locs Y => ?_)
        refine lv_iload hx hb dX6_unlikeOf_99 (lv_at hl 5 rfl) ?_
        refine lv_iadd hx hb dX6_unlikeOf_101 ?_
        obtain ⟨q14, hq, hf⟩ := bnd_t hf
        refine x_ci Y (x_rV (rest := []) X Y k_X6_120 (c_X6_sampleAt X.hg hq) cl_6.1 rfl (by decide) rfl ⟨rfl, rfl⟩ ⟨by decide, by decide⟩ hl.1 rfl (Nat.le_of_ble_eq_true rfl) dX6_unlikeOf_102 ⟨Nat.zero_le _, Nat.zero_le _⟩) (fun H locs Y => ?_)
        refine lv_aload_n hx hb dX6_unlikeOf_105 rfl (lv_at hl 0 rfl) ?_
        refine lv_iload_n hx hb dX6_unlikeOf_106 rfl (lv_at hl 2 rfl) ?_
        refine lv_aload_n hx hb dX6_unlikeOf_107 rfl (lv_at hl 0 rfl) ?_
        refine lv_iload_n hx hb dX6_unlikeOf_108 rfl (lv_at hl 2 rfl) ?_
        refine lv_iconst (v := 2) hx hb dX6_unlikeOf_109 (by decide) ?_
        obtain ⟨q15, hq, hf⟩ := bnd_t hf
        refine x_ci Y (x_rV (rest := [_, _, _]) X Y k_X6_114 (c_X6_of X.hg hq) cl_6.1 rfl (by decide) rfl ⟨rfl, rfl⟩ ⟨by decide, by decide⟩ hl.1 rfl (Nat.le_of_ble_eq_true rfl) dX6_unlikeOf_110 ⟨Nat.zero_le _, Nat.zero_le _⟩) (fun H locs Y => ?_)
        refine lv_iload hx hb dX6_unlikeOf_113 (lv_at hl 5 rfl) ?_
        refine lv_iadd hx hb dX6_unlikeOf_115 ?_
        obtain ⟨q16, hq, hf⟩ := bnd_t hf
        refine x_ci Y (x_rV (rest := [_]) X Y k_X6_120 (c_X6_sampleAt X.hg hq) cl_6.1 rfl (by decide) rfl ⟨rfl, rfl⟩ ⟨by decide, by decide⟩ hl.1 rfl (Nat.le_of_ble_eq_true rfl) dX6_unlikeOf_116 ⟨Nat.zero_le _, Nat.zero_le _⟩) (fun H locs Y => ?_)
        refine lv_isub hx hb dX6_unlikeOf_119 ?_
        refine lv_istore (lv' := [(9, _), (0, _), (1, _), (2, _), (6, _), (7, _), (8, _)]) hx hb dX6_unlikeOf_120 hl (by decide) rfl (fun ls hl => ?_)
        refine lv_iload hx hb dX6_unlikeOf_122 (lv_at hl 5 rfl) ?_
        refine lv_iload hx hb dX6_unlikeOf_124 (lv_at hl 0 rfl) ?_
        refine lv_if_ge (tgt := 135) hx hb dX6_unlikeOf_126 (by decide) (fun c => ?_) (fun c => ?_)
        · have hf := ite_t c hf
          refine lv_iload hx hb dX6_unlikeOf_135 (lv_at hl 0 rfl) ?_
          refine lv_iadd hx hb dX6_unlikeOf_137 ?_
          refine lv_istore (lv' := [(7, _), (9, _), (0, _), (1, _), (2, _), (6, _), (8, _)]) hx hb dX6_unlikeOf_138 hl (by decide) rfl (fun ls hl => ?_)
          refine lv_iinc (v := _ + (1 : Int32)) (lv' := [(8, _), (7, _), (9, _), (0, _), (1, _), (2, _), (6, _)]) hx hb dX6_unlikeOf_140 hl (k := 6) rfl rfl (by decide) rfl (fun ls hl => ?_)
          refine lv_goto (tgt := 84) hx hb dX6_unlikeOf_143 (by decide) ?_
          exact ih _ _ _ _ _ _ hf Y (lv_sub hl [3, 4, 5, 6, 1, 0] rfl)
        · have hf := ite_f c hf
          refine lv_iload hx hb dX6_unlikeOf_129 (lv_at hl 0 rfl) ?_
          refine lv_ineg hx hb dX6_unlikeOf_131 ?_
          refine lv_goto (tgt := 137) hx hb dX6_unlikeOf_132 (by decide) ?_
          refine lv_iadd hx hb dX6_unlikeOf_137 ?_
          refine lv_istore (lv' := [(7, _), (9, _), (0, _), (1, _), (2, _), (6, _), (8, _)]) hx hb dX6_unlikeOf_138 hl (by decide) rfl (fun ls hl => ?_)
          refine lv_iinc (v := _ + (1 : Int32)) (lv' := [(8, _), (7, _), (9, _), (0, _), (1, _), (2, _), (6, _)]) hx hb dX6_unlikeOf_140 hl (k := 6) rfl rfl (by decide) rfl (fun ls hl => ?_)
          refine lv_goto (tgt := 84) hx hb dX6_unlikeOf_143 (by decide) ?_
          exact ih _ _ _ _ _ _ hf Y (lv_sub hl [3, 4, 5, 6, 1, 0] rfl)
  have hJ30 : ∀ (v1 : Int32) (v2 : Int32) (w0 : Int32) (I : HI) (H : Heap) (locs : List Loc) (ls : Array Slot), f_X6_unlikeOf_J30 v1 v2 w0 I = some r → XD g I s H locs → lv_has ls 10 [(0, .ref (gR g 57)), (1, .int v1), (2, .int v2)] → W p l e rm_X6_unlikeOf s m args below meth c H locs 0 0 (MQ below (xQi g r.1 r.2) args s 0 0 (gA g)) (F0 m 30 ls [.int w0]) := by
    intro v1 v2 w0 I H locs ls hf Y hl
    unfold f_X6_unlikeOf_J30 at hf
    refine lv_istore_n (lv' := [(3, _), (0, _), (1, _), (2, _)]) hx hb dX6_unlikeOf_30 rfl hl (by decide) rfl (fun ls hl => ?_)
    refine lv_aload_n hx hb dX6_unlikeOf_31 rfl (lv_at hl 1 rfl) ?_
    refine lv_iload_n hx hb dX6_unlikeOf_32 rfl (lv_at hl 2 rfl) ?_
    refine lv_iconst (v := 1) hx hb dX6_unlikeOf_33 (by decide) ?_
    obtain ⟨q20, hq, hf⟩ := bnd_t hf
    refine x_ci Y (x_rV (rest := []) X Y k_X6_114 (c_X6_of X.hg hq) cl_6.1 rfl (by decide) rfl ⟨rfl, rfl⟩ ⟨by decide, by decide⟩ hl.1 rfl (Nat.le_of_ble_eq_true rfl) dX6_unlikeOf_34 ⟨Nat.zero_le _, Nat.zero_le _⟩) (fun H locs Y => ?_)
    refine lv_aload_n hx hb dX6_unlikeOf_37 rfl (lv_at hl 1 rfl) ?_
    refine lv_iload_n hx hb dX6_unlikeOf_38 rfl (lv_at hl 2 rfl) ?_
    refine lv_iconst (v := 2) hx hb dX6_unlikeOf_39 (by decide) ?_
    obtain ⟨q21, hq, hf⟩ := bnd_t hf
    refine x_ci Y (x_rV (rest := [_]) X Y k_X6_114 (c_X6_of X.hg hq) cl_6.1 rfl (by decide) rfl ⟨rfl, rfl⟩ ⟨by decide, by decide⟩ hl.1 rfl (Nat.le_of_ble_eq_true rfl) dX6_unlikeOf_40 ⟨Nat.zero_le _, Nat.zero_le _⟩) (fun H locs Y => ?_)
    refine lv_isub hx hb dX6_unlikeOf_43 ?_
    refine lv_istore (lv' := [(4, _), (3, _), (0, _), (1, _), (2, _)]) hx hb dX6_unlikeOf_44 hl (by decide) rfl (fun ls hl => ?_)
    refine lv_aload_n hx hb dX6_unlikeOf_46 rfl (lv_at hl 2 rfl) ?_
    refine lv_iload_n hx hb dX6_unlikeOf_47 rfl (lv_at hl 4 rfl) ?_
    refine lv_iconst (v := 1) hx hb dX6_unlikeOf_48 (by decide) ?_
    obtain ⟨q23, hq, hf⟩ := bnd_t hf
    refine x_ci Y (x_rV (rest := []) X Y k_X6_114 (c_X6_of X.hg hq) cl_6.1 rfl (by decide) rfl ⟨rfl, rfl⟩ ⟨by decide, by decide⟩ hl.1 rfl (Nat.le_of_ble_eq_true rfl) dX6_unlikeOf_49 ⟨Nat.zero_le _, Nat.zero_le _⟩) (fun H locs Y => ?_)
    refine lv_aload_n hx hb dX6_unlikeOf_52 rfl (lv_at hl 2 rfl) ?_
    refine lv_iload_n hx hb dX6_unlikeOf_53 rfl (lv_at hl 4 rfl) ?_
    refine lv_iconst (v := 2) hx hb dX6_unlikeOf_54 (by decide) ?_
    obtain ⟨q24, hq, hf⟩ := bnd_t hf
    refine x_ci Y (x_rV (rest := [_]) X Y k_X6_114 (c_X6_of X.hg hq) cl_6.1 rfl (by decide) rfl ⟨rfl, rfl⟩ ⟨by decide, by decide⟩ hl.1 rfl (Nat.le_of_ble_eq_true rfl) dX6_unlikeOf_55 ⟨Nat.zero_le _, Nat.zero_le _⟩) (fun H locs Y => ?_)
    refine lv_isub hx hb dX6_unlikeOf_58 ?_
    refine lv_istore (lv' := [(5, _), (4, _), (3, _), (0, _), (1, _), (2, _)]) hx hb dX6_unlikeOf_59 hl (by decide) rfl (fun ls hl => ?_)
    refine lv_iload hx hb dX6_unlikeOf_61 (lv_at hl 1 rfl) ?_
    refine lv_iload hx hb dX6_unlikeOf_63 (lv_at hl 0 rfl) ?_
    refine lv_icmp_ge (tgt := 73) hx hb dX6_unlikeOf_65 (by decide) (fun c => ?_) (fun c => ?_)
    · have hf := ite_t c hf
      refine lv_iload hx hb dX6_unlikeOf_73 (lv_at hl 0 rfl) ?_
      refine lv_istore (lv' := [(6, _), (5, _), (4, _), (3, _), (0, _), (1, _), (2, _)]) hx hb dX6_unlikeOf_75 hl (by decide) rfl (fun ls hl => ?_)
      refine lv_iconst (v := 0) hx hb dX6_unlikeOf_77 (by decide) ?_
      refine lv_istore (lv' := [(7, _), (6, _), (5, _), (4, _), (3, _), (0, _), (1, _), (2, _)]) hx hb dX6_unlikeOf_78 hl (by decide) rfl (fun ls hl => ?_)
      refine lv_iload_n hx hb dX6_unlikeOf_80 rfl (lv_at hl 4 rfl) ?_
      refine lv_ineg hx hb dX6_unlikeOf_81 ?_
      refine lv_istore (lv' := [(8, _), (7, _), (6, _), (5, _), (4, _), (3, _), (0, _), (1, _), (2, _)]) hx hb dX6_unlikeOf_82 hl (by decide) rfl (fun ls hl => ?_)
      exact hL84 _ _ _ _ _ _ _ _ _ _ hf Y (lv_sub hl [6, 7, 8, 2, 1, 0] rfl)
    · have hf := ite_f c hf
      refine lv_iload hx hb dX6_unlikeOf_68 (lv_at hl 1 rfl) ?_
      refine lv_goto (tgt := 75) hx hb dX6_unlikeOf_70 (by decide) ?_
      refine lv_istore (lv' := [(6, _), (5, _), (4, _), (3, _), (0, _), (1, _), (2, _)]) hx hb dX6_unlikeOf_75 hl (by decide) rfl (fun ls hl => ?_)
      refine lv_iconst (v := 0) hx hb dX6_unlikeOf_77 (by decide) ?_
      refine lv_istore (lv' := [(7, _), (6, _), (5, _), (4, _), (3, _), (0, _), (1, _), (2, _)]) hx hb dX6_unlikeOf_78 hl (by decide) rfl (fun ls hl => ?_)
      refine lv_iload_n hx hb dX6_unlikeOf_80 rfl (lv_at hl 4 rfl) ?_
      refine lv_ineg hx hb dX6_unlikeOf_81 ?_
      refine lv_istore (lv' := [(8, _), (7, _), (6, _), (5, _), (4, _), (3, _), (0, _), (1, _), (2, _)]) hx hb dX6_unlikeOf_82 hl (by decide) rfl (fun ls hl => ?_)
      exact hL84 _ _ _ _ _ _ _ _ _ _ hf Y (lv_sub hl [6, 7, 8, 2, 1, 0] rfl)
  unfold f_X6_unlikeOf at hf
  refine lv_aload_n hx hb dX6_unlikeOf_0 rfl (lv_at hl 0 rfl) ?_
  refine lv_iload_n hx hb dX6_unlikeOf_1 rfl (lv_at hl 1 rfl) ?_
  refine lv_iconst (v := 2) hx hb dX6_unlikeOf_2 (by decide) ?_
  obtain ⟨q28, hq, hf⟩ := bnd_t hf
  refine x_ci Y (x_rV (rest := []) X Y k_X6_114 (c_X6_of X.hg hq) cl_6.1 rfl (by decide) rfl ⟨rfl, rfl⟩ ⟨by decide, by decide⟩ hl.1 rfl (Nat.le_of_ble_eq_true rfl) dX6_unlikeOf_3 ⟨Nat.zero_le _, Nat.zero_le _⟩) (fun H locs Y => ?_)
  refine lv_aload_n hx hb dX6_unlikeOf_6 rfl (lv_at hl 0 rfl) ?_
  refine lv_iload_n hx hb dX6_unlikeOf_7 rfl (lv_at hl 2 rfl) ?_
  refine lv_iconst (v := 2) hx hb dX6_unlikeOf_8 (by decide) ?_
  obtain ⟨q29, hq, hf⟩ := bnd_t hf
  refine x_ci Y (x_rV (rest := [_]) X Y k_X6_114 (c_X6_of X.hg hq) cl_6.1 rfl (by decide) rfl ⟨rfl, rfl⟩ ⟨by decide, by decide⟩ hl.1 rfl (Nat.le_of_ble_eq_true rfl) dX6_unlikeOf_9 ⟨Nat.zero_le _, Nat.zero_le _⟩) (fun H locs Y => ?_)
  refine lv_icmp_ge (tgt := 24) hx hb dX6_unlikeOf_12 (by decide) (fun c => ?_) (fun c => ?_)
  · have hf := ite_t c hf
    refine lv_aload_n hx hb dX6_unlikeOf_24 rfl (lv_at hl 0 rfl) ?_
    refine lv_iload_n hx hb dX6_unlikeOf_25 rfl (lv_at hl 2 rfl) ?_
    refine lv_iconst (v := 2) hx hb dX6_unlikeOf_26 (by decide) ?_
    obtain ⟨q30, hq, hf⟩ := bnd_t hf
    refine x_ci Y (x_rV (rest := []) X Y k_X6_114 (c_X6_of X.hg hq) cl_6.1 rfl (by decide) rfl ⟨rfl, rfl⟩ ⟨by decide, by decide⟩ hl.1 rfl (Nat.le_of_ble_eq_true rfl) dX6_unlikeOf_27 ⟨Nat.zero_le _, Nat.zero_le _⟩) (fun H locs Y => ?_)
    exact hJ30 _ _ _ _ _ _ _ hf Y (lv_sub hl [0, 1, 2] rfl)
  · have hf := ite_f c hf
    refine lv_aload_n hx hb dX6_unlikeOf_15 rfl (lv_at hl 0 rfl) ?_
    refine lv_iload_n hx hb dX6_unlikeOf_16 rfl (lv_at hl 1 rfl) ?_
    refine lv_iconst (v := 2) hx hb dX6_unlikeOf_17 (by decide) ?_
    obtain ⟨q31, hq, hf⟩ := bnd_t hf
    refine x_ci Y (x_rV (rest := []) X Y k_X6_114 (c_X6_of X.hg hq) cl_6.1 rfl (by decide) rfl ⟨rfl, rfl⟩ ⟨by decide, by decide⟩ hl.1 rfl (Nat.le_of_ble_eq_true rfl) dX6_unlikeOf_18 ⟨Nat.zero_le _, Nat.zero_le _⟩) (fun H locs Y => ?_)
    refine lv_goto (tgt := 30) hx hb dX6_unlikeOf_21 (by decide) ?_
    exact hJ30 _ _ _ _ _ _ _ hf Y (lv_sub hl [0, 1, 2] rfl)
def f_X6_unlike (v1 : Int32) (v2 : Int32) (I : HI) : Option (Int32 × HI) :=
  (f_X6_isSegment v1 I).bind fun q4 =>
  if q4.1 = (0 : Int32) then
    some ((-1 : Int32), q4.2)
  else
    (f_X6_isSegment v2 q4.2).bind fun q5 =>
    if q5.1 = (0 : Int32) then
      some ((-1 : Int32), q5.2)
    else
      (f_X6_unlikeOf v1 v2 q5.2).bind fun q6 =>
      some (q6.1, q6.2)
abbrev rm_X6_unlike : Room := { frames := 4, cells := 0, slots := 0, locals := 95 }
set_option maxHeartbeats 4000000 in
set_option maxRecDepth 100000 in
theorem c_X6_unlike {l : Launch} {g : GX} (hg : gOk g) {v1 : Int32} {v2 : Int32} {I : HI} {r : Int32 × HI} (hf : f_X6_unlike v1 v2 I = some r) : Met l yX6_unlike (Cond.code yX6_unlike cX6_unlike 3 (some .int) :: WL) rm_X6_unlike (xP g [.ref (gR g 57), .int v1, .int v2] I) (xQi g r.1 r.2) 0 0 (gA g) := by
  refine x_met (by decide) hg (Nat.le_of_ble_eq_true rfl) (fun p e s m args below meth c X hr hlk Y ls hl => ?_)
  have hx := X.hx
  have hb := X.hb
  have hl : lv_has ls 3 [(0, .ref (gR g 57)), (1, .int v1), (2, .int v2)] := hl
  unfold f_X6_unlike at hf
  refine lv_aload_n hx hb dX6_unlike_0 rfl (lv_at hl 0 rfl) ?_
  refine lv_iload_n hx hb dX6_unlike_1 rfl (lv_at hl 1 rfl) ?_
  obtain ⟨q4, hq, hf⟩ := bnd_t hf
  refine x_ci Y (x_rV (rest := []) X Y k_X6_111 (c_X6_isSegment X.hg hq) cl_6.1 rfl (by decide) rfl ⟨rfl, rfl⟩ ⟨by decide, by decide⟩ hl.1 rfl (Nat.le_of_ble_eq_true rfl) dX6_unlike_2 ⟨Nat.zero_le _, Nat.zero_le _⟩) (fun H locs Y => ?_)
  refine lv_if_eq (tgt := 25) hx hb dX6_unlike_5 (by decide) (fun c => ?_) (fun c => ?_)
  · have hf := ite_t c hf
    refine lv_iconst (v := -1) hx hb dX6_unlike_25 (by decide) ?_
    exact x_iret X Y hr hlk hf dX6_unlike_26
  · have hf := ite_f c hf
    refine lv_aload_n hx hb dX6_unlike_8 rfl (lv_at hl 0 rfl) ?_
    refine lv_iload_n hx hb dX6_unlike_9 rfl (lv_at hl 2 rfl) ?_
    obtain ⟨q5, hq, hf⟩ := bnd_t hf
    refine x_ci Y (x_rV (rest := []) X Y k_X6_111 (c_X6_isSegment X.hg hq) cl_6.1 rfl (by decide) rfl ⟨rfl, rfl⟩ ⟨by decide, by decide⟩ hl.1 rfl (Nat.le_of_ble_eq_true rfl) dX6_unlike_10 ⟨Nat.zero_le _, Nat.zero_le _⟩) (fun H locs Y => ?_)
    refine lv_if_eq (tgt := 25) hx hb dX6_unlike_13 (by decide) (fun c => ?_) (fun c => ?_)
    · have hf := ite_t c hf
      refine lv_iconst (v := -1) hx hb dX6_unlike_25 (by decide) ?_
      exact x_iret X Y hr hlk hf dX6_unlike_26
    · have hf := ite_f c hf
      refine lv_aload_n hx hb dX6_unlike_16 rfl (lv_at hl 0 rfl) ?_
      refine lv_iload_n hx hb dX6_unlike_17 rfl (lv_at hl 1 rfl) ?_
      refine lv_iload_n hx hb dX6_unlike_18 rfl (lv_at hl 2 rfl) ?_
      obtain ⟨q6, hq, hf⟩ := bnd_t hf
      refine x_ci Y (x_rV (rest := []) X Y k_X6_151 (c_X6_unlikeOf X.hg hq) cl_6.1 rfl (by decide) rfl ⟨rfl, rfl⟩ ⟨by decide, by decide⟩ hl.1 rfl (Nat.le_of_ble_eq_true rfl) dX6_unlike_19 ⟨Nat.zero_le _, Nat.zero_le _⟩) (fun H locs Y => ?_)
      refine lv_goto (tgt := 26) hx hb dX6_unlike_22 (by decide) ?_
      exact x_iret X Y hr hlk hf dX6_unlike_26
def f_X6_nearest_L18_b (v1 : Int32) (k : Int32 → Int32 → Int32 → HI → Option (Int32 × HI)) (v2 : Int32) (v3 : Int32) (v4 : Int32) (I : HI) : Option (Int32 × HI) :=
  if (I 58 22) ≤ v4 then
    some (v2, I)
  else
    (f_X6_unlikeOf v1 v4 I).bind fun q3 =>
    if v4 = v1 then
      if (0 : Int32) = (0 : Int32) then
        if (0 : Int32) = (0 : Int32) then
          k v2 v3 (v4 + (1 : Int32)) q3.2
        else
          k v2 q3.1 (v4 + (1 : Int32)) q3.2
      else
        if (0 : Int32) = (0 : Int32) then
          k v4 v3 (v4 + (1 : Int32)) q3.2
        else
          k v4 q3.1 (v4 + (1 : Int32)) q3.2
    else
      if v2 = (-6 : Int32) then
        if (1 : Int32) = (0 : Int32) then
          if (1 : Int32) = (0 : Int32) then
            k v2 v3 (v4 + (1 : Int32)) q3.2
          else
            k v2 q3.1 (v4 + (1 : Int32)) q3.2
        else
          if (1 : Int32) = (0 : Int32) then
            k v4 v3 (v4 + (1 : Int32)) q3.2
          else
            k v4 q3.1 (v4 + (1 : Int32)) q3.2
      else
        if v3 ≤ q3.1 then
          if (0 : Int32) = (0 : Int32) then
            if (0 : Int32) = (0 : Int32) then
              k v2 v3 (v4 + (1 : Int32)) q3.2
            else
              k v2 q3.1 (v4 + (1 : Int32)) q3.2
          else
            if (0 : Int32) = (0 : Int32) then
              k v4 v3 (v4 + (1 : Int32)) q3.2
            else
              k v4 q3.1 (v4 + (1 : Int32)) q3.2
        else
          if (1 : Int32) = (0 : Int32) then
            if (1 : Int32) = (0 : Int32) then
              k v2 v3 (v4 + (1 : Int32)) q3.2
            else
              k v2 q3.1 (v4 + (1 : Int32)) q3.2
          else
            if (1 : Int32) = (0 : Int32) then
              k v4 v3 (v4 + (1 : Int32)) q3.2
            else
              k v4 q3.1 (v4 + (1 : Int32)) q3.2
def f_X6_nearest_L18 (v1 : Int32) : Nat → Int32 → Int32 → Int32 → HI → Option (Int32 × HI)
  | 0, _, _, _, _ => none
  | n + 1, v2, v3, v4, I => f_X6_nearest_L18_b v1 (f_X6_nearest_L18 v1 n) v2 v3 v4 I
def f_X6_nearest (v1 : Int32) (I : HI) : Option (Int32 × HI) :=
  (f_X6_isSegment v1 I).bind fun q4 =>
  if q4.1 = (0 : Int32) then
    some ((-1 : Int32), q4.2)
  else
    f_X6_nearest_L18 v1 4000 (-6 : Int32) (0 : Int32) (0 : Int32) q4.2
abbrev rm_X6_nearest : Room := { frames := 4, cells := 0, slots := 0, locals := 95 }
set_option maxHeartbeats 4000000 in
set_option maxRecDepth 100000 in
theorem c_X6_nearest {l : Launch} {g : GX} (hg : gOk g) {v1 : Int32} {I : HI} {r : Int32 × HI} (hf : f_X6_nearest v1 I = some r) : Met l yX6_nearest (Cond.code yX6_nearest cX6_nearest 7 (some .int) :: WL) rm_X6_nearest (xP g [.ref (gR g 57), .int v1] I) (xQi g r.1 r.2) 0 0 (gA g) := by
  refine x_met (by decide) hg (Nat.le_of_ble_eq_true rfl) (fun p e s m args below meth c X hr hlk Y ls hl => ?_)
  have hx := X.hx
  have hb := X.hb
  have hl : lv_has ls 7 [(0, .ref (gR g 57)), (1, .int v1)] := hl
  have hL18 : ∀ (v1 : Int32) (n : Nat) (v2 : Int32) (v3 : Int32) (v4 : Int32) (I : HI) (H : Heap) (locs : List Loc) (ls : Array Slot), f_X6_nearest_L18 v1 n v2 v3 v4 I = some r → XD g I s H locs → lv_has ls 7 [(0, .ref (gR g 57)), (1, .int v1), (2, .int v2), (3, .int v3), (4, .int v4)] → W p l e rm_X6_nearest s m args below meth c H locs 0 0 (MQ below (xQi g r.1 r.2) args s 0 0 (gA g)) (F0 m 18 ls []) := by
    intro v1 n
    induction n with
    | zero => intro v2 v3 v4 I H locs ls hf Y hl; exact nn_t hf
    | succ n ih =>
      intro v2 v3 v4 I H locs ls hf Y hl
      have hf : f_X6_nearest_L18_b v1 (f_X6_nearest_L18 v1 n) v2 v3 v4 I = some r := hf
      unfold f_X6_nearest_L18_b at hf
      refine lv_iload hx hb dX6_nearest_18 (lv_at hl 4 rfl) ?_
      refine lv_aload_n hx hb dX6_nearest_20 rfl (lv_at hl 0 rfl) ?_
      refine x_get (v := .ref (gR g 58)) X Y cl_6 rfl (by decide) 0 (by decide) wf_X6_7 rfl dX6_nearest_21 ?_
      refine lv_bipush (v := 22) hx hb dX6_nearest_24 (by decide) ?_
      refine x_ialdL (k := 22) X Y rfl (by decide) (by decide) (vin (by decide)) dX6_nearest_26 ?_
      refine lv_icmp_ge (tgt := 94) hx hb dX6_nearest_27 (by decide) (fun c => ?_) (fun c => ?_)
      · have hf := ite_t c hf
        refine lv_iload_n hx hb dX6_nearest_94 rfl (lv_at hl 2 rfl) ?_
        exact x_iret X Y hr hlk hf dX6_nearest_95
      · have hf := ite_f c hf
        refine lv_aload_n hx hb dX6_nearest_30 rfl (lv_at hl 0 rfl) ?_
        refine lv_iload_n hx hb dX6_nearest_31 rfl (lv_at hl 1 rfl) ?_
        refine lv_iload hx hb dX6_nearest_32 (lv_at hl 4 rfl) ?_
        obtain ⟨q3, hq, hf⟩ := bnd_t hf
        refine x_ci Y (x_rV (rest := []) X Y k_X6_151 (c_X6_unlikeOf X.hg hq) cl_6.1 rfl (by decide) rfl ⟨rfl, rfl⟩ ⟨by decide, by decide⟩ hl.1 rfl (Nat.le_of_ble_eq_true rfl) dX6_nearest_34 ⟨Nat.zero_le _, Nat.zero_le _⟩) (fun H locs Y => ?_)
        refine lv_istore (lv' := [(5, _), (0, _), (1, _), (2, _), (3, _), (4, _)]) hx hb dX6_nearest_37 hl (by decide) rfl (fun ls hl => ?_)
        refine lv_iload hx hb dX6_nearest_39 (lv_at hl 5 rfl) ?_
        refine lv_iload_n hx hb dX6_nearest_41 rfl (lv_at hl 2 rfl) ?_
        refine lv_icmp_eq (tgt := 61) hx hb dX6_nearest_42 (by decide) (fun c => ?_) (fun c => ?_)
        · have hf := ite_t c hf
          refine lv_iconst (v := 0) hx hb dX6_nearest_61 (by decide) ?_
          refine lv_istore (lv' := [(6, _), (5, _), (0, _), (1, _), (2, _), (3, _), (4, _)]) hx hb dX6_nearest_62 hl (by decide) rfl (fun ls hl => ?_)
          refine lv_iload hx hb dX6_nearest_64 (lv_at hl 0 rfl) ?_
          refine lv_if_eq (tgt := 74) hx hb dX6_nearest_66 (by decide) (fun c => ?_) (fun c => ?_)
          · have hf := ite_t c hf
            refine lv_iload_n hx hb dX6_nearest_74 rfl (lv_at hl 4 rfl) ?_
            refine lv_istore_n (lv' := [(2, _), (6, _), (5, _), (0, _), (1, _), (3, _), (4, _)]) hx hb dX6_nearest_75 rfl hl (by decide) rfl (fun ls hl => ?_)
            refine lv_iload hx hb dX6_nearest_76 (lv_at hl 1 rfl) ?_
            refine lv_if_eq (tgt := 86) hx hb dX6_nearest_78 (by decide) (fun c => ?_) (fun c => ?_)
            · have hf := ite_t c hf
              refine lv_iload_n hx hb dX6_nearest_86 rfl (lv_at hl 5 rfl) ?_
              refine lv_istore_n (lv' := [(3, _), (2, _), (6, _), (5, _), (0, _), (1, _), (4, _)]) hx hb dX6_nearest_87 rfl hl (by decide) rfl (fun ls hl => ?_)
              refine lv_iinc (v := _ + (1 : Int32)) (lv' := [(4, _), (3, _), (2, _), (6, _), (5, _), (0, _), (1, _)]) hx hb dX6_nearest_88 hl (k := 6) rfl rfl (by decide) rfl (fun ls hl => ?_)
              refine lv_goto (tgt := 18) hx hb dX6_nearest_91 (by decide) ?_
              exact ih _ _ _ _ _ _ _ hf Y (lv_sub hl [5, 6, 2, 1, 0] rfl)
            · have hf := ite_f c hf
              refine lv_iload hx hb dX6_nearest_81 (lv_at hl 2 rfl) ?_
              refine lv_goto (tgt := 87) hx hb dX6_nearest_83 (by decide) ?_
              refine lv_istore_n (lv' := [(3, _), (2, _), (6, _), (5, _), (0, _), (1, _), (4, _)]) hx hb dX6_nearest_87 rfl hl (by decide) rfl (fun ls hl => ?_)
              refine lv_iinc (v := _ + (1 : Int32)) (lv' := [(4, _), (3, _), (2, _), (6, _), (5, _), (0, _), (1, _)]) hx hb dX6_nearest_88 hl (k := 6) rfl rfl (by decide) rfl (fun ls hl => ?_)
              refine lv_goto (tgt := 18) hx hb dX6_nearest_91 (by decide) ?_
              exact ih _ _ _ _ _ _ _ hf Y (lv_sub hl [5, 6, 2, 1, 0] rfl)
          · have hf := ite_f c hf
            refine lv_iload hx hb dX6_nearest_69 (lv_at hl 6 rfl) ?_
            refine lv_goto (tgt := 75) hx hb dX6_nearest_71 (by decide) ?_
            refine lv_istore_n (lv' := [(2, _), (6, _), (5, _), (0, _), (1, _), (3, _), (4, _)]) hx hb dX6_nearest_75 rfl hl (by decide) rfl (fun ls hl => ?_)
            refine lv_iload hx hb dX6_nearest_76 (lv_at hl 1 rfl) ?_
            refine lv_if_eq (tgt := 86) hx hb dX6_nearest_78 (by decide) (fun c => ?_) (fun c => ?_)
            · have hf := ite_t c hf
              refine lv_iload_n hx hb dX6_nearest_86 rfl (lv_at hl 5 rfl) ?_
              refine lv_istore_n (lv' := [(3, _), (2, _), (6, _), (5, _), (0, _), (1, _), (4, _)]) hx hb dX6_nearest_87 rfl hl (by decide) rfl (fun ls hl => ?_)
              refine lv_iinc (v := _ + (1 : Int32)) (lv' := [(4, _), (3, _), (2, _), (6, _), (5, _), (0, _), (1, _)]) hx hb dX6_nearest_88 hl (k := 6) rfl rfl (by decide) rfl (fun ls hl => ?_)
              refine lv_goto (tgt := 18) hx hb dX6_nearest_91 (by decide) ?_
              exact ih _ _ _ _ _ _ _ hf Y (lv_sub hl [5, 6, 2, 1, 0] rfl)
            · have hf := ite_f c hf
              refine lv_iload hx hb dX6_nearest_81 (lv_at hl 2 rfl) ?_
              refine lv_goto (tgt := 87) hx hb dX6_nearest_83 (by decide) ?_
              refine lv_istore_n (lv' := [(3, _), (2, _), (6, _), (5, _), (0, _), (1, _), (4, _)]) hx hb dX6_nearest_87 rfl hl (by decide) rfl (fun ls hl => ?_)
              refine lv_iinc (v := _ + (1 : Int32)) (lv' := [(4, _), (3, _), (2, _), (6, _), (5, _), (0, _), (1, _)]) hx hb dX6_nearest_88 hl (k := 6) rfl rfl (by decide) rfl (fun ls hl => ?_)
              refine lv_goto (tgt := 18) hx hb dX6_nearest_91 (by decide) ?_
              exact ih _ _ _ _ _ _ _ hf Y (lv_sub hl [5, 6, 2, 1, 0] rfl)
        · have hf := ite_f c hf
          refine lv_iload_n hx hb dX6_nearest_45 rfl (lv_at hl 3 rfl) ?_
          refine lv_bipush (v := -6) hx hb dX6_nearest_46 (by decide) ?_
          refine lv_icmp_eq (tgt := 57) hx hb dX6_nearest_48 (by decide) (fun c => ?_) (fun c => ?_)
          · have hf := ite_t c hf
            refine lv_iconst (v := 1) hx hb dX6_nearest_57 (by decide) ?_
            refine lv_goto (tgt := 62) hx hb dX6_nearest_58 (by decide) ?_
            refine lv_istore (lv' := [(6, _), (5, _), (0, _), (1, _), (2, _), (3, _), (4, _)]) hx hb dX6_nearest_62 hl (by decide) rfl (fun ls hl => ?_)
            refine lv_iload hx hb dX6_nearest_64 (lv_at hl 0 rfl) ?_
            refine lv_if_eq (tgt := 74) hx hb dX6_nearest_66 (by decide) (fun c => ?_) (fun c => ?_)
            · have hf := ite_t c hf
              refine lv_iload_n hx hb dX6_nearest_74 rfl (lv_at hl 4 rfl) ?_
              refine lv_istore_n (lv' := [(2, _), (6, _), (5, _), (0, _), (1, _), (3, _), (4, _)]) hx hb dX6_nearest_75 rfl hl (by decide) rfl (fun ls hl => ?_)
              refine lv_iload hx hb dX6_nearest_76 (lv_at hl 1 rfl) ?_
              refine lv_if_eq (tgt := 86) hx hb dX6_nearest_78 (by decide) (fun c => ?_) (fun c => ?_)
              · have hf := ite_t c hf
                refine lv_iload_n hx hb dX6_nearest_86 rfl (lv_at hl 5 rfl) ?_
                refine lv_istore_n (lv' := [(3, _), (2, _), (6, _), (5, _), (0, _), (1, _), (4, _)]) hx hb dX6_nearest_87 rfl hl (by decide) rfl (fun ls hl => ?_)
                refine lv_iinc (v := _ + (1 : Int32)) (lv' := [(4, _), (3, _), (2, _), (6, _), (5, _), (0, _), (1, _)]) hx hb dX6_nearest_88 hl (k := 6) rfl rfl (by decide) rfl (fun ls hl => ?_)
                refine lv_goto (tgt := 18) hx hb dX6_nearest_91 (by decide) ?_
                exact ih _ _ _ _ _ _ _ hf Y (lv_sub hl [5, 6, 2, 1, 0] rfl)
              · have hf := ite_f c hf
                refine lv_iload hx hb dX6_nearest_81 (lv_at hl 2 rfl) ?_
                refine lv_goto (tgt := 87) hx hb dX6_nearest_83 (by decide) ?_
                refine lv_istore_n (lv' := [(3, _), (2, _), (6, _), (5, _), (0, _), (1, _), (4, _)]) hx hb dX6_nearest_87 rfl hl (by decide) rfl (fun ls hl => ?_)
                refine lv_iinc (v := _ + (1 : Int32)) (lv' := [(4, _), (3, _), (2, _), (6, _), (5, _), (0, _), (1, _)]) hx hb dX6_nearest_88 hl (k := 6) rfl rfl (by decide) rfl (fun ls hl => ?_)
                refine lv_goto (tgt := 18) hx hb dX6_nearest_91 (by decide) ?_
                exact ih _ _ _ _ _ _ _ hf Y (lv_sub hl [5, 6, 2, 1, 0] rfl)
            · have hf := ite_f c hf
              refine lv_iload hx hb dX6_nearest_69 (lv_at hl 6 rfl) ?_
              refine lv_goto (tgt := 75) hx hb dX6_nearest_71 (by decide) ?_
              refine lv_istore_n (lv' := [(2, _), (6, _), (5, _), (0, _), (1, _), (3, _), (4, _)]) hx hb dX6_nearest_75 rfl hl (by decide) rfl (fun ls hl => ?_)
              refine lv_iload hx hb dX6_nearest_76 (lv_at hl 1 rfl) ?_
              refine lv_if_eq (tgt := 86) hx hb dX6_nearest_78 (by decide) (fun c => ?_) (fun c => ?_)
              · have hf := ite_t c hf
                refine lv_iload_n hx hb dX6_nearest_86 rfl (lv_at hl 5 rfl) ?_
                refine lv_istore_n (lv' := [(3, _), (2, _), (6, _), (5, _), (0, _), (1, _), (4, _)]) hx hb dX6_nearest_87 rfl hl (by decide) rfl (fun ls hl => ?_)
                refine lv_iinc (v := _ + (1 : Int32)) (lv' := [(4, _), (3, _), (2, _), (6, _), (5, _), (0, _), (1, _)]) hx hb dX6_nearest_88 hl (k := 6) rfl rfl (by decide) rfl (fun ls hl => ?_)
                refine lv_goto (tgt := 18) hx hb dX6_nearest_91 (by decide) ?_
                exact ih _ _ _ _ _ _ _ hf Y (lv_sub hl [5, 6, 2, 1, 0] rfl)
              · have hf := ite_f c hf
                refine lv_iload hx hb dX6_nearest_81 (lv_at hl 2 rfl) ?_
                refine lv_goto (tgt := 87) hx hb dX6_nearest_83 (by decide) ?_
                refine lv_istore_n (lv' := [(3, _), (2, _), (6, _), (5, _), (0, _), (1, _), (4, _)]) hx hb dX6_nearest_87 rfl hl (by decide) rfl (fun ls hl => ?_)
                refine lv_iinc (v := _ + (1 : Int32)) (lv' := [(4, _), (3, _), (2, _), (6, _), (5, _), (0, _), (1, _)]) hx hb dX6_nearest_88 hl (k := 6) rfl rfl (by decide) rfl (fun ls hl => ?_)
                refine lv_goto (tgt := 18) hx hb dX6_nearest_91 (by decide) ?_
                exact ih _ _ _ _ _ _ _ hf Y (lv_sub hl [5, 6, 2, 1, 0] rfl)
          · have hf := ite_f c hf
            refine lv_iload hx hb dX6_nearest_51 (lv_at hl 0 rfl) ?_
            refine lv_iload_n hx hb dX6_nearest_53 rfl (lv_at hl 4 rfl) ?_
            refine lv_icmp_ge (tgt := 61) hx hb dX6_nearest_54 (by decide) (fun c => ?_) (fun c => ?_)
            · have hf := ite_t c hf
              refine lv_iconst (v := 0) hx hb dX6_nearest_61 (by decide) ?_
              refine lv_istore (lv' := [(6, _), (5, _), (0, _), (1, _), (2, _), (3, _), (4, _)]) hx hb dX6_nearest_62 hl (by decide) rfl (fun ls hl => ?_)
              refine lv_iload hx hb dX6_nearest_64 (lv_at hl 0 rfl) ?_
              refine lv_if_eq (tgt := 74) hx hb dX6_nearest_66 (by decide) (fun c => ?_) (fun c => ?_)
              · have hf := ite_t c hf
                refine lv_iload_n hx hb dX6_nearest_74 rfl (lv_at hl 4 rfl) ?_
                refine lv_istore_n (lv' := [(2, _), (6, _), (5, _), (0, _), (1, _), (3, _), (4, _)]) hx hb dX6_nearest_75 rfl hl (by decide) rfl (fun ls hl => ?_)
                refine lv_iload hx hb dX6_nearest_76 (lv_at hl 1 rfl) ?_
                refine lv_if_eq (tgt := 86) hx hb dX6_nearest_78 (by decide) (fun c => ?_) (fun c => ?_)
                · have hf := ite_t c hf
                  refine lv_iload_n hx hb dX6_nearest_86 rfl (lv_at hl 5 rfl) ?_
                  refine lv_istore_n (lv' := [(3, _), (2, _), (6, _), (5, _), (0, _), (1, _), (4, _)]) hx hb dX6_nearest_87 rfl hl (by decide) rfl (fun ls hl => ?_)
                  refine lv_iinc (v := _ + (1 : Int32)) (lv' := [(4, _), (3, _), (2, _), (6, _), (5, _), (0, _), (1, _)]) hx hb dX6_nearest_88 hl (k := 6) rfl rfl (by decide) rfl (fun ls hl => ?_)
                  refine lv_goto (tgt := 18) hx hb dX6_nearest_91 (by decide) ?_
                  exact ih _ _ _ _ _ _ _ hf Y (lv_sub hl [5, 6, 2, 1, 0] rfl)
                · have hf := ite_f c hf
                  refine lv_iload hx hb dX6_nearest_81 (lv_at hl 2 rfl) ?_
                  refine lv_goto (tgt := 87) hx hb dX6_nearest_83 (by decide) ?_
                  refine lv_istore_n (lv' := [(3, _), (2, _), (6, _), (5, _), (0, _), (1, _), (4, _)]) hx hb dX6_nearest_87 rfl hl (by decide) rfl (fun ls hl => ?_)
                  refine lv_iinc (v := _ + (1 : Int32)) (lv' := [(4, _), (3, _), (2, _), (6, _), (5, _), (0, _), (1, _)]) hx hb dX6_nearest_88 hl (k := 6) rfl rfl (by decide) rfl (fun ls hl => ?_)
                  refine lv_goto (tgt := 18) hx hb dX6_nearest_91 (by decide) ?_
                  exact ih _ _ _ _ _ _ _ hf Y (lv_sub hl [5, 6, 2, 1, 0] rfl)
              · have hf := ite_f c hf
                refine lv_iload hx hb dX6_nearest_69 (lv_at hl 6 rfl) ?_
                refine lv_goto (tgt := 75) hx hb dX6_nearest_71 (by decide) ?_
                refine lv_istore_n (lv' := [(2, _), (6, _), (5, _), (0, _), (1, _), (3, _), (4, _)]) hx hb dX6_nearest_75 rfl hl (by decide) rfl (fun ls hl => ?_)
                refine lv_iload hx hb dX6_nearest_76 (lv_at hl 1 rfl) ?_
                refine lv_if_eq (tgt := 86) hx hb dX6_nearest_78 (by decide) (fun c => ?_) (fun c => ?_)
                · have hf := ite_t c hf
                  refine lv_iload_n hx hb dX6_nearest_86 rfl (lv_at hl 5 rfl) ?_
                  refine lv_istore_n (lv' := [(3, _), (2, _), (6, _), (5, _), (0, _), (1, _), (4, _)]) hx hb dX6_nearest_87 rfl hl (by decide) rfl (fun ls hl => ?_)
                  refine lv_iinc (v := _ + (1 : Int32)) (lv' := [(4, _), (3, _), (2, _), (6, _), (5, _), (0, _), (1, _)]) hx hb dX6_nearest_88 hl (k := 6) rfl rfl (by decide) rfl (fun ls hl => ?_)
                  refine lv_goto (tgt := 18) hx hb dX6_nearest_91 (by decide) ?_
                  exact ih _ _ _ _ _ _ _ hf Y (lv_sub hl [5, 6, 2, 1, 0] rfl)
                · have hf := ite_f c hf
                  refine lv_iload hx hb dX6_nearest_81 (lv_at hl 2 rfl) ?_
                  refine lv_goto (tgt := 87) hx hb dX6_nearest_83 (by decide) ?_
                  refine lv_istore_n (lv' := [(3, _), (2, _), (6, _), (5, _), (0, _), (1, _), (4, _)]) hx hb dX6_nearest_87 rfl hl (by decide) rfl (fun ls hl => ?_)
                  refine lv_iinc (v := _ + (1 : Int32)) (lv' := [(4, _), (3, _), (2, _), (6, _), (5, _), (0, _), (1, _)]) hx hb dX6_nearest_88 hl (k := 6) rfl rfl (by decide) rfl (fun ls hl => ?_)
                  refine lv_goto (tgt := 18) hx hb dX6_nearest_91 (by decide) ?_
                  exact ih _ _ _ _ _ _ _ hf Y (lv_sub hl [5, 6, 2, 1, 0] rfl)
            · have hf := ite_f c hf
              refine lv_iconst (v := 1) hx hb dX6_nearest_57 (by decide) ?_
              refine lv_goto (tgt := 62) hx hb dX6_nearest_58 (by decide) ?_
              refine lv_istore (lv' := [(6, _), (5, _), (0, _), (1, _), (2, _), (3, _), (4, _)]) hx hb dX6_nearest_62 hl (by decide) rfl (fun ls hl => ?_)
              refine lv_iload hx hb dX6_nearest_64 (lv_at hl 0 rfl) ?_
              refine lv_if_eq (tgt := 74) hx hb dX6_nearest_66 (by decide) (fun c => ?_) (fun c => ?_)
              · have hf := ite_t c hf
                refine lv_iload_n hx hb dX6_nearest_74 rfl (lv_at hl 4 rfl) ?_
                refine lv_istore_n (lv' := [(2, _), (6, _), (5, _), (0, _), (1, _), (3, _), (4, _)]) hx hb dX6_nearest_75 rfl hl (by decide) rfl (fun ls hl => ?_)
                refine lv_iload hx hb dX6_nearest_76 (lv_at hl 1 rfl) ?_
                refine lv_if_eq (tgt := 86) hx hb dX6_nearest_78 (by decide) (fun c => ?_) (fun c => ?_)
                · have hf := ite_t c hf
                  refine lv_iload_n hx hb dX6_nearest_86 rfl (lv_at hl 5 rfl) ?_
                  refine lv_istore_n (lv' := [(3, _), (2, _), (6, _), (5, _), (0, _), (1, _), (4, _)]) hx hb dX6_nearest_87 rfl hl (by decide) rfl (fun ls hl => ?_)
                  refine lv_iinc (v := _ + (1 : Int32)) (lv' := [(4, _), (3, _), (2, _), (6, _), (5, _), (0, _), (1, _)]) hx hb dX6_nearest_88 hl (k := 6) rfl rfl (by decide) rfl (fun ls hl => ?_)
                  refine lv_goto (tgt := 18) hx hb dX6_nearest_91 (by decide) ?_
                  exact ih _ _ _ _ _ _ _ hf Y (lv_sub hl [5, 6, 2, 1, 0] rfl)
                · have hf := ite_f c hf
                  refine lv_iload hx hb dX6_nearest_81 (lv_at hl 2 rfl) ?_
                  refine lv_goto (tgt := 87) hx hb dX6_nearest_83 (by decide) ?_
                  refine lv_istore_n (lv' := [(3, _), (2, _), (6, _), (5, _), (0, _), (1, _), (4, _)]) hx hb dX6_nearest_87 rfl hl (by decide) rfl (fun ls hl => ?_)
                  refine lv_iinc (v := _ + (1 : Int32)) (lv' := [(4, _), (3, _), (2, _), (6, _), (5, _), (0, _), (1, _)]) hx hb dX6_nearest_88 hl (k := 6) rfl rfl (by decide) rfl (fun ls hl => ?_)
                  refine lv_goto (tgt := 18) hx hb dX6_nearest_91 (by decide) ?_
                  exact ih _ _ _ _ _ _ _ hf Y (lv_sub hl [5, 6, 2, 1, 0] rfl)
              · have hf := ite_f c hf
                refine lv_iload hx hb dX6_nearest_69 (lv_at hl 6 rfl) ?_
                refine lv_goto (tgt := 75) hx hb dX6_nearest_71 (by decide) ?_
                refine lv_istore_n (lv' := [(2, _), (6, _), (5, _), (0, _), (1, _), (3, _), (4, _)]) hx hb dX6_nearest_75 rfl hl (by decide) rfl (fun ls hl => ?_)
                refine lv_iload hx hb dX6_nearest_76 (lv_at hl 1 rfl) ?_
                refine lv_if_eq (tgt := 86) hx hb dX6_nearest_78 (by decide) (fun c => ?_) (fun c => ?_)
                · have hf := ite_t c hf
                  refine lv_iload_n hx hb dX6_nearest_86 rfl (lv_at hl 5 rfl) ?_
                  refine lv_istore_n (lv' := [(3, _), (2, _), (6, _), (5, _), (0, _), (1, _), (4, _)]) hx hb dX6_nearest_87 rfl hl (by decide) rfl (fun ls hl => ?_)
                  refine lv_iinc (v := _ + (1 : Int32)) (lv' := [(4, _), (3, _), (2, _), (6, _), (5, _), (0, _), (1, _)]) hx hb dX6_nearest_88 hl (k := 6) rfl rfl (by decide) rfl (fun ls hl => ?_)
                  refine lv_goto (tgt := 18) hx hb dX6_nearest_91 (by decide) ?_
                  exact ih _ _ _ _ _ _ _ hf Y (lv_sub hl [5, 6, 2, 1, 0] rfl)
                · have hf := ite_f c hf
                  refine lv_iload hx hb dX6_nearest_81 (lv_at hl 2 rfl) ?_
                  refine lv_goto (tgt := 87) hx hb dX6_nearest_83 (by decide) ?_
                  refine lv_istore_n (lv' := [(3, _), (2, _), (6, _), (5, _), (0, _), (1, _), (4, _)]) hx hb dX6_nearest_87 rfl hl (by decide) rfl (fun ls hl => ?_)
                  refine lv_iinc (v := _ + (1 : Int32)) (lv' := [(4, _), (3, _), (2, _), (6, _), (5, _), (0, _), (1, _)]) hx hb dX6_nearest_88 hl (k := 6) rfl rfl (by decide) rfl (fun ls hl => ?_)
                  refine lv_goto (tgt := 18) hx hb dX6_nearest_91 (by decide) ?_
                  exact ih _ _ _ _ _ _ _ hf Y (lv_sub hl [5, 6, 2, 1, 0] rfl)
  unfold f_X6_nearest at hf
  refine lv_aload_n hx hb dX6_nearest_0 rfl (lv_at hl 0 rfl) ?_
  refine lv_iload_n hx hb dX6_nearest_1 rfl (lv_at hl 1 rfl) ?_
  obtain ⟨q4, hq, hf⟩ := bnd_t hf
  refine x_ci Y (x_rV (rest := []) X Y k_X6_111 (c_X6_isSegment X.hg hq) cl_6.1 rfl (by decide) rfl ⟨rfl, rfl⟩ ⟨by decide, by decide⟩ hl.1 rfl (Nat.le_of_ble_eq_true rfl) dX6_nearest_2 ⟨Nat.zero_le _, Nat.zero_le _⟩) (fun H locs Y => ?_)
  refine lv_if_ne (tgt := 10) hx hb dX6_nearest_5 (by decide) (fun c => ?_) (fun c => ?_)
  · have hf := ite_f c hf
    refine lv_bipush (v := -6) hx hb dX6_nearest_10 (by decide) ?_
    refine lv_istore_n (lv' := [(2, _), (0, _), (1, _)]) hx hb dX6_nearest_12 rfl hl (by decide) rfl (fun ls hl => ?_)
    refine lv_iconst (v := 0) hx hb dX6_nearest_13 (by decide) ?_
    refine lv_istore_n (lv' := [(3, _), (2, _), (0, _), (1, _)]) hx hb dX6_nearest_14 rfl hl (by decide) rfl (fun ls hl => ?_)
    refine lv_iconst (v := 0) hx hb dX6_nearest_15 (by decide) ?_
    refine lv_istore (lv' := [(4, _), (3, _), (2, _), (0, _), (1, _)]) hx hb dX6_nearest_16 hl (by decide) rfl (fun ls hl => ?_)
    exact hL18 _ _ _ _ _ _ _ _ _ hf Y (lv_sub hl [3, 4, 2, 1, 0] rfl)
  · have hf := ite_t c hf
    refine lv_iconst (v := -1) hx hb dX6_nearest_8 (by decide) ?_
    exact x_iret X Y hr hlk hf dX6_nearest_9
def f_X6_put_L106_b (v1 : Int64) (k : Int32 → HI → Option (Int32 × HI)) (v7 : Int32) (I : HI) : Option (Int32 × HI) :=
  if v7 < (0 : Int32) then
    some (I 57 8, I)
  else
    if (I 57 8) < 0 ∨ 80 ≤ (I 57 8).toNatClampNeg then none else
    let I4 := upI I 63 (I 57 8).toNatClampNeg ((((v1.toUInt64 >>> (((8 : Int32) * v7).toInt64.toUInt64 &&& Int64.toUInt64 63)).toInt64) &&& (255 : Int64)).toInt32)
    let I5 := upI I4 57 8 ((I4 57 8) + (1 : Int32))
    k (v7 + (-1 : Int32)) I5
def f_X6_put_L106 (v1 : Int64) : Nat → Int32 → HI → Option (Int32 × HI)
  | 0, _, _ => none
  | n + 1, v7, I => f_X6_put_L106_b v1 (f_X6_put_L106 v1 n) v7 I
def f_X6_put_J68 (v1 : Int64) (v3 : Int32) (v4 : Int32) (v5 : Int64) (I : HI) : Option (Int32 × HI) :=
  if v3 = (0 : Int32) then
    some ((-2 : Int32), I)
  else
    if (lg_cmp v5 (0 : Int64)) = (0 : Int32) then
      if v4 = (0 : Int32) then
        some ((-2 : Int32), I)
      else
        if ((I 57 8) + v3) ≤ (80 : Int32) then
          let x6 := v3 - (1 : Int32)
          f_X6_put_L106 v1 4000 x6 I
        else
          some ((-4 : Int32), I)
    else
      some ((-2 : Int32), I)
def f_X6_put_L8_b (v1 : Int64) (k : Int32 → Int32 → Int64 → HI → Option (Int32 × HI)) (v3 : Int32) (v4 : Int32) (v5 : Int64) (I : HI) : Option (Int32 × HI) :=
  if (8 : Int32) ≤ v3 then
    f_X6_put_J68 v1 v3 v4 v5 I
  else
    if (lg_cmp (v5 &&& (255 : Int64)) (0 : Int64)) = (0 : Int32) then
      f_X6_put_J68 v1 v3 v4 v5 I
    else
      if v4 = (0 : Int32) then
        let x7 := (v5.toUInt64 >>> ((8 : Int32).toInt64.toUInt64 &&& Int64.toUInt64 63)).toInt64
        k (v3 + (1 : Int32)) (0 : Int32) x7 I
      else
        (f_X6_in (v5 &&& (255 : Int64)) (33 : Int64) (126 : Int64) I).bind fun q8 =>
        if q8.1 = (0 : Int32) then
          let x9 := (v5.toUInt64 >>> ((8 : Int32).toInt64.toUInt64 &&& Int64.toUInt64 63)).toInt64
          k (v3 + (1 : Int32)) (0 : Int32) x9 q8.2
        else
          let x10 := (v5.toUInt64 >>> ((8 : Int32).toInt64.toUInt64 &&& Int64.toUInt64 63)).toInt64
          k (v3 + (1 : Int32)) (1 : Int32) x10 q8.2
def f_X6_put_L8 (v1 : Int64) : Nat → Int32 → Int32 → Int64 → HI → Option (Int32 × HI)
  | 0, _, _, _, _ => none
  | n + 1, v3, v4, v5, I => f_X6_put_L8_b v1 (f_X6_put_L8 v1 n) v3 v4 v5 I
def f_X6_put (v1 : Int64) (I : HI) : Option (Int32 × HI) :=
  f_X6_put_L8 v1 4000 (0 : Int32) (1 : Int32) v1 I
abbrev rm_X6_put : Room := { frames := 1, cells := 0, slots := 0, locals := 25 }
set_option maxHeartbeats 4000000 in
set_option maxRecDepth 100000 in
theorem c_X6_put {l : Launch} {g : GX} (hg : gOk g) {v1 : Int64} {I : HI} {r : Int32 × HI} (hf : f_X6_put v1 I = some r) : Met l yX6_put (Cond.code yX6_put cX6_put 8 (some .int) :: WL) rm_X6_put (xP g [.ref (gR g 57), .long v1] I) (xQi g r.1 r.2) 0 0 (gA g) := by
  refine x_met (by decide) hg (Nat.le_of_ble_eq_true rfl) (fun p e s m args below meth c X hr hlk Y ls hl => ?_)
  have hx := X.hx
  have hb := X.hb
  have hl : lv_has ls 8 [(0, .ref (gR g 57)), (1, .long v1)] := hl
  have hL106 : ∀ (v1 : Int64) (n : Nat) (v7 : Int32) (I : HI) (H : Heap) (locs : List Loc) (ls : Array Slot), f_X6_put_L106 v1 n v7 I = some r → XD g I s H locs → lv_has ls 8 [(0, .ref (gR g 57)), (1, .long v1), (7, .int v7)] → W p l e rm_X6_put s m args below meth c H locs 0 0 (MQ below (xQi g r.1 r.2) args s 0 0 (gA g)) (F0 m 106 ls []) := by
    intro v1 n
    induction n with
    | zero => intro v7 I H locs ls hf Y hl; exact nn_t hf
    | succ n ih =>
      intro v7 I H locs ls hf Y hl
      have hf : f_X6_put_L106_b v1 (f_X6_put_L106 v1 n) v7 I = some r := hf
      unfold f_X6_put_L106_b at hf
      refine lv_iload hx hb dX6_put_106 (lv_at hl 2 rfl) ?_
      refine lv_if_lt (tgt := 148) hx hb dX6_put_108 (by decide) (fun c => ?_) (fun c => ?_)
      · have hf := ite_t c hf
        refine lv_aload_n hx hb dX6_put_148 rfl (lv_at hl 0 rfl) ?_
        refine x_geti X Y cl_6 rfl (by decide) 8 (by decide) rfl wf_X6_142 dX6_put_149 ?_
        exact x_iret X Y hr hlk hf dX6_put_152
      · have hf := ite_f c hf
        refine lv_aload_n hx hb dX6_put_111 rfl (lv_at hl 0 rfl) ?_
        refine x_get (v := .ref (gR g 63)) X Y cl_6 rfl (by decide) 7 (by decide) wf_X6_25 rfl dX6_put_112 ?_
        refine lv_aload_n hx hb dX6_put_115 rfl (lv_at hl 0 rfl) ?_
        refine x_geti X Y cl_6 rfl (by decide) 8 (by decide) rfl wf_X6_142 dX6_put_116 ?_
        refine lv_lload_n hx hb dX6_put_119 rfl (lv_at hl 1 rfl) ?_
        refine lv_bipush (v := 8) hx hb dX6_put_120 (by decide) ?_
        refine lv_iload hx hb dX6_put_122 (lv_at hl 2 rfl) ?_
        refine lv_imul hx hb dX6_put_124 ?_
        refine lv_lushr hx hb dX6_put_125 rfl ?_
        refine lv_ldc2 (v := 255) hx hb X.1.2.2.2.1 (X.w wk_X6_154) dX6_put_126 ?_
        refine lv_land hx hb dX6_put_129 ?_
        refine lv_l2i hx hb dX6_put_130 rfl ?_
        obtain ⟨hin, hf⟩ := oob_t hf
        refine x_iast X Y rfl hin dX6_put_131 (fun H locs Y => ?_)
        refine lv_aload_n hx hb dX6_put_132 rfl (lv_at hl 0 rfl) ?_
        refine lv_dup hx hb dX6_put_133 rfl ?_
        refine x_geti X Y cl_6 rfl (by decide) 8 (by decide) rfl wf_X6_142 dX6_put_134 ?_
        refine lv_iconst (v := 1) hx hb dX6_put_137 (by decide) ?_
        refine lv_iadd hx hb dX6_put_138 ?_
        refine x_put X Y cl_6 rfl (by decide) 8 (by decide) rfl wf_X6_142 rfl rfl rfl dX6_put_139 (fun H locs Y => ?_)
        refine lv_iinc (v := _ + (-1 : Int32)) (lv' := [(7, _), (0, _), (1, _)]) hx hb dX6_put_142 hl (k := 2) rfl rfl (by decide) rfl (fun ls hl => ?_)
        refine lv_goto (tgt := 106) hx hb dX6_put_145 (by decide) ?_
        exact ih _ _ _ _ _ hf Y (lv_sub hl [1, 2, 0] rfl)
  have hJ68 : ∀ (v1 : Int64) (v3 : Int32) (v4 : Int32) (v5 : Int64) (I : HI) (H : Heap) (locs : List Loc) (ls : Array Slot), f_X6_put_J68 v1 v3 v4 v5 I = some r → XD g I s H locs → lv_has ls 8 [(0, .ref (gR g 57)), (1, .long v1), (3, .int v3), (4, .int v4), (5, .long v5)] → W p l e rm_X6_put s m args below meth c H locs 0 0 (MQ below (xQi g r.1 r.2) args s 0 0 (gA g)) (F0 m 68 ls []) := by
    intro v1 v3 v4 v5 I H locs ls hf Y hl
    unfold f_X6_put_J68 at hf
    refine lv_iload_n hx hb dX6_put_68 rfl (lv_at hl 2 rfl) ?_
    refine lv_if_eq (tgt := 84) hx hb dX6_put_69 (by decide) (fun c => ?_) (fun c => ?_)
    · have hf := ite_t c hf
      refine lv_bipush (v := -2) hx hb dX6_put_84 (by decide) ?_
      exact x_iret X Y hr hlk hf dX6_put_86
    · have hf := ite_f c hf
      refine lv_lload hx hb dX6_put_72 (lv_at hl 4 rfl) ?_
      refine lv_lconst (v := 0) hx hb dX6_put_74 (by decide) ?_
      refine W.lcmp hx hb dX6_put_75 ?_
      refine lv_if_ne (tgt := 84) hx hb dX6_put_76 (by decide) (fun c => ?_) (fun c => ?_)
      · have hf := ite_f c hf
        refine lv_bipush (v := -2) hx hb dX6_put_84 (by decide) ?_
        exact x_iret X Y hr hlk hf dX6_put_86
      · have hf := ite_t c hf
        refine lv_iload hx hb dX6_put_79 (lv_at hl 3 rfl) ?_
        refine lv_if_ne (tgt := 87) hx hb dX6_put_81 (by decide) (fun c => ?_) (fun c => ?_)
        · have hf := ite_f c hf
          refine lv_aload_n hx hb dX6_put_87 rfl (lv_at hl 0 rfl) ?_
          refine x_geti X Y cl_6 rfl (by decide) 8 (by decide) rfl wf_X6_142 dX6_put_88 ?_
          refine lv_iload_n hx hb dX6_put_91 rfl (lv_at hl 2 rfl) ?_
          refine lv_iadd hx hb dX6_put_92 ?_
          refine lv_bipush (v := 80) hx hb dX6_put_93 (by decide) ?_
          refine lv_icmp_le (tgt := 101) hx hb dX6_put_95 (by decide) (fun c => ?_) (fun c => ?_)
          · have hf := ite_t c hf
            refine lv_iload_n hx hb dX6_put_101 rfl (lv_at hl 2 rfl) ?_
            refine lv_iconst (v := 1) hx hb dX6_put_102 (by decide) ?_
            refine lv_isub hx hb dX6_put_103 ?_
            refine lv_istore (lv' := [(7, _), (0, _), (1, _), (3, _), (4, _), (5, _)]) hx hb dX6_put_104 hl (by decide) rfl (fun ls hl => ?_)
            exact hL106 _ _ _ _ _ _ _ hf Y (lv_sub hl [1, 2, 0] rfl)
          · have hf := ite_f c hf
            refine lv_bipush (v := -4) hx hb dX6_put_98 (by decide) ?_
            exact x_iret X Y hr hlk hf dX6_put_100
        · have hf := ite_t c hf
          refine lv_bipush (v := -2) hx hb dX6_put_84 (by decide) ?_
          exact x_iret X Y hr hlk hf dX6_put_86
  have hL8 : ∀ (v1 : Int64) (n : Nat) (v3 : Int32) (v4 : Int32) (v5 : Int64) (I : HI) (H : Heap) (locs : List Loc) (ls : Array Slot), f_X6_put_L8 v1 n v3 v4 v5 I = some r → XD g I s H locs → lv_has ls 8 [(0, .ref (gR g 57)), (1, .long v1), (3, .int v3), (4, .int v4), (5, .long v5)] → W p l e rm_X6_put s m args below meth c H locs 0 0 (MQ below (xQi g r.1 r.2) args s 0 0 (gA g)) (F0 m 8 ls []) := by
    intro v1 n
    induction n with
    | zero => intro v3 v4 v5 I H locs ls hf Y hl; exact nn_t hf
    | succ n ih =>
      intro v3 v4 v5 I H locs ls hf Y hl
      have hf : f_X6_put_L8_b v1 (f_X6_put_L8 v1 n) v3 v4 v5 I = some r := hf
      unfold f_X6_put_L8_b at hf
      refine lv_iload_n hx hb dX6_put_8 rfl (lv_at hl 2 rfl) ?_
      refine lv_bipush (v := 8) hx hb dX6_put_9 (by decide) ?_
      refine lv_icmp_ge (tgt := 68) hx hb dX6_put_11 (by decide) (fun c => ?_) (fun c => ?_)
      · have hf := ite_t c hf
        exact hJ68 _ _ _ _ _ _ _ _ hf Y (lv_sub hl [0, 1, 2, 3, 4] rfl)
      · have hf := ite_f c hf
        refine lv_lload hx hb dX6_put_14 (lv_at hl 4 rfl) ?_
        refine lv_ldc2 (v := 255) hx hb X.1.2.2.2.1 (X.w wk_X6_154) dX6_put_16 ?_
        refine lv_land hx hb dX6_put_19 ?_
        refine lv_lconst (v := 0) hx hb dX6_put_20 (by decide) ?_
        refine W.lcmp hx hb dX6_put_21 ?_
        refine lv_if_eq (tgt := 68) hx hb dX6_put_22 (by decide) (fun c => ?_) (fun c => ?_)
        · have hf := ite_t c hf
          exact hJ68 _ _ _ _ _ _ _ _ hf Y (lv_sub hl [0, 1, 2, 3, 4] rfl)
        · have hf := ite_f c hf
          refine lv_iload hx hb dX6_put_25 (lv_at hl 3 rfl) ?_
          refine lv_if_eq (tgt := 52) hx hb dX6_put_27 (by decide) (fun c => ?_) (fun c => ?_)
          · have hf := ite_t c hf
            refine lv_iconst (v := 0) hx hb dX6_put_52 (by decide) ?_
            refine lv_istore (lv' := [(4, _), (0, _), (1, _), (3, _), (5, _)]) hx hb dX6_put_53 hl (by decide) rfl (fun ls hl => ?_)
            refine lv_lload hx hb dX6_put_55 (lv_at hl 4 rfl) ?_
            refine lv_bipush (v := 8) hx hb dX6_put_57 (by decide) ?_
            refine lv_lushr hx hb dX6_put_59 rfl ?_
            refine lv_lstore (lv' := [(5, _), (4, _), (0, _), (1, _), (3, _)]) hx hb dX6_put_60 hl (by decide) rfl (fun ls hl => ?_)
            refine lv_iinc (v := _ + (1 : Int32)) (lv' := [(3, _), (5, _), (4, _), (0, _), (1, _)]) hx hb dX6_put_62 hl (k := 4) rfl rfl (by decide) rfl (fun ls hl => ?_)
            refine lv_goto (tgt := 8) hx hb dX6_put_65 (by decide) ?_
            exact ih _ _ _ _ _ _ _ hf Y (lv_sub hl [3, 4, 0, 2, 1] rfl)
          · have hf := ite_f c hf
            refine lv_lload hx hb dX6_put_30 (lv_at hl 4 rfl) ?_
            refine lv_ldc2 (v := 255) hx hb X.1.2.2.2.1 (X.w wk_X6_154) dX6_put_32 ?_
            refine lv_land hx hb dX6_put_35 ?_
            refine lv_ldc2 (v := 33) hx hb X.1.2.2.2.1 (X.w wk_X6_156) dX6_put_36 ?_
            refine lv_ldc2 (v := 126) hx hb X.1.2.2.2.1 (X.w wk_X6_158) dX6_put_39 ?_
            obtain ⟨q8, hq, hf⟩ := bnd_t hf
            refine x_ci Y (x_rS (rest := []) X Y k_X6_67 (c_X6_in X.hg hq) rfl ⟨rfl, rfl⟩ ⟨by decide, by decide⟩ hl.1 rfl (Nat.le_of_ble_eq_true rfl) dX6_put_42 ⟨Nat.zero_le _, Nat.zero_le _⟩) (fun H locs Y => ?_)
            refine lv_if_eq (tgt := 52) hx hb dX6_put_45 (by decide) (fun c => ?_) (fun c => ?_)
            · have hf := ite_t c hf
              refine lv_iconst (v := 0) hx hb dX6_put_52 (by decide) ?_
              refine lv_istore (lv' := [(4, _), (0, _), (1, _), (3, _), (5, _)]) hx hb dX6_put_53 hl (by decide) rfl (fun ls hl => ?_)
              refine lv_lload hx hb dX6_put_55 (lv_at hl 4 rfl) ?_
              refine lv_bipush (v := 8) hx hb dX6_put_57 (by decide) ?_
              refine lv_lushr hx hb dX6_put_59 rfl ?_
              refine lv_lstore (lv' := [(5, _), (4, _), (0, _), (1, _), (3, _)]) hx hb dX6_put_60 hl (by decide) rfl (fun ls hl => ?_)
              refine lv_iinc (v := _ + (1 : Int32)) (lv' := [(3, _), (5, _), (4, _), (0, _), (1, _)]) hx hb dX6_put_62 hl (k := 4) rfl rfl (by decide) rfl (fun ls hl => ?_)
              refine lv_goto (tgt := 8) hx hb dX6_put_65 (by decide) ?_
              exact ih _ _ _ _ _ _ _ hf Y (lv_sub hl [3, 4, 0, 2, 1] rfl)
            · have hf := ite_f c hf
              refine lv_iconst (v := 1) hx hb dX6_put_48 (by decide) ?_
              refine lv_goto (tgt := 53) hx hb dX6_put_49 (by decide) ?_
              refine lv_istore (lv' := [(4, _), (0, _), (1, _), (3, _), (5, _)]) hx hb dX6_put_53 hl (by decide) rfl (fun ls hl => ?_)
              refine lv_lload hx hb dX6_put_55 (lv_at hl 4 rfl) ?_
              refine lv_bipush (v := 8) hx hb dX6_put_57 (by decide) ?_
              refine lv_lushr hx hb dX6_put_59 rfl ?_
              refine lv_lstore (lv' := [(5, _), (4, _), (0, _), (1, _), (3, _)]) hx hb dX6_put_60 hl (by decide) rfl (fun ls hl => ?_)
              refine lv_iinc (v := _ + (1 : Int32)) (lv' := [(3, _), (5, _), (4, _), (0, _), (1, _)]) hx hb dX6_put_62 hl (k := 4) rfl rfl (by decide) rfl (fun ls hl => ?_)
              refine lv_goto (tgt := 8) hx hb dX6_put_65 (by decide) ?_
              exact ih _ _ _ _ _ _ _ hf Y (lv_sub hl [3, 4, 0, 2, 1] rfl)
  unfold f_X6_put at hf
  refine lv_iconst (v := 0) hx hb dX6_put_0 (by decide) ?_
  refine lv_istore_n (lv' := [(3, _), (0, _), (1, _)]) hx hb dX6_put_1 rfl hl (by decide) rfl (fun ls hl => ?_)
  refine lv_iconst (v := 1) hx hb dX6_put_2 (by decide) ?_
  refine lv_istore (lv' := [(4, _), (3, _), (0, _), (1, _)]) hx hb dX6_put_3 hl (by decide) rfl (fun ls hl => ?_)
  refine lv_lload_n hx hb dX6_put_5 rfl (lv_at hl 3 rfl) ?_
  refine lv_lstore (lv' := [(5, _), (4, _), (3, _), (0, _), (1, _)]) hx hb dX6_put_6 hl (by decide) rfl (fun ls hl => ?_)
  exact hL8 _ _ _ _ _ _ _ _ _ hf Y (lv_sub hl [3, 4, 2, 1, 0] rfl)
def f_X6_wipe (I : HI) : Option (Int32 × HI) :=
  let x2 := I 57 8
  let I3 := upI I 57 8 (0 : Int32)
  some (x2, I3)
abbrev rm_X6_wipe : Room := { frames := 0, cells := 0, slots := 0, locals := 0 }
set_option maxHeartbeats 4000000 in
set_option maxRecDepth 100000 in
theorem c_X6_wipe {l : Launch} {g : GX} (hg : gOk g) {I : HI} {r : Int32 × HI} (hf : f_X6_wipe I = some r) : Met l yX6_wipe (Cond.code yX6_wipe cX6_wipe 2 (some .int) :: WL) rm_X6_wipe (xP g [.ref (gR g 57)] I) (xQi g r.1 r.2) 0 0 (gA g) := by
  refine x_met (by decide) hg (Nat.le_of_ble_eq_true rfl) (fun p e s m args below meth c X hr hlk Y ls hl => ?_)
  have hx := X.hx
  have hb := X.hb
  have hl : lv_has ls 2 [(0, .ref (gR g 57))] := hl
  unfold f_X6_wipe at hf
  refine lv_aload_n hx hb dX6_wipe_0 rfl (lv_at hl 0 rfl) ?_
  refine x_geti X Y cl_6 rfl (by decide) 8 (by decide) rfl wf_X6_142 dX6_wipe_1 ?_
  refine lv_istore_n (lv' := [(1, _), (0, _)]) hx hb dX6_wipe_4 rfl hl (by decide) rfl (fun ls hl => ?_)
  refine lv_aload_n hx hb dX6_wipe_5 rfl (lv_at hl 1 rfl) ?_
  refine lv_iconst (v := 0) hx hb dX6_wipe_6 (by decide) ?_
  refine x_put X Y cl_6 rfl (by decide) 8 (by decide) rfl wf_X6_142 rfl rfl rfl dX6_wipe_7 (fun H locs Y => ?_)
  refine lv_iload_n hx hb dX6_wipe_10 rfl (lv_at hl 0 rfl) ?_
  exact x_iret X Y hr hlk hf dX6_wipe_11
def f_X6_isHere (v1 : Int32) (v2 : Int32) (I : HI) : Option (Int32 × HI) :=
  if (I 57 8) ≤ (I 57 9) then
    some ((0 : Int32), I)
  else
    if (I 57 9) < 0 ∨ 80 ≤ (I 57 9).toNatClampNeg then none else
    (f_X6_in ((I 63 (I 57 9).toNatClampNeg).toInt64) (v1.toInt64) (v2.toInt64) I).bind fun q2 =>
    if q2.1 = (0 : Int32) then
      some ((0 : Int32), q2.2)
    else
      some ((1 : Int32), q2.2)
abbrev rm_X6_isHere : Room := { frames := 1, cells := 0, slots := 0, locals := 25 }
set_option maxHeartbeats 4000000 in
set_option maxRecDepth 100000 in
theorem c_X6_isHere {l : Launch} {g : GX} (hg : gOk g) {v1 : Int32} {v2 : Int32} {I : HI} {r : Int32 × HI} (hf : f_X6_isHere v1 v2 I = some r) : Met l yX6_isHere (Cond.code yX6_isHere cX6_isHere 3 (some .boolean) :: WL) rm_X6_isHere (xP g [.ref (gR g 57), .int v1, .int v2] I) (xQi g r.1 r.2) 0 0 (gA g) := by
  refine x_met (by decide) hg (Nat.le_of_ble_eq_true rfl) (fun p e s m args below meth c X hr hlk Y ls hl => ?_)
  have hx := X.hx
  have hb := X.hb
  have hl : lv_has ls 3 [(0, .ref (gR g 57)), (1, .int v1), (2, .int v2)] := hl
  unfold f_X6_isHere at hf
  refine lv_aload_n hx hb dX6_isHere_0 rfl (lv_at hl 0 rfl) ?_
  refine x_geti X Y cl_6 rfl (by decide) 9 (by decide) rfl wf_X6_160 dX6_isHere_1 ?_
  refine lv_aload_n hx hb dX6_isHere_4 rfl (lv_at hl 0 rfl) ?_
  refine x_geti X Y cl_6 rfl (by decide) 8 (by decide) rfl wf_X6_142 dX6_isHere_5 ?_
  refine lv_icmp_ge (tgt := 35) hx hb dX6_isHere_8 (by decide) (fun c => ?_) (fun c => ?_)
  · have hf := ite_t c hf
    refine lv_iconst (v := 0) hx hb dX6_isHere_35 (by decide) ?_
    exact x_zret X Y hr hlk rfl hf dX6_isHere_36
  · have hf := ite_f c hf
    refine lv_aload_n hx hb dX6_isHere_11 rfl (lv_at hl 0 rfl) ?_
    refine x_get (v := .ref (gR g 63)) X Y cl_6 rfl (by decide) 7 (by decide) wf_X6_25 rfl dX6_isHere_12 ?_
    refine lv_aload_n hx hb dX6_isHere_15 rfl (lv_at hl 0 rfl) ?_
    refine x_geti X Y cl_6 rfl (by decide) 9 (by decide) rfl wf_X6_160 dX6_isHere_16 ?_
    obtain ⟨hin, hf⟩ := oob_t hf
    refine x_iald X Y rfl hin dX6_isHere_19 ?_
    refine lv_i2l hx hb dX6_isHere_20 rfl ?_
    refine lv_iload_n hx hb dX6_isHere_21 rfl (lv_at hl 1 rfl) ?_
    refine lv_i2l hx hb dX6_isHere_22 rfl ?_
    refine lv_iload_n hx hb dX6_isHere_23 rfl (lv_at hl 2 rfl) ?_
    refine lv_i2l hx hb dX6_isHere_24 rfl ?_
    obtain ⟨q2, hq, hf⟩ := bnd_t hf
    refine x_ci Y (x_rS (rest := []) X Y k_X6_67 (c_X6_in X.hg hq) rfl ⟨rfl, rfl⟩ ⟨by decide, by decide⟩ hl.1 rfl (Nat.le_of_ble_eq_true rfl) dX6_isHere_25 ⟨Nat.zero_le _, Nat.zero_le _⟩) (fun H locs Y => ?_)
    refine lv_if_eq (tgt := 35) hx hb dX6_isHere_28 (by decide) (fun c => ?_) (fun c => ?_)
    · have hf := ite_t c hf
      refine lv_iconst (v := 0) hx hb dX6_isHere_35 (by decide) ?_
      exact x_zret X Y hr hlk rfl hf dX6_isHere_36
    · have hf := ite_f c hf
      refine lv_iconst (v := 1) hx hb dX6_isHere_31 (by decide) ?_
      refine lv_goto (tgt := 36) hx hb dX6_isHere_32 (by decide) ?_
      exact x_zret X Y hr hlk rfl hf dX6_isHere_36
def f_X6_takes (v1 : Int32) (I : HI) : Option (Int32 × HI) :=
  (f_X6_isHere v1 v1 I).bind fun q4 =>
  if q4.1 = (0 : Int32) then
    let I5 := upI q4.2 57 9 ((q4.2 57 9) + (0 : Int32))
    if q4.1 = 0 ∨ q4.1 = 1 then some (q4.1, I5) else none
  else
    let I6 := upI q4.2 57 9 ((q4.2 57 9) + (1 : Int32))
    if q4.1 = 0 ∨ q4.1 = 1 then some (q4.1, I6) else none
abbrev rm_X6_takes : Room := { frames := 2, cells := 0, slots := 0, locals := 47 }
set_option maxHeartbeats 4000000 in
set_option maxRecDepth 100000 in
theorem c_X6_takes {l : Launch} {g : GX} (hg : gOk g) {v1 : Int32} {I : HI} {r : Int32 × HI} (hf : f_X6_takes v1 I = some r) : Met l yX6_takes (Cond.code yX6_takes cX6_takes 3 (some .boolean) :: WL) rm_X6_takes (xP g [.ref (gR g 57), .int v1] I) (xQi g r.1 r.2) 0 0 (gA g) := by
  refine x_met (by decide) hg (Nat.le_of_ble_eq_true rfl) (fun p e s m args below meth c X hr hlk Y ls hl => ?_)
  have hx := X.hx
  have hb := X.hb
  have hl : lv_has ls 3 [(0, .ref (gR g 57)), (1, .int v1)] := hl
  unfold f_X6_takes at hf
  refine lv_aload_n hx hb dX6_takes_0 rfl (lv_at hl 0 rfl) ?_
  refine lv_iload_n hx hb dX6_takes_1 rfl (lv_at hl 1 rfl) ?_
  refine lv_iload_n hx hb dX6_takes_2 rfl (lv_at hl 1 rfl) ?_
  obtain ⟨q4, hq, hf⟩ := bnd_t hf
  refine x_ci Y (x_rV (rest := []) X Y k_X6_163 (c_X6_isHere X.hg hq) cl_6.1 rfl (by decide) rfl ⟨rfl, rfl⟩ ⟨by decide, by decide⟩ hl.1 rfl (Nat.le_of_ble_eq_true rfl) dX6_takes_3 ⟨Nat.zero_le _, Nat.zero_le _⟩) (fun H locs Y => ?_)
  refine lv_istore_n (lv' := [(2, _), (0, _), (1, _)]) hx hb dX6_takes_6 rfl hl (by decide) rfl (fun ls hl => ?_)
  refine lv_aload_n hx hb dX6_takes_7 rfl (lv_at hl 1 rfl) ?_
  refine lv_dup hx hb dX6_takes_8 rfl ?_
  refine x_geti X Y cl_6 rfl (by decide) 9 (by decide) rfl wf_X6_160 dX6_takes_9 ?_
  refine lv_iload_n hx hb dX6_takes_12 rfl (lv_at hl 0 rfl) ?_
  refine lv_if_eq (tgt := 20) hx hb dX6_takes_13 (by decide) (fun c => ?_) (fun c => ?_)
  · have hf := ite_t c hf
    refine lv_iconst (v := 0) hx hb dX6_takes_20 (by decide) ?_
    refine lv_iadd hx hb dX6_takes_21 ?_
    refine x_put X Y cl_6 rfl (by decide) 9 (by decide) rfl wf_X6_160 rfl rfl rfl dX6_takes_22 (fun H locs Y => ?_)
    refine lv_iload_n hx hb dX6_takes_25 rfl (lv_at hl 0 rfl) ?_
    obtain ⟨hz, hf⟩ := bool_t hf
    exact x_zret X Y hr hlk hz hf dX6_takes_26
  · have hf := ite_f c hf
    refine lv_iconst (v := 1) hx hb dX6_takes_16 (by decide) ?_
    refine lv_goto (tgt := 21) hx hb dX6_takes_17 (by decide) ?_
    refine lv_iadd hx hb dX6_takes_21 ?_
    refine x_put X Y cl_6 rfl (by decide) 9 (by decide) rfl wf_X6_160 rfl rfl rfl dX6_takes_22 (fun H locs Y => ?_)
    refine lv_iload_n hx hb dX6_takes_25 rfl (lv_at hl 0 rfl) ?_
    obtain ⟨hz, hf⟩ := bool_t hf
    exact x_zret X Y hr hlk hz hf dX6_takes_26
def f_X6_readsNumber_L39_b (k : HI → Option (Int32 × HI)) (I : HI) : Option (Int32 × HI) :=
  if (I 57 10) ≤ (0 : Int32) then
    some ((1 : Int32), I)
  else
    (f_X6_isHere (48 : Int32) (57 : Int32) I).bind fun q7 =>
    if q7.1 = (0 : Int32) then
      some ((1 : Int32), q7.2)
    else
      if (q7.2 57 9) < 0 ∨ 80 ≤ (q7.2 57 9).toNatClampNeg then none else
      if (100 : Int32) < ((((10 : Int32) * (q7.2 57 10)) + (q7.2 63 (q7.2 57 9).toNatClampNeg)) - (48 : Int32)) then
        some ((1 : Int32), q7.2)
      else
        if (q7.2 57 9) < 0 ∨ 80 ≤ (q7.2 57 9).toNatClampNeg then none else
        let I8 := upI q7.2 57 10 ((((10 : Int32) * (q7.2 57 10)) + (q7.2 63 (q7.2 57 9).toNatClampNeg)) - (48 : Int32))
        let I9 := upI I8 57 9 ((I8 57 9) + (1 : Int32))
        k I9
def f_X6_readsNumber_L39 : Nat → HI → Option (Int32 × HI)
  | 0, _ => none
  | n + 1, I => f_X6_readsNumber_L39_b (f_X6_readsNumber_L39 n) I
def f_X6_readsNumber (I : HI) : Option (Int32 × HI) :=
  (f_X6_isHere (48 : Int32) (57 : Int32) I).bind fun q10 =>
  if q10.1 = (0 : Int32) then
    some ((0 : Int32), q10.2)
  else
    if (q10.2 57 9) < 0 ∨ 80 ≤ (q10.2 57 9).toNatClampNeg then none else
    let I11 := upI q10.2 57 10 ((q10.2 63 (q10.2 57 9).toNatClampNeg) - (48 : Int32))
    let I12 := upI I11 57 9 ((I11 57 9) + (1 : Int32))
    f_X6_readsNumber_L39 4000 I12
abbrev rm_X6_readsNumber : Room := { frames := 2, cells := 0, slots := 0, locals := 47 }
set_option maxHeartbeats 4000000 in
set_option maxRecDepth 100000 in
theorem c_X6_readsNumber {l : Launch} {g : GX} (hg : gOk g) {I : HI} {r : Int32 × HI} (hf : f_X6_readsNumber I = some r) : Met l yX6_readsNumber (Cond.code yX6_readsNumber cX6_readsNumber 1 (some .boolean) :: WL) rm_X6_readsNumber (xP g [.ref (gR g 57)] I) (xQi g r.1 r.2) 0 0 (gA g) := by
  refine x_met (by decide) hg (Nat.le_of_ble_eq_true rfl) (fun p e s m args below meth c X hr hlk Y ls hl => ?_)
  have hx := X.hx
  have hb := X.hb
  have hl : lv_has ls 1 [(0, .ref (gR g 57))] := hl
  have hL39 : ∀ (n : Nat) (I : HI) (H : Heap) (locs : List Loc) (ls : Array Slot), f_X6_readsNumber_L39 n I = some r → XD g I s H locs → lv_has ls 1 [(0, .ref (gR g 57))] → W p l e rm_X6_readsNumber s m args below meth c H locs 0 0 (MQ below (xQi g r.1 r.2) args s 0 0 (gA g)) (F0 m 39 ls []) := by
    intro n
    induction n with
    | zero => intro I H locs ls hf Y hl; exact nn_t hf
    | succ n ih =>
      intro I H locs ls hf Y hl
      have hf : f_X6_readsNumber_L39_b (f_X6_readsNumber_L39 n) I = some r := hf
      unfold f_X6_readsNumber_L39_b at hf
      refine lv_aload_n hx hb dX6_readsNumber_39 rfl (lv_at hl 0 rfl) ?_
      refine x_geti X Y cl_6 rfl (by decide) 10 (by decide) rfl wf_X6_166 dX6_readsNumber_40 ?_
      refine lv_if_le (tgt := 119) hx hb dX6_readsNumber_43 (by decide) (fun c => ?_) (fun c => ?_)
      · have hf := ite_t c hf
        refine lv_iconst (v := 1) hx hb dX6_readsNumber_119 (by decide) ?_
        exact x_zret X Y hr hlk rfl hf dX6_readsNumber_120
      · have hf := ite_f c hf
        refine lv_aload_n hx hb dX6_readsNumber_46 rfl (lv_at hl 0 rfl) ?_
        refine lv_bipush (v := 48) hx hb dX6_readsNumber_47 (by decide) ?_
        refine lv_bipush (v := 57) hx hb dX6_readsNumber_49 (by decide) ?_
        obtain ⟨q7, hq, hf⟩ := bnd_t hf
        refine x_ci Y (x_rV (rest := []) X Y k_X6_163 (c_X6_isHere X.hg hq) cl_6.1 rfl (by decide) rfl ⟨rfl, rfl⟩ ⟨by decide, by decide⟩ hl.1 rfl (Nat.le_of_ble_eq_true rfl) dX6_readsNumber_51 ⟨Nat.zero_le _, Nat.zero_le _⟩) (fun H locs Y => ?_)
        refine lv_if_eq (tgt := 119) hx hb dX6_readsNumber_54 (by decide) (fun c => ?_) (fun c => ?_)
        · have hf := ite_t c hf
          refine lv_iconst (v := 1) hx hb dX6_readsNumber_119 (by decide) ?_
          exact x_zret X Y hr hlk rfl hf dX6_readsNumber_120
        · have hf := ite_f c hf
          refine lv_bipush (v := 10) hx hb dX6_readsNumber_57 (by decide) ?_
          refine lv_aload_n hx hb dX6_readsNumber_59 rfl (lv_at hl 0 rfl) ?_
          refine x_geti X Y cl_6 rfl (by decide) 10 (by decide) rfl wf_X6_166 dX6_readsNumber_60 ?_
          refine lv_imul hx hb dX6_readsNumber_63 ?_
          refine lv_aload_n hx hb dX6_readsNumber_64 rfl (lv_at hl 0 rfl) ?_
          refine x_get (v := .ref (gR g 63)) X Y cl_6 rfl (by decide) 7 (by decide) wf_X6_25 rfl dX6_readsNumber_65 ?_
          refine lv_aload_n hx hb dX6_readsNumber_68 rfl (lv_at hl 0 rfl) ?_
          refine x_geti X Y cl_6 rfl (by decide) 9 (by decide) rfl wf_X6_160 dX6_readsNumber_69 ?_
          obtain ⟨hin, hf⟩ := oob_t hf
          refine x_iald X Y rfl hin dX6_readsNumber_72 ?_
          refine lv_iadd hx hb dX6_readsNumber_73 ?_
          refine lv_bipush (v := 48) hx hb dX6_readsNumber_74 (by decide) ?_
          refine lv_isub hx hb dX6_readsNumber_76 ?_
          refine lv_bipush (v := 100) hx hb dX6_readsNumber_77 (by decide) ?_
          refine lv_icmp_gt (tgt := 119) hx hb dX6_readsNumber_79 (by decide) (fun c => ?_) (fun c => ?_)
          · have hf := ite_t c hf
            refine lv_iconst (v := 1) hx hb dX6_readsNumber_119 (by decide) ?_
            exact x_zret X Y hr hlk rfl hf dX6_readsNumber_120
          · have hf := ite_f c hf
            refine lv_aload_n hx hb dX6_readsNumber_82 rfl (lv_at hl 0 rfl) ?_
            refine lv_bipush (v := 10) hx hb dX6_readsNumber_83 (by decide) ?_
            refine lv_aload_n hx hb dX6_readsNumber_85 rfl (lv_at hl 0 rfl) ?_
            refine x_geti X Y cl_6 rfl (by decide) 10 (by decide) rfl wf_X6_166 dX6_readsNumber_86 ?_
            refine lv_imul hx hb dX6_readsNumber_89 ?_
            refine lv_aload_n hx hb dX6_readsNumber_90 rfl (lv_at hl 0 rfl) ?_
            refine x_get (v := .ref (gR g 63)) X Y cl_6 rfl (by decide) 7 (by decide) wf_X6_25 rfl dX6_readsNumber_91 ?_
            refine lv_aload_n hx hb dX6_readsNumber_94 rfl (lv_at hl 0 rfl) ?_
            refine x_geti X Y cl_6 rfl (by decide) 9 (by decide) rfl wf_X6_160 dX6_readsNumber_95 ?_
            obtain ⟨hin, hf⟩ := oob_t hf
            refine x_iald X Y rfl hin dX6_readsNumber_98 ?_
            refine lv_iadd hx hb dX6_readsNumber_99 ?_
            refine lv_bipush (v := 48) hx hb dX6_readsNumber_100 (by decide) ?_
            refine lv_isub hx hb dX6_readsNumber_102 ?_
            refine x_put X Y cl_6 rfl (by decide) 10 (by decide) rfl wf_X6_166 rfl rfl rfl dX6_readsNumber_103 (fun H locs Y => ?_)
            refine lv_aload_n hx hb dX6_readsNumber_106 rfl (lv_at hl 0 rfl) ?_
            refine lv_dup hx hb dX6_readsNumber_107 rfl ?_
            refine x_geti X Y cl_6 rfl (by decide) 9 (by decide) rfl wf_X6_160 dX6_readsNumber_108 ?_
            refine lv_iconst (v := 1) hx hb dX6_readsNumber_111 (by decide) ?_
            refine lv_iadd hx hb dX6_readsNumber_112 ?_
            refine x_put X Y cl_6 rfl (by decide) 9 (by decide) rfl wf_X6_160 rfl rfl rfl dX6_readsNumber_113 (fun H locs Y => ?_)
            refine lv_goto (tgt := 39) hx hb dX6_readsNumber_116 (by decide) ?_
            exact ih  _ _ _ _ hf Y (lv_sub hl [0] rfl)
  unfold f_X6_readsNumber at hf
  refine lv_aload_n hx hb dX6_readsNumber_0 rfl (lv_at hl 0 rfl) ?_
  refine lv_bipush (v := 48) hx hb dX6_readsNumber_1 (by decide) ?_
  refine lv_bipush (v := 57) hx hb dX6_readsNumber_3 (by decide) ?_
  obtain ⟨q10, hq, hf⟩ := bnd_t hf
  refine x_ci Y (x_rV (rest := []) X Y k_X6_163 (c_X6_isHere X.hg hq) cl_6.1 rfl (by decide) rfl ⟨rfl, rfl⟩ ⟨by decide, by decide⟩ hl.1 rfl (Nat.le_of_ble_eq_true rfl) dX6_readsNumber_5 ⟨Nat.zero_le _, Nat.zero_le _⟩) (fun H locs Y => ?_)
  refine lv_if_ne (tgt := 13) hx hb dX6_readsNumber_8 (by decide) (fun c => ?_) (fun c => ?_)
  · have hf := ite_f c hf
    refine lv_aload_n hx hb dX6_readsNumber_13 rfl (lv_at hl 0 rfl) ?_
    refine lv_aload_n hx hb dX6_readsNumber_14 rfl (lv_at hl 0 rfl) ?_
    refine x_get (v := .ref (gR g 63)) X Y cl_6 rfl (by decide) 7 (by decide) wf_X6_25 rfl dX6_readsNumber_15 ?_
    refine lv_aload_n hx hb dX6_readsNumber_18 rfl (lv_at hl 0 rfl) ?_
    refine x_geti X Y cl_6 rfl (by decide) 9 (by decide) rfl wf_X6_160 dX6_readsNumber_19 ?_
    obtain ⟨hin, hf⟩ := oob_t hf
    refine x_iald X Y rfl hin dX6_readsNumber_22 ?_
    refine lv_bipush (v := 48) hx hb dX6_readsNumber_23 (by decide) ?_
    refine lv_isub hx hb dX6_readsNumber_25 ?_
    refine x_put X Y cl_6 rfl (by decide) 10 (by decide) rfl wf_X6_166 rfl rfl rfl dX6_readsNumber_26 (fun H locs Y => ?_)
    refine lv_aload_n hx hb dX6_readsNumber_29 rfl (lv_at hl 0 rfl) ?_
    refine lv_dup hx hb dX6_readsNumber_30 rfl ?_
    refine x_geti X Y cl_6 rfl (by decide) 9 (by decide) rfl wf_X6_160 dX6_readsNumber_31 ?_
    refine lv_iconst (v := 1) hx hb dX6_readsNumber_34 (by decide) ?_
    refine lv_iadd hx hb dX6_readsNumber_35 ?_
    refine x_put X Y cl_6 rfl (by decide) 9 (by decide) rfl wf_X6_160 rfl rfl rfl dX6_readsNumber_36 (fun H locs Y => ?_)
    exact hL39 _ _ _ _ _ hf Y (lv_sub hl [0] rfl)
  · have hf := ite_t c hf
    refine lv_iconst (v := 0) hx hb dX6_readsNumber_11 (by decide) ?_
    exact x_zret X Y hr hlk rfl hf dX6_readsNumber_12
def f_X6_readsValue (I : HI) : Option (Int32 × HI) :=
  (f_X6_takes (45 : Int32) I).bind fun q5 =>
  (f_X6_readsNumber q5.2).bind fun q6 =>
  if q5.1 = (0 : Int32) then
    let I7 := upI q6.2 57 10 (q6.2 57 10)
    if q6.1 = 0 ∨ q6.1 = 1 then some (q6.1, I7) else none
  else
    let I8 := upI q6.2 57 10 (-(q6.2 57 10))
    if q6.1 = 0 ∨ q6.1 = 1 then some (q6.1, I8) else none
abbrev rm_X6_readsValue : Room := { frames := 3, cells := 0, slots := 0, locals := 69 }
set_option maxHeartbeats 4000000 in
set_option maxRecDepth 100000 in
theorem c_X6_readsValue {l : Launch} {g : GX} (hg : gOk g) {I : HI} {r : Int32 × HI} (hf : f_X6_readsValue I = some r) : Met l yX6_readsValue (Cond.code yX6_readsValue cX6_readsValue 3 (some .boolean) :: WL) rm_X6_readsValue (xP g [.ref (gR g 57)] I) (xQi g r.1 r.2) 0 0 (gA g) := by
  refine x_met (by decide) hg (Nat.le_of_ble_eq_true rfl) (fun p e s m args below meth c X hr hlk Y ls hl => ?_)
  have hx := X.hx
  have hb := X.hb
  have hl : lv_has ls 3 [(0, .ref (gR g 57))] := hl
  unfold f_X6_readsValue at hf
  refine lv_aload_n hx hb dX6_readsValue_0 rfl (lv_at hl 0 rfl) ?_
  refine lv_bipush (v := 45) hx hb dX6_readsValue_1 (by decide) ?_
  obtain ⟨q5, hq, hf⟩ := bnd_t hf
  refine x_ci Y (x_rV (rest := []) X Y k_X6_169 (c_X6_takes X.hg hq) cl_6.1 rfl (by decide) rfl ⟨rfl, rfl⟩ ⟨by decide, by decide⟩ hl.1 rfl (Nat.le_of_ble_eq_true rfl) dX6_readsValue_3 ⟨Nat.zero_le _, Nat.zero_le _⟩) (fun H locs Y => ?_)
  refine lv_istore_n (lv' := [(1, _), (0, _)]) hx hb dX6_readsValue_6 rfl hl (by decide) rfl (fun ls hl => ?_)
  refine lv_aload_n hx hb dX6_readsValue_7 rfl (lv_at hl 1 rfl) ?_
  obtain ⟨q6, hq, hf⟩ := bnd_t hf
  refine x_ci Y (x_rV (rest := []) X Y k_X6_172 (c_X6_readsNumber X.hg hq) cl_6.1 rfl (by decide) rfl ⟨rfl, rfl⟩ ⟨by decide, by decide⟩ hl.1 rfl (Nat.le_of_ble_eq_true rfl) dX6_readsValue_8 ⟨Nat.zero_le _, Nat.zero_le _⟩) (fun H locs Y => ?_)
  refine lv_istore_n (lv' := [(2, _), (1, _), (0, _)]) hx hb dX6_readsValue_11 rfl hl (by decide) rfl (fun ls hl => ?_)
  refine lv_aload_n hx hb dX6_readsValue_12 rfl (lv_at hl 2 rfl) ?_
  refine lv_iload_n hx hb dX6_readsValue_13 rfl (lv_at hl 1 rfl) ?_
  refine lv_if_eq (tgt := 25) hx hb dX6_readsValue_14 (by decide) (fun c => ?_) (fun c => ?_)
  · have hf := ite_t c hf
    refine lv_aload_n hx hb dX6_readsValue_25 rfl (lv_at hl 2 rfl) ?_
    refine x_geti X Y cl_6 rfl (by decide) 10 (by decide) rfl wf_X6_166 dX6_readsValue_26 ?_
    refine x_put X Y cl_6 rfl (by decide) 10 (by decide) rfl wf_X6_166 rfl rfl rfl dX6_readsValue_29 (fun H locs Y => ?_)
    refine lv_iload_n hx hb dX6_readsValue_32 rfl (lv_at hl 0 rfl) ?_
    obtain ⟨hz, hf⟩ := bool_t hf
    exact x_zret X Y hr hlk hz hf dX6_readsValue_33
  · have hf := ite_f c hf
    refine lv_aload_n hx hb dX6_readsValue_17 rfl (lv_at hl 2 rfl) ?_
    refine x_geti X Y cl_6 rfl (by decide) 10 (by decide) rfl wf_X6_166 dX6_readsValue_18 ?_
    refine lv_ineg hx hb dX6_readsValue_21 ?_
    refine lv_goto (tgt := 29) hx hb dX6_readsValue_22 (by decide) ?_
    refine x_put X Y cl_6 rfl (by decide) 10 (by decide) rfl wf_X6_166 rfl rfl rfl dX6_readsValue_29 (fun H locs Y => ?_)
    refine lv_iload_n hx hb dX6_readsValue_32 rfl (lv_at hl 0 rfl) ?_
    obtain ⟨hz, hf⟩ := bool_t hf
    exact x_zret X Y hr hlk hz hf dX6_readsValue_33
def f_X6_does (v1 : Int32) (I : HI) : Option (Int32 × HI) :=
  if (0 : Int32) ≤ v1 then
    let I3 := upI I 57 12 (0 : Int32)
    some (0, I3)
  else
    let I4 := upI I 57 12 v1
    some (0, I4)
abbrev rm_X6_does : Room := { frames := 0, cells := 0, slots := 0, locals := 0 }
set_option maxHeartbeats 4000000 in
set_option maxRecDepth 100000 in
theorem c_X6_does {l : Launch} {g : GX} (hg : gOk g) {v1 : Int32} {I : HI} {r : Int32 × HI} (hf : f_X6_does v1 I = some r) : Met l yX6_does (Cond.code yX6_does cX6_does 2 none :: WL) rm_X6_does (xP g [.ref (gR g 57), .int v1] I) (xQv g r.2) 0 0 (gA g) := by
  refine x_met (by decide) hg (Nat.le_of_ble_eq_true rfl) (fun p e s m args below meth c X hr hlk Y ls hl => ?_)
  have hx := X.hx
  have hb := X.hb
  have hl : lv_has ls 2 [(0, .ref (gR g 57)), (1, .int v1)] := hl
  unfold f_X6_does at hf
  refine lv_aload_n hx hb dX6_does_0 rfl (lv_at hl 0 rfl) ?_
  refine lv_iload_n hx hb dX6_does_1 rfl (lv_at hl 1 rfl) ?_
  refine lv_if_ge (tgt := 9) hx hb dX6_does_2 (by decide) (fun c => ?_) (fun c => ?_)
  · have hf := ite_t c hf
    refine lv_iconst (v := 0) hx hb dX6_does_9 (by decide) ?_
    refine x_put X Y cl_6 rfl (by decide) 12 (by decide) rfl wf_X6_175 rfl rfl rfl dX6_does_10 (fun H locs Y => ?_)
    exact x_vret X Y hr hlk hf dX6_does_13
  · have hf := ite_f c hf
    refine lv_iload_n hx hb dX6_does_5 rfl (lv_at hl 1 rfl) ?_
    refine lv_goto (tgt := 10) hx hb dX6_does_6 (by decide) ?_
    refine x_put X Y cl_6 rfl (by decide) 12 (by decide) rfl wf_X6_175 rfl rfl rfl dX6_does_10 (fun H locs Y => ?_)
    exact x_vret X Y hr hlk hf dX6_does_13
def f_X6_readsSamples_L2_b (k : Int32 → HI → Option (Int32 × HI)) (v1 : Int32) (I : HI) : Option (Int32 × HI) :=
  if v1 = (0 : Int32) then
    some ((1 : Int32), I)
  else
    (f_X6_readsValue I).bind fun q15 =>
    if q15.1 = (0 : Int32) then
      some ((0 : Int32), q15.2)
    else
      let x16 := q15.2 57 10
      let I17 := upI q15.2 57 10 (1 : Int32)
      (f_X6_takes (42 : Int32) I17).bind fun q18 =>
      if q18.1 = (0 : Int32) then
        if (q18.2 57 11) = (0 : Int32) then
          (f_X6_takes (44 : Int32) q18.2).bind fun q19 =>
          k q19.1 q19.2
        else
          if (q18.2 57 12) = (0 : Int32) then
            (f_X6_doFeed x16 (q18.2 57 10) q18.2).bind fun q20 =>
            (f_X6_does q20.1 q20.2).bind fun q21 =>
            (f_X6_takes (44 : Int32) q21.2).bind fun q22 =>
            k q22.1 q22.2
          else
            (f_X6_takes (44 : Int32) q18.2).bind fun q23 =>
            k q23.1 q23.2
      else
        (f_X6_readsNumber q18.2).bind fun q24 =>
        if q24.1 = (0 : Int32) then
          some ((0 : Int32), q24.2)
        else
          if (q24.2 57 11) = (0 : Int32) then
            (f_X6_takes (44 : Int32) q24.2).bind fun q25 =>
            k q25.1 q25.2
          else
            if (q24.2 57 12) = (0 : Int32) then
              (f_X6_doFeed x16 (q24.2 57 10) q24.2).bind fun q26 =>
              (f_X6_does q26.1 q26.2).bind fun q27 =>
              (f_X6_takes (44 : Int32) q27.2).bind fun q28 =>
              k q28.1 q28.2
            else
              (f_X6_takes (44 : Int32) q24.2).bind fun q29 =>
              k q29.1 q29.2
def f_X6_readsSamples_L2 : Nat → Int32 → HI → Option (Int32 × HI)
  | 0, _, _ => none
  | n + 1, v1, I => f_X6_readsSamples_L2_b (f_X6_readsSamples_L2 n) v1 I
def f_X6_readsSamples (I : HI) : Option (Int32 × HI) :=
  f_X6_readsSamples_L2 4000 (1 : Int32) I
abbrev rm_X6_readsSamples : Room := { frames := 5, cells := 0, slots := 0, locals := 110 }
set_option maxHeartbeats 4000000 in
set_option maxRecDepth 100000 in
theorem c_X6_readsSamples {l : Launch} {g : GX} (hg : gOk g) {I : HI} {r : Int32 × HI} (hf : f_X6_readsSamples I = some r) : Met l yX6_readsSamples (Cond.code yX6_readsSamples cX6_readsSamples 3 (some .boolean) :: WL) rm_X6_readsSamples (xP g [.ref (gR g 57)] I) (xQi g r.1 r.2) 0 0 (gA g) := by
  refine x_met (by decide) hg (Nat.le_of_ble_eq_true rfl) (fun p e s m args below meth c X hr hlk Y ls hl => ?_)
  have hx := X.hx
  have hb := X.hb
  have hl : lv_has ls 3 [(0, .ref (gR g 57))] := hl
  have hL2 : ∀ (n : Nat) (v1 : Int32) (I : HI) (H : Heap) (locs : List Loc) (ls : Array Slot), f_X6_readsSamples_L2 n v1 I = some r → XD g I s H locs → lv_has ls 3 [(0, .ref (gR g 57)), (1, .int v1)] → W p l e rm_X6_readsSamples s m args below meth c H locs 0 0 (MQ below (xQi g r.1 r.2) args s 0 0 (gA g)) (F0 m 2 ls []) := by
    intro n
    induction n with
    | zero => intro v1 I H locs ls hf Y hl; exact nn_t hf
    | succ n ih =>
      intro v1 I H locs ls hf Y hl
      have hf : f_X6_readsSamples_L2_b (f_X6_readsSamples_L2 n) v1 I = some r := hf
      unfold f_X6_readsSamples_L2_b at hf
      refine lv_iload_n hx hb dX6_readsSamples_2 rfl (lv_at hl 1 rfl) ?_
      refine lv_if_eq (tgt := 80) hx hb dX6_readsSamples_3 (by decide) (fun c => ?_) (fun c => ?_)
      · have hf := ite_t c hf
        refine lv_iconst (v := 1) hx hb dX6_readsSamples_80 (by decide) ?_
        exact x_zret X Y hr hlk rfl hf dX6_readsSamples_81
      · have hf := ite_f c hf
        refine lv_aload_n hx hb dX6_readsSamples_6 rfl (lv_at hl 0 rfl) ?_
        obtain ⟨q15, hq, hf⟩ := bnd_t hf
        refine x_ci Y (x_rV (rest := []) X Y k_X6_178 (c_X6_readsValue X.hg hq) cl_6.1 rfl (by decide) rfl ⟨rfl, rfl⟩ ⟨by decide, by decide⟩ hl.1 rfl (Nat.le_of_ble_eq_true rfl) dX6_readsSamples_7 ⟨Nat.zero_le _, Nat.zero_le _⟩) (fun H locs Y => ?_)
        refine lv_if_ne (tgt := 15) hx hb dX6_readsSamples_10 (by decide) (fun c => ?_) (fun c => ?_)
        · have hf := ite_f c hf
          refine lv_aload_n hx hb dX6_readsSamples_15 rfl (lv_at hl 0 rfl) ?_
          refine x_geti X Y cl_6 rfl (by decide) 10 (by decide) rfl wf_X6_166 dX6_readsSamples_16 ?_
          refine lv_istore_n (lv' := [(2, _), (0, _), (1, _)]) hx hb dX6_readsSamples_19 rfl hl (by decide) rfl (fun ls hl => ?_)
          refine lv_aload_n hx hb dX6_readsSamples_20 rfl (lv_at hl 1 rfl) ?_
          refine lv_iconst (v := 1) hx hb dX6_readsSamples_21 (by decide) ?_
          refine x_put X Y cl_6 rfl (by decide) 10 (by decide) rfl wf_X6_166 rfl rfl rfl dX6_readsSamples_22 (fun H locs Y => ?_)
          refine lv_aload_n hx hb dX6_readsSamples_25 rfl (lv_at hl 1 rfl) ?_
          refine lv_bipush (v := 42) hx hb dX6_readsSamples_26 (by decide) ?_
          obtain ⟨q18, hq, hf⟩ := bnd_t hf
          refine x_ci Y (x_rV (rest := []) X Y k_X6_169 (c_X6_takes X.hg hq) cl_6.1 rfl (by decide) rfl ⟨rfl, rfl⟩ ⟨by decide, by decide⟩ hl.1 rfl (Nat.le_of_ble_eq_true rfl) dX6_readsSamples_28 ⟨Nat.zero_le _, Nat.zero_le _⟩) (fun H locs Y => ?_)
          refine lv_if_eq (tgt := 43) hx hb dX6_readsSamples_31 (by decide) (fun c => ?_) (fun c => ?_)
          · have hf := ite_t c hf
            refine lv_aload_n hx hb dX6_readsSamples_43 rfl (lv_at hl 1 rfl) ?_
            refine x_geti X Y cl_6 rfl (by decide) 11 (by decide) rfl wf_X6_181 dX6_readsSamples_44 ?_
            refine lv_if_eq (tgt := 70) hx hb dX6_readsSamples_47 (by decide) (fun c => ?_) (fun c => ?_)
            · have hf := ite_t c hf
              refine lv_aload_n hx hb dX6_readsSamples_70 rfl (lv_at hl 1 rfl) ?_
              refine lv_bipush (v := 44) hx hb dX6_readsSamples_71 (by decide) ?_
              obtain ⟨q19, hq, hf⟩ := bnd_t hf
              refine x_ci Y (x_rV (rest := []) X Y k_X6_169 (c_X6_takes X.hg hq) cl_6.1 rfl (by decide) rfl ⟨rfl, rfl⟩ ⟨by decide, by decide⟩ hl.1 rfl (Nat.le_of_ble_eq_true rfl) dX6_readsSamples_73 ⟨Nat.zero_le _, Nat.zero_le _⟩) (fun H locs Y => ?_)
              refine lv_istore_n (lv' := [(1, _), (2, _), (0, _)]) hx hb dX6_readsSamples_76 rfl hl (by decide) rfl (fun ls hl => ?_)
              refine lv_goto (tgt := 2) hx hb dX6_readsSamples_77 (by decide) ?_
              exact ih _ _ _ _ _ hf Y (lv_sub hl [2, 0] rfl)
            · have hf := ite_f c hf
              refine lv_aload_n hx hb dX6_readsSamples_50 rfl (lv_at hl 1 rfl) ?_
              refine x_geti X Y cl_6 rfl (by decide) 12 (by decide) rfl wf_X6_175 dX6_readsSamples_51 ?_
              refine lv_if_ne (tgt := 70) hx hb dX6_readsSamples_54 (by decide) (fun c => ?_) (fun c => ?_)
              · have hf := ite_f c hf
                refine lv_aload_n hx hb dX6_readsSamples_70 rfl (lv_at hl 1 rfl) ?_
                refine lv_bipush (v := 44) hx hb dX6_readsSamples_71 (by decide) ?_
                obtain ⟨q23, hq, hf⟩ := bnd_t hf
                refine x_ci Y (x_rV (rest := []) X Y k_X6_169 (c_X6_takes X.hg hq) cl_6.1 rfl (by decide) rfl ⟨rfl, rfl⟩ ⟨by decide, by decide⟩ hl.1 rfl (Nat.le_of_ble_eq_true rfl) dX6_readsSamples_73 ⟨Nat.zero_le _, Nat.zero_le _⟩) (fun H locs Y => ?_)
                refine lv_istore_n (lv' := [(1, _), (2, _), (0, _)]) hx hb dX6_readsSamples_76 rfl hl (by decide) rfl (fun ls hl => ?_)
                refine lv_goto (tgt := 2) hx hb dX6_readsSamples_77 (by decide) ?_
                exact ih _ _ _ _ _ hf Y (lv_sub hl [2, 0] rfl)
              · have hf := ite_t c hf
                refine lv_aload_n hx hb dX6_readsSamples_57 rfl (lv_at hl 1 rfl) ?_
                refine lv_aload_n hx hb dX6_readsSamples_58 rfl (lv_at hl 1 rfl) ?_
                refine lv_iload_n hx hb dX6_readsSamples_59 rfl (lv_at hl 0 rfl) ?_
                refine lv_aload_n hx hb dX6_readsSamples_60 rfl (lv_at hl 1 rfl) ?_
                refine x_geti X Y cl_6 rfl (by decide) 10 (by decide) rfl wf_X6_166 dX6_readsSamples_61 ?_
                obtain ⟨q20, hq, hf⟩ := bnd_t hf
                refine x_ci Y (x_rV (rest := [_]) X Y k_X6_105 (c_X6_doFeed X.hg hq) cl_6.1 rfl (by decide) rfl ⟨rfl, rfl⟩ ⟨by decide, by decide⟩ hl.1 rfl (Nat.le_of_ble_eq_true rfl) dX6_readsSamples_64 ⟨Nat.zero_le _, Nat.zero_le _⟩) (fun H locs Y => ?_)
                obtain ⟨q21, hq, hf⟩ := bnd_t hf
                refine x_cv Y (x_rV (rest := []) X Y k_X6_185 (c_X6_does X.hg hq) cl_6.1 rfl (by decide) rfl ⟨rfl, rfl⟩ ⟨by decide, by decide⟩ hl.1 rfl (Nat.le_of_ble_eq_true rfl) dX6_readsSamples_67 ⟨Nat.zero_le _, Nat.zero_le _⟩) (fun H locs Y => ?_)
                refine lv_aload_n hx hb dX6_readsSamples_70 rfl (lv_at hl 1 rfl) ?_
                refine lv_bipush (v := 44) hx hb dX6_readsSamples_71 (by decide) ?_
                obtain ⟨q22, hq, hf⟩ := bnd_t hf
                refine x_ci Y (x_rV (rest := []) X Y k_X6_169 (c_X6_takes X.hg hq) cl_6.1 rfl (by decide) rfl ⟨rfl, rfl⟩ ⟨by decide, by decide⟩ hl.1 rfl (Nat.le_of_ble_eq_true rfl) dX6_readsSamples_73 ⟨Nat.zero_le _, Nat.zero_le _⟩) (fun H locs Y => ?_)
                refine lv_istore_n (lv' := [(1, _), (2, _), (0, _)]) hx hb dX6_readsSamples_76 rfl hl (by decide) rfl (fun ls hl => ?_)
                refine lv_goto (tgt := 2) hx hb dX6_readsSamples_77 (by decide) ?_
                exact ih _ _ _ _ _ hf Y (lv_sub hl [2, 0] rfl)
          · have hf := ite_f c hf
            refine lv_aload_n hx hb dX6_readsSamples_34 rfl (lv_at hl 1 rfl) ?_
            obtain ⟨q24, hq, hf⟩ := bnd_t hf
            refine x_ci Y (x_rV (rest := []) X Y k_X6_172 (c_X6_readsNumber X.hg hq) cl_6.1 rfl (by decide) rfl ⟨rfl, rfl⟩ ⟨by decide, by decide⟩ hl.1 rfl (Nat.le_of_ble_eq_true rfl) dX6_readsSamples_35 ⟨Nat.zero_le _, Nat.zero_le _⟩) (fun H locs Y => ?_)
            refine lv_if_ne (tgt := 43) hx hb dX6_readsSamples_38 (by decide) (fun c => ?_) (fun c => ?_)
            · have hf := ite_f c hf
              refine lv_aload_n hx hb dX6_readsSamples_43 rfl (lv_at hl 1 rfl) ?_
              refine x_geti X Y cl_6 rfl (by decide) 11 (by decide) rfl wf_X6_181 dX6_readsSamples_44 ?_
              refine lv_if_eq (tgt := 70) hx hb dX6_readsSamples_47 (by decide) (fun c => ?_) (fun c => ?_)
              · have hf := ite_t c hf
                refine lv_aload_n hx hb dX6_readsSamples_70 rfl (lv_at hl 1 rfl) ?_
                refine lv_bipush (v := 44) hx hb dX6_readsSamples_71 (by decide) ?_
                obtain ⟨q25, hq, hf⟩ := bnd_t hf
                refine x_ci Y (x_rV (rest := []) X Y k_X6_169 (c_X6_takes X.hg hq) cl_6.1 rfl (by decide) rfl ⟨rfl, rfl⟩ ⟨by decide, by decide⟩ hl.1 rfl (Nat.le_of_ble_eq_true rfl) dX6_readsSamples_73 ⟨Nat.zero_le _, Nat.zero_le _⟩) (fun H locs Y => ?_)
                refine lv_istore_n (lv' := [(1, _), (2, _), (0, _)]) hx hb dX6_readsSamples_76 rfl hl (by decide) rfl (fun ls hl => ?_)
                refine lv_goto (tgt := 2) hx hb dX6_readsSamples_77 (by decide) ?_
                exact ih _ _ _ _ _ hf Y (lv_sub hl [2, 0] rfl)
              · have hf := ite_f c hf
                refine lv_aload_n hx hb dX6_readsSamples_50 rfl (lv_at hl 1 rfl) ?_
                refine x_geti X Y cl_6 rfl (by decide) 12 (by decide) rfl wf_X6_175 dX6_readsSamples_51 ?_
                refine lv_if_ne (tgt := 70) hx hb dX6_readsSamples_54 (by decide) (fun c => ?_) (fun c => ?_)
                · have hf := ite_f c hf
                  refine lv_aload_n hx hb dX6_readsSamples_70 rfl (lv_at hl 1 rfl) ?_
                  refine lv_bipush (v := 44) hx hb dX6_readsSamples_71 (by decide) ?_
                  obtain ⟨q29, hq, hf⟩ := bnd_t hf
                  refine x_ci Y (x_rV (rest := []) X Y k_X6_169 (c_X6_takes X.hg hq) cl_6.1 rfl (by decide) rfl ⟨rfl, rfl⟩ ⟨by decide, by decide⟩ hl.1 rfl (Nat.le_of_ble_eq_true rfl) dX6_readsSamples_73 ⟨Nat.zero_le _, Nat.zero_le _⟩) (fun H locs Y => ?_)
                  refine lv_istore_n (lv' := [(1, _), (2, _), (0, _)]) hx hb dX6_readsSamples_76 rfl hl (by decide) rfl (fun ls hl => ?_)
                  refine lv_goto (tgt := 2) hx hb dX6_readsSamples_77 (by decide) ?_
                  exact ih _ _ _ _ _ hf Y (lv_sub hl [2, 0] rfl)
                · have hf := ite_t c hf
                  refine lv_aload_n hx hb dX6_readsSamples_57 rfl (lv_at hl 1 rfl) ?_
                  refine lv_aload_n hx hb dX6_readsSamples_58 rfl (lv_at hl 1 rfl) ?_
                  refine lv_iload_n hx hb dX6_readsSamples_59 rfl (lv_at hl 0 rfl) ?_
                  refine lv_aload_n hx hb dX6_readsSamples_60 rfl (lv_at hl 1 rfl) ?_
                  refine x_geti X Y cl_6 rfl (by decide) 10 (by decide) rfl wf_X6_166 dX6_readsSamples_61 ?_
                  obtain ⟨q26, hq, hf⟩ := bnd_t hf
                  refine x_ci Y (x_rV (rest := [_]) X Y k_X6_105 (c_X6_doFeed X.hg hq) cl_6.1 rfl (by decide) rfl ⟨rfl, rfl⟩ ⟨by decide, by decide⟩ hl.1 rfl (Nat.le_of_ble_eq_true rfl) dX6_readsSamples_64 ⟨Nat.zero_le _, Nat.zero_le _⟩) (fun H locs Y => ?_)
                  obtain ⟨q27, hq, hf⟩ := bnd_t hf
                  refine x_cv Y (x_rV (rest := []) X Y k_X6_185 (c_X6_does X.hg hq) cl_6.1 rfl (by decide) rfl ⟨rfl, rfl⟩ ⟨by decide, by decide⟩ hl.1 rfl (Nat.le_of_ble_eq_true rfl) dX6_readsSamples_67 ⟨Nat.zero_le _, Nat.zero_le _⟩) (fun H locs Y => ?_)
                  refine lv_aload_n hx hb dX6_readsSamples_70 rfl (lv_at hl 1 rfl) ?_
                  refine lv_bipush (v := 44) hx hb dX6_readsSamples_71 (by decide) ?_
                  obtain ⟨q28, hq, hf⟩ := bnd_t hf
                  refine x_ci Y (x_rV (rest := []) X Y k_X6_169 (c_X6_takes X.hg hq) cl_6.1 rfl (by decide) rfl ⟨rfl, rfl⟩ ⟨by decide, by decide⟩ hl.1 rfl (Nat.le_of_ble_eq_true rfl) dX6_readsSamples_73 ⟨Nat.zero_le _, Nat.zero_le _⟩) (fun H locs Y => ?_)
                  refine lv_istore_n (lv' := [(1, _), (2, _), (0, _)]) hx hb dX6_readsSamples_76 rfl hl (by decide) rfl (fun ls hl => ?_)
                  refine lv_goto (tgt := 2) hx hb dX6_readsSamples_77 (by decide) ?_
                  exact ih _ _ _ _ _ hf Y (lv_sub hl [2, 0] rfl)
            · have hf := ite_t c hf
              refine lv_iconst (v := 0) hx hb dX6_readsSamples_41 (by decide) ?_
              exact x_zret X Y hr hlk rfl hf dX6_readsSamples_42
        · have hf := ite_t c hf
          refine lv_iconst (v := 0) hx hb dX6_readsSamples_13 (by decide) ?_
          exact x_zret X Y hr hlk rfl hf dX6_readsSamples_14
  unfold f_X6_readsSamples at hf
  refine lv_iconst (v := 1) hx hb dX6_readsSamples_0 (by decide) ?_
  refine lv_istore_n (lv' := [(1, _), (0, _)]) hx hb dX6_readsSamples_1 rfl hl (by decide) rfl (fun ls hl => ?_)
  exact hL2 _ _ _ _ _ _ hf Y (lv_sub hl [1, 0] rfl)
def f_X6_readsOrder_J76 (I : HI) : Option (Int32 × HI) :=
  let I14 := upI I 57 9 ((I 57 9) + (1 : Int32))
  some ((1 : Int32), I14)
def f_X6_readsOrder (I : HI) : Option (Int32 × HI) :=
  (f_X6_takes (99 : Int32) I).bind fun q15 =>
  if q15.1 = (0 : Int32) then
    (f_X6_takes (107 : Int32) q15.2).bind fun q16 =>
    if q16.1 = (0 : Int32) then
      (f_X6_takes (108 : Int32) q16.2).bind fun q17 =>
      if q17.1 = (0 : Int32) then
        (f_X6_readsSamples q17.2).bind fun q18 =>
        if q18.1 = 0 ∨ q18.1 = 1 then some (q18.1, q18.2) else none
      else
        (f_X6_readsValue q17.2).bind fun q19 =>
        if q19.1 = (0 : Int32) then
          some ((0 : Int32), q19.2)
        else
          if (q19.2 57 11) = (0 : Int32) then
            some ((1 : Int32), q19.2)
          else
            (f_X6_doSet (1 : Int32) (q19.2 57 10) q19.2).bind fun q20 =>
            (f_X6_does q20.1 q20.2).bind fun q21 =>
            some ((1 : Int32), q21.2)
    else
      (f_X6_isHere (48 : Int32) (50 : Int32) q16.2).bind fun q22 =>
      if q22.1 = (0 : Int32) then
        some ((0 : Int32), q22.2)
      else
        if (q22.2 57 11) = (0 : Int32) then
          f_X6_readsOrder_J76 q22.2
        else
          if (q22.2 57 9) < 0 ∨ 80 ≤ (q22.2 57 9).toNatClampNeg then none else
          (f_X6_doSet (0 : Int32) ((q22.2 63 (q22.2 57 9).toNatClampNeg) - (48 : Int32)) q22.2).bind fun q23 =>
          (f_X6_does q23.1 q23.2).bind fun q24 =>
          f_X6_readsOrder_J76 q24.2
  else
    if (q15.2 57 11) = (0 : Int32) then
      some ((1 : Int32), q15.2)
    else
      (f_X6_doClear q15.2).bind fun q25 =>
      (f_X6_does q25.1 q25.2).bind fun q26 =>
      some ((1 : Int32), q26.2)
abbrev rm_X6_readsOrder : Room := { frames := 6, cells := 0, slots := 0, locals := 132 }
set_option maxHeartbeats 4000000 in
set_option maxRecDepth 100000 in
theorem c_X6_readsOrder {l : Launch} {g : GX} (hg : gOk g) {I : HI} {r : Int32 × HI} (hf : f_X6_readsOrder I = some r) : Met l yX6_readsOrder (Cond.code yX6_readsOrder cX6_readsOrder 1 (some .boolean) :: WL) rm_X6_readsOrder (xP g [.ref (gR g 57)] I) (xQi g r.1 r.2) 0 0 (gA g) := by
  refine x_met (by decide) hg (Nat.le_of_ble_eq_true rfl) (fun p e s m args below meth c X hr hlk Y ls hl => ?_)
  have hx := X.hx
  have hb := X.hb
  have hl : lv_has ls 1 [(0, .ref (gR g 57))] := hl
  have hJ76 : ∀ (I : HI) (H : Heap) (locs : List Loc) (ls : Array Slot), f_X6_readsOrder_J76 I = some r → XD g I s H locs → lv_has ls 1 [(0, .ref (gR g 57))] → W p l e rm_X6_readsOrder s m args below meth c H locs 0 0 (MQ below (xQi g r.1 r.2) args s 0 0 (gA g)) (F0 m 76 ls []) := by
    intro I H locs ls hf Y hl
    unfold f_X6_readsOrder_J76 at hf
    refine lv_aload_n hx hb dX6_readsOrder_76 rfl (lv_at hl 0 rfl) ?_
    refine lv_dup hx hb dX6_readsOrder_77 rfl ?_
    refine x_geti X Y cl_6 rfl (by decide) 9 (by decide) rfl wf_X6_160 dX6_readsOrder_78 ?_
    refine lv_iconst (v := 1) hx hb dX6_readsOrder_81 (by decide) ?_
    refine lv_iadd hx hb dX6_readsOrder_82 ?_
    refine x_put X Y cl_6 rfl (by decide) 9 (by decide) rfl wf_X6_160 rfl rfl rfl dX6_readsOrder_83 (fun H locs Y => ?_)
    refine lv_iconst (v := 1) hx hb dX6_readsOrder_86 (by decide) ?_
    exact x_zret X Y hr hlk rfl hf dX6_readsOrder_87
  unfold f_X6_readsOrder at hf
  refine lv_aload_n hx hb dX6_readsOrder_0 rfl (lv_at hl 0 rfl) ?_
  refine lv_bipush (v := 99) hx hb dX6_readsOrder_1 (by decide) ?_
  obtain ⟨q15, hq, hf⟩ := bnd_t hf
  refine x_ci Y (x_rV (rest := []) X Y k_X6_169 (c_X6_takes X.hg hq) cl_6.1 rfl (by decide) rfl ⟨rfl, rfl⟩ ⟨by decide, by decide⟩ hl.1 rfl (Nat.le_of_ble_eq_true rfl) dX6_readsOrder_3 ⟨Nat.zero_le _, Nat.zero_le _⟩) (fun H locs Y => ?_)
  refine lv_if_eq (tgt := 26) hx hb dX6_readsOrder_6 (by decide) (fun c => ?_) (fun c => ?_)
  · have hf := ite_t c hf
    refine lv_aload_n hx hb dX6_readsOrder_26 rfl (lv_at hl 0 rfl) ?_
    refine lv_bipush (v := 107) hx hb dX6_readsOrder_27 (by decide) ?_
    obtain ⟨q16, hq, hf⟩ := bnd_t hf
    refine x_ci Y (x_rV (rest := []) X Y k_X6_169 (c_X6_takes X.hg hq) cl_6.1 rfl (by decide) rfl ⟨rfl, rfl⟩ ⟨by decide, by decide⟩ hl.1 rfl (Nat.le_of_ble_eq_true rfl) dX6_readsOrder_29 ⟨Nat.zero_le _, Nat.zero_le _⟩) (fun H locs Y => ?_)
    refine lv_if_eq (tgt := 88) hx hb dX6_readsOrder_32 (by decide) (fun c => ?_) (fun c => ?_)
    · have hf := ite_t c hf
      refine lv_aload_n hx hb dX6_readsOrder_88 rfl (lv_at hl 0 rfl) ?_
      refine lv_bipush (v := 108) hx hb dX6_readsOrder_89 (by decide) ?_
      obtain ⟨q17, hq, hf⟩ := bnd_t hf
      refine x_ci Y (x_rV (rest := []) X Y k_X6_169 (c_X6_takes X.hg hq) cl_6.1 rfl (by decide) rfl ⟨rfl, rfl⟩ ⟨by decide, by decide⟩ hl.1 rfl (Nat.le_of_ble_eq_true rfl) dX6_readsOrder_91 ⟨Nat.zero_le _, Nat.zero_le _⟩) (fun H locs Y => ?_)
      refine lv_if_eq (tgt := 128) hx hb dX6_readsOrder_94 (by decide) (fun c => ?_) (fun c => ?_)
      · have hf := ite_t c hf
        refine lv_aload_n hx hb dX6_readsOrder_128 rfl (lv_at hl 0 rfl) ?_
        obtain ⟨q18, hq, hf⟩ := bnd_t hf
        refine x_ci Y (x_rV (rest := []) X Y k_X6_188 (c_X6_readsSamples X.hg hq) cl_6.1 rfl (by decide) rfl ⟨rfl, rfl⟩ ⟨by decide, by decide⟩ hl.1 rfl (Nat.le_of_ble_eq_true rfl) dX6_readsOrder_129 ⟨Nat.zero_le _, Nat.zero_le _⟩) (fun H locs Y => ?_)
        obtain ⟨hz, hf⟩ := bool_t hf
        exact x_zret X Y hr hlk hz hf dX6_readsOrder_132
      · have hf := ite_f c hf
        refine lv_aload_n hx hb dX6_readsOrder_97 rfl (lv_at hl 0 rfl) ?_
        obtain ⟨q19, hq, hf⟩ := bnd_t hf
        refine x_ci Y (x_rV (rest := []) X Y k_X6_178 (c_X6_readsValue X.hg hq) cl_6.1 rfl (by decide) rfl ⟨rfl, rfl⟩ ⟨by decide, by decide⟩ hl.1 rfl (Nat.le_of_ble_eq_true rfl) dX6_readsOrder_98 ⟨Nat.zero_le _, Nat.zero_le _⟩) (fun H locs Y => ?_)
        refine lv_if_ne (tgt := 106) hx hb dX6_readsOrder_101 (by decide) (fun c => ?_) (fun c => ?_)
        · have hf := ite_f c hf
          refine lv_aload_n hx hb dX6_readsOrder_106 rfl (lv_at hl 0 rfl) ?_
          refine x_geti X Y cl_6 rfl (by decide) 11 (by decide) rfl wf_X6_181 dX6_readsOrder_107 ?_
          refine lv_if_eq (tgt := 126) hx hb dX6_readsOrder_110 (by decide) (fun c => ?_) (fun c => ?_)
          · have hf := ite_t c hf
            refine lv_iconst (v := 1) hx hb dX6_readsOrder_126 (by decide) ?_
            exact x_zret X Y hr hlk rfl hf dX6_readsOrder_127
          · have hf := ite_f c hf
            refine lv_aload_n hx hb dX6_readsOrder_113 rfl (lv_at hl 0 rfl) ?_
            refine lv_aload_n hx hb dX6_readsOrder_114 rfl (lv_at hl 0 rfl) ?_
            refine lv_iconst (v := 1) hx hb dX6_readsOrder_115 (by decide) ?_
            refine lv_aload_n hx hb dX6_readsOrder_116 rfl (lv_at hl 0 rfl) ?_
            refine x_geti X Y cl_6 rfl (by decide) 10 (by decide) rfl wf_X6_166 dX6_readsOrder_117 ?_
            obtain ⟨q20, hq, hf⟩ := bnd_t hf
            refine x_ci Y (x_rV (rest := [_]) X Y k_X6_97 (c_X6_doSet X.hg hq) cl_6.1 rfl (by decide) rfl ⟨rfl, rfl⟩ ⟨by decide, by decide⟩ hl.1 rfl (Nat.le_of_ble_eq_true rfl) dX6_readsOrder_120 ⟨Nat.zero_le _, Nat.zero_le _⟩) (fun H locs Y => ?_)
            obtain ⟨q21, hq, hf⟩ := bnd_t hf
            refine x_cv Y (x_rV (rest := []) X Y k_X6_185 (c_X6_does X.hg hq) cl_6.1 rfl (by decide) rfl ⟨rfl, rfl⟩ ⟨by decide, by decide⟩ hl.1 rfl (Nat.le_of_ble_eq_true rfl) dX6_readsOrder_123 ⟨Nat.zero_le _, Nat.zero_le _⟩) (fun H locs Y => ?_)
            refine lv_iconst (v := 1) hx hb dX6_readsOrder_126 (by decide) ?_
            exact x_zret X Y hr hlk rfl hf dX6_readsOrder_127
        · have hf := ite_t c hf
          refine lv_iconst (v := 0) hx hb dX6_readsOrder_104 (by decide) ?_
          exact x_zret X Y hr hlk rfl hf dX6_readsOrder_105
    · have hf := ite_f c hf
      refine lv_aload_n hx hb dX6_readsOrder_35 rfl (lv_at hl 0 rfl) ?_
      refine lv_bipush (v := 48) hx hb dX6_readsOrder_36 (by decide) ?_
      refine lv_bipush (v := 50) hx hb dX6_readsOrder_38 (by decide) ?_
      obtain ⟨q22, hq, hf⟩ := bnd_t hf
      refine x_ci Y (x_rV (rest := []) X Y k_X6_163 (c_X6_isHere X.hg hq) cl_6.1 rfl (by decide) rfl ⟨rfl, rfl⟩ ⟨by decide, by decide⟩ hl.1 rfl (Nat.le_of_ble_eq_true rfl) dX6_readsOrder_40 ⟨Nat.zero_le _, Nat.zero_le _⟩) (fun H locs Y => ?_)
      refine lv_if_ne (tgt := 48) hx hb dX6_readsOrder_43 (by decide) (fun c => ?_) (fun c => ?_)
      · have hf := ite_f c hf
        refine lv_aload_n hx hb dX6_readsOrder_48 rfl (lv_at hl 0 rfl) ?_
        refine x_geti X Y cl_6 rfl (by decide) 11 (by decide) rfl wf_X6_181 dX6_readsOrder_49 ?_
        refine lv_if_eq (tgt := 76) hx hb dX6_readsOrder_52 (by decide) (fun c => ?_) (fun c => ?_)
        · have hf := ite_t c hf
          exact hJ76  _ _ _ _ hf Y (lv_sub hl [0] rfl)
        · have hf := ite_f c hf
          refine lv_aload_n hx hb dX6_readsOrder_55 rfl (lv_at hl 0 rfl) ?_
          refine lv_aload_n hx hb dX6_readsOrder_56 rfl (lv_at hl 0 rfl) ?_
          refine lv_iconst (v := 0) hx hb dX6_readsOrder_57 (by decide) ?_
          refine lv_aload_n hx hb dX6_readsOrder_58 rfl (lv_at hl 0 rfl) ?_
          refine x_get (v := .ref (gR g 63)) X Y cl_6 rfl (by decide) 7 (by decide) wf_X6_25 rfl dX6_readsOrder_59 ?_
          refine lv_aload_n hx hb dX6_readsOrder_62 rfl (lv_at hl 0 rfl) ?_
          refine x_geti X Y cl_6 rfl (by decide) 9 (by decide) rfl wf_X6_160 dX6_readsOrder_63 ?_
          obtain ⟨hin, hf⟩ := oob_t hf
          refine x_iald X Y rfl hin dX6_readsOrder_66 ?_
          refine lv_bipush (v := 48) hx hb dX6_readsOrder_67 (by decide) ?_
          refine lv_isub hx hb dX6_readsOrder_69 ?_
          obtain ⟨q23, hq, hf⟩ := bnd_t hf
          refine x_ci Y (x_rV (rest := [_]) X Y k_X6_97 (c_X6_doSet X.hg hq) cl_6.1 rfl (by decide) rfl ⟨rfl, rfl⟩ ⟨by decide, by decide⟩ hl.1 rfl (Nat.le_of_ble_eq_true rfl) dX6_readsOrder_70 ⟨Nat.zero_le _, Nat.zero_le _⟩) (fun H locs Y => ?_)
          obtain ⟨q24, hq, hf⟩ := bnd_t hf
          refine x_cv Y (x_rV (rest := []) X Y k_X6_185 (c_X6_does X.hg hq) cl_6.1 rfl (by decide) rfl ⟨rfl, rfl⟩ ⟨by decide, by decide⟩ hl.1 rfl (Nat.le_of_ble_eq_true rfl) dX6_readsOrder_73 ⟨Nat.zero_le _, Nat.zero_le _⟩) (fun H locs Y => ?_)
          exact hJ76  _ _ _ _ hf Y (lv_sub hl [0] rfl)
      · have hf := ite_t c hf
        refine lv_iconst (v := 0) hx hb dX6_readsOrder_46 (by decide) ?_
        exact x_zret X Y hr hlk rfl hf dX6_readsOrder_47
  · have hf := ite_f c hf
    refine lv_aload_n hx hb dX6_readsOrder_9 rfl (lv_at hl 0 rfl) ?_
    refine x_geti X Y cl_6 rfl (by decide) 11 (by decide) rfl wf_X6_181 dX6_readsOrder_10 ?_
    refine lv_if_eq (tgt := 24) hx hb dX6_readsOrder_13 (by decide) (fun c => ?_) (fun c => ?_)
    · have hf := ite_t c hf
      refine lv_iconst (v := 1) hx hb dX6_readsOrder_24 (by decide) ?_
      exact x_zret X Y hr hlk rfl hf dX6_readsOrder_25
    · have hf := ite_f c hf
      refine lv_aload_n hx hb dX6_readsOrder_16 rfl (lv_at hl 0 rfl) ?_
      refine lv_aload_n hx hb dX6_readsOrder_17 rfl (lv_at hl 0 rfl) ?_
      obtain ⟨q25, hq, hf⟩ := bnd_t hf
      refine x_ci Y (x_rV (rest := [_]) X Y k_X6_108 (c_X6_doClear X.hg hq) cl_6.1 rfl (by decide) rfl ⟨rfl, rfl⟩ ⟨by decide, by decide⟩ hl.1 rfl (Nat.le_of_ble_eq_true rfl) dX6_readsOrder_18 ⟨Nat.zero_le _, Nat.zero_le _⟩) (fun H locs Y => ?_)
      obtain ⟨q26, hq, hf⟩ := bnd_t hf
      refine x_cv Y (x_rV (rest := []) X Y k_X6_185 (c_X6_does X.hg hq) cl_6.1 rfl (by decide) rfl ⟨rfl, rfl⟩ ⟨by decide, by decide⟩ hl.1 rfl (Nat.le_of_ble_eq_true rfl) dX6_readsOrder_21 ⟨Nat.zero_le _, Nat.zero_le _⟩) (fun H locs Y => ?_)
      refine lv_iconst (v := 1) hx hb dX6_readsOrder_24 (by decide) ?_
      exact x_zret X Y hr hlk rfl hf dX6_readsOrder_25
def f_X6_fault_L12_b (k : Int32 → HI → Option (Int32 × HI)) (v1 : Int32) (I : HI) : Option (Int32 × HI) :=
  if v1 = (0 : Int32) then
    if (I 57 9) = (I 57 8) then
      some ((-6 : Int32), I)
    else
      some (I 57 9, I)
  else
    (f_X6_readsOrder I).bind fun q5 =>
    if q5.1 = (0 : Int32) then
      some (q5.2 57 9, q5.2)
    else
      (f_X6_takes (59 : Int32) q5.2).bind fun q6 =>
      k q6.1 q6.2
def f_X6_fault_L12 : Nat → Int32 → HI → Option (Int32 × HI)
  | 0, _, _ => none
  | n + 1, v1, I => f_X6_fault_L12_b (f_X6_fault_L12 n) v1 I
def f_X6_fault (I : HI) : Option (Int32 × HI) :=
  let I7 := upI I 57 9 (0 : Int32)
  let I8 := upI I7 57 11 (0 : Int32)
  f_X6_fault_L12 4000 (1 : Int32) I8
abbrev rm_X6_fault : Room := { frames := 7, cells := 0, slots := 0, locals := 152 }
set_option maxHeartbeats 4000000 in
set_option maxRecDepth 100000 in
theorem c_X6_fault {l : Launch} {g : GX} (hg : gOk g) {I : HI} {r : Int32 × HI} (hf : f_X6_fault I = some r) : Met l yX6_fault (Cond.code yX6_fault cX6_fault 2 (some .int) :: WL) rm_X6_fault (xP g [.ref (gR g 57)] I) (xQi g r.1 r.2) 0 0 (gA g) := by
  refine x_met (by decide) hg (Nat.le_of_ble_eq_true rfl) (fun p e s m args below meth c X hr hlk Y ls hl => ?_)
  have hx := X.hx
  have hb := X.hb
  have hl : lv_has ls 2 [(0, .ref (gR g 57))] := hl
  have hL12 : ∀ (n : Nat) (v1 : Int32) (I : HI) (H : Heap) (locs : List Loc) (ls : Array Slot), f_X6_fault_L12 n v1 I = some r → XD g I s H locs → lv_has ls 2 [(0, .ref (gR g 57)), (1, .int v1)] → W p l e rm_X6_fault s m args below meth c H locs 0 0 (MQ below (xQi g r.1 r.2) args s 0 0 (gA g)) (F0 m 12 ls []) := by
    intro n
    induction n with
    | zero => intro v1 I H locs ls hf Y hl; exact nn_t hf
    | succ n ih =>
      intro v1 I H locs ls hf Y hl
      have hf : f_X6_fault_L12_b (f_X6_fault_L12 n) v1 I = some r := hf
      unfold f_X6_fault_L12_b at hf
      refine lv_iload_n hx hb dX6_fault_12 rfl (lv_at hl 1 rfl) ?_
      refine lv_if_eq (tgt := 38) hx hb dX6_fault_13 (by decide) (fun c => ?_) (fun c => ?_)
      · have hf := ite_t c hf
        refine lv_aload_n hx hb dX6_fault_38 rfl (lv_at hl 0 rfl) ?_
        refine x_geti X Y cl_6 rfl (by decide) 9 (by decide) rfl wf_X6_160 dX6_fault_39 ?_
        refine lv_aload_n hx hb dX6_fault_42 rfl (lv_at hl 0 rfl) ?_
        refine x_geti X Y cl_6 rfl (by decide) 8 (by decide) rfl wf_X6_142 dX6_fault_43 ?_
        refine lv_icmp_ne (tgt := 54) hx hb dX6_fault_46 (by decide) (fun c => ?_) (fun c => ?_)
        · have hf := ite_f c hf
          refine lv_aload_n hx hb dX6_fault_54 rfl (lv_at hl 0 rfl) ?_
          refine x_geti X Y cl_6 rfl (by decide) 9 (by decide) rfl wf_X6_160 dX6_fault_55 ?_
          exact x_iret X Y hr hlk hf dX6_fault_58
        · have hf := ite_t c hf
          refine lv_bipush (v := -6) hx hb dX6_fault_49 (by decide) ?_
          refine lv_goto (tgt := 58) hx hb dX6_fault_51 (by decide) ?_
          exact x_iret X Y hr hlk hf dX6_fault_58
      · have hf := ite_f c hf
        refine lv_aload_n hx hb dX6_fault_16 rfl (lv_at hl 0 rfl) ?_
        obtain ⟨q5, hq, hf⟩ := bnd_t hf
        refine x_ci Y (x_rV (rest := []) X Y k_X6_191 (c_X6_readsOrder X.hg hq) cl_6.1 rfl (by decide) rfl ⟨rfl, rfl⟩ ⟨by decide, by decide⟩ hl.1 rfl (Nat.le_of_ble_eq_true rfl) dX6_fault_17 ⟨Nat.zero_le _, Nat.zero_le _⟩) (fun H locs Y => ?_)
        refine lv_if_ne (tgt := 28) hx hb dX6_fault_20 (by decide) (fun c => ?_) (fun c => ?_)
        · have hf := ite_f c hf
          refine lv_aload_n hx hb dX6_fault_28 rfl (lv_at hl 0 rfl) ?_
          refine lv_bipush (v := 59) hx hb dX6_fault_29 (by decide) ?_
          obtain ⟨q6, hq, hf⟩ := bnd_t hf
          refine x_ci Y (x_rV (rest := []) X Y k_X6_169 (c_X6_takes X.hg hq) cl_6.1 rfl (by decide) rfl ⟨rfl, rfl⟩ ⟨by decide, by decide⟩ hl.1 rfl (Nat.le_of_ble_eq_true rfl) dX6_fault_31 ⟨Nat.zero_le _, Nat.zero_le _⟩) (fun H locs Y => ?_)
          refine lv_istore_n (lv' := [(1, _), (0, _)]) hx hb dX6_fault_34 rfl hl (by decide) rfl (fun ls hl => ?_)
          refine lv_goto (tgt := 12) hx hb dX6_fault_35 (by decide) ?_
          exact ih _ _ _ _ _ hf Y (lv_sub hl [1, 0] rfl)
        · have hf := ite_t c hf
          refine lv_aload_n hx hb dX6_fault_23 rfl (lv_at hl 0 rfl) ?_
          refine x_geti X Y cl_6 rfl (by decide) 9 (by decide) rfl wf_X6_160 dX6_fault_24 ?_
          exact x_iret X Y hr hlk hf dX6_fault_27
  unfold f_X6_fault at hf
  refine lv_aload_n hx hb dX6_fault_0 rfl (lv_at hl 0 rfl) ?_
  refine lv_iconst (v := 0) hx hb dX6_fault_1 (by decide) ?_
  refine x_put X Y cl_6 rfl (by decide) 9 (by decide) rfl wf_X6_160 rfl rfl rfl dX6_fault_2 (fun H locs Y => ?_)
  refine lv_aload_n hx hb dX6_fault_5 rfl (lv_at hl 0 rfl) ?_
  refine lv_iconst (v := 0) hx hb dX6_fault_6 (by decide) ?_
  refine x_put X Y cl_6 rfl (by decide) 11 (by decide) rfl wf_X6_181 rfl rfl rfl dX6_fault_7 (fun H locs Y => ?_)
  refine lv_iconst (v := 1) hx hb dX6_fault_10 (by decide) ?_
  refine lv_istore_n (lv' := [(1, _), (0, _)]) hx hb dX6_fault_11 rfl hl (by decide) rfl (fun ls hl => ?_)
  exact hL12 _ _ _ _ _ _ hf Y (lv_sub hl [1, 0] rfl)
def f_X6_carryOut_L35_b (k : Int32 → Int32 → HI → Option (Int32 × HI)) (v1 : Int32) (v2 : Int32) (I : HI) : Option (Int32 × HI) :=
  if v2 = (0 : Int32) then
    let I11 := upI I 57 8 (0 : Int32)
    (f_X6_changed v1 I11).bind fun q12 =>
    some (q12.1, q12.2)
  else
    (f_X6_readsOrder I).bind fun q13 =>
    if (q13.2 57 12) = (0 : Int32) then
      let x14 := v1 + (1 : Int32)
      if (q13.2 57 12) = (0 : Int32) then
        (f_X6_takes (59 : Int32) q13.2).bind fun q15 =>
        if q15.1 = (0 : Int32) then
          k x14 (0 : Int32) q15.2
        else
          k x14 (1 : Int32) q15.2
      else
        k x14 (0 : Int32) q13.2
    else
      let x16 := v1 + (0 : Int32)
      if (q13.2 57 12) = (0 : Int32) then
        (f_X6_takes (59 : Int32) q13.2).bind fun q17 =>
        if q17.1 = (0 : Int32) then
          k x16 (0 : Int32) q17.2
        else
          k x16 (1 : Int32) q17.2
      else
        k x16 (0 : Int32) q13.2
def f_X6_carryOut_L35 : Nat → Int32 → Int32 → HI → Option (Int32 × HI)
  | 0, _, _, _ => none
  | n + 1, v1, v2, I => f_X6_carryOut_L35_b (f_X6_carryOut_L35 n) v1 v2 I
def f_X6_carryOut (I : HI) : Option (Int32 × HI) :=
  (f_X6_fault I).bind fun q18 =>
  if q18.1 = (-6 : Int32) then
    (f_X6_keep q18.2).bind fun q19 =>
    let I20 := upI q19.2 57 9 (0 : Int32)
    let I21 := upI I20 57 11 (1 : Int32)
    let I22 := upI I21 57 12 (0 : Int32)
    f_X6_carryOut_L35 4000 (0 : Int32) (1 : Int32) I22
  else
    some ((-3 : Int32), q18.2)
abbrev rm_X6_carryOut : Room := { frames := 8, cells := 0, slots := 0, locals := 173 }
set_option maxHeartbeats 4000000 in
set_option maxRecDepth 100000 in
theorem c_X6_carryOut {l : Launch} {g : GX} (hg : gOk g) {I : HI} {r : Int32 × HI} (hf : f_X6_carryOut I = some r) : Met l yX6_carryOut (Cond.code yX6_carryOut cX6_carryOut 4 (some .int) :: WL) rm_X6_carryOut (xP g [.ref (gR g 57)] I) (xQi g r.1 r.2) 0 0 (gA g) := by
  refine x_met (by decide) hg (Nat.le_of_ble_eq_true rfl) (fun p e s m args below meth c X hr hlk Y ls hl => ?_)
  have hx := X.hx
  have hb := X.hb
  have hl : lv_has ls 4 [(0, .ref (gR g 57))] := hl
  have hL35 : ∀ (n : Nat) (v1 : Int32) (v2 : Int32) (I : HI) (H : Heap) (locs : List Loc) (ls : Array Slot), f_X6_carryOut_L35 n v1 v2 I = some r → XD g I s H locs → lv_has ls 4 [(0, .ref (gR g 57)), (1, .int v1), (2, .int v2)] → W p l e rm_X6_carryOut s m args below meth c H locs 0 0 (MQ below (xQi g r.1 r.2) args s 0 0 (gA g)) (F0 m 35 ls []) := by
    intro n
    induction n with
    | zero => intro v1 v2 I H locs ls hf Y hl; exact nn_t hf
    | succ n ih =>
      intro v1 v2 I H locs ls hf Y hl
      have hf : f_X6_carryOut_L35_b (f_X6_carryOut_L35 n) v1 v2 I = some r := hf
      unfold f_X6_carryOut_L35_b at hf
      refine lv_iload_n hx hb dX6_carryOut_35 rfl (lv_at hl 2 rfl) ?_
      refine lv_if_eq (tgt := 84) hx hb dX6_carryOut_36 (by decide) (fun c => ?_) (fun c => ?_)
      · have hf := ite_t c hf
        refine lv_aload_n hx hb dX6_carryOut_84 rfl (lv_at hl 0 rfl) ?_
        refine lv_iconst (v := 0) hx hb dX6_carryOut_85 (by decide) ?_
        refine x_put X Y cl_6 rfl (by decide) 8 (by decide) rfl wf_X6_142 rfl rfl rfl dX6_carryOut_86 (fun H locs Y => ?_)
        refine lv_aload_n hx hb dX6_carryOut_89 rfl (lv_at hl 0 rfl) ?_
        refine lv_iload_n hx hb dX6_carryOut_90 rfl (lv_at hl 1 rfl) ?_
        obtain ⟨q12, hq, hf⟩ := bnd_t hf
        refine x_ci Y (x_rV (rest := []) X Y k_X6_101 (c_X6_changed X.hg hq) cl_6.1 rfl (by decide) rfl ⟨rfl, rfl⟩ ⟨by decide, by decide⟩ hl.1 rfl (Nat.le_of_ble_eq_true rfl) dX6_carryOut_91 ⟨Nat.zero_le _, Nat.zero_le _⟩) (fun H locs Y => ?_)
        exact x_iret X Y hr hlk hf dX6_carryOut_94
      · have hf := ite_f c hf
        refine lv_aload_n hx hb dX6_carryOut_39 rfl (lv_at hl 0 rfl) ?_
        obtain ⟨q13, hq, hf⟩ := bnd_t hf
        refine x_ci Y (x_rV (rest := []) X Y k_X6_191 (c_X6_readsOrder X.hg hq) cl_6.1 rfl (by decide) rfl ⟨rfl, rfl⟩ ⟨by decide, by decide⟩ hl.1 rfl (Nat.le_of_ble_eq_true rfl) dX6_carryOut_40 ⟨Nat.zero_le _, Nat.zero_le _⟩) (fun H locs Y => ?_)
        refine lv_istore_n (lv' := [(3, _), (0, _), (1, _), (2, _)]) hx hb dX6_carryOut_43 rfl hl (by decide) rfl (fun ls hl => ?_)
        refine lv_iload_n hx hb dX6_carryOut_44 rfl (lv_at hl 2 rfl) ?_
        refine lv_aload_n hx hb dX6_carryOut_45 rfl (lv_at hl 1 rfl) ?_
        refine x_geti X Y cl_6 rfl (by decide) 12 (by decide) rfl wf_X6_175 dX6_carryOut_46 ?_
        refine lv_if_ne (tgt := 56) hx hb dX6_carryOut_49 (by decide) (fun c => ?_) (fun c => ?_)
        · have hf := ite_f c hf
          refine lv_iconst (v := 0) hx hb dX6_carryOut_56 (by decide) ?_
          refine lv_iadd hx hb dX6_carryOut_57 ?_
          refine lv_istore_n (lv' := [(1, _), (3, _), (0, _), (2, _)]) hx hb dX6_carryOut_58 rfl hl (by decide) rfl (fun ls hl => ?_)
          refine lv_aload_n hx hb dX6_carryOut_59 rfl (lv_at hl 2 rfl) ?_
          refine x_geti X Y cl_6 rfl (by decide) 12 (by decide) rfl wf_X6_175 dX6_carryOut_60 ?_
          refine lv_if_ne (tgt := 79) hx hb dX6_carryOut_63 (by decide) (fun c => ?_) (fun c => ?_)
          · have hf := ite_f c hf
            refine lv_iconst (v := 0) hx hb dX6_carryOut_79 (by decide) ?_
            refine lv_istore_n (lv' := [(2, _), (1, _), (3, _), (0, _)]) hx hb dX6_carryOut_80 rfl hl (by decide) rfl (fun ls hl => ?_)
            refine lv_goto (tgt := 35) hx hb dX6_carryOut_81 (by decide) ?_
            exact ih _ _ _ _ _ _ hf Y (lv_sub hl [3, 1, 0] rfl)
          · have hf := ite_t c hf
            refine lv_aload_n hx hb dX6_carryOut_66 rfl (lv_at hl 2 rfl) ?_
            refine lv_bipush (v := 59) hx hb dX6_carryOut_67 (by decide) ?_
            obtain ⟨q17, hq, hf⟩ := bnd_t hf
            refine x_ci Y (x_rV (rest := []) X Y k_X6_169 (c_X6_takes X.hg hq) cl_6.1 rfl (by decide) rfl ⟨rfl, rfl⟩ ⟨by decide, by decide⟩ hl.1 rfl (Nat.le_of_ble_eq_true rfl) dX6_carryOut_69 ⟨Nat.zero_le _, Nat.zero_le _⟩) (fun H locs Y => ?_)
            refine lv_if_eq (tgt := 79) hx hb dX6_carryOut_72 (by decide) (fun c => ?_) (fun c => ?_)
            · have hf := ite_t c hf
              refine lv_iconst (v := 0) hx hb dX6_carryOut_79 (by decide) ?_
              refine lv_istore_n (lv' := [(2, _), (1, _), (3, _), (0, _)]) hx hb dX6_carryOut_80 rfl hl (by decide) rfl (fun ls hl => ?_)
              refine lv_goto (tgt := 35) hx hb dX6_carryOut_81 (by decide) ?_
              exact ih _ _ _ _ _ _ hf Y (lv_sub hl [3, 1, 0] rfl)
            · have hf := ite_f c hf
              refine lv_iconst (v := 1) hx hb dX6_carryOut_75 (by decide) ?_
              refine lv_goto (tgt := 80) hx hb dX6_carryOut_76 (by decide) ?_
              refine lv_istore_n (lv' := [(2, _), (1, _), (3, _), (0, _)]) hx hb dX6_carryOut_80 rfl hl (by decide) rfl (fun ls hl => ?_)
              refine lv_goto (tgt := 35) hx hb dX6_carryOut_81 (by decide) ?_
              exact ih _ _ _ _ _ _ hf Y (lv_sub hl [3, 1, 0] rfl)
        · have hf := ite_t c hf
          refine lv_iconst (v := 1) hx hb dX6_carryOut_52 (by decide) ?_
          refine lv_goto (tgt := 57) hx hb dX6_carryOut_53 (by decide) ?_
          refine lv_iadd hx hb dX6_carryOut_57 ?_
          refine lv_istore_n (lv' := [(1, _), (3, _), (0, _), (2, _)]) hx hb dX6_carryOut_58 rfl hl (by decide) rfl (fun ls hl => ?_)
          refine lv_aload_n hx hb dX6_carryOut_59 rfl (lv_at hl 2 rfl) ?_
          refine x_geti X Y cl_6 rfl (by decide) 12 (by decide) rfl wf_X6_175 dX6_carryOut_60 ?_
          refine lv_if_ne (tgt := 79) hx hb dX6_carryOut_63 (by decide) (fun c => ?_) (fun c => ?_)
          · have hf := ite_f c hf
            refine lv_iconst (v := 0) hx hb dX6_carryOut_79 (by decide) ?_
            refine lv_istore_n (lv' := [(2, _), (1, _), (3, _), (0, _)]) hx hb dX6_carryOut_80 rfl hl (by decide) rfl (fun ls hl => ?_)
            refine lv_goto (tgt := 35) hx hb dX6_carryOut_81 (by decide) ?_
            exact ih _ _ _ _ _ _ hf Y (lv_sub hl [3, 1, 0] rfl)
          · have hf := ite_t c hf
            refine lv_aload_n hx hb dX6_carryOut_66 rfl (lv_at hl 2 rfl) ?_
            refine lv_bipush (v := 59) hx hb dX6_carryOut_67 (by decide) ?_
            obtain ⟨q15, hq, hf⟩ := bnd_t hf
            refine x_ci Y (x_rV (rest := []) X Y k_X6_169 (c_X6_takes X.hg hq) cl_6.1 rfl (by decide) rfl ⟨rfl, rfl⟩ ⟨by decide, by decide⟩ hl.1 rfl (Nat.le_of_ble_eq_true rfl) dX6_carryOut_69 ⟨Nat.zero_le _, Nat.zero_le _⟩) (fun H locs Y => ?_)
            refine lv_if_eq (tgt := 79) hx hb dX6_carryOut_72 (by decide) (fun c => ?_) (fun c => ?_)
            · have hf := ite_t c hf
              refine lv_iconst (v := 0) hx hb dX6_carryOut_79 (by decide) ?_
              refine lv_istore_n (lv' := [(2, _), (1, _), (3, _), (0, _)]) hx hb dX6_carryOut_80 rfl hl (by decide) rfl (fun ls hl => ?_)
              refine lv_goto (tgt := 35) hx hb dX6_carryOut_81 (by decide) ?_
              exact ih _ _ _ _ _ _ hf Y (lv_sub hl [3, 1, 0] rfl)
            · have hf := ite_f c hf
              refine lv_iconst (v := 1) hx hb dX6_carryOut_75 (by decide) ?_
              refine lv_goto (tgt := 80) hx hb dX6_carryOut_76 (by decide) ?_
              refine lv_istore_n (lv' := [(2, _), (1, _), (3, _), (0, _)]) hx hb dX6_carryOut_80 rfl hl (by decide) rfl (fun ls hl => ?_)
              refine lv_goto (tgt := 35) hx hb dX6_carryOut_81 (by decide) ?_
              exact ih _ _ _ _ _ _ hf Y (lv_sub hl [3, 1, 0] rfl)
  unfold f_X6_carryOut at hf
  refine lv_aload_n hx hb dX6_carryOut_0 rfl (lv_at hl 0 rfl) ?_
  obtain ⟨q18, hq, hf⟩ := bnd_t hf
  refine x_ci Y (x_rV (rest := []) X Y k_X6_194 (c_X6_fault X.hg hq) cl_6.1 rfl (by decide) rfl ⟨rfl, rfl⟩ ⟨by decide, by decide⟩ hl.1 rfl (Nat.le_of_ble_eq_true rfl) dX6_carryOut_1 ⟨Nat.zero_le _, Nat.zero_le _⟩) (fun H locs Y => ?_)
  refine lv_bipush (v := -6) hx hb dX6_carryOut_4 (by decide) ?_
  refine lv_icmp_eq (tgt := 12) hx hb dX6_carryOut_6 (by decide) (fun c => ?_) (fun c => ?_)
  · have hf := ite_t c hf
    refine lv_aload_n hx hb dX6_carryOut_12 rfl (lv_at hl 0 rfl) ?_
    obtain ⟨q19, hq, hf⟩ := bnd_t hf
    refine x_cv Y (x_rV (rest := []) X Y k_X6_94 (c_X6_keep X.hg hq) cl_6.1 rfl (by decide) rfl ⟨rfl, rfl⟩ ⟨by decide, by decide⟩ hl.1 rfl (Nat.le_of_ble_eq_true rfl) dX6_carryOut_13 ⟨Nat.zero_le _, Nat.zero_le _⟩) (fun H locs Y => ?_)
    refine lv_aload_n hx hb dX6_carryOut_16 rfl (lv_at hl 0 rfl) ?_
    refine lv_iconst (v := 0) hx hb dX6_carryOut_17 (by decide) ?_
    refine x_put X Y cl_6 rfl (by decide) 9 (by decide) rfl wf_X6_160 rfl rfl rfl dX6_carryOut_18 (fun H locs Y => ?_)
    refine lv_aload_n hx hb dX6_carryOut_21 rfl (lv_at hl 0 rfl) ?_
    refine lv_iconst (v := 1) hx hb dX6_carryOut_22 (by decide) ?_
    refine x_put X Y cl_6 rfl (by decide) 11 (by decide) rfl wf_X6_181 rfl rfl rfl dX6_carryOut_23 (fun H locs Y => ?_)
    refine lv_aload_n hx hb dX6_carryOut_26 rfl (lv_at hl 0 rfl) ?_
    refine lv_iconst (v := 0) hx hb dX6_carryOut_27 (by decide) ?_
    refine x_put X Y cl_6 rfl (by decide) 12 (by decide) rfl wf_X6_175 rfl rfl rfl dX6_carryOut_28 (fun H locs Y => ?_)
    refine lv_iconst (v := 0) hx hb dX6_carryOut_31 (by decide) ?_
    refine lv_istore_n (lv' := [(1, _), (0, _)]) hx hb dX6_carryOut_32 rfl hl (by decide) rfl (fun ls hl => ?_)
    refine lv_iconst (v := 1) hx hb dX6_carryOut_33 (by decide) ?_
    refine lv_istore_n (lv' := [(2, _), (1, _), (0, _)]) hx hb dX6_carryOut_34 rfl hl (by decide) rfl (fun ls hl => ?_)
    exact hL35 _ _ _ _ _ _ _ hf Y (lv_sub hl [2, 1, 0] rfl)
  · have hf := ite_f c hf
    refine lv_bipush (v := -3) hx hb dX6_carryOut_9 (by decide) ?_
    exact x_iret X Y hr hlk hf dX6_carryOut_11
def f_X6_undo_L22_b (k : Int32 → HI → Option (Int32 × HI)) (v1 : Int32) (I : HI) : Option (Int32 × HI) :=
  if (447 : Int32) ≤ v1 then
    some (I 57 3, I)
  else
    if (((447 : Int32) * (I 57 3)) + v1) < 0 ∨ 2682 ≤ (((447 : Int32) * (I 57 3)) + v1).toNatClampNeg then none else
    if v1 < 0 ∨ 447 ≤ v1.toNatClampNeg then none else
    let I3 := upI I 58 v1.toNatClampNeg (I 60 (((447 : Int32) * (I 57 3)) + v1).toNatClampNeg)
    k (v1 + (1 : Int32)) I3
def f_X6_undo_L22 : Nat → Int32 → HI → Option (Int32 × HI)
  | 0, _, _ => none
  | n + 1, v1, I => f_X6_undo_L22_b (f_X6_undo_L22 n) v1 I
def f_X6_undo (I : HI) : Option (Int32 × HI) :=
  if (I 57 3) = (0 : Int32) then
    some ((-5 : Int32), I)
  else
    let I4 := upI I 57 3 ((I 57 3) - (1 : Int32))
    f_X6_undo_L22 4000 (0 : Int32) I4
abbrev rm_X6_undo : Room := { frames := 0, cells := 0, slots := 0, locals := 0 }
set_option maxHeartbeats 4000000 in
set_option maxRecDepth 100000 in
theorem c_X6_undo {l : Launch} {g : GX} (hg : gOk g) {I : HI} {r : Int32 × HI} (hf : f_X6_undo I = some r) : Met l yX6_undo (Cond.code yX6_undo cX6_undo 2 (some .int) :: WL) rm_X6_undo (xP g [.ref (gR g 57)] I) (xQi g r.1 r.2) 0 0 (gA g) := by
  refine x_met (by decide) hg (Nat.le_of_ble_eq_true rfl) (fun p e s m args below meth c X hr hlk Y ls hl => ?_)
  have hx := X.hx
  have hb := X.hb
  have hl : lv_has ls 2 [(0, .ref (gR g 57))] := hl
  have hL22 : ∀ (n : Nat) (v1 : Int32) (I : HI) (H : Heap) (locs : List Loc) (ls : Array Slot), f_X6_undo_L22 n v1 I = some r → XD g I s H locs → lv_has ls 2 [(0, .ref (gR g 57)), (1, .int v1)] → W p l e rm_X6_undo s m args below meth c H locs 0 0 (MQ below (xQi g r.1 r.2) args s 0 0 (gA g)) (F0 m 22 ls []) := by
    intro n
    induction n with
    | zero => intro v1 I H locs ls hf Y hl; exact nn_t hf
    | succ n ih =>
      intro v1 I H locs ls hf Y hl
      have hf : f_X6_undo_L22_b (f_X6_undo_L22 n) v1 I = some r := hf
      unfold f_X6_undo_L22_b at hf
      refine lv_iload_n hx hb dX6_undo_22 rfl (lv_at hl 1 rfl) ?_
      refine lv_sipush (v := 447) hx hb dX6_undo_23 (by decide) ?_
      refine lv_icmp_ge (tgt := 56) hx hb dX6_undo_26 (by decide) (fun c => ?_) (fun c => ?_)
      · have hf := ite_t c hf
        refine lv_aload_n hx hb dX6_undo_56 rfl (lv_at hl 0 rfl) ?_
        refine x_geti X Y cl_6 rfl (by decide) 3 (by decide) rfl wf_X6_28 dX6_undo_57 ?_
        exact x_iret X Y hr hlk hf dX6_undo_60
      · have hf := ite_f c hf
        refine lv_aload_n hx hb dX6_undo_29 rfl (lv_at hl 0 rfl) ?_
        refine x_get (v := .ref (gR g 58)) X Y cl_6 rfl (by decide) 0 (by decide) wf_X6_7 rfl dX6_undo_30 ?_
        refine lv_iload_n hx hb dX6_undo_33 rfl (lv_at hl 1 rfl) ?_
        refine lv_aload_n hx hb dX6_undo_34 rfl (lv_at hl 0 rfl) ?_
        refine x_get (v := .ref (gR g 60)) X Y cl_6 rfl (by decide) 2 (by decide) wf_X6_16 rfl dX6_undo_35 ?_
        refine lv_sipush (v := 447) hx hb dX6_undo_38 (by decide) ?_
        refine lv_aload_n hx hb dX6_undo_41 rfl (lv_at hl 0 rfl) ?_
        refine x_geti X Y cl_6 rfl (by decide) 3 (by decide) rfl wf_X6_28 dX6_undo_42 ?_
        refine lv_imul hx hb dX6_undo_45 ?_
        refine lv_iload_n hx hb dX6_undo_46 rfl (lv_at hl 1 rfl) ?_
        refine lv_iadd hx hb dX6_undo_47 ?_
        obtain ⟨hin, hf⟩ := oob_t hf
        refine x_iald X Y rfl hin dX6_undo_48 ?_
        obtain ⟨hin, hf⟩ := oob_t hf
        refine x_iast X Y rfl hin dX6_undo_49 (fun H locs Y => ?_)
        refine lv_iinc (v := _ + (1 : Int32)) (lv' := [(1, _), (0, _)]) hx hb dX6_undo_50 hl (k := 1) rfl rfl (by decide) rfl (fun ls hl => ?_)
        refine lv_goto (tgt := 22) hx hb dX6_undo_53 (by decide) ?_
        exact ih _ _ _ _ _ hf Y (lv_sub hl [1, 0] rfl)
  unfold f_X6_undo at hf
  refine lv_aload_n hx hb dX6_undo_0 rfl (lv_at hl 0 rfl) ?_
  refine x_geti X Y cl_6 rfl (by decide) 3 (by decide) rfl wf_X6_28 dX6_undo_1 ?_
  refine lv_if_ne (tgt := 10) hx hb dX6_undo_4 (by decide) (fun c => ?_) (fun c => ?_)
  · have hf := ite_f c hf
    refine lv_aload_n hx hb dX6_undo_10 rfl (lv_at hl 0 rfl) ?_
    refine lv_dup hx hb dX6_undo_11 rfl ?_
    refine x_geti X Y cl_6 rfl (by decide) 3 (by decide) rfl wf_X6_28 dX6_undo_12 ?_
    refine lv_iconst (v := 1) hx hb dX6_undo_15 (by decide) ?_
    refine lv_isub hx hb dX6_undo_16 ?_
    refine x_put X Y cl_6 rfl (by decide) 3 (by decide) rfl wf_X6_28 rfl rfl rfl dX6_undo_17 (fun H locs Y => ?_)
    refine lv_iconst (v := 0) hx hb dX6_undo_20 (by decide) ?_
    refine lv_istore_n (lv' := [(1, _), (0, _)]) hx hb dX6_undo_21 rfl hl (by decide) rfl (fun ls hl => ?_)
    exact hL22 _ _ _ _ _ _ hf Y (lv_sub hl [1, 0] rfl)
  · have hf := ite_t c hf
    refine lv_bipush (v := -5) hx hb dX6_undo_7 (by decide) ?_
    exact x_iret X Y hr hlk hf dX6_undo_9
def f_X6_save_L15_b (v1 : Int32) (k : Int32 → HI → Option (Int32 × HI)) (v2 : Int32) (I : HI) : Option (Int32 × HI) :=
  if (447 : Int32) ≤ v2 then
    if v1 < 0 ∨ 2 ≤ v1.toNatClampNeg then none else
    let I4 := upI I 62 v1.toNatClampNeg (1 : Int32)
    some (I4 58 22, I4)
  else
    if v2 < 0 ∨ 447 ≤ v2.toNatClampNeg then none else
    if (((447 : Int32) * v1) + v2) < 0 ∨ 894 ≤ (((447 : Int32) * v1) + v2).toNatClampNeg then none else
    let I5 := upI I 61 (((447 : Int32) * v1) + v2).toNatClampNeg (I 58 v2.toNatClampNeg)
    k (v2 + (1 : Int32)) I5
def f_X6_save_L15 (v1 : Int32) : Nat → Int32 → HI → Option (Int32 × HI)
  | 0, _, _ => none
  | n + 1, v2, I => f_X6_save_L15_b v1 (f_X6_save_L15 v1 n) v2 I
def f_X6_save (v1 : Int32) (I : HI) : Option (Int32 × HI) :=
  (f_X6_in (v1.toInt64) (0 : Int64) (1 : Int64) I).bind fun q6 =>
  if q6.1 = (0 : Int32) then
    some ((-2 : Int32), q6.2)
  else
    f_X6_save_L15 v1 4000 (0 : Int32) q6.2
abbrev rm_X6_save : Room := { frames := 1, cells := 0, slots := 0, locals := 25 }
set_option maxHeartbeats 4000000 in
set_option maxRecDepth 100000 in
theorem c_X6_save {l : Launch} {g : GX} (hg : gOk g) {v1 : Int32} {I : HI} {r : Int32 × HI} (hf : f_X6_save v1 I = some r) : Met l yX6_save (Cond.code yX6_save cX6_save 3 (some .int) :: WL) rm_X6_save (xP g [.ref (gR g 57), .int v1] I) (xQi g r.1 r.2) 0 0 (gA g) := by
  refine x_met (by decide) hg (Nat.le_of_ble_eq_true rfl) (fun p e s m args below meth c X hr hlk Y ls hl => ?_)
  have hx := X.hx
  have hb := X.hb
  have hl : lv_has ls 3 [(0, .ref (gR g 57)), (1, .int v1)] := hl
  have hL15 : ∀ (v1 : Int32) (n : Nat) (v2 : Int32) (I : HI) (H : Heap) (locs : List Loc) (ls : Array Slot), f_X6_save_L15 v1 n v2 I = some r → XD g I s H locs → lv_has ls 3 [(0, .ref (gR g 57)), (1, .int v1), (2, .int v2)] → W p l e rm_X6_save s m args below meth c H locs 0 0 (MQ below (xQi g r.1 r.2) args s 0 0 (gA g)) (F0 m 15 ls []) := by
    intro v1 n
    induction n with
    | zero => intro v2 I H locs ls hf Y hl; exact nn_t hf
    | succ n ih =>
      intro v2 I H locs ls hf Y hl
      have hf : f_X6_save_L15_b v1 (f_X6_save_L15 v1 n) v2 I = some r := hf
      unfold f_X6_save_L15_b at hf
      refine lv_iload_n hx hb dX6_save_15 rfl (lv_at hl 2 rfl) ?_
      refine lv_sipush (v := 447) hx hb dX6_save_16 (by decide) ?_
      refine lv_icmp_ge (tgt := 46) hx hb dX6_save_19 (by decide) (fun c => ?_) (fun c => ?_)
      · have hf := ite_t c hf
        refine lv_aload_n hx hb dX6_save_46 rfl (lv_at hl 0 rfl) ?_
        refine x_get (v := .ref (gR g 62)) X Y cl_6 rfl (by decide) 5 (by decide) wf_X6_22 rfl dX6_save_47 ?_
        refine lv_iload_n hx hb dX6_save_50 rfl (lv_at hl 1 rfl) ?_
        refine lv_iconst (v := 1) hx hb dX6_save_51 (by decide) ?_
        obtain ⟨hin, hf⟩ := oob_t hf
        refine x_iast X Y rfl hin dX6_save_52 (fun H locs Y => ?_)
        refine lv_aload_n hx hb dX6_save_53 rfl (lv_at hl 0 rfl) ?_
        refine x_get (v := .ref (gR g 58)) X Y cl_6 rfl (by decide) 0 (by decide) wf_X6_7 rfl dX6_save_54 ?_
        refine lv_bipush (v := 22) hx hb dX6_save_57 (by decide) ?_
        refine x_ialdL (k := 22) X Y rfl (by decide) (by decide) (vin (by decide)) dX6_save_59 ?_
        exact x_iret X Y hr hlk hf dX6_save_60
      · have hf := ite_f c hf
        refine lv_aload_n hx hb dX6_save_22 rfl (lv_at hl 0 rfl) ?_
        refine x_get (v := .ref (gR g 61)) X Y cl_6 rfl (by decide) 4 (by decide) wf_X6_19 rfl dX6_save_23 ?_
        refine lv_sipush (v := 447) hx hb dX6_save_26 (by decide) ?_
        refine lv_iload_n hx hb dX6_save_29 rfl (lv_at hl 1 rfl) ?_
        refine lv_imul hx hb dX6_save_30 ?_
        refine lv_iload_n hx hb dX6_save_31 rfl (lv_at hl 2 rfl) ?_
        refine lv_iadd hx hb dX6_save_32 ?_
        refine lv_aload_n hx hb dX6_save_33 rfl (lv_at hl 0 rfl) ?_
        refine x_get (v := .ref (gR g 58)) X Y cl_6 rfl (by decide) 0 (by decide) wf_X6_7 rfl dX6_save_34 ?_
        refine lv_iload_n hx hb dX6_save_37 rfl (lv_at hl 2 rfl) ?_
        obtain ⟨hin, hf⟩ := oob_t hf
        refine x_iald X Y rfl hin dX6_save_38 ?_
        obtain ⟨hin, hf⟩ := oob_t hf
        refine x_iast X Y rfl hin dX6_save_39 (fun H locs Y => ?_)
        refine lv_iinc (v := _ + (1 : Int32)) (lv' := [(2, _), (0, _), (1, _)]) hx hb dX6_save_40 hl (k := 2) rfl rfl (by decide) rfl (fun ls hl => ?_)
        refine lv_goto (tgt := 15) hx hb dX6_save_43 (by decide) ?_
        exact ih _ _ _ _ _ hf Y (lv_sub hl [1, 2, 0] rfl)
  unfold f_X6_save at hf
  refine lv_iload_n hx hb dX6_save_0 rfl (lv_at hl 1 rfl) ?_
  refine lv_i2l hx hb dX6_save_1 rfl ?_
  refine lv_lconst (v := 0) hx hb dX6_save_2 (by decide) ?_
  refine lv_lconst (v := 1) hx hb dX6_save_3 (by decide) ?_
  obtain ⟨q6, hq, hf⟩ := bnd_t hf
  refine x_ci Y (x_rS (rest := []) X Y k_X6_67 (c_X6_in X.hg hq) rfl ⟨rfl, rfl⟩ ⟨by decide, by decide⟩ hl.1 rfl (Nat.le_of_ble_eq_true rfl) dX6_save_4 ⟨Nat.zero_le _, Nat.zero_le _⟩) (fun H locs Y => ?_)
  refine lv_if_ne (tgt := 13) hx hb dX6_save_7 (by decide) (fun c => ?_) (fun c => ?_)
  · have hf := ite_f c hf
    refine lv_iconst (v := 0) hx hb dX6_save_13 (by decide) ?_
    refine lv_istore_n (lv' := [(2, _), (0, _), (1, _)]) hx hb dX6_save_14 rfl hl (by decide) rfl (fun ls hl => ?_)
    exact hL15 _ _ _ _ _ _ _ hf Y (lv_sub hl [1, 2, 0] rfl)
  · have hf := ite_t c hf
    refine lv_bipush (v := -2) hx hb dX6_save_10 (by decide) ?_
    exact x_iret X Y hr hlk hf dX6_save_12
def f_X6_restore_L31_b (v1 : Int32) (k : Int32 → HI → Option (Int32 × HI)) (v2 : Int32) (I : HI) : Option (Int32 × HI) :=
  if (447 : Int32) ≤ v2 then
    (f_X6_changed (I 58 22) I).bind fun q5 =>
    some (q5.1, q5.2)
  else
    if (((447 : Int32) * v1) + v2) < 0 ∨ 894 ≤ (((447 : Int32) * v1) + v2).toNatClampNeg then none else
    if v2 < 0 ∨ 447 ≤ v2.toNatClampNeg then none else
    let I6 := upI I 58 v2.toNatClampNeg (I 61 (((447 : Int32) * v1) + v2).toNatClampNeg)
    k (v2 + (1 : Int32)) I6
def f_X6_restore_L31 (v1 : Int32) : Nat → Int32 → HI → Option (Int32 × HI)
  | 0, _, _ => none
  | n + 1, v2, I => f_X6_restore_L31_b v1 (f_X6_restore_L31 v1 n) v2 I
def f_X6_restore (v1 : Int32) (I : HI) : Option (Int32 × HI) :=
  (f_X6_in (v1.toInt64) (0 : Int64) (1 : Int64) I).bind fun q7 =>
  if q7.1 = (0 : Int32) then
    some ((-2 : Int32), q7.2)
  else
    if v1 < 0 ∨ 2 ≤ v1.toNatClampNeg then none else
    if (q7.2 62 v1.toNatClampNeg) = (0 : Int32) then
      some ((-5 : Int32), q7.2)
    else
      (f_X6_keep q7.2).bind fun q8 =>
      f_X6_restore_L31 v1 4000 (0 : Int32) q8.2
abbrev rm_X6_restore : Room := { frames := 1, cells := 0, slots := 0, locals := 25 }
set_option maxHeartbeats 4000000 in
set_option maxRecDepth 100000 in
theorem c_X6_restore {l : Launch} {g : GX} (hg : gOk g) {v1 : Int32} {I : HI} {r : Int32 × HI} (hf : f_X6_restore v1 I = some r) : Met l yX6_restore (Cond.code yX6_restore cX6_restore 3 (some .int) :: WL) rm_X6_restore (xP g [.ref (gR g 57), .int v1] I) (xQi g r.1 r.2) 0 0 (gA g) := by
  refine x_met (by decide) hg (Nat.le_of_ble_eq_true rfl) (fun p e s m args below meth c X hr hlk Y ls hl => ?_)
  have hx := X.hx
  have hb := X.hb
  have hl : lv_has ls 3 [(0, .ref (gR g 57)), (1, .int v1)] := hl
  have hL31 : ∀ (v1 : Int32) (n : Nat) (v2 : Int32) (I : HI) (H : Heap) (locs : List Loc) (ls : Array Slot), f_X6_restore_L31 v1 n v2 I = some r → XD g I s H locs → lv_has ls 3 [(0, .ref (gR g 57)), (1, .int v1), (2, .int v2)] → W p l e rm_X6_restore s m args below meth c H locs 0 0 (MQ below (xQi g r.1 r.2) args s 0 0 (gA g)) (F0 m 31 ls []) := by
    intro v1 n
    induction n with
    | zero => intro v2 I H locs ls hf Y hl; exact nn_t hf
    | succ n ih =>
      intro v2 I H locs ls hf Y hl
      have hf : f_X6_restore_L31_b v1 (f_X6_restore_L31 v1 n) v2 I = some r := hf
      unfold f_X6_restore_L31_b at hf
      refine lv_iload_n hx hb dX6_restore_31 rfl (lv_at hl 2 rfl) ?_
      refine lv_sipush (v := 447) hx hb dX6_restore_32 (by decide) ?_
      refine lv_icmp_ge (tgt := 62) hx hb dX6_restore_35 (by decide) (fun c => ?_) (fun c => ?_)
      · have hf := ite_t c hf
        refine lv_aload_n hx hb dX6_restore_62 rfl (lv_at hl 0 rfl) ?_
        refine lv_aload_n hx hb dX6_restore_63 rfl (lv_at hl 0 rfl) ?_
        refine x_get (v := .ref (gR g 58)) X Y cl_6 rfl (by decide) 0 (by decide) wf_X6_7 rfl dX6_restore_64 ?_
        refine lv_bipush (v := 22) hx hb dX6_restore_67 (by decide) ?_
        refine x_ialdL (k := 22) X Y rfl (by decide) (by decide) (vin (by decide)) dX6_restore_69 ?_
        obtain ⟨q5, hq, hf⟩ := bnd_t hf
        refine x_ci Y (x_rV (rest := []) X Y k_X6_101 (c_X6_changed X.hg hq) cl_6.1 rfl (by decide) rfl ⟨rfl, rfl⟩ ⟨by decide, by decide⟩ hl.1 rfl (Nat.le_of_ble_eq_true rfl) dX6_restore_70 ⟨Nat.zero_le _, Nat.zero_le _⟩) (fun H locs Y => ?_)
        exact x_iret X Y hr hlk hf dX6_restore_73
      · have hf := ite_f c hf
        refine lv_aload_n hx hb dX6_restore_38 rfl (lv_at hl 0 rfl) ?_
        refine x_get (v := .ref (gR g 58)) X Y cl_6 rfl (by decide) 0 (by decide) wf_X6_7 rfl dX6_restore_39 ?_
        refine lv_iload_n hx hb dX6_restore_42 rfl (lv_at hl 2 rfl) ?_
        refine lv_aload_n hx hb dX6_restore_43 rfl (lv_at hl 0 rfl) ?_
        refine x_get (v := .ref (gR g 61)) X Y cl_6 rfl (by decide) 4 (by decide) wf_X6_19 rfl dX6_restore_44 ?_
        refine lv_sipush (v := 447) hx hb dX6_restore_47 (by decide) ?_
        refine lv_iload_n hx hb dX6_restore_50 rfl (lv_at hl 1 rfl) ?_
        refine lv_imul hx hb dX6_restore_51 ?_
        refine lv_iload_n hx hb dX6_restore_52 rfl (lv_at hl 2 rfl) ?_
        refine lv_iadd hx hb dX6_restore_53 ?_
        obtain ⟨hin, hf⟩ := oob_t hf
        refine x_iald X Y rfl hin dX6_restore_54 ?_
        obtain ⟨hin, hf⟩ := oob_t hf
        refine x_iast X Y rfl hin dX6_restore_55 (fun H locs Y => ?_)
        refine lv_iinc (v := _ + (1 : Int32)) (lv' := [(2, _), (0, _), (1, _)]) hx hb dX6_restore_56 hl (k := 2) rfl rfl (by decide) rfl (fun ls hl => ?_)
        refine lv_goto (tgt := 31) hx hb dX6_restore_59 (by decide) ?_
        exact ih _ _ _ _ _ hf Y (lv_sub hl [1, 2, 0] rfl)
  unfold f_X6_restore at hf
  refine lv_iload_n hx hb dX6_restore_0 rfl (lv_at hl 1 rfl) ?_
  refine lv_i2l hx hb dX6_restore_1 rfl ?_
  refine lv_lconst (v := 0) hx hb dX6_restore_2 (by decide) ?_
  refine lv_lconst (v := 1) hx hb dX6_restore_3 (by decide) ?_
  obtain ⟨q7, hq, hf⟩ := bnd_t hf
  refine x_ci Y (x_rS (rest := []) X Y k_X6_67 (c_X6_in X.hg hq) rfl ⟨rfl, rfl⟩ ⟨by decide, by decide⟩ hl.1 rfl (Nat.le_of_ble_eq_true rfl) dX6_restore_4 ⟨Nat.zero_le _, Nat.zero_le _⟩) (fun H locs Y => ?_)
  refine lv_if_ne (tgt := 13) hx hb dX6_restore_7 (by decide) (fun c => ?_) (fun c => ?_)
  · have hf := ite_f c hf
    refine lv_aload_n hx hb dX6_restore_13 rfl (lv_at hl 0 rfl) ?_
    refine x_get (v := .ref (gR g 62)) X Y cl_6 rfl (by decide) 5 (by decide) wf_X6_22 rfl dX6_restore_14 ?_
    refine lv_iload_n hx hb dX6_restore_17 rfl (lv_at hl 1 rfl) ?_
    obtain ⟨hin, hf⟩ := oob_t hf
    refine x_iald X Y rfl hin dX6_restore_18 ?_
    refine lv_if_ne (tgt := 25) hx hb dX6_restore_19 (by decide) (fun c => ?_) (fun c => ?_)
    · have hf := ite_f c hf
      refine lv_aload_n hx hb dX6_restore_25 rfl (lv_at hl 0 rfl) ?_
      obtain ⟨q8, hq, hf⟩ := bnd_t hf
      refine x_cv Y (x_rV (rest := []) X Y k_X6_94 (c_X6_keep X.hg hq) cl_6.1 rfl (by decide) rfl ⟨rfl, rfl⟩ ⟨by decide, by decide⟩ hl.1 rfl (Nat.le_of_ble_eq_true rfl) dX6_restore_26 ⟨Nat.zero_le _, Nat.zero_le _⟩) (fun H locs Y => ?_)
      refine lv_iconst (v := 0) hx hb dX6_restore_29 (by decide) ?_
      refine lv_istore_n (lv' := [(2, _), (0, _), (1, _)]) hx hb dX6_restore_30 rfl hl (by decide) rfl (fun ls hl => ?_)
      exact hL31 _ _ _ _ _ _ _ hf Y (lv_sub hl [1, 2, 0] rfl)
    · have hf := ite_t c hf
      refine lv_bipush (v := -5) hx hb dX6_restore_22 (by decide) ?_
      exact x_iret X Y hr hlk hf dX6_restore_24
  · have hf := ite_t c hf
    refine lv_bipush (v := -2) hx hb dX6_restore_10 (by decide) ?_
    exact x_iret X Y hr hlk hf dX6_restore_12
