def f_X2_numberOfCharacters_L7_b (k : Int32 → Int64 → Int32 → HI → Option (Int32 × HI)) (v2 : Int32) (v3 : Int64) (v5 : Int32) (I : HI) : Option (Int32 × HI) :=
  if (8 : Int32) ≤ v5 then
    some (v2, I)
  else
    if (lg_cmp v3 (0 : Int64)) = (0 : Int32) then
      some (v2, I)
    else
      let x1 := v3 &&& (255 : Int64)
      if (lg_cmp x1 (33 : Int64)) < (0 : Int32) then
        some ((0 : Int32), I)
      else
        if (lg_cmp x1 (126 : Int64)) ≤ (0 : Int32) then
          let x2 := (v3.toUInt64 >>> ((8 : Int32).toInt64.toUInt64 &&& Int64.toUInt64 63)).toInt64
          k (v2 + (1 : Int32)) x2 (v5 + (1 : Int32)) I
        else
          some ((0 : Int32), I)
def f_X2_numberOfCharacters_L7 : Nat → Int32 → Int64 → Int32 → HI → Option (Int32 × HI)
  | 0, _, _, _, _ => none
  | n + 1, v2, v3, v5, I => f_X2_numberOfCharacters_L7_b (f_X2_numberOfCharacters_L7 n) v2 v3 v5 I
def f_X2_numberOfCharacters (v0 : Int64) (I : HI) : Option (Int32 × HI) :=
  f_X2_numberOfCharacters_L7 4000 (0 : Int32) v0 (0 : Int32) I
abbrev rm_X2_numberOfCharacters : Room := { frames := 0, cells := 0, slots := 0, locals := 0 }
set_option maxHeartbeats 4000000 in
set_option maxRecDepth 100000 in
theorem c_X2_numberOfCharacters {l : Launch} {g : GX} (hg : gOk g) {v0 : Int64} {I : HI} {r : Int32 × HI} (hf : f_X2_numberOfCharacters v0 I = some r) : Met l yX2_numberOfCharacters (Cond.code yX2_numberOfCharacters cX2_numberOfCharacters 8 (some .int) :: WL) rm_X2_numberOfCharacters (xP g [.long v0] I) (xQi g r.1 r.2) 0 0 (gA g) := by
  refine x_met (by decide) hg (Nat.le_of_ble_eq_true rfl) (fun p e s m args below meth c X hr hlk Y ls hl => ?_)
  have hx := X.hx
  have hb := X.hb
  have hl : lv_has ls 8 [(0, .long v0)] := hl
  have hL7 : ∀ (n : Nat) (v2 : Int32) (v3 : Int64) (v5 : Int32) (I : HI) (H : Heap) (locs : List Loc) (ls : Array Slot), f_X2_numberOfCharacters_L7 n v2 v3 v5 I = some r → XD g I s H locs → lv_has ls 8 [(2, .int v2), (3, .long v3), (5, .int v5)] → W p l e rm_X2_numberOfCharacters s m args below meth c H locs 0 0 (MQ below (xQi g r.1 r.2) args s 0 0 (gA g)) (F0 m 7 ls []) := by
    intro n
    induction n with
    | zero => intro v2 v3 v5 I H locs ls hf Y hl; exact nn_t hf
    | succ n ih =>
      intro v2 v3 v5 I H locs ls hf Y hl
      have hf : f_X2_numberOfCharacters_L7_b (f_X2_numberOfCharacters_L7 n) v2 v3 v5 I = some r := hf
      unfold f_X2_numberOfCharacters_L7_b at hf
      refine lv_iload hx hb dX2_numberOfCharacters_7 (lv_at hl 2 rfl) ?_
      refine lv_bipush (v := 8) hx hb dX2_numberOfCharacters_9 (by decide) ?_
      refine lv_icmp_ge (tgt := 61) hx hb dX2_numberOfCharacters_11 (by decide) (fun c => ?_) (fun c => ?_)
      · have hf := ite_t c hf
        refine lv_iload_n hx hb dX2_numberOfCharacters_61 rfl (lv_at hl 0 rfl) ?_
        exact x_iret X Y hr hlk hf dX2_numberOfCharacters_62
      · have hf := ite_f c hf
        refine lv_lload_n hx hb dX2_numberOfCharacters_14 rfl (lv_at hl 1 rfl) ?_
        refine lv_lconst (v := 0) hx hb dX2_numberOfCharacters_15 (by decide) ?_
        refine W.lcmp hx hb dX2_numberOfCharacters_16 ?_
        refine lv_if_eq (tgt := 61) hx hb dX2_numberOfCharacters_17 (by decide) (fun c => ?_) (fun c => ?_)
        · have hf := ite_t c hf
          refine lv_iload_n hx hb dX2_numberOfCharacters_61 rfl (lv_at hl 0 rfl) ?_
          exact x_iret X Y hr hlk hf dX2_numberOfCharacters_62
        · have hf := ite_f c hf
          refine lv_lload_n hx hb dX2_numberOfCharacters_20 rfl (lv_at hl 1 rfl) ?_
          refine lv_ldc2 (v := 255) hx hb X.1.2.2.2.1 (X.w wk_X2_40) dX2_numberOfCharacters_21 ?_
          refine lv_land hx hb dX2_numberOfCharacters_24 ?_
          refine lv_lstore (lv' := [(6, _), (2, _), (3, _), (5, _)]) hx hb dX2_numberOfCharacters_25 hl (by decide) rfl (fun ls hl => ?_)
          refine lv_lload hx hb dX2_numberOfCharacters_27 (lv_at hl 0 rfl) ?_
          refine lv_ldc2 (v := 33) hx hb X.1.2.2.2.1 (X.w wk_X2_42) dX2_numberOfCharacters_29 ?_
          refine W.lcmp hx hb dX2_numberOfCharacters_32 ?_
          refine lv_if_lt (tgt := 45) hx hb dX2_numberOfCharacters_33 (by decide) (fun c => ?_) (fun c => ?_)
          · have hf := ite_t c hf
            refine lv_iconst (v := 0) hx hb dX2_numberOfCharacters_45 (by decide) ?_
            exact x_iret X Y hr hlk hf dX2_numberOfCharacters_46
          · have hf := ite_f c hf
            refine lv_lload hx hb dX2_numberOfCharacters_36 (lv_at hl 0 rfl) ?_
            refine lv_ldc2 (v := 126) hx hb X.1.2.2.2.1 (X.w wk_X2_44) dX2_numberOfCharacters_38 ?_
            refine W.lcmp hx hb dX2_numberOfCharacters_41 ?_
            refine lv_if_le (tgt := 47) hx hb dX2_numberOfCharacters_42 (by decide) (fun c => ?_) (fun c => ?_)
            · have hf := ite_t c hf
              refine lv_iinc (v := _ + (1 : Int32)) (lv' := [(2, _), (6, _), (3, _), (5, _)]) hx hb dX2_numberOfCharacters_47 hl (k := 1) rfl rfl (by decide) rfl (fun ls hl => ?_)
              refine lv_lload_n hx hb dX2_numberOfCharacters_50 rfl (lv_at hl 2 rfl) ?_
              refine lv_bipush (v := 8) hx hb dX2_numberOfCharacters_51 (by decide) ?_
              refine lv_lushr hx hb dX2_numberOfCharacters_53 rfl ?_
              refine lv_lstore_n (lv' := [(3, _), (2, _), (6, _), (5, _)]) hx hb dX2_numberOfCharacters_54 rfl hl (by decide) rfl (fun ls hl => ?_)
              refine lv_iinc (v := _ + (1 : Int32)) (lv' := [(5, _), (3, _), (2, _), (6, _)]) hx hb dX2_numberOfCharacters_55 hl (k := 3) rfl rfl (by decide) rfl (fun ls hl => ?_)
              refine lv_goto (tgt := 7) hx hb dX2_numberOfCharacters_58 (by decide) ?_
              exact ih _ _ _ _ _ _ _ hf Y (lv_sub hl [2, 1, 0] rfl)
            · have hf := ite_f c hf
              refine lv_iconst (v := 0) hx hb dX2_numberOfCharacters_45 (by decide) ?_
              exact x_iret X Y hr hlk hf dX2_numberOfCharacters_46
  unfold f_X2_numberOfCharacters at hf
  refine lv_iconst (v := 0) hx hb dX2_numberOfCharacters_0 (by decide) ?_
  refine lv_istore_n (lv' := [(2, _), (0, _)]) hx hb dX2_numberOfCharacters_1 rfl hl (by decide) rfl (fun ls hl => ?_)
  refine lv_lload_n hx hb dX2_numberOfCharacters_2 rfl (lv_at hl 1 rfl) ?_
  refine lv_lstore_n (lv' := [(3, _), (2, _), (0, _)]) hx hb dX2_numberOfCharacters_3 rfl hl (by decide) rfl (fun ls hl => ?_)
  refine lv_iconst (v := 0) hx hb dX2_numberOfCharacters_4 (by decide) ?_
  refine lv_istore (lv' := [(5, _), (3, _), (2, _), (0, _)]) hx hb dX2_numberOfCharacters_5 hl (by decide) rfl (fun ls hl => ?_)
  exact hL7 _ _ _ _ _ _ _ _ hf Y (lv_sub hl [2, 1, 0] rfl)
def f_X2_append_L3_b (v1 : Int64) (v3 : Int32) (k : Int32 → HI → Option (Int32 × HI)) (v4 : Int32) (I : HI) : Option (Int32 × HI) :=
  if v3 ≤ v4 then
    let I3 := upI I 51 1 ((I 51 1) + v3)
    some (0, I3)
  else
    (f_X5_writeAt 52 ((((I 51 1) + v3) - (1 : Int32)) - v4) ((((v1.toUInt64 >>> (((8 : Int32) * v4).toInt64.toUInt64 &&& Int64.toUInt64 63)).toInt64) &&& (255 : Int64)).toInt32) I).bind fun q4 =>
    k (v4 + (1 : Int32)) q4.2
def f_X2_append_L3 (v1 : Int64) (v3 : Int32) : Nat → Int32 → HI → Option (Int32 × HI)
  | 0, _, _ => none
  | n + 1, v4, I => f_X2_append_L3_b v1 v3 (f_X2_append_L3 v1 v3 n) v4 I
def f_X2_append (v1 : Int64) (v3 : Int32) (I : HI) : Option (Int32 × HI) :=
  f_X2_append_L3 v1 v3 4000 (0 : Int32) I
abbrev rm_X2_append : Room := { frames := 1, cells := 0, slots := 0, locals := 22 }
set_option maxHeartbeats 4000000 in
set_option maxRecDepth 100000 in
theorem c_X2_append {l : Launch} {g : GX} (hg : gOk g) {v1 : Int64} {v3 : Int32} {I : HI} {r : Int32 × HI} (hf : f_X2_append v1 v3 I = some r) : Met l yX2_append (Cond.code yX2_append cX2_append 5 none :: WL) rm_X2_append (xP g [.ref (gR g 51), .long v1, .int v3] I) (xQv g r.2) 0 0 (gA g) := by
  refine x_met (by decide) hg (Nat.le_of_ble_eq_true rfl) (fun p e s m args below meth c X hr hlk Y ls hl => ?_)
  have hx := X.hx
  have hb := X.hb
  have hl : lv_has ls 5 [(0, .ref (gR g 51)), (1, .long v1), (3, .int v3)] := hl
  have hL3 : ∀ (v1 : Int64) (v3 : Int32) (n : Nat) (v4 : Int32) (I : HI) (H : Heap) (locs : List Loc) (ls : Array Slot), f_X2_append_L3 v1 v3 n v4 I = some r → XD g I s H locs → lv_has ls 5 [(0, .ref (gR g 51)), (1, .long v1), (3, .int v3), (4, .int v4)] → W p l e rm_X2_append s m args below meth c H locs 0 0 (MQ below (xQv g r.2) args s 0 0 (gA g)) (F0 m 3 ls []) := by
    intro v1 v3 n
    induction n with
    | zero => intro v4 I H locs ls hf Y hl; exact nn_t hf
    | succ n ih =>
      intro v4 I H locs ls hf Y hl
      have hf : f_X2_append_L3_b v1 v3 (f_X2_append_L3 v1 v3 n) v4 I = some r := hf
      unfold f_X2_append_L3_b at hf
      refine lv_iload hx hb dX2_append_3 (lv_at hl 3 rfl) ?_
      refine lv_iload_n hx hb dX2_append_5 rfl (lv_at hl 2 rfl) ?_
      refine lv_icmp_ge (tgt := 45) hx hb dX2_append_6 (by decide) (fun c => ?_) (fun c => ?_)
      · have hf := ite_t c hf
        refine lv_aload_n hx hb dX2_append_45 rfl (lv_at hl 0 rfl) ?_
        refine lv_dup hx hb dX2_append_46 rfl ?_
        refine x_geti X Y cl_2 rfl (by decide) 1 (by decide) rfl wf_X2_15 dX2_append_47 ?_
        refine lv_iload_n hx hb dX2_append_50 rfl (lv_at hl 2 rfl) ?_
        refine lv_iadd hx hb dX2_append_51 ?_
        refine x_put X Y cl_2 rfl (by decide) 1 (by decide) rfl wf_X2_15 rfl rfl rfl dX2_append_52 (fun H locs Y => ?_)
        exact x_vret X Y hr hlk hf dX2_append_55
      · have hf := ite_f c hf
        refine lv_aload_n hx hb dX2_append_9 rfl (lv_at hl 0 rfl) ?_
        refine x_get (v := .ref (gR g 52)) X Y cl_2 rfl (by decide) 0 (by decide) wf_X2_9 rfl dX2_append_10 ?_
        refine lv_aload_n hx hb dX2_append_13 rfl (lv_at hl 0 rfl) ?_
        refine x_geti X Y cl_2 rfl (by decide) 1 (by decide) rfl wf_X2_15 dX2_append_14 ?_
        refine lv_iload_n hx hb dX2_append_17 rfl (lv_at hl 2 rfl) ?_
        refine lv_iadd hx hb dX2_append_18 ?_
        refine lv_iconst (v := 1) hx hb dX2_append_19 (by decide) ?_
        refine lv_isub hx hb dX2_append_20 ?_
        refine lv_iload hx hb dX2_append_21 (lv_at hl 3 rfl) ?_
        refine lv_isub hx hb dX2_append_23 ?_
        refine lv_lload_n hx hb dX2_append_24 rfl (lv_at hl 1 rfl) ?_
        refine lv_bipush (v := 8) hx hb dX2_append_25 (by decide) ?_
        refine lv_iload hx hb dX2_append_27 (lv_at hl 3 rfl) ?_
        refine lv_imul hx hb dX2_append_29 ?_
        refine lv_lushr hx hb dX2_append_30 rfl ?_
        refine lv_ldc2 (v := 255) hx hb X.1.2.2.2.1 (X.w wk_X2_40) dX2_append_31 ?_
        refine lv_land hx hb dX2_append_34 ?_
        refine lv_l2i hx hb dX2_append_35 rfl ?_
        obtain ⟨q4, hq, hf⟩ := bnd_t hf
        refine x_cv Y (x_rSN (rest := []) X Y k_X2_46 (c_X5_writeAt X.hg hq) rfl ⟨rfl, rfl⟩ ⟨by decide, by decide⟩ hl.1 rfl (Nat.le_of_ble_eq_true rfl) dX2_append_36 ⟨Nat.zero_le _, Nat.zero_le _⟩) (fun H locs Y => ?_)
        refine lv_iinc (v := _ + (1 : Int32)) (lv' := [(4, _), (0, _), (1, _), (3, _)]) hx hb dX2_append_39 hl (k := 3) rfl rfl (by decide) rfl (fun ls hl => ?_)
        refine lv_goto (tgt := 3) hx hb dX2_append_42 (by decide) ?_
        exact ih _ _ _ _ _ hf Y (lv_sub hl [1, 2, 3, 0] rfl)
  unfold f_X2_append at hf
  refine lv_iconst (v := 0) hx hb dX2_append_0 (by decide) ?_
  refine lv_istore (lv' := [(4, _), (0, _), (1, _), (3, _)]) hx hb dX2_append_1 hl (by decide) rfl (fun ls hl => ?_)
  exact hL3 _ _ _ _ _ _ _ _ hf Y (lv_sub hl [1, 2, 3, 0] rfl)
def f_X2_code (I : HI) : Option (Int32 × HI) :=
  if (I 51 7) < (0 : Int32) then
    some ((0 : Int32), I)
  else
    if (I 51 1) ≤ (I 51 7) then
      some ((0 : Int32), I)
    else
      if (80 : Int32) ≤ (I 51 7) then
        some ((0 : Int32), I)
      else
        if (I 51 7) < 0 ∨ 80 ≤ (I 51 7).toNatClampNeg then none else
        some (I 52 (I 51 7).toNatClampNeg, I)
abbrev rm_X2_code : Room := { frames := 0, cells := 0, slots := 0, locals := 0 }
set_option maxHeartbeats 4000000 in
set_option maxRecDepth 100000 in
theorem c_X2_code {l : Launch} {g : GX} (hg : gOk g) {I : HI} {r : Int32 × HI} (hf : f_X2_code I = some r) : Met l yX2_code (Cond.code yX2_code cX2_code 1 (some .int) :: WL) rm_X2_code (xP g [.ref (gR g 51)] I) (xQi g r.1 r.2) 0 0 (gA g) := by
  refine x_met (by decide) hg (Nat.le_of_ble_eq_true rfl) (fun p e s m args below meth c X hr hlk Y ls hl => ?_)
  have hx := X.hx
  have hb := X.hb
  have hl : lv_has ls 1 [(0, .ref (gR g 51))] := hl
  unfold f_X2_code at hf
  refine lv_aload_n hx hb dX2_code_0 rfl (lv_at hl 0 rfl) ?_
  refine x_geti X Y cl_2 rfl (by decide) 7 (by decide) rfl wf_X2_34 dX2_code_1 ?_
  refine lv_if_lt (tgt := 42) hx hb dX2_code_4 (by decide) (fun c => ?_) (fun c => ?_)
  · have hf := ite_t c hf
    refine lv_iconst (v := 0) hx hb dX2_code_42 (by decide) ?_
    exact x_iret X Y hr hlk hf dX2_code_43
  · have hf := ite_f c hf
    refine lv_aload_n hx hb dX2_code_7 rfl (lv_at hl 0 rfl) ?_
    refine x_geti X Y cl_2 rfl (by decide) 7 (by decide) rfl wf_X2_34 dX2_code_8 ?_
    refine lv_aload_n hx hb dX2_code_11 rfl (lv_at hl 0 rfl) ?_
    refine x_geti X Y cl_2 rfl (by decide) 1 (by decide) rfl wf_X2_15 dX2_code_12 ?_
    refine lv_icmp_ge (tgt := 42) hx hb dX2_code_15 (by decide) (fun c => ?_) (fun c => ?_)
    · have hf := ite_t c hf
      refine lv_iconst (v := 0) hx hb dX2_code_42 (by decide) ?_
      exact x_iret X Y hr hlk hf dX2_code_43
    · have hf := ite_f c hf
      refine lv_aload_n hx hb dX2_code_18 rfl (lv_at hl 0 rfl) ?_
      refine x_geti X Y cl_2 rfl (by decide) 7 (by decide) rfl wf_X2_34 dX2_code_19 ?_
      refine lv_aload_n hx hb dX2_code_22 rfl (lv_at hl 0 rfl) ?_
      refine x_get (v := .ref (gR g 52)) X Y cl_2 rfl (by decide) 0 (by decide) wf_X2_9 rfl dX2_code_23 ?_
      refine x_len (v := 80) X Y rfl (by decide) dX2_code_26 ?_
      refine lv_icmp_ge (tgt := 42) hx hb dX2_code_27 (by decide) (fun c => ?_) (fun c => ?_)
      · have hf := ite_t c hf
        refine lv_iconst (v := 0) hx hb dX2_code_42 (by decide) ?_
        exact x_iret X Y hr hlk hf dX2_code_43
      · have hf := ite_f c hf
        refine lv_aload_n hx hb dX2_code_30 rfl (lv_at hl 0 rfl) ?_
        refine x_get (v := .ref (gR g 52)) X Y cl_2 rfl (by decide) 0 (by decide) wf_X2_9 rfl dX2_code_31 ?_
        refine lv_aload_n hx hb dX2_code_34 rfl (lv_at hl 0 rfl) ?_
        refine x_geti X Y cl_2 rfl (by decide) 7 (by decide) rfl wf_X2_34 dX2_code_35 ?_
        obtain ⟨hin, hf⟩ := oob_t hf
        refine x_iald X Y rfl hin dX2_code_38 ?_
        refine lv_goto (tgt := 43) hx hb dX2_code_39 (by decide) ?_
        exact x_iret X Y hr hlk hf dX2_code_43
def f_X2_addStep (v1 : Int32) (v2 : Int32) (v3 : Int32) (I : HI) : Option (Int32 × HI) :=
  (f_X5_writeAt 53 (I 51 6) v1 I).bind fun q6 =>
  (f_X5_writeAt 54 (q6.2 51 6) v2 q6.2).bind fun q7 =>
  (f_X5_writeAt 55 (q7.2 51 6) v3 q7.2).bind fun q8 =>
  (f_X5_writeAt 56 (q8.2 51 6) (0 : Int32) q8.2).bind fun q9 =>
  let I10 := upI q9.2 51 6 ((q9.2 51 6) + (1 : Int32))
  some (0, I10)
abbrev rm_X2_addStep : Room := { frames := 1, cells := 0, slots := 0, locals := 22 }
set_option maxHeartbeats 4000000 in
set_option maxRecDepth 100000 in
theorem c_X2_addStep {l : Launch} {g : GX} (hg : gOk g) {v1 : Int32} {v2 : Int32} {v3 : Int32} {I : HI} {r : Int32 × HI} (hf : f_X2_addStep v1 v2 v3 I = some r) : Met l yX2_addStep (Cond.code yX2_addStep cX2_addStep 4 none :: WL) rm_X2_addStep (xP g [.ref (gR g 51), .int v1, .int v2, .int v3] I) (xQv g r.2) 0 0 (gA g) := by
  refine x_met (by decide) hg (Nat.le_of_ble_eq_true rfl) (fun p e s m args below meth c X hr hlk Y ls hl => ?_)
  have hx := X.hx
  have hb := X.hb
  have hl : lv_has ls 4 [(0, .ref (gR g 51)), (1, .int v1), (2, .int v2), (3, .int v3)] := hl
  unfold f_X2_addStep at hf
  refine lv_aload_n hx hb dX2_addStep_0 rfl (lv_at hl 0 rfl) ?_
  refine x_get (v := .ref (gR g 53)) X Y cl_2 rfl (by decide) 2 (by decide) wf_X2_19 rfl dX2_addStep_1 ?_
  refine lv_aload_n hx hb dX2_addStep_4 rfl (lv_at hl 0 rfl) ?_
  refine x_geti X Y cl_2 rfl (by decide) 6 (by decide) rfl wf_X2_31 dX2_addStep_5 ?_
  refine lv_iload_n hx hb dX2_addStep_8 rfl (lv_at hl 1 rfl) ?_
  obtain ⟨q6, hq, hf⟩ := bnd_t hf
  refine x_cv Y (x_rSN (rest := []) X Y k_X2_46 (c_X5_writeAt X.hg hq) rfl ⟨rfl, rfl⟩ ⟨by decide, by decide⟩ hl.1 rfl (Nat.le_of_ble_eq_true rfl) dX2_addStep_9 ⟨Nat.zero_le _, Nat.zero_le _⟩) (fun H locs Y => ?_)
  refine lv_aload_n hx hb dX2_addStep_12 rfl (lv_at hl 0 rfl) ?_
  refine x_get (v := .ref (gR g 54)) X Y cl_2 rfl (by decide) 3 (by decide) wf_X2_22 rfl dX2_addStep_13 ?_
  refine lv_aload_n hx hb dX2_addStep_16 rfl (lv_at hl 0 rfl) ?_
  refine x_geti X Y cl_2 rfl (by decide) 6 (by decide) rfl wf_X2_31 dX2_addStep_17 ?_
  refine lv_iload_n hx hb dX2_addStep_20 rfl (lv_at hl 2 rfl) ?_
  obtain ⟨q7, hq, hf⟩ := bnd_t hf
  refine x_cv Y (x_rSN (rest := []) X Y k_X2_46 (c_X5_writeAt X.hg hq) rfl ⟨rfl, rfl⟩ ⟨by decide, by decide⟩ hl.1 rfl (Nat.le_of_ble_eq_true rfl) dX2_addStep_21 ⟨Nat.zero_le _, Nat.zero_le _⟩) (fun H locs Y => ?_)
  refine lv_aload_n hx hb dX2_addStep_24 rfl (lv_at hl 0 rfl) ?_
  refine x_get (v := .ref (gR g 55)) X Y cl_2 rfl (by decide) 4 (by decide) wf_X2_25 rfl dX2_addStep_25 ?_
  refine lv_aload_n hx hb dX2_addStep_28 rfl (lv_at hl 0 rfl) ?_
  refine x_geti X Y cl_2 rfl (by decide) 6 (by decide) rfl wf_X2_31 dX2_addStep_29 ?_
  refine lv_iload_n hx hb dX2_addStep_32 rfl (lv_at hl 3 rfl) ?_
  obtain ⟨q8, hq, hf⟩ := bnd_t hf
  refine x_cv Y (x_rSN (rest := []) X Y k_X2_46 (c_X5_writeAt X.hg hq) rfl ⟨rfl, rfl⟩ ⟨by decide, by decide⟩ hl.1 rfl (Nat.le_of_ble_eq_true rfl) dX2_addStep_33 ⟨Nat.zero_le _, Nat.zero_le _⟩) (fun H locs Y => ?_)
  refine lv_aload_n hx hb dX2_addStep_36 rfl (lv_at hl 0 rfl) ?_
  refine x_get (v := .ref (gR g 56)) X Y cl_2 rfl (by decide) 5 (by decide) wf_X2_28 rfl dX2_addStep_37 ?_
  refine lv_aload_n hx hb dX2_addStep_40 rfl (lv_at hl 0 rfl) ?_
  refine x_geti X Y cl_2 rfl (by decide) 6 (by decide) rfl wf_X2_31 dX2_addStep_41 ?_
  refine lv_iconst (v := 0) hx hb dX2_addStep_44 (by decide) ?_
  obtain ⟨q9, hq, hf⟩ := bnd_t hf
  refine x_cv Y (x_rSN (rest := []) X Y k_X2_46 (c_X5_writeAt X.hg hq) rfl ⟨rfl, rfl⟩ ⟨by decide, by decide⟩ hl.1 rfl (Nat.le_of_ble_eq_true rfl) dX2_addStep_45 ⟨Nat.zero_le _, Nat.zero_le _⟩) (fun H locs Y => ?_)
  refine lv_aload_n hx hb dX2_addStep_48 rfl (lv_at hl 0 rfl) ?_
  refine lv_dup hx hb dX2_addStep_49 rfl ?_
  refine x_geti X Y cl_2 rfl (by decide) 6 (by decide) rfl wf_X2_31 dX2_addStep_50 ?_
  refine lv_iconst (v := 1) hx hb dX2_addStep_53 (by decide) ?_
  refine lv_iadd hx hb dX2_addStep_54 ?_
  refine x_put X Y cl_2 rfl (by decide) 6 (by decide) rfl wf_X2_31 rfl rfl rfl dX2_addStep_55 (fun H locs Y => ?_)
  exact x_vret X Y hr hlk hf dX2_addStep_58
def f_X2_readKind (I : HI) : Option (Int32 × HI) :=
  let I5 := upI I 51 7 ((I 51 7) + (1 : Int32))
  (f_X2_code I5).bind fun q6 =>
  if q6.1 < (48 : Int32) then
    some ((0 : Int32), q6.2)
  else
    if q6.1 ≤ (50 : Int32) then
      let I7 := upI q6.2 51 7 ((q6.2 51 7) + (1 : Int32))
      (f_X2_addStep (0 : Int32) (q6.1 - (48 : Int32)) (1 : Int32) I7).bind fun q8 =>
      some ((1 : Int32), q8.2)
    else
      some ((0 : Int32), q6.2)
abbrev rm_X2_readKind : Room := { frames := 2, cells := 0, slots := 0, locals := 45 }
set_option maxHeartbeats 4000000 in
set_option maxRecDepth 100000 in
theorem c_X2_readKind {l : Launch} {g : GX} (hg : gOk g) {I : HI} {r : Int32 × HI} (hf : f_X2_readKind I = some r) : Met l yX2_readKind (Cond.code yX2_readKind cX2_readKind 2 (some .boolean) :: WL) rm_X2_readKind (xP g [.ref (gR g 51)] I) (xQi g r.1 r.2) 0 0 (gA g) := by
  refine x_met (by decide) hg (Nat.le_of_ble_eq_true rfl) (fun p e s m args below meth c X hr hlk Y ls hl => ?_)
  have hx := X.hx
  have hb := X.hb
  have hl : lv_has ls 2 [(0, .ref (gR g 51))] := hl
  unfold f_X2_readKind at hf
  refine lv_aload_n hx hb dX2_readKind_0 rfl (lv_at hl 0 rfl) ?_
  refine lv_dup hx hb dX2_readKind_1 rfl ?_
  refine x_geti X Y cl_2 rfl (by decide) 7 (by decide) rfl wf_X2_34 dX2_readKind_2 ?_
  refine lv_iconst (v := 1) hx hb dX2_readKind_5 (by decide) ?_
  refine lv_iadd hx hb dX2_readKind_6 ?_
  refine x_put X Y cl_2 rfl (by decide) 7 (by decide) rfl wf_X2_34 rfl rfl rfl dX2_readKind_7 (fun H locs Y => ?_)
  refine lv_aload_n hx hb dX2_readKind_10 rfl (lv_at hl 0 rfl) ?_
  obtain ⟨q6, hq, hf⟩ := bnd_t hf
  refine x_ci Y (x_rV (rest := []) X Y k_X2_58 (c_X2_code X.hg hq) cl_2.1 rfl (by decide) rfl ⟨rfl, rfl⟩ ⟨by decide, by decide⟩ hl.1 rfl (Nat.le_of_ble_eq_true rfl) dX2_readKind_11 ⟨Nat.zero_le _, Nat.zero_le _⟩) (fun H locs Y => ?_)
  refine lv_istore_n (lv' := [(1, _), (0, _)]) hx hb dX2_readKind_14 rfl hl (by decide) rfl (fun ls hl => ?_)
  refine lv_iload_n hx hb dX2_readKind_15 rfl (lv_at hl 0 rfl) ?_
  refine lv_bipush (v := 48) hx hb dX2_readKind_16 (by decide) ?_
  refine lv_icmp_lt (tgt := 27) hx hb dX2_readKind_18 (by decide) (fun c => ?_) (fun c => ?_)
  · have hf := ite_t c hf
    refine lv_iconst (v := 0) hx hb dX2_readKind_27 (by decide) ?_
    exact x_zret X Y hr hlk rfl hf dX2_readKind_28
  · have hf := ite_f c hf
    refine lv_iload_n hx hb dX2_readKind_21 rfl (lv_at hl 0 rfl) ?_
    refine lv_bipush (v := 50) hx hb dX2_readKind_22 (by decide) ?_
    refine lv_icmp_le (tgt := 29) hx hb dX2_readKind_24 (by decide) (fun c => ?_) (fun c => ?_)
    · have hf := ite_t c hf
      refine lv_aload_n hx hb dX2_readKind_29 rfl (lv_at hl 1 rfl) ?_
      refine lv_dup hx hb dX2_readKind_30 rfl ?_
      refine x_geti X Y cl_2 rfl (by decide) 7 (by decide) rfl wf_X2_34 dX2_readKind_31 ?_
      refine lv_iconst (v := 1) hx hb dX2_readKind_34 (by decide) ?_
      refine lv_iadd hx hb dX2_readKind_35 ?_
      refine x_put X Y cl_2 rfl (by decide) 7 (by decide) rfl wf_X2_34 rfl rfl rfl dX2_readKind_36 (fun H locs Y => ?_)
      refine lv_aload_n hx hb dX2_readKind_39 rfl (lv_at hl 1 rfl) ?_
      refine lv_iconst (v := 0) hx hb dX2_readKind_40 (by decide) ?_
      refine lv_iload_n hx hb dX2_readKind_41 rfl (lv_at hl 0 rfl) ?_
      refine lv_bipush (v := 48) hx hb dX2_readKind_42 (by decide) ?_
      refine lv_isub hx hb dX2_readKind_44 ?_
      refine lv_iconst (v := 1) hx hb dX2_readKind_45 (by decide) ?_
      obtain ⟨q8, hq, hf⟩ := bnd_t hf
      refine x_cv Y (x_rV (rest := []) X Y k_X2_68 (c_X2_addStep X.hg hq) cl_2.1 rfl (by decide) rfl ⟨rfl, rfl⟩ ⟨by decide, by decide⟩ hl.1 rfl (Nat.le_of_ble_eq_true rfl) dX2_readKind_46 ⟨Nat.zero_le _, Nat.zero_le _⟩) (fun H locs Y => ?_)
      refine lv_iconst (v := 1) hx hb dX2_readKind_49 (by decide) ?_
      exact x_zret X Y hr hlk rfl hf dX2_readKind_50
    · have hf := ite_f c hf
      refine lv_iconst (v := 0) hx hb dX2_readKind_27 (by decide) ?_
      exact x_zret X Y hr hlk rfl hf dX2_readKind_28
def f_X2_isDigit (v0 : Int32) (I : HI) : Option (Int32 × HI) :=
  if v0 < (48 : Int32) then
    some ((0 : Int32), I)
  else
    if (57 : Int32) < v0 then
      some ((0 : Int32), I)
    else
      some ((1 : Int32), I)
abbrev rm_X2_isDigit : Room := { frames := 0, cells := 0, slots := 0, locals := 0 }
set_option maxHeartbeats 4000000 in
set_option maxRecDepth 100000 in
theorem c_X2_isDigit {l : Launch} {g : GX} (hg : gOk g) {v0 : Int32} {I : HI} {r : Int32 × HI} (hf : f_X2_isDigit v0 I = some r) : Met l yX2_isDigit (Cond.code yX2_isDigit cX2_isDigit 1 (some .boolean) :: WL) rm_X2_isDigit (xP g [.int v0] I) (xQi g r.1 r.2) 0 0 (gA g) := by
  refine x_met (by decide) hg (Nat.le_of_ble_eq_true rfl) (fun p e s m args below meth c X hr hlk Y ls hl => ?_)
  have hx := X.hx
  have hb := X.hb
  have hl : lv_has ls 1 [(0, .int v0)] := hl
  unfold f_X2_isDigit at hf
  refine lv_iload_n hx hb dX2_isDigit_0 rfl (lv_at hl 0 rfl) ?_
  refine lv_bipush (v := 48) hx hb dX2_isDigit_1 (by decide) ?_
  refine lv_icmp_lt (tgt := 16) hx hb dX2_isDigit_3 (by decide) (fun c => ?_) (fun c => ?_)
  · have hf := ite_t c hf
    refine lv_iconst (v := 0) hx hb dX2_isDigit_16 (by decide) ?_
    exact x_zret X Y hr hlk rfl hf dX2_isDigit_17
  · have hf := ite_f c hf
    refine lv_iload_n hx hb dX2_isDigit_6 rfl (lv_at hl 0 rfl) ?_
    refine lv_bipush (v := 57) hx hb dX2_isDigit_7 (by decide) ?_
    refine lv_icmp_gt (tgt := 16) hx hb dX2_isDigit_9 (by decide) (fun c => ?_) (fun c => ?_)
    · have hf := ite_t c hf
      refine lv_iconst (v := 0) hx hb dX2_isDigit_16 (by decide) ?_
      exact x_zret X Y hr hlk rfl hf dX2_isDigit_17
    · have hf := ite_f c hf
      refine lv_iconst (v := 1) hx hb dX2_isDigit_12 (by decide) ?_
      refine lv_goto (tgt := 17) hx hb dX2_isDigit_13 (by decide) ?_
      exact x_zret X Y hr hlk rfl hf dX2_isDigit_17
def f_X2_readNumber_L35_b (k : Int32 → HI → Option (Int32 × HI)) (v1 : Int32) (I : HI) : Option (Int32 × HI) :=
  if (80 : Int32) ≤ v1 then
    some ((1 : Int32), I)
  else
    (f_X2_code I).bind fun q11 =>
    (f_X2_isDigit q11.1 q11.2).bind fun q12 =>
    if q12.1 = (0 : Int32) then
      some ((1 : Int32), q12.2)
    else
      (f_X2_code q12.2).bind fun q13 =>
      let x14 := (((q12.2 51 8) * (10 : Int32)) + q13.1) - (48 : Int32)
      if (q13.2 51 8) = (0 : Int32) then
        some ((0 : Int32), q13.2)
      else
        if x14 ≤ (100 : Int32) then
          let I15 := upI q13.2 51 8 x14
          let I16 := upI I15 51 7 ((I15 51 7) + (1 : Int32))
          k (v1 + (1 : Int32)) I16
        else
          some ((0 : Int32), q13.2)
def f_X2_readNumber_L35 : Nat → Int32 → HI → Option (Int32 × HI)
  | 0, _, _ => none
  | n + 1, v1, I => f_X2_readNumber_L35_b (f_X2_readNumber_L35 n) v1 I
def f_X2_readNumber (I : HI) : Option (Int32 × HI) :=
  (f_X2_code I).bind fun q17 =>
  (f_X2_isDigit q17.1 q17.2).bind fun q18 =>
  if q18.1 = (0 : Int32) then
    some ((0 : Int32), q18.2)
  else
    (f_X2_code q18.2).bind fun q19 =>
    let I20 := upI q19.2 51 8 (q19.1 - (48 : Int32))
    let I21 := upI I20 51 7 ((I20 51 7) + (1 : Int32))
    f_X2_readNumber_L35 4000 (0 : Int32) I21
abbrev rm_X2_readNumber : Room := { frames := 1, cells := 0, slots := 0, locals := 20 }
set_option maxHeartbeats 4000000 in
set_option maxRecDepth 100000 in
theorem c_X2_readNumber {l : Launch} {g : GX} (hg : gOk g) {I : HI} {r : Int32 × HI} (hf : f_X2_readNumber I = some r) : Met l yX2_readNumber (Cond.code yX2_readNumber cX2_readNumber 3 (some .boolean) :: WL) rm_X2_readNumber (xP g [.ref (gR g 51)] I) (xQi g r.1 r.2) 0 0 (gA g) := by
  refine x_met (by decide) hg (Nat.le_of_ble_eq_true rfl) (fun p e s m args below meth c X hr hlk Y ls hl => ?_)
  have hx := X.hx
  have hb := X.hb
  have hl : lv_has ls 3 [(0, .ref (gR g 51))] := hl
  have hL35 : ∀ (n : Nat) (v1 : Int32) (I : HI) (H : Heap) (locs : List Loc) (ls : Array Slot), f_X2_readNumber_L35 n v1 I = some r → XD g I s H locs → lv_has ls 3 [(0, .ref (gR g 51)), (1, .int v1)] → W p l e rm_X2_readNumber s m args below meth c H locs 0 0 (MQ below (xQi g r.1 r.2) args s 0 0 (gA g)) (F0 m 35 ls []) := by
    intro n
    induction n with
    | zero => intro v1 I H locs ls hf Y hl; exact nn_t hf
    | succ n ih =>
      intro v1 I H locs ls hf Y hl
      have hf : f_X2_readNumber_L35_b (f_X2_readNumber_L35 n) v1 I = some r := hf
      unfold f_X2_readNumber_L35_b at hf
      refine lv_iload_n hx hb dX2_readNumber_35 rfl (lv_at hl 1 rfl) ?_
      refine lv_bipush (v := 80) hx hb dX2_readNumber_36 (by decide) ?_
      refine lv_icmp_ge (tgt := 103) hx hb dX2_readNumber_38 (by decide) (fun c => ?_) (fun c => ?_)
      · have hf := ite_t c hf
        refine lv_iconst (v := 1) hx hb dX2_readNumber_103 (by decide) ?_
        exact x_zret X Y hr hlk rfl hf dX2_readNumber_104
      · have hf := ite_f c hf
        refine lv_aload_n hx hb dX2_readNumber_41 rfl (lv_at hl 0 rfl) ?_
        obtain ⟨q11, hq, hf⟩ := bnd_t hf
        refine x_ci Y (x_rV (rest := []) X Y k_X2_58 (c_X2_code X.hg hq) cl_2.1 rfl (by decide) rfl ⟨rfl, rfl⟩ ⟨by decide, by decide⟩ hl.1 rfl (Nat.le_of_ble_eq_true rfl) dX2_readNumber_42 ⟨Nat.zero_le _, Nat.zero_le _⟩) (fun H locs Y => ?_)
        obtain ⟨q12, hq, hf⟩ := bnd_t hf
        refine x_ci Y (x_rS (rest := []) X Y k_X2_81 (c_X2_isDigit X.hg hq) rfl ⟨rfl, rfl⟩ ⟨by decide, by decide⟩ hl.1 rfl (Nat.le_of_ble_eq_true rfl) dX2_readNumber_45 ⟨Nat.zero_le _, Nat.zero_le _⟩) (fun H locs Y => ?_)
        refine lv_if_eq (tgt := 103) hx hb dX2_readNumber_48 (by decide) (fun c => ?_) (fun c => ?_)
        · have hf := ite_t c hf
          refine lv_iconst (v := 1) hx hb dX2_readNumber_103 (by decide) ?_
          exact x_zret X Y hr hlk rfl hf dX2_readNumber_104
        · have hf := ite_f c hf
          refine lv_aload_n hx hb dX2_readNumber_51 rfl (lv_at hl 0 rfl) ?_
          refine x_geti X Y cl_2 rfl (by decide) 8 (by decide) rfl wf_X2_37 dX2_readNumber_52 ?_
          refine lv_bipush (v := 10) hx hb dX2_readNumber_55 (by decide) ?_
          refine lv_imul hx hb dX2_readNumber_57 ?_
          refine lv_aload_n hx hb dX2_readNumber_58 rfl (lv_at hl 0 rfl) ?_
          obtain ⟨q13, hq, hf⟩ := bnd_t hf
          refine x_ci Y (x_rV (rest := [_]) X Y k_X2_58 (c_X2_code X.hg hq) cl_2.1 rfl (by decide) rfl ⟨rfl, rfl⟩ ⟨by decide, by decide⟩ hl.1 rfl (Nat.le_of_ble_eq_true rfl) dX2_readNumber_59 ⟨Nat.zero_le _, Nat.zero_le _⟩) (fun H locs Y => ?_)
          refine lv_iadd hx hb dX2_readNumber_62 ?_
          refine lv_bipush (v := 48) hx hb dX2_readNumber_63 (by decide) ?_
          refine lv_isub hx hb dX2_readNumber_65 ?_
          refine lv_istore_n (lv' := [(2, _), (0, _), (1, _)]) hx hb dX2_readNumber_66 rfl hl (by decide) rfl (fun ls hl => ?_)
          refine lv_aload_n hx hb dX2_readNumber_67 rfl (lv_at hl 1 rfl) ?_
          refine x_geti X Y cl_2 rfl (by decide) 8 (by decide) rfl wf_X2_37 dX2_readNumber_68 ?_
          refine lv_if_eq (tgt := 80) hx hb dX2_readNumber_71 (by decide) (fun c => ?_) (fun c => ?_)
          · have hf := ite_t c hf
            refine lv_iconst (v := 0) hx hb dX2_readNumber_80 (by decide) ?_
            exact x_zret X Y hr hlk rfl hf dX2_readNumber_81
          · have hf := ite_f c hf
            refine lv_iload_n hx hb dX2_readNumber_74 rfl (lv_at hl 0 rfl) ?_
            refine lv_bipush (v := 100) hx hb dX2_readNumber_75 (by decide) ?_
            refine lv_icmp_le (tgt := 82) hx hb dX2_readNumber_77 (by decide) (fun c => ?_) (fun c => ?_)
            · have hf := ite_t c hf
              refine lv_aload_n hx hb dX2_readNumber_82 rfl (lv_at hl 1 rfl) ?_
              refine lv_iload_n hx hb dX2_readNumber_83 rfl (lv_at hl 0 rfl) ?_
              refine x_put X Y cl_2 rfl (by decide) 8 (by decide) rfl wf_X2_37 rfl rfl rfl dX2_readNumber_84 (fun H locs Y => ?_)
              refine lv_aload_n hx hb dX2_readNumber_87 rfl (lv_at hl 1 rfl) ?_
              refine lv_dup hx hb dX2_readNumber_88 rfl ?_
              refine x_geti X Y cl_2 rfl (by decide) 7 (by decide) rfl wf_X2_34 dX2_readNumber_89 ?_
              refine lv_iconst (v := 1) hx hb dX2_readNumber_92 (by decide) ?_
              refine lv_iadd hx hb dX2_readNumber_93 ?_
              refine x_put X Y cl_2 rfl (by decide) 7 (by decide) rfl wf_X2_34 rfl rfl rfl dX2_readNumber_94 (fun H locs Y => ?_)
              refine lv_iinc (v := _ + (1 : Int32)) (lv' := [(1, _), (2, _), (0, _)]) hx hb dX2_readNumber_97 hl (k := 2) rfl rfl (by decide) rfl (fun ls hl => ?_)
              refine lv_goto (tgt := 35) hx hb dX2_readNumber_100 (by decide) ?_
              exact ih _ _ _ _ _ hf Y (lv_sub hl [2, 0] rfl)
            · have hf := ite_f c hf
              refine lv_iconst (v := 0) hx hb dX2_readNumber_80 (by decide) ?_
              exact x_zret X Y hr hlk rfl hf dX2_readNumber_81
  unfold f_X2_readNumber at hf
  refine lv_aload_n hx hb dX2_readNumber_0 rfl (lv_at hl 0 rfl) ?_
  obtain ⟨q17, hq, hf⟩ := bnd_t hf
  refine x_ci Y (x_rV (rest := []) X Y k_X2_58 (c_X2_code X.hg hq) cl_2.1 rfl (by decide) rfl ⟨rfl, rfl⟩ ⟨by decide, by decide⟩ hl.1 rfl (Nat.le_of_ble_eq_true rfl) dX2_readNumber_1 ⟨Nat.zero_le _, Nat.zero_le _⟩) (fun H locs Y => ?_)
  obtain ⟨q18, hq, hf⟩ := bnd_t hf
  refine x_ci Y (x_rS (rest := []) X Y k_X2_81 (c_X2_isDigit X.hg hq) rfl ⟨rfl, rfl⟩ ⟨by decide, by decide⟩ hl.1 rfl (Nat.le_of_ble_eq_true rfl) dX2_readNumber_4 ⟨Nat.zero_le _, Nat.zero_le _⟩) (fun H locs Y => ?_)
  refine lv_if_ne (tgt := 12) hx hb dX2_readNumber_7 (by decide) (fun c => ?_) (fun c => ?_)
  · have hf := ite_f c hf
    refine lv_aload_n hx hb dX2_readNumber_12 rfl (lv_at hl 0 rfl) ?_
    refine lv_aload_n hx hb dX2_readNumber_13 rfl (lv_at hl 0 rfl) ?_
    obtain ⟨q19, hq, hf⟩ := bnd_t hf
    refine x_ci Y (x_rV (rest := [_]) X Y k_X2_58 (c_X2_code X.hg hq) cl_2.1 rfl (by decide) rfl ⟨rfl, rfl⟩ ⟨by decide, by decide⟩ hl.1 rfl (Nat.le_of_ble_eq_true rfl) dX2_readNumber_14 ⟨Nat.zero_le _, Nat.zero_le _⟩) (fun H locs Y => ?_)
    refine lv_bipush (v := 48) hx hb dX2_readNumber_17 (by decide) ?_
    refine lv_isub hx hb dX2_readNumber_19 ?_
    refine x_put X Y cl_2 rfl (by decide) 8 (by decide) rfl wf_X2_37 rfl rfl rfl dX2_readNumber_20 (fun H locs Y => ?_)
    refine lv_aload_n hx hb dX2_readNumber_23 rfl (lv_at hl 0 rfl) ?_
    refine lv_dup hx hb dX2_readNumber_24 rfl ?_
    refine x_geti X Y cl_2 rfl (by decide) 7 (by decide) rfl wf_X2_34 dX2_readNumber_25 ?_
    refine lv_iconst (v := 1) hx hb dX2_readNumber_28 (by decide) ?_
    refine lv_iadd hx hb dX2_readNumber_29 ?_
    refine x_put X Y cl_2 rfl (by decide) 7 (by decide) rfl wf_X2_34 rfl rfl rfl dX2_readNumber_30 (fun H locs Y => ?_)
    refine lv_iconst (v := 0) hx hb dX2_readNumber_33 (by decide) ?_
    refine lv_istore_n (lv' := [(1, _), (0, _)]) hx hb dX2_readNumber_34 rfl hl (by decide) rfl (fun ls hl => ?_)
    exact hL35 _ _ _ _ _ _ hf Y (lv_sub hl [1, 0] rfl)
  · have hf := ite_t c hf
    refine lv_iconst (v := 0) hx hb dX2_readNumber_10 (by decide) ?_
    exact x_zret X Y hr hlk rfl hf dX2_readNumber_11
def f_X2_readValue_J29 (v1 : Int32) (I : HI) : Option (Int32 × HI) :=
  (f_X2_readNumber I).bind fun q5 =>
  if q5.1 = (0 : Int32) then
    some ((0 : Int32), q5.2)
  else
    if v1 = (0 : Int32) then
      some ((1 : Int32), q5.2)
    else
      let I6 := upI q5.2 51 8 (-(q5.2 51 8))
      some ((1 : Int32), I6)
def f_X2_readValue_J14 (w0 : Int32) (I : HI) : Option (Int32 × HI) :=
  if w0 = (0 : Int32) then
    f_X2_readValue_J29 w0 I
  else
    let I7 := upI I 51 7 ((I 51 7) + (1 : Int32))
    f_X2_readValue_J29 w0 I7
def f_X2_readValue (I : HI) : Option (Int32 × HI) :=
  (f_X2_code I).bind fun q8 =>
  if q8.1 = (45 : Int32) then
    f_X2_readValue_J14 (1 : Int32) q8.2
  else
    f_X2_readValue_J14 (0 : Int32) q8.2
abbrev rm_X2_readValue : Room := { frames := 2, cells := 0, slots := 0, locals := 42 }
set_option maxHeartbeats 4000000 in
set_option maxRecDepth 100000 in
theorem c_X2_readValue {l : Launch} {g : GX} (hg : gOk g) {I : HI} {r : Int32 × HI} (hf : f_X2_readValue I = some r) : Met l yX2_readValue (Cond.code yX2_readValue cX2_readValue 2 (some .boolean) :: WL) rm_X2_readValue (xP g [.ref (gR g 51)] I) (xQi g r.1 r.2) 0 0 (gA g) := by
  refine x_met (by decide) hg (Nat.le_of_ble_eq_true rfl) (fun p e s m args below meth c X hr hlk Y ls hl => ?_)
  have hx := X.hx
  have hb := X.hb
  have hl : lv_has ls 2 [(0, .ref (gR g 51))] := hl
  have hJ29 : ∀ (v1 : Int32) (I : HI) (H : Heap) (locs : List Loc) (ls : Array Slot), f_X2_readValue_J29 v1 I = some r → XD g I s H locs → lv_has ls 2 [(0, .ref (gR g 51)), (1, .int v1)] → W p l e rm_X2_readValue s m args below meth c H locs 0 0 (MQ below (xQi g r.1 r.2) args s 0 0 (gA g)) (F0 m 29 ls []) := by
    intro v1 I H locs ls hf Y hl
    unfold f_X2_readValue_J29 at hf
    refine lv_aload_n hx hb dX2_readValue_29 rfl (lv_at hl 0 rfl) ?_
    obtain ⟨q5, hq, hf⟩ := bnd_t hf
    refine x_ci Y (x_rV (rest := []) X Y k_X2_78 (c_X2_readNumber X.hg hq) cl_2.1 rfl (by decide) rfl ⟨rfl, rfl⟩ ⟨by decide, by decide⟩ hl.1 rfl (Nat.le_of_ble_eq_true rfl) dX2_readValue_30 ⟨Nat.zero_le _, Nat.zero_le _⟩) (fun H locs Y => ?_)
    refine lv_if_ne (tgt := 38) hx hb dX2_readValue_33 (by decide) (fun c => ?_) (fun c => ?_)
    · have hf := ite_f c hf
      refine lv_iload_n hx hb dX2_readValue_38 rfl (lv_at hl 1 rfl) ?_
      refine lv_if_eq (tgt := 51) hx hb dX2_readValue_39 (by decide) (fun c => ?_) (fun c => ?_)
      · have hf := ite_t c hf
        refine lv_iconst (v := 1) hx hb dX2_readValue_51 (by decide) ?_
        exact x_zret X Y hr hlk rfl hf dX2_readValue_52
      · have hf := ite_f c hf
        refine lv_aload_n hx hb dX2_readValue_42 rfl (lv_at hl 0 rfl) ?_
        refine lv_aload_n hx hb dX2_readValue_43 rfl (lv_at hl 0 rfl) ?_
        refine x_geti X Y cl_2 rfl (by decide) 8 (by decide) rfl wf_X2_37 dX2_readValue_44 ?_
        refine lv_ineg hx hb dX2_readValue_47 ?_
        refine x_put X Y cl_2 rfl (by decide) 8 (by decide) rfl wf_X2_37 rfl rfl rfl dX2_readValue_48 (fun H locs Y => ?_)
        refine lv_iconst (v := 1) hx hb dX2_readValue_51 (by decide) ?_
        exact x_zret X Y hr hlk rfl hf dX2_readValue_52
    · have hf := ite_t c hf
      refine lv_iconst (v := 0) hx hb dX2_readValue_36 (by decide) ?_
      exact x_zret X Y hr hlk rfl hf dX2_readValue_37
  have hJ14 : ∀ (w0 : Int32) (I : HI) (H : Heap) (locs : List Loc) (ls : Array Slot), f_X2_readValue_J14 w0 I = some r → XD g I s H locs → lv_has ls 2 [(0, .ref (gR g 51))] → W p l e rm_X2_readValue s m args below meth c H locs 0 0 (MQ below (xQi g r.1 r.2) args s 0 0 (gA g)) (F0 m 14 ls [.int w0]) := by
    intro w0 I H locs ls hf Y hl
    unfold f_X2_readValue_J14 at hf
    refine lv_istore_n (lv' := [(1, _), (0, _)]) hx hb dX2_readValue_14 rfl hl (by decide) rfl (fun ls hl => ?_)
    refine lv_iload_n hx hb dX2_readValue_15 rfl (lv_at hl 0 rfl) ?_
    refine lv_if_eq (tgt := 29) hx hb dX2_readValue_16 (by decide) (fun c => ?_) (fun c => ?_)
    · have hf := ite_t c hf
      exact hJ29 _ _ _ _ _ hf Y (lv_sub hl [1, 0] rfl)
    · have hf := ite_f c hf
      refine lv_aload_n hx hb dX2_readValue_19 rfl (lv_at hl 1 rfl) ?_
      refine lv_dup hx hb dX2_readValue_20 rfl ?_
      refine x_geti X Y cl_2 rfl (by decide) 7 (by decide) rfl wf_X2_34 dX2_readValue_21 ?_
      refine lv_iconst (v := 1) hx hb dX2_readValue_24 (by decide) ?_
      refine lv_iadd hx hb dX2_readValue_25 ?_
      refine x_put X Y cl_2 rfl (by decide) 7 (by decide) rfl wf_X2_34 rfl rfl rfl dX2_readValue_26 (fun H locs Y => ?_)
      exact hJ29 _ _ _ _ _ hf Y (lv_sub hl [1, 0] rfl)
  unfold f_X2_readValue at hf
  refine lv_aload_n hx hb dX2_readValue_0 rfl (lv_at hl 0 rfl) ?_
  obtain ⟨q8, hq, hf⟩ := bnd_t hf
  refine x_ci Y (x_rV (rest := []) X Y k_X2_58 (c_X2_code X.hg hq) cl_2.1 rfl (by decide) rfl ⟨rfl, rfl⟩ ⟨by decide, by decide⟩ hl.1 rfl (Nat.le_of_ble_eq_true rfl) dX2_readValue_1 ⟨Nat.zero_le _, Nat.zero_le _⟩) (fun H locs Y => ?_)
  refine lv_bipush (v := 45) hx hb dX2_readValue_4 (by decide) ?_
  refine lv_icmp_ne (tgt := 13) hx hb dX2_readValue_6 (by decide) (fun c => ?_) (fun c => ?_)
  · have hf := ite_f c hf
    refine lv_iconst (v := 0) hx hb dX2_readValue_13 (by decide) ?_
    exact hJ14 _ _ _ _ _ hf Y (lv_sub hl [0] rfl)
  · have hf := ite_t c hf
    refine lv_iconst (v := 1) hx hb dX2_readValue_9 (by decide) ?_
    refine lv_goto (tgt := 14) hx hb dX2_readValue_10 (by decide) ?_
    exact hJ14 _ _ _ _ _ hf Y (lv_sub hl [0] rfl)
def f_X2_readLevel (I : HI) : Option (Int32 × HI) :=
  let I4 := upI I 51 7 ((I 51 7) + (1 : Int32))
  (f_X2_readValue I4).bind fun q5 =>
  if q5.1 = (0 : Int32) then
    some ((0 : Int32), q5.2)
  else
    (f_X2_addStep (1 : Int32) (q5.2 51 8) (1 : Int32) q5.2).bind fun q6 =>
    some ((1 : Int32), q6.2)
abbrev rm_X2_readLevel : Room := { frames := 3, cells := 0, slots := 0, locals := 63 }
set_option maxHeartbeats 4000000 in
set_option maxRecDepth 100000 in
theorem c_X2_readLevel {l : Launch} {g : GX} (hg : gOk g) {I : HI} {r : Int32 × HI} (hf : f_X2_readLevel I = some r) : Met l yX2_readLevel (Cond.code yX2_readLevel cX2_readLevel 1 (some .boolean) :: WL) rm_X2_readLevel (xP g [.ref (gR g 51)] I) (xQi g r.1 r.2) 0 0 (gA g) := by
  refine x_met (by decide) hg (Nat.le_of_ble_eq_true rfl) (fun p e s m args below meth c X hr hlk Y ls hl => ?_)
  have hx := X.hx
  have hb := X.hb
  have hl : lv_has ls 1 [(0, .ref (gR g 51))] := hl
  unfold f_X2_readLevel at hf
  refine lv_aload_n hx hb dX2_readLevel_0 rfl (lv_at hl 0 rfl) ?_
  refine lv_dup hx hb dX2_readLevel_1 rfl ?_
  refine x_geti X Y cl_2 rfl (by decide) 7 (by decide) rfl wf_X2_34 dX2_readLevel_2 ?_
  refine lv_iconst (v := 1) hx hb dX2_readLevel_5 (by decide) ?_
  refine lv_iadd hx hb dX2_readLevel_6 ?_
  refine x_put X Y cl_2 rfl (by decide) 7 (by decide) rfl wf_X2_34 rfl rfl rfl dX2_readLevel_7 (fun H locs Y => ?_)
  refine lv_aload_n hx hb dX2_readLevel_10 rfl (lv_at hl 0 rfl) ?_
  obtain ⟨q5, hq, hf⟩ := bnd_t hf
  refine x_ci Y (x_rV (rest := []) X Y k_X2_75 (c_X2_readValue X.hg hq) cl_2.1 rfl (by decide) rfl ⟨rfl, rfl⟩ ⟨by decide, by decide⟩ hl.1 rfl (Nat.le_of_ble_eq_true rfl) dX2_readLevel_11 ⟨Nat.zero_le _, Nat.zero_le _⟩) (fun H locs Y => ?_)
  refine lv_if_ne (tgt := 19) hx hb dX2_readLevel_14 (by decide) (fun c => ?_) (fun c => ?_)
  · have hf := ite_f c hf
    refine lv_aload_n hx hb dX2_readLevel_19 rfl (lv_at hl 0 rfl) ?_
    refine lv_iconst (v := 1) hx hb dX2_readLevel_20 (by decide) ?_
    refine lv_aload_n hx hb dX2_readLevel_21 rfl (lv_at hl 0 rfl) ?_
    refine x_geti X Y cl_2 rfl (by decide) 8 (by decide) rfl wf_X2_37 dX2_readLevel_22 ?_
    refine lv_iconst (v := 1) hx hb dX2_readLevel_25 (by decide) ?_
    obtain ⟨q6, hq, hf⟩ := bnd_t hf
    refine x_cv Y (x_rV (rest := []) X Y k_X2_68 (c_X2_addStep X.hg hq) cl_2.1 rfl (by decide) rfl ⟨rfl, rfl⟩ ⟨by decide, by decide⟩ hl.1 rfl (Nat.le_of_ble_eq_true rfl) dX2_readLevel_26 ⟨Nat.zero_le _, Nat.zero_le _⟩) (fun H locs Y => ?_)
    refine lv_iconst (v := 1) hx hb dX2_readLevel_29 (by decide) ?_
    exact x_zret X Y hr hlk rfl hf dX2_readLevel_30
  · have hf := ite_t c hf
    refine lv_iconst (v := 0) hx hb dX2_readLevel_17 (by decide) ?_
    exact x_zret X Y hr hlk rfl hf dX2_readLevel_18
def f_X2_readSample_J49 (v1 : Int32) (v2 : Int32) (I : HI) : Option (Int32 × HI) :=
  (f_X2_addStep (2 : Int32) v1 v2 I).bind fun q6 =>
  some ((1 : Int32), q6.2)
def f_X2_readSample (I : HI) : Option (Int32 × HI) :=
  (f_X2_readValue I).bind fun q7 =>
  if q7.1 = (0 : Int32) then
    some ((0 : Int32), q7.2)
  else
    let x8 := q7.2 51 8
    (f_X2_code q7.2).bind fun q9 =>
    if q9.1 = (42 : Int32) then
      let I10 := upI q9.2 51 7 ((q9.2 51 7) + (1 : Int32))
      (f_X2_readNumber I10).bind fun q11 =>
      if q11.1 = (0 : Int32) then
        some ((0 : Int32), q11.2)
      else
        let x12 := q11.2 51 8
        f_X2_readSample_J49 x8 x12 q11.2
    else
      f_X2_readSample_J49 x8 (1 : Int32) q9.2
abbrev rm_X2_readSample : Room := { frames := 3, cells := 0, slots := 0, locals := 63 }
set_option maxHeartbeats 4000000 in
set_option maxRecDepth 100000 in
theorem c_X2_readSample {l : Launch} {g : GX} (hg : gOk g) {I : HI} {r : Int32 × HI} (hf : f_X2_readSample I = some r) : Met l yX2_readSample (Cond.code yX2_readSample cX2_readSample 3 (some .boolean) :: WL) rm_X2_readSample (xP g [.ref (gR g 51)] I) (xQi g r.1 r.2) 0 0 (gA g) := by
  refine x_met (by decide) hg (Nat.le_of_ble_eq_true rfl) (fun p e s m args below meth c X hr hlk Y ls hl => ?_)
  have hx := X.hx
  have hb := X.hb
  have hl : lv_has ls 3 [(0, .ref (gR g 51))] := hl
  have hJ49 : ∀ (v1 : Int32) (v2 : Int32) (I : HI) (H : Heap) (locs : List Loc) (ls : Array Slot), f_X2_readSample_J49 v1 v2 I = some r → XD g I s H locs → lv_has ls 3 [(0, .ref (gR g 51)), (1, .int v1), (2, .int v2)] → W p l e rm_X2_readSample s m args below meth c H locs 0 0 (MQ below (xQi g r.1 r.2) args s 0 0 (gA g)) (F0 m 49 ls []) := by
    intro v1 v2 I H locs ls hf Y hl
    unfold f_X2_readSample_J49 at hf
    refine lv_aload_n hx hb dX2_readSample_49 rfl (lv_at hl 0 rfl) ?_
    refine lv_iconst (v := 2) hx hb dX2_readSample_50 (by decide) ?_
    refine lv_iload_n hx hb dX2_readSample_51 rfl (lv_at hl 1 rfl) ?_
    refine lv_iload_n hx hb dX2_readSample_52 rfl (lv_at hl 2 rfl) ?_
    obtain ⟨q6, hq, hf⟩ := bnd_t hf
    refine x_cv Y (x_rV (rest := []) X Y k_X2_68 (c_X2_addStep X.hg hq) cl_2.1 rfl (by decide) rfl ⟨rfl, rfl⟩ ⟨by decide, by decide⟩ hl.1 rfl (Nat.le_of_ble_eq_true rfl) dX2_readSample_53 ⟨Nat.zero_le _, Nat.zero_le _⟩) (fun H locs Y => ?_)
    refine lv_iconst (v := 1) hx hb dX2_readSample_56 (by decide) ?_
    exact x_zret X Y hr hlk rfl hf dX2_readSample_57
  unfold f_X2_readSample at hf
  refine lv_aload_n hx hb dX2_readSample_0 rfl (lv_at hl 0 rfl) ?_
  obtain ⟨q7, hq, hf⟩ := bnd_t hf
  refine x_ci Y (x_rV (rest := []) X Y k_X2_75 (c_X2_readValue X.hg hq) cl_2.1 rfl (by decide) rfl ⟨rfl, rfl⟩ ⟨by decide, by decide⟩ hl.1 rfl (Nat.le_of_ble_eq_true rfl) dX2_readSample_1 ⟨Nat.zero_le _, Nat.zero_le _⟩) (fun H locs Y => ?_)
  refine lv_if_ne (tgt := 9) hx hb dX2_readSample_4 (by decide) (fun c => ?_) (fun c => ?_)
  · have hf := ite_f c hf
    refine lv_aload_n hx hb dX2_readSample_9 rfl (lv_at hl 0 rfl) ?_
    refine x_geti X Y cl_2 rfl (by decide) 8 (by decide) rfl wf_X2_37 dX2_readSample_10 ?_
    refine lv_istore_n (lv' := [(1, _), (0, _)]) hx hb dX2_readSample_13 rfl hl (by decide) rfl (fun ls hl => ?_)
    refine lv_iconst (v := 1) hx hb dX2_readSample_14 (by decide) ?_
    refine lv_istore_n (lv' := [(2, _), (1, _), (0, _)]) hx hb dX2_readSample_15 rfl hl (by decide) rfl (fun ls hl => ?_)
    refine lv_aload_n hx hb dX2_readSample_16 rfl (lv_at hl 2 rfl) ?_
    obtain ⟨q9, hq, hf⟩ := bnd_t hf
    refine x_ci Y (x_rV (rest := []) X Y k_X2_58 (c_X2_code X.hg hq) cl_2.1 rfl (by decide) rfl ⟨rfl, rfl⟩ ⟨by decide, by decide⟩ hl.1 rfl (Nat.le_of_ble_eq_true rfl) dX2_readSample_17 ⟨Nat.zero_le _, Nat.zero_le _⟩) (fun H locs Y => ?_)
    refine lv_bipush (v := 42) hx hb dX2_readSample_20 (by decide) ?_
    refine lv_icmp_ne (tgt := 49) hx hb dX2_readSample_22 (by decide) (fun c => ?_) (fun c => ?_)
    · have hf := ite_f c hf
      exact hJ49 _ _ _ _ _ _ hf Y (lv_sub hl [2, 1, 0] rfl)
    · have hf := ite_t c hf
      refine lv_aload_n hx hb dX2_readSample_25 rfl (lv_at hl 2 rfl) ?_
      refine lv_dup hx hb dX2_readSample_26 rfl ?_
      refine x_geti X Y cl_2 rfl (by decide) 7 (by decide) rfl wf_X2_34 dX2_readSample_27 ?_
      refine lv_iconst (v := 1) hx hb dX2_readSample_30 (by decide) ?_
      refine lv_iadd hx hb dX2_readSample_31 ?_
      refine x_put X Y cl_2 rfl (by decide) 7 (by decide) rfl wf_X2_34 rfl rfl rfl dX2_readSample_32 (fun H locs Y => ?_)
      refine lv_aload_n hx hb dX2_readSample_35 rfl (lv_at hl 2 rfl) ?_
      obtain ⟨q11, hq, hf⟩ := bnd_t hf
      refine x_ci Y (x_rV (rest := []) X Y k_X2_78 (c_X2_readNumber X.hg hq) cl_2.1 rfl (by decide) rfl ⟨rfl, rfl⟩ ⟨by decide, by decide⟩ hl.1 rfl (Nat.le_of_ble_eq_true rfl) dX2_readSample_36 ⟨Nat.zero_le _, Nat.zero_le _⟩) (fun H locs Y => ?_)
      refine lv_if_ne (tgt := 44) hx hb dX2_readSample_39 (by decide) (fun c => ?_) (fun c => ?_)
      · have hf := ite_f c hf
        refine lv_aload_n hx hb dX2_readSample_44 rfl (lv_at hl 2 rfl) ?_
        refine x_geti X Y cl_2 rfl (by decide) 8 (by decide) rfl wf_X2_37 dX2_readSample_45 ?_
        refine lv_istore_n (lv' := [(2, _), (1, _), (0, _)]) hx hb dX2_readSample_48 rfl hl (by decide) rfl (fun ls hl => ?_)
        exact hJ49 _ _ _ _ _ _ hf Y (lv_sub hl [2, 1, 0] rfl)
      · have hf := ite_t c hf
        refine lv_iconst (v := 0) hx hb dX2_readSample_42 (by decide) ?_
        exact x_zret X Y hr hlk rfl hf dX2_readSample_43
  · have hf := ite_t c hf
    refine lv_iconst (v := 0) hx hb dX2_readSample_7 (by decide) ?_
    exact x_zret X Y hr hlk rfl hf dX2_readSample_8
def f_X2_readOrder_J125 (v1 : Int32) (I : HI) : Option (Int32 × HI) :=
  (f_X5_writeAt 56 ((I 51 6) - (1 : Int32)) (1 : Int32) I).bind fun q11 =>
  if v1 = 0 ∨ v1 = 1 then some (v1, q11.2) else none
def f_X2_readOrder_L85_b (k : Int32 → Int32 → HI → Option (Int32 × HI)) (v1 : Int32) (v2 : Int32) (I : HI) : Option (Int32 × HI) :=
  if (80 : Int32) ≤ v2 then
    f_X2_readOrder_J125 v1 I
  else
    if v1 = (0 : Int32) then
      f_X2_readOrder_J125 v1 I
    else
      (f_X2_code I).bind fun q12 =>
      if q12.1 = (44 : Int32) then
        let I13 := upI q12.2 51 7 ((q12.2 51 7) + (1 : Int32))
        (f_X2_readSample I13).bind fun q14 =>
        k q14.1 (v2 + (1 : Int32)) q14.2
      else
        f_X2_readOrder_J125 v1 q12.2
def f_X2_readOrder_L85 : Nat → Int32 → Int32 → HI → Option (Int32 × HI)
  | 0, _, _, _ => none
  | n + 1, v1, v2, I => f_X2_readOrder_L85_b (f_X2_readOrder_L85 n) v1 v2 I
def f_X2_readOrder (I : HI) : Option (Int32 × HI) :=
  (f_X2_code I).bind fun q15 =>
  if q15.1 = (99 : Int32) then
    let I17 := upI q15.2 51 7 ((q15.2 51 7) + (1 : Int32))
    (f_X2_addStep (3 : Int32) (0 : Int32) (1 : Int32) I17).bind fun q18 =>
    f_X2_readOrder_J125 (1 : Int32) q18.2
  else
  if q15.1 = (107 : Int32) then
    (f_X2_readKind q15.2).bind fun q20 =>
    f_X2_readOrder_J125 q20.1 q20.2
  else
  if q15.1 = (108 : Int32) then
    (f_X2_readLevel q15.2).bind fun q22 =>
    f_X2_readOrder_J125 q22.1 q22.2
  else
  (f_X2_readSample q15.2).bind fun q23 =>
  f_X2_readOrder_L85 4000 q23.1 (0 : Int32) q23.2
abbrev rm_X2_readOrder : Room := { frames := 4, cells := 0, slots := 0, locals := 85 }
set_option maxHeartbeats 4000000 in
set_option maxRecDepth 100000 in
theorem c_X2_readOrder {l : Launch} {g : GX} (hg : gOk g) {I : HI} {r : Int32 × HI} (hf : f_X2_readOrder I = some r) : Met l yX2_readOrder (Cond.code yX2_readOrder cX2_readOrder 3 (some .boolean) :: WL) rm_X2_readOrder (xP g [.ref (gR g 51)] I) (xQi g r.1 r.2) 0 0 (gA g) := by
  refine x_met (by decide) hg (Nat.le_of_ble_eq_true rfl) (fun p e s m args below meth c X hr hlk Y ls hl => ?_)
  have hx := X.hx
  have hb := X.hb
  have hl : lv_has ls 3 [(0, .ref (gR g 51))] := hl
  have hJ125 : ∀ (v1 : Int32) (I : HI) (H : Heap) (locs : List Loc) (ls : Array Slot), f_X2_readOrder_J125 v1 I = some r → XD g I s H locs → lv_has ls 3 [(0, .ref (gR g 51)), (1, .int v1)] → W p l e rm_X2_readOrder s m args below meth c H locs 0 0 (MQ below (xQi g r.1 r.2) args s 0 0 (gA g)) (F0 m 125 ls []) := by
    intro v1 I H locs ls hf Y hl
    unfold f_X2_readOrder_J125 at hf
    refine lv_aload_n hx hb dX2_readOrder_125 rfl (lv_at hl 0 rfl) ?_
    refine x_get (v := .ref (gR g 56)) X Y cl_2 rfl (by decide) 5 (by decide) wf_X2_28 rfl dX2_readOrder_126 ?_
    refine lv_aload_n hx hb dX2_readOrder_129 rfl (lv_at hl 0 rfl) ?_
    refine x_geti X Y cl_2 rfl (by decide) 6 (by decide) rfl wf_X2_31 dX2_readOrder_130 ?_
    refine lv_iconst (v := 1) hx hb dX2_readOrder_133 (by decide) ?_
    refine lv_isub hx hb dX2_readOrder_134 ?_
    refine lv_iconst (v := 1) hx hb dX2_readOrder_135 (by decide) ?_
    obtain ⟨q11, hq, hf⟩ := bnd_t hf
    refine x_cv Y (x_rSN (rest := []) X Y k_X2_46 (c_X5_writeAt X.hg hq) rfl ⟨rfl, rfl⟩ ⟨by decide, by decide⟩ hl.1 rfl (Nat.le_of_ble_eq_true rfl) dX2_readOrder_136 ⟨Nat.zero_le _, Nat.zero_le _⟩) (fun H locs Y => ?_)
    refine lv_iload_n hx hb dX2_readOrder_139 rfl (lv_at hl 1 rfl) ?_
    obtain ⟨hz, hf⟩ := bool_t hf
    exact x_zret X Y hr hlk hz hf dX2_readOrder_140
  have hL85 : ∀ (n : Nat) (v1 : Int32) (v2 : Int32) (I : HI) (H : Heap) (locs : List Loc) (ls : Array Slot), f_X2_readOrder_L85 n v1 v2 I = some r → XD g I s H locs → lv_has ls 3 [(0, .ref (gR g 51)), (1, .int v1), (2, .int v2)] → W p l e rm_X2_readOrder s m args below meth c H locs 0 0 (MQ below (xQi g r.1 r.2) args s 0 0 (gA g)) (F0 m 85 ls []) := by
    intro n
    induction n with
    | zero => intro v1 v2 I H locs ls hf Y hl; exact nn_t hf
    | succ n ih =>
      intro v1 v2 I H locs ls hf Y hl
      have hf : f_X2_readOrder_L85_b (f_X2_readOrder_L85 n) v1 v2 I = some r := hf
      unfold f_X2_readOrder_L85_b at hf
      refine lv_iload_n hx hb dX2_readOrder_85 rfl (lv_at hl 2 rfl) ?_
      refine lv_bipush (v := 80) hx hb dX2_readOrder_86 (by decide) ?_
      refine lv_icmp_ge (tgt := 125) hx hb dX2_readOrder_88 (by decide) (fun c => ?_) (fun c => ?_)
      · have hf := ite_t c hf
        exact hJ125 _ _ _ _ _ hf Y (lv_sub hl [0, 1] rfl)
      · have hf := ite_f c hf
        refine lv_iload_n hx hb dX2_readOrder_91 rfl (lv_at hl 1 rfl) ?_
        refine lv_if_eq (tgt := 125) hx hb dX2_readOrder_92 (by decide) (fun c => ?_) (fun c => ?_)
        · have hf := ite_t c hf
          exact hJ125 _ _ _ _ _ hf Y (lv_sub hl [0, 1] rfl)
        · have hf := ite_f c hf
          refine lv_aload_n hx hb dX2_readOrder_95 rfl (lv_at hl 0 rfl) ?_
          obtain ⟨q12, hq, hf⟩ := bnd_t hf
          refine x_ci Y (x_rV (rest := []) X Y k_X2_58 (c_X2_code X.hg hq) cl_2.1 rfl (by decide) rfl ⟨rfl, rfl⟩ ⟨by decide, by decide⟩ hl.1 rfl (Nat.le_of_ble_eq_true rfl) dX2_readOrder_96 ⟨Nat.zero_le _, Nat.zero_le _⟩) (fun H locs Y => ?_)
          refine lv_bipush (v := 44) hx hb dX2_readOrder_99 (by decide) ?_
          refine lv_icmp_ne (tgt := 125) hx hb dX2_readOrder_101 (by decide) (fun c => ?_) (fun c => ?_)
          · have hf := ite_f c hf
            exact hJ125 _ _ _ _ _ hf Y (lv_sub hl [0, 1] rfl)
          · have hf := ite_t c hf
            refine lv_aload_n hx hb dX2_readOrder_104 rfl (lv_at hl 0 rfl) ?_
            refine lv_dup hx hb dX2_readOrder_105 rfl ?_
            refine x_geti X Y cl_2 rfl (by decide) 7 (by decide) rfl wf_X2_34 dX2_readOrder_106 ?_
            refine lv_iconst (v := 1) hx hb dX2_readOrder_109 (by decide) ?_
            refine lv_iadd hx hb dX2_readOrder_110 ?_
            refine x_put X Y cl_2 rfl (by decide) 7 (by decide) rfl wf_X2_34 rfl rfl rfl dX2_readOrder_111 (fun H locs Y => ?_)
            refine lv_aload_n hx hb dX2_readOrder_114 rfl (lv_at hl 0 rfl) ?_
            obtain ⟨q14, hq, hf⟩ := bnd_t hf
            refine x_ci Y (x_rV (rest := []) X Y k_X2_72 (c_X2_readSample X.hg hq) cl_2.1 rfl (by decide) rfl ⟨rfl, rfl⟩ ⟨by decide, by decide⟩ hl.1 rfl (Nat.le_of_ble_eq_true rfl) dX2_readOrder_115 ⟨Nat.zero_le _, Nat.zero_le _⟩) (fun H locs Y => ?_)
            refine lv_istore_n (lv' := [(1, _), (0, _), (2, _)]) hx hb dX2_readOrder_118 rfl hl (by decide) rfl (fun ls hl => ?_)
            refine lv_iinc (v := _ + (1 : Int32)) (lv' := [(2, _), (1, _), (0, _)]) hx hb dX2_readOrder_119 hl (k := 2) rfl rfl (by decide) rfl (fun ls hl => ?_)
            refine lv_goto (tgt := 85) hx hb dX2_readOrder_122 (by decide) ?_
            exact ih _ _ _ _ _ _ hf Y (lv_sub hl [2, 1, 0] rfl)
  unfold f_X2_readOrder at hf
  refine lv_aload_n hx hb dX2_readOrder_0 rfl (lv_at hl 0 rfl) ?_
  obtain ⟨q15, hq, hf⟩ := bnd_t hf
  refine x_ci Y (x_rV (rest := []) X Y k_X2_58 (c_X2_code X.hg hq) cl_2.1 rfl (by decide) rfl ⟨rfl, rfl⟩ ⟨by decide, by decide⟩ hl.1 rfl (Nat.le_of_ble_eq_true rfl) dX2_readOrder_1 ⟨Nat.zero_le _, Nat.zero_le _⟩) (fun H locs Y => ?_)
  by_cases c16 : q15.1 = (99 : Int32)
  · have hf := ite_t c16 hf
    refine lv_lookup (off := 52) (tgt := 56) hx hb dX2_readOrder_4 (by decide) (by rw [c16]; decide) (by decide) ?_
    refine lv_aload_n hx hb dX2_readOrder_56 rfl (lv_at hl 0 rfl) ?_
    refine lv_dup hx hb dX2_readOrder_57 rfl ?_
    refine x_geti X Y cl_2 rfl (by decide) 7 (by decide) rfl wf_X2_34 dX2_readOrder_58 ?_
    refine lv_iconst (v := 1) hx hb dX2_readOrder_61 (by decide) ?_
    refine lv_iadd hx hb dX2_readOrder_62 ?_
    refine x_put X Y cl_2 rfl (by decide) 7 (by decide) rfl wf_X2_34 rfl rfl rfl dX2_readOrder_63 (fun H locs Y => ?_)
    refine lv_aload_n hx hb dX2_readOrder_66 rfl (lv_at hl 0 rfl) ?_
    refine lv_iconst (v := 3) hx hb dX2_readOrder_67 (by decide) ?_
    refine lv_iconst (v := 0) hx hb dX2_readOrder_68 (by decide) ?_
    refine lv_iconst (v := 1) hx hb dX2_readOrder_69 (by decide) ?_
    obtain ⟨q18, hq, hf⟩ := bnd_t hf
    refine x_cv Y (x_rV (rest := []) X Y k_X2_68 (c_X2_addStep X.hg hq) cl_2.1 rfl (by decide) rfl ⟨rfl, rfl⟩ ⟨by decide, by decide⟩ hl.1 rfl (Nat.le_of_ble_eq_true rfl) dX2_readOrder_70 ⟨Nat.zero_le _, Nat.zero_le _⟩) (fun H locs Y => ?_)
    refine lv_iconst (v := 1) hx hb dX2_readOrder_73 (by decide) ?_
    refine lv_istore_n (lv' := [(1, _), (0, _)]) hx hb dX2_readOrder_74 rfl hl (by decide) rfl (fun ls hl => ?_)
    refine lv_goto (tgt := 125) hx hb dX2_readOrder_75 (by decide) ?_
    exact hJ125 _ _ _ _ _ hf Y (lv_sub hl [1, 0] rfl)
  have hf := ite_f c16 hf
  by_cases c19 : q15.1 = (107 : Int32)
  · have hf := ite_t c19 hf
    refine lv_lookup (off := 36) (tgt := 40) hx hb dX2_readOrder_4 (by decide) (by rw [c19]; decide) (by decide) ?_
    refine lv_aload_n hx hb dX2_readOrder_40 rfl (lv_at hl 0 rfl) ?_
    obtain ⟨q20, hq, hf⟩ := bnd_t hf
    refine x_ci Y (x_rV (rest := []) X Y k_X2_62 (c_X2_readKind X.hg hq) cl_2.1 rfl (by decide) rfl ⟨rfl, rfl⟩ ⟨by decide, by decide⟩ hl.1 rfl (Nat.le_of_ble_eq_true rfl) dX2_readOrder_41 ⟨Nat.zero_le _, Nat.zero_le _⟩) (fun H locs Y => ?_)
    refine lv_istore_n (lv' := [(1, _), (0, _)]) hx hb dX2_readOrder_44 rfl hl (by decide) rfl (fun ls hl => ?_)
    refine lv_goto (tgt := 125) hx hb dX2_readOrder_45 (by decide) ?_
    exact hJ125 _ _ _ _ _ hf Y (lv_sub hl [1, 0] rfl)
  have hf := ite_f c19 hf
  by_cases c21 : q15.1 = (108 : Int32)
  · have hf := ite_t c21 hf
    refine lv_lookup (off := 44) (tgt := 48) hx hb dX2_readOrder_4 (by decide) (by rw [c21]; decide) (by decide) ?_
    refine lv_aload_n hx hb dX2_readOrder_48 rfl (lv_at hl 0 rfl) ?_
    obtain ⟨q22, hq, hf⟩ := bnd_t hf
    refine x_ci Y (x_rV (rest := []) X Y k_X2_65 (c_X2_readLevel X.hg hq) cl_2.1 rfl (by decide) rfl ⟨rfl, rfl⟩ ⟨by decide, by decide⟩ hl.1 rfl (Nat.le_of_ble_eq_true rfl) dX2_readOrder_49 ⟨Nat.zero_le _, Nat.zero_le _⟩) (fun H locs Y => ?_)
    refine lv_istore_n (lv' := [(1, _), (0, _)]) hx hb dX2_readOrder_52 rfl hl (by decide) rfl (fun ls hl => ?_)
    refine lv_goto (tgt := 125) hx hb dX2_readOrder_53 (by decide) ?_
    exact hJ125 _ _ _ _ _ hf Y (lv_sub hl [1, 0] rfl)
  have hf := ite_f c21 hf
  refine lv_lookup (off := 74) (tgt := 78) hx hb dX2_readOrder_4 (by decide) (by show Op.lookupswitch.offset [(99, _), (107, _), (108, _)] _ _ = _; rw [lv_osw c16 (by decide), lv_osw c19 (by decide), lv_osw c21 (by decide)]; try rfl) (by decide) ?_
  refine lv_aload_n hx hb dX2_readOrder_78 rfl (lv_at hl 0 rfl) ?_
  obtain ⟨q23, hq, hf⟩ := bnd_t hf
  refine x_ci Y (x_rV (rest := []) X Y k_X2_72 (c_X2_readSample X.hg hq) cl_2.1 rfl (by decide) rfl ⟨rfl, rfl⟩ ⟨by decide, by decide⟩ hl.1 rfl (Nat.le_of_ble_eq_true rfl) dX2_readOrder_79 ⟨Nat.zero_le _, Nat.zero_le _⟩) (fun H locs Y => ?_)
  refine lv_istore_n (lv' := [(1, _), (0, _)]) hx hb dX2_readOrder_82 rfl hl (by decide) rfl (fun ls hl => ?_)
  refine lv_iconst (v := 0) hx hb dX2_readOrder_83 (by decide) ?_
  refine lv_istore_n (lv' := [(2, _), (1, _), (0, _)]) hx hb dX2_readOrder_84 rfl hl (by decide) rfl (fun ls hl => ?_)
  exact hL85 _ _ _ _ _ _ _ hf Y (lv_sub hl [2, 1, 0] rfl)
def f_X2_read_J57 (v1 : Int32) (I : HI) : Option (Int32 × HI) :=
  if v1 = (0 : Int32) then
    some (I 51 7, I)
  else
    if (I 51 7) < (I 51 1) then
      some (I 51 7, I)
    else
      some ((-6 : Int32), I)
def f_X2_read_L17_b (k : Int32 → Int32 → HI → Option (Int32 × HI)) (v1 : Int32) (v2 : Int32) (I : HI) : Option (Int32 × HI) :=
  if (80 : Int32) ≤ v2 then
    f_X2_read_J57 v1 I
  else
    if v1 = (0 : Int32) then
      f_X2_read_J57 v1 I
    else
      (f_X2_code I).bind fun q7 =>
      if q7.1 = (59 : Int32) then
        let I8 := upI q7.2 51 7 ((q7.2 51 7) + (1 : Int32))
        (f_X2_readOrder I8).bind fun q9 =>
        k q9.1 (v2 + (1 : Int32)) q9.2
      else
        f_X2_read_J57 v1 q7.2
def f_X2_read_L17 : Nat → Int32 → Int32 → HI → Option (Int32 × HI)
  | 0, _, _, _ => none
  | n + 1, v1, v2, I => f_X2_read_L17_b (f_X2_read_L17 n) v1 v2 I
def f_X2_read (I : HI) : Option (Int32 × HI) :=
  let I10 := upI I 51 7 (0 : Int32)
  let I11 := upI I10 51 6 (0 : Int32)
  (f_X2_readOrder I11).bind fun q12 =>
  f_X2_read_L17 4000 q12.1 (0 : Int32) q12.2
abbrev rm_X2_read : Room := { frames := 5, cells := 0, slots := 0, locals := 107 }
set_option maxHeartbeats 4000000 in
set_option maxRecDepth 100000 in
theorem c_X2_read {l : Launch} {g : GX} (hg : gOk g) {I : HI} {r : Int32 × HI} (hf : f_X2_read I = some r) : Met l yX2_read (Cond.code yX2_read cX2_read 3 (some .int) :: WL) rm_X2_read (xP g [.ref (gR g 51)] I) (xQi g r.1 r.2) 0 0 (gA g) := by
  refine x_met (by decide) hg (Nat.le_of_ble_eq_true rfl) (fun p e s m args below meth c X hr hlk Y ls hl => ?_)
  have hx := X.hx
  have hb := X.hb
  have hl : lv_has ls 3 [(0, .ref (gR g 51))] := hl
  have hJ57 : ∀ (v1 : Int32) (I : HI) (H : Heap) (locs : List Loc) (ls : Array Slot), f_X2_read_J57 v1 I = some r → XD g I s H locs → lv_has ls 3 [(0, .ref (gR g 51)), (1, .int v1)] → W p l e rm_X2_read s m args below meth c H locs 0 0 (MQ below (xQi g r.1 r.2) args s 0 0 (gA g)) (F0 m 57 ls []) := by
    intro v1 I H locs ls hf Y hl
    unfold f_X2_read_J57 at hf
    refine lv_iload_n hx hb dX2_read_57 rfl (lv_at hl 1 rfl) ?_
    refine lv_if_eq (tgt := 77) hx hb dX2_read_58 (by decide) (fun c => ?_) (fun c => ?_)
    · have hf := ite_t c hf
      refine lv_aload_n hx hb dX2_read_77 rfl (lv_at hl 0 rfl) ?_
      refine x_geti X Y cl_2 rfl (by decide) 7 (by decide) rfl wf_X2_34 dX2_read_78 ?_
      exact x_iret X Y hr hlk hf dX2_read_81
    · have hf := ite_f c hf
      refine lv_aload_n hx hb dX2_read_61 rfl (lv_at hl 0 rfl) ?_
      refine x_geti X Y cl_2 rfl (by decide) 7 (by decide) rfl wf_X2_34 dX2_read_62 ?_
      refine lv_aload_n hx hb dX2_read_65 rfl (lv_at hl 0 rfl) ?_
      refine x_geti X Y cl_2 rfl (by decide) 1 (by decide) rfl wf_X2_15 dX2_read_66 ?_
      refine lv_icmp_lt (tgt := 77) hx hb dX2_read_69 (by decide) (fun c => ?_) (fun c => ?_)
      · have hf := ite_t c hf
        refine lv_aload_n hx hb dX2_read_77 rfl (lv_at hl 0 rfl) ?_
        refine x_geti X Y cl_2 rfl (by decide) 7 (by decide) rfl wf_X2_34 dX2_read_78 ?_
        exact x_iret X Y hr hlk hf dX2_read_81
      · have hf := ite_f c hf
        refine lv_bipush (v := -6) hx hb dX2_read_72 (by decide) ?_
        refine lv_goto (tgt := 81) hx hb dX2_read_74 (by decide) ?_
        exact x_iret X Y hr hlk hf dX2_read_81
  have hL17 : ∀ (n : Nat) (v1 : Int32) (v2 : Int32) (I : HI) (H : Heap) (locs : List Loc) (ls : Array Slot), f_X2_read_L17 n v1 v2 I = some r → XD g I s H locs → lv_has ls 3 [(0, .ref (gR g 51)), (1, .int v1), (2, .int v2)] → W p l e rm_X2_read s m args below meth c H locs 0 0 (MQ below (xQi g r.1 r.2) args s 0 0 (gA g)) (F0 m 17 ls []) := by
    intro n
    induction n with
    | zero => intro v1 v2 I H locs ls hf Y hl; exact nn_t hf
    | succ n ih =>
      intro v1 v2 I H locs ls hf Y hl
      have hf : f_X2_read_L17_b (f_X2_read_L17 n) v1 v2 I = some r := hf
      unfold f_X2_read_L17_b at hf
      refine lv_iload_n hx hb dX2_read_17 rfl (lv_at hl 2 rfl) ?_
      refine lv_bipush (v := 80) hx hb dX2_read_18 (by decide) ?_
      refine lv_icmp_ge (tgt := 57) hx hb dX2_read_20 (by decide) (fun c => ?_) (fun c => ?_)
      · have hf := ite_t c hf
        exact hJ57 _ _ _ _ _ hf Y (lv_sub hl [0, 1] rfl)
      · have hf := ite_f c hf
        refine lv_iload_n hx hb dX2_read_23 rfl (lv_at hl 1 rfl) ?_
        refine lv_if_eq (tgt := 57) hx hb dX2_read_24 (by decide) (fun c => ?_) (fun c => ?_)
        · have hf := ite_t c hf
          exact hJ57 _ _ _ _ _ hf Y (lv_sub hl [0, 1] rfl)
        · have hf := ite_f c hf
          refine lv_aload_n hx hb dX2_read_27 rfl (lv_at hl 0 rfl) ?_
          obtain ⟨q7, hq, hf⟩ := bnd_t hf
          refine x_ci Y (x_rV (rest := []) X Y k_X2_58 (c_X2_code X.hg hq) cl_2.1 rfl (by decide) rfl ⟨rfl, rfl⟩ ⟨by decide, by decide⟩ hl.1 rfl (Nat.le_of_ble_eq_true rfl) dX2_read_28 ⟨Nat.zero_le _, Nat.zero_le _⟩) (fun H locs Y => ?_)
          refine lv_bipush (v := 59) hx hb dX2_read_31 (by decide) ?_
          refine lv_icmp_ne (tgt := 57) hx hb dX2_read_33 (by decide) (fun c => ?_) (fun c => ?_)
          · have hf := ite_f c hf
            exact hJ57 _ _ _ _ _ hf Y (lv_sub hl [0, 1] rfl)
          · have hf := ite_t c hf
            refine lv_aload_n hx hb dX2_read_36 rfl (lv_at hl 0 rfl) ?_
            refine lv_dup hx hb dX2_read_37 rfl ?_
            refine x_geti X Y cl_2 rfl (by decide) 7 (by decide) rfl wf_X2_34 dX2_read_38 ?_
            refine lv_iconst (v := 1) hx hb dX2_read_41 (by decide) ?_
            refine lv_iadd hx hb dX2_read_42 ?_
            refine x_put X Y cl_2 rfl (by decide) 7 (by decide) rfl wf_X2_34 rfl rfl rfl dX2_read_43 (fun H locs Y => ?_)
            refine lv_aload_n hx hb dX2_read_46 rfl (lv_at hl 0 rfl) ?_
            obtain ⟨q9, hq, hf⟩ := bnd_t hf
            refine x_ci Y (x_rV (rest := []) X Y k_X2_54 (c_X2_readOrder X.hg hq) cl_2.1 rfl (by decide) rfl ⟨rfl, rfl⟩ ⟨by decide, by decide⟩ hl.1 rfl (Nat.le_of_ble_eq_true rfl) dX2_read_47 ⟨Nat.zero_le _, Nat.zero_le _⟩) (fun H locs Y => ?_)
            refine lv_istore_n (lv' := [(1, _), (0, _), (2, _)]) hx hb dX2_read_50 rfl hl (by decide) rfl (fun ls hl => ?_)
            refine lv_iinc (v := _ + (1 : Int32)) (lv' := [(2, _), (1, _), (0, _)]) hx hb dX2_read_51 hl (k := 2) rfl rfl (by decide) rfl (fun ls hl => ?_)
            refine lv_goto (tgt := 17) hx hb dX2_read_54 (by decide) ?_
            exact ih _ _ _ _ _ _ hf Y (lv_sub hl [2, 1, 0] rfl)
  unfold f_X2_read at hf
  refine lv_aload_n hx hb dX2_read_0 rfl (lv_at hl 0 rfl) ?_
  refine lv_iconst (v := 0) hx hb dX2_read_1 (by decide) ?_
  refine x_put X Y cl_2 rfl (by decide) 7 (by decide) rfl wf_X2_34 rfl rfl rfl dX2_read_2 (fun H locs Y => ?_)
  refine lv_aload_n hx hb dX2_read_5 rfl (lv_at hl 0 rfl) ?_
  refine lv_iconst (v := 0) hx hb dX2_read_6 (by decide) ?_
  refine x_put X Y cl_2 rfl (by decide) 6 (by decide) rfl wf_X2_31 rfl rfl rfl dX2_read_7 (fun H locs Y => ?_)
  refine lv_aload_n hx hb dX2_read_10 rfl (lv_at hl 0 rfl) ?_
  obtain ⟨q12, hq, hf⟩ := bnd_t hf
  refine x_ci Y (x_rV (rest := []) X Y k_X2_54 (c_X2_readOrder X.hg hq) cl_2.1 rfl (by decide) rfl ⟨rfl, rfl⟩ ⟨by decide, by decide⟩ hl.1 rfl (Nat.le_of_ble_eq_true rfl) dX2_read_11 ⟨Nat.zero_le _, Nat.zero_le _⟩) (fun H locs Y => ?_)
  refine lv_istore_n (lv' := [(1, _), (0, _)]) hx hb dX2_read_14 rfl hl (by decide) rfl (fun ls hl => ?_)
  refine lv_iconst (v := 0) hx hb dX2_read_15 (by decide) ?_
  refine lv_istore_n (lv' := [(2, _), (1, _), (0, _)]) hx hb dX2_read_16 rfl hl (by decide) rfl (fun ls hl => ?_)
  exact hL17 _ _ _ _ _ _ _ hf Y (lv_sub hl [2, 1, 0] rfl)
def f_X2_endsOrder (v1 : Int32) (I : HI) : Option (Int32 × HI) :=
  (f_X5_at 56 v1 I).bind fun q2 =>
  if q2.1 = (1 : Int32) then
    some ((1 : Int32), q2.2)
  else
    some ((0 : Int32), q2.2)
abbrev rm_X2_endsOrder : Room := { frames := 1, cells := 0, slots := 0, locals := 21 }
set_option maxHeartbeats 4000000 in
set_option maxRecDepth 100000 in
theorem c_X2_endsOrder {l : Launch} {g : GX} (hg : gOk g) {v1 : Int32} {I : HI} {r : Int32 × HI} (hf : f_X2_endsOrder v1 I = some r) : Met l yX2_endsOrder (Cond.code yX2_endsOrder cX2_endsOrder 2 (some .boolean) :: WL) rm_X2_endsOrder (xP g [.ref (gR g 51), .int v1] I) (xQi g r.1 r.2) 0 0 (gA g) := by
  refine x_met (by decide) hg (Nat.le_of_ble_eq_true rfl) (fun p e s m args below meth c X hr hlk Y ls hl => ?_)
  have hx := X.hx
  have hb := X.hb
  have hl : lv_has ls 2 [(0, .ref (gR g 51)), (1, .int v1)] := hl
  unfold f_X2_endsOrder at hf
  refine lv_aload_n hx hb dX2_endsOrder_0 rfl (lv_at hl 0 rfl) ?_
  refine x_get (v := .ref (gR g 56)) X Y cl_2 rfl (by decide) 5 (by decide) wf_X2_28 rfl dX2_endsOrder_1 ?_
  refine lv_iload_n hx hb dX2_endsOrder_4 rfl (lv_at hl 1 rfl) ?_
  obtain ⟨q2, hq, hf⟩ := bnd_t hf
  refine x_ci Y (x_rSN (rest := []) X Y k_X2_50 (c_X5_at X.hg hq) rfl ⟨rfl, rfl⟩ ⟨by decide, by decide⟩ hl.1 rfl (Nat.le_of_ble_eq_true rfl) dX2_endsOrder_5 ⟨Nat.zero_le _, Nat.zero_le _⟩) (fun H locs Y => ?_)
  refine lv_iconst (v := 1) hx hb dX2_endsOrder_8 (by decide) ?_
  refine lv_icmp_ne (tgt := 16) hx hb dX2_endsOrder_9 (by decide) (fun c => ?_) (fun c => ?_)
  · have hf := ite_f c hf
    refine lv_iconst (v := 0) hx hb dX2_endsOrder_16 (by decide) ?_
    exact x_zret X Y hr hlk rfl hf dX2_endsOrder_17
  · have hf := ite_t c hf
    refine lv_iconst (v := 1) hx hb dX2_endsOrder_12 (by decide) ?_
    refine lv_goto (tgt := 17) hx hb dX2_endsOrder_13 (by decide) ?_
    exact x_zret X Y hr hlk rfl hf dX2_endsOrder_17
