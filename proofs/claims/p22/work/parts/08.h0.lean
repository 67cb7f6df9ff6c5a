def f_X0_record_J40 (w0 : Int32) (I : HI) : Option (Int32 × HI) :=
  let I5 := upI I 6 1 w0
  let I6 := upI I5 6 2 (if (6 : Int32) < ((I5 6 2) + (1 : Int32)) then (6 : Int32) else ((I5 6 2) + (1 : Int32)))
  some (0, I6)
def f_X0_record (I : HI) : Option (Int32 × HI) :=
  (f_X5_memoryAt 7 (I 6 1) I).bind fun q7 =>
  (f_X1_takeOver q7.1 1 q7.2).bind fun q8 =>
  if (q8.2 6 1) = (5 : Int32) then
    f_X0_record_J40 (0 : Int32) q8.2
  else
    f_X0_record_J40 ((q8.2 6 1) + (1 : Int32)) q8.2
abbrev rm_X0_record : Room := { frames := 4, cells := 0, slots := 0, locals := 103 }
set_option maxHeartbeats 4000000 in
set_option maxRecDepth 100000 in
theorem c_X0_record {l : Launch} {g : GX} (hg : gOk g) {I : HI} {r : Int32 × HI} (hf : f_X0_record I = some r) : Met l yX0_record (Cond.code yX0_record cX0_record 3 none :: WL) rm_X0_record (xP g [.ref (gR g 6), .ref (gR g 1)] I) (xQv g r.2) 0 0 (gA g) := by
  refine x_met (by decide) hg (Nat.le_of_ble_eq_true rfl) (fun p e s m args below meth c X hr hlk Y ls hl => ?_)
  have hx := X.hx
  have hb := X.hb
  have hl : lv_has ls 3 [(0, .ref (gR g 6)), (1, .ref (gR g 1))] := hl
  have hJ40 : ∀ (w0 : Int32) (I : HI) (H : Heap) (locs : List Loc) (ls : Array Slot), f_X0_record_J40 w0 I = some r → XD g I s H locs → lv_has ls 3 [(0, .ref (gR g 6))] → W p l e rm_X0_record s m args below meth c H locs 0 0 (MQ below (xQv g r.2) args s 0 0 (gA g)) (F0 m 40 ls [.int w0, .ref (gR g 6)]) := by
    intro w0 I H locs ls hf Y hl
    unfold f_X0_record_J40 at hf
    refine x_put X Y cl_0 rfl (by decide) 1 (by decide) rfl wf_X0_17 rfl rfl rfl dX0_record_40 (fun H locs Y => ?_)
    refine lv_aload_n hx hb dX0_record_43 rfl (lv_at hl 0 rfl) ?_
    refine lv_aload_n hx hb dX0_record_44 rfl (lv_at hl 0 rfl) ?_
    refine x_geti X Y cl_0 rfl (by decide) 2 (by decide) rfl wf_X0_21 dX0_record_45 ?_
    refine lv_iconst (v := 1) hx hb dX0_record_48 (by decide) ?_
    refine lv_iadd hx hb dX0_record_49 ?_
    refine lv_bipush (v := 6) hx hb dX0_record_50 (by decide) ?_
    refine x_min X hl.1 wm_X0_33 ⟨by decide, (by first | decide | exact Nat.le_of_ble_eq_true rfl)⟩ ⟨Nat.zero_le _, Nat.zero_le _⟩ dX0_record_52 ?_
    refine x_put X Y cl_0 rfl (by decide) 2 (by decide) rfl wf_X0_21 rfl rfl rfl dX0_record_55 (fun H locs Y => ?_)
    exact x_vret X Y hr hlk hf dX0_record_58
  unfold f_X0_record at hf
  refine lv_aload_n hx hb dX0_record_0 rfl (lv_at hl 0 rfl) ?_
  refine x_get (v := .ref (gR g 7)) X Y cl_0 rfl (by decide) 0 (by decide) wf_X0_11 rfl dX0_record_1 ?_
  refine lv_aload_n hx hb dX0_record_4 rfl (lv_at hl 0 rfl) ?_
  refine x_geti X Y cl_0 rfl (by decide) 1 (by decide) rfl wf_X0_17 dX0_record_5 ?_
  obtain ⟨q7, hq, hf⟩ := bnd_t hf
  refine x_cr Y (x_rSN (rest := []) X Y k_X0_25 (c_X5_memoryAt X.hg hq) rfl ⟨rfl, rfl⟩ ⟨by decide, by decide⟩ hl.1 rfl (Nat.le_of_ble_eq_true rfl) dX0_record_8 ⟨Nat.zero_le _, Nat.zero_le _⟩) (fun H locs Y => ?_)
  refine lv_astore_n (lv' := [(2, _), (0, _), (1, _)]) hx hb dX0_record_11 rfl hl (by decide) rfl (fun ls hl => ?_)
  refine lv_aload_n hx hb dX0_record_12 rfl (lv_at hl 0 rfl) ?_
  refine lv_ifnull hx hb dX0_record_13 ?_
  refine lv_aload_n hx hb dX0_record_16 rfl (lv_at hl 0 rfl) ?_
  refine lv_aload_n hx hb dX0_record_17 rfl (lv_at hl 2 rfl) ?_
  obtain ⟨q8, hq, hf⟩ := bnd_t hf
  have hM := isM_t hq
  refine x_cv Y (x_rV (rest := []) X Y k_X0_29 (c_X1_takeOver X.hg hq) cl_1.1 hM.1 hM.2 rfl ⟨rfl, rfl⟩ ⟨by decide, by decide⟩ hl.1 rfl (Nat.le_of_ble_eq_true rfl) dX0_record_18 ⟨Nat.zero_le _, Nat.zero_le _⟩) (fun H locs Y => ?_)
  refine lv_aload_n hx hb dX0_record_21 rfl (lv_at hl 1 rfl) ?_
  refine lv_aload_n hx hb dX0_record_22 rfl (lv_at hl 1 rfl) ?_
  refine x_geti X Y cl_0 rfl (by decide) 1 (by decide) rfl wf_X0_17 dX0_record_23 ?_
  refine lv_iconst (v := 5) hx hb dX0_record_26 (by decide) ?_
  refine lv_icmp_ne (tgt := 34) hx hb dX0_record_27 (by decide) (fun c => ?_) (fun c => ?_)
  · have hf := ite_f c hf
    refine lv_aload_n hx hb dX0_record_34 rfl (lv_at hl 1 rfl) ?_
    refine x_geti X Y cl_0 rfl (by decide) 1 (by decide) rfl wf_X0_17 dX0_record_35 ?_
    refine lv_iconst (v := 1) hx hb dX0_record_38 (by decide) ?_
    refine lv_iadd hx hb dX0_record_39 ?_
    exact hJ40 _ _ _ _ _ hf Y (lv_sub hl [1] rfl)
  · have hf := ite_t c hf
    refine lv_iconst (v := 0) hx hb dX0_record_30 (by decide) ?_
    refine lv_goto (tgt := 40) hx hb dX0_record_31 (by decide) ?_
    exact hJ40 _ _ _ _ _ hf Y (lv_sub hl [1] rfl)
def f_X0_bringBack_J17 (w0 : Int32) (I : HI) : Option (Int32 × HI) :=
  (f_X5_memoryAt 7 w0 I).bind fun q5 =>
  if (q5.2 6 2) ≤ (0 : Int32) then
    some (0, q5.2)
  else
    (f_X1_takeOver 1 q5.1 q5.2).bind fun q6 =>
    let I7 := upI q6.2 6 1 w0
    let I8 := upI I7 6 2 ((I7 6 2) - (1 : Int32))
    some (0, I8)
def f_X0_bringBack (I : HI) : Option (Int32 × HI) :=
  if (I 6 1) = (0 : Int32) then
    f_X0_bringBack_J17 (5 : Int32) I
  else
    f_X0_bringBack_J17 ((I 6 1) - (1 : Int32)) I
abbrev rm_X0_bringBack : Room := { frames := 4, cells := 0, slots := 0, locals := 103 }
set_option maxHeartbeats 4000000 in
set_option maxRecDepth 100000 in
theorem c_X0_bringBack {l : Launch} {g : GX} (hg : gOk g) {I : HI} {r : Int32 × HI} (hf : f_X0_bringBack I = some r) : Met l yX0_bringBack (Cond.code yX0_bringBack cX0_bringBack 4 none :: WL) rm_X0_bringBack (xP g [.ref (gR g 6), .ref (gR g 1)] I) (xQv g r.2) 0 0 (gA g) := by
  refine x_met (by decide) hg (Nat.le_of_ble_eq_true rfl) (fun p e s m args below meth c X hr hlk Y ls hl => ?_)
  have hx := X.hx
  have hb := X.hb
  have hl : lv_has ls 4 [(0, .ref (gR g 6)), (1, .ref (gR g 1))] := hl
  have hJ17 : ∀ (w0 : Int32) (I : HI) (H : Heap) (locs : List Loc) (ls : Array Slot), f_X0_bringBack_J17 w0 I = some r → XD g I s H locs → lv_has ls 4 [(0, .ref (gR g 6)), (1, .ref (gR g 1))] → W p l e rm_X0_bringBack s m args below meth c H locs 0 0 (MQ below (xQv g r.2) args s 0 0 (gA g)) (F0 m 17 ls [.int w0]) := by
    intro w0 I H locs ls hf Y hl
    unfold f_X0_bringBack_J17 at hf
    refine lv_istore_n (lv' := [(2, _), (0, _), (1, _)]) hx hb dX0_bringBack_17 rfl hl (by decide) rfl (fun ls hl => ?_)
    refine lv_aload_n hx hb dX0_bringBack_18 rfl (lv_at hl 1 rfl) ?_
    refine x_get (v := .ref (gR g 7)) X Y cl_0 rfl (by decide) 0 (by decide) wf_X0_11 rfl dX0_bringBack_19 ?_
    refine lv_iload_n hx hb dX0_bringBack_22 rfl (lv_at hl 0 rfl) ?_
    obtain ⟨q5, hq, hf⟩ := bnd_t hf
    refine x_cr Y (x_rSN (rest := []) X Y k_X0_25 (c_X5_memoryAt X.hg hq) rfl ⟨rfl, rfl⟩ ⟨by decide, by decide⟩ hl.1 rfl (Nat.le_of_ble_eq_true rfl) dX0_bringBack_23 ⟨Nat.zero_le _, Nat.zero_le _⟩) (fun H locs Y => ?_)
    refine lv_astore_n (lv' := [(3, _), (2, _), (0, _), (1, _)]) hx hb dX0_bringBack_26 rfl hl (by decide) rfl (fun ls hl => ?_)
    refine lv_aload_n hx hb dX0_bringBack_27 rfl (lv_at hl 0 rfl) ?_
    refine lv_ifnull hx hb dX0_bringBack_28 ?_
    refine lv_aload_n hx hb dX0_bringBack_31 rfl (lv_at hl 2 rfl) ?_
    refine x_geti X Y cl_0 rfl (by decide) 2 (by decide) rfl wf_X0_21 dX0_bringBack_32 ?_
    refine lv_if_le (tgt := 58) hx hb dX0_bringBack_35 (by decide) (fun c => ?_) (fun c => ?_)
    · have hf := ite_t c hf
      exact x_vret X Y hr hlk hf dX0_bringBack_58
    · have hf := ite_f c hf
      refine lv_aload_n hx hb dX0_bringBack_38 rfl (lv_at hl 3 rfl) ?_
      refine lv_aload_n hx hb dX0_bringBack_39 rfl (lv_at hl 0 rfl) ?_
      obtain ⟨q6, hq, hf⟩ := bnd_t hf
      refine x_cv Y (x_rV (rest := []) X Y k_X0_29 (c_X1_takeOver X.hg hq) cl_1.1 rfl (by decide) rfl ⟨rfl, rfl⟩ ⟨by decide, by decide⟩ hl.1 rfl (Nat.le_of_ble_eq_true rfl) dX0_bringBack_40 ⟨Nat.zero_le _, Nat.zero_le _⟩) (fun H locs Y => ?_)
      refine lv_aload_n hx hb dX0_bringBack_43 rfl (lv_at hl 2 rfl) ?_
      refine lv_iload_n hx hb dX0_bringBack_44 rfl (lv_at hl 1 rfl) ?_
      refine x_put X Y cl_0 rfl (by decide) 1 (by decide) rfl wf_X0_17 rfl rfl rfl dX0_bringBack_45 (fun H locs Y => ?_)
      refine lv_aload_n hx hb dX0_bringBack_48 rfl (lv_at hl 2 rfl) ?_
      refine lv_dup hx hb dX0_bringBack_49 rfl ?_
      refine x_geti X Y cl_0 rfl (by decide) 2 (by decide) rfl wf_X0_21 dX0_bringBack_50 ?_
      refine lv_iconst (v := 1) hx hb dX0_bringBack_53 (by decide) ?_
      refine lv_isub hx hb dX0_bringBack_54 ?_
      refine x_put X Y cl_0 rfl (by decide) 2 (by decide) rfl wf_X0_21 rfl rfl rfl dX0_bringBack_55 (fun H locs Y => ?_)
      exact x_vret X Y hr hlk hf dX0_bringBack_58
  unfold f_X0_bringBack at hf
  refine lv_aload_n hx hb dX0_bringBack_0 rfl (lv_at hl 0 rfl) ?_
  refine x_geti X Y cl_0 rfl (by decide) 1 (by decide) rfl wf_X0_17 dX0_bringBack_1 ?_
  refine lv_if_ne (tgt := 11) hx hb dX0_bringBack_4 (by decide) (fun c => ?_) (fun c => ?_)
  · have hf := ite_f c hf
    refine lv_aload_n hx hb dX0_bringBack_11 rfl (lv_at hl 0 rfl) ?_
    refine x_geti X Y cl_0 rfl (by decide) 1 (by decide) rfl wf_X0_17 dX0_bringBack_12 ?_
    refine lv_iconst (v := 1) hx hb dX0_bringBack_15 (by decide) ?_
    refine lv_isub hx hb dX0_bringBack_16 ?_
    exact hJ17 _ _ _ _ _ hf Y (lv_sub hl [0, 1] rfl)
  · have hf := ite_t c hf
    refine lv_iconst (v := 5) hx hb dX0_bringBack_7 (by decide) ?_
    refine lv_goto (tgt := 17) hx hb dX0_bringBack_8 (by decide) ?_
    exact hJ17 _ _ _ _ _ hf Y (lv_sub hl [0, 1] rfl)
