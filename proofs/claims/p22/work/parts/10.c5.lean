def f_X5_set (v1 : Int32) (v2 : Int32) (I : HI) : Option (Int32 × HI) :=
  (f_X1_errorOfSetting v1 v2 I).bind fun q4 =>
  if q4.1 = (0 : Int32) then
    (f_X0_record q4.2).bind fun q5 =>
    (f_X1_changeSetting v1 v2 q5.2).bind fun q6 =>
    some (q6.1 + (1000 : Int32), q6.2)
  else
    some (q4.1, q4.2)
abbrev rm_X5_set : Room := { frames := 5, cells := 0, slots := 0, locals := 125 }
set_option maxHeartbeats 4000000 in
set_option maxRecDepth 100000 in
theorem c_X5_set {l : Launch} {g : GX} (hg : gOk g) {v1 : Int32} {v2 : Int32} {I : HI} {r : Int32 × HI} (hf : f_X5_set v1 v2 I = some r) : Met l yX5_set (Cond.code yX5_set cX5_set 4 (some .int) :: WL) rm_X5_set (xP g [.ref (gR g 0), .int v1, .int v2] I) (xQi g r.1 r.2) 0 0 (gA g) := by
  refine x_met (by decide) hg (Nat.le_of_ble_eq_true rfl) (fun p e s m args below meth c X hr hlk Y ls hl => ?_)
  have hx := X.hx
  have hb := X.hb
  have hl : lv_has ls 4 [(0, .ref (gR g 0)), (1, .int v1), (2, .int v2)] := hl
  unfold f_X5_set at hf
  refine lv_aload_n hx hb dX5_set_0 rfl (lv_at hl 0 rfl) ?_
  refine x_get (v := .ref (gR g 1)) X Y cl_5 rfl (by decide) 0 (by decide) wf_X5_10 rfl dX5_set_1 ?_
  refine lv_iload_n hx hb dX5_set_4 rfl (lv_at hl 1 rfl) ?_
  refine lv_iload_n hx hb dX5_set_5 rfl (lv_at hl 2 rfl) ?_
  obtain ⟨q4, hq, hf⟩ := bnd_t hf
  refine x_ci Y (x_rV (rest := []) X Y k_X5_37 (c_X1_errorOfSetting X.hg hq) cl_1.1 rfl (by decide) rfl ⟨rfl, rfl⟩ ⟨by decide, by decide⟩ hl.1 rfl (Nat.le_of_ble_eq_true rfl) dX5_set_6 ⟨Nat.zero_le _, Nat.zero_le _⟩) (fun H locs Y => ?_)
  refine lv_istore_n (lv' := [(3, _), (0, _), (1, _), (2, _)]) hx hb dX5_set_9 rfl hl (by decide) rfl (fun ls hl => ?_)
  refine lv_iload_n hx hb dX5_set_10 rfl (lv_at hl 0 rfl) ?_
  refine lv_if_eq (tgt := 16) hx hb dX5_set_11 (by decide) (fun c => ?_) (fun c => ?_)
  · have hf := ite_t c hf
    refine lv_aload_n hx hb dX5_set_16 rfl (lv_at hl 1 rfl) ?_
    refine x_get (v := .ref (gR g 6)) X Y cl_5 rfl (by decide) 1 (by decide) wf_X5_19 rfl dX5_set_17 ?_
    refine lv_aload_n hx hb dX5_set_20 rfl (lv_at hl 1 rfl) ?_
    refine x_get (v := .ref (gR g 1)) X Y cl_5 rfl (by decide) 0 (by decide) wf_X5_10 rfl dX5_set_21 ?_
    obtain ⟨q5, hq, hf⟩ := bnd_t hf
    refine x_cv Y (x_rV (rest := []) X Y k_X5_41 (c_X0_record X.hg hq) cl_0.1 rfl (by decide) rfl ⟨rfl, rfl⟩ ⟨by decide, by decide⟩ hl.1 rfl (Nat.le_of_ble_eq_true rfl) dX5_set_24 ⟨Nat.zero_le _, Nat.zero_le _⟩) (fun H locs Y => ?_)
    refine lv_aload_n hx hb dX5_set_27 rfl (lv_at hl 1 rfl) ?_
    refine x_get (v := .ref (gR g 1)) X Y cl_5 rfl (by decide) 0 (by decide) wf_X5_10 rfl dX5_set_28 ?_
    refine lv_iload_n hx hb dX5_set_31 rfl (lv_at hl 2 rfl) ?_
    refine lv_iload_n hx hb dX5_set_32 rfl (lv_at hl 3 rfl) ?_
    obtain ⟨q6, hq, hf⟩ := bnd_t hf
    refine x_ci Y (x_rV (rest := []) X Y k_X5_45 (c_X1_changeSetting X.hg hq) cl_1.1 rfl (by decide) rfl ⟨rfl, rfl⟩ ⟨by decide, by decide⟩ hl.1 rfl (Nat.le_of_ble_eq_true rfl) dX5_set_33 ⟨Nat.zero_le _, Nat.zero_le _⟩) (fun H locs Y => ?_)
    refine lv_sipush (v := 1000) hx hb dX5_set_36 (by decide) ?_
    refine lv_iadd hx hb dX5_set_39 ?_
    exact x_iret X Y hr hlk hf dX5_set_40
  · have hf := ite_f c hf
    refine lv_iload_n hx hb dX5_set_14 rfl (lv_at hl 0 rfl) ?_
    exact x_iret X Y hr hlk hf dX5_set_15
def f_X5_feed (v1 : Int32) (v2 : Int32) (I : HI) : Option (Int32 × HI) :=
  (f_X1_errorOfSamples v1 v2 I).bind fun q4 =>
  if q4.1 = (0 : Int32) then
    (f_X0_record q4.2).bind fun q5 =>
    (f_X1_takeSamples v1 v2 q5.2).bind fun q6 =>
    some (q6.1, q6.2)
  else
    some (q4.1, q4.2)
abbrev rm_X5_feed : Room := { frames := 5, cells := 0, slots := 0, locals := 125 }
set_option maxHeartbeats 4000000 in
set_option maxRecDepth 100000 in
theorem c_X5_feed {l : Launch} {g : GX} (hg : gOk g) {v1 : Int32} {v2 : Int32} {I : HI} {r : Int32 × HI} (hf : f_X5_feed v1 v2 I = some r) : Met l yX5_feed (Cond.code yX5_feed cX5_feed 4 (some .int) :: WL) rm_X5_feed (xP g [.ref (gR g 0), .int v1, .int v2] I) (xQi g r.1 r.2) 0 0 (gA g) := by
  refine x_met (by decide) hg (Nat.le_of_ble_eq_true rfl) (fun p e s m args below meth c X hr hlk Y ls hl => ?_)
  have hx := X.hx
  have hb := X.hb
  have hl : lv_has ls 4 [(0, .ref (gR g 0)), (1, .int v1), (2, .int v2)] := hl
  unfold f_X5_feed at hf
  refine lv_aload_n hx hb dX5_feed_0 rfl (lv_at hl 0 rfl) ?_
  refine x_get (v := .ref (gR g 1)) X Y cl_5 rfl (by decide) 0 (by decide) wf_X5_10 rfl dX5_feed_1 ?_
  refine lv_iload_n hx hb dX5_feed_4 rfl (lv_at hl 1 rfl) ?_
  refine lv_iload_n hx hb dX5_feed_5 rfl (lv_at hl 2 rfl) ?_
  obtain ⟨q4, hq, hf⟩ := bnd_t hf
  refine x_ci Y (x_rV (rest := []) X Y k_X5_48 (c_X1_errorOfSamples X.hg hq) cl_1.1 rfl (by decide) rfl ⟨rfl, rfl⟩ ⟨by decide, by decide⟩ hl.1 rfl (Nat.le_of_ble_eq_true rfl) dX5_feed_6 ⟨Nat.zero_le _, Nat.zero_le _⟩) (fun H locs Y => ?_)
  refine lv_istore_n (lv' := [(3, _), (0, _), (1, _), (2, _)]) hx hb dX5_feed_9 rfl hl (by decide) rfl (fun ls hl => ?_)
  refine lv_iload_n hx hb dX5_feed_10 rfl (lv_at hl 0 rfl) ?_
  refine lv_if_eq (tgt := 16) hx hb dX5_feed_11 (by decide) (fun c => ?_) (fun c => ?_)
  · have hf := ite_t c hf
    refine lv_aload_n hx hb dX5_feed_16 rfl (lv_at hl 1 rfl) ?_
    refine x_get (v := .ref (gR g 6)) X Y cl_5 rfl (by decide) 1 (by decide) wf_X5_19 rfl dX5_feed_17 ?_
    refine lv_aload_n hx hb dX5_feed_20 rfl (lv_at hl 1 rfl) ?_
    refine x_get (v := .ref (gR g 1)) X Y cl_5 rfl (by decide) 0 (by decide) wf_X5_10 rfl dX5_feed_21 ?_
    obtain ⟨q5, hq, hf⟩ := bnd_t hf
    refine x_cv Y (x_rV (rest := []) X Y k_X5_41 (c_X0_record X.hg hq) cl_0.1 rfl (by decide) rfl ⟨rfl, rfl⟩ ⟨by decide, by decide⟩ hl.1 rfl (Nat.le_of_ble_eq_true rfl) dX5_feed_24 ⟨Nat.zero_le _, Nat.zero_le _⟩) (fun H locs Y => ?_)
    refine lv_aload_n hx hb dX5_feed_27 rfl (lv_at hl 1 rfl) ?_
    refine x_get (v := .ref (gR g 1)) X Y cl_5 rfl (by decide) 0 (by decide) wf_X5_10 rfl dX5_feed_28 ?_
    refine lv_iload_n hx hb dX5_feed_31 rfl (lv_at hl 2 rfl) ?_
    refine lv_iload_n hx hb dX5_feed_32 rfl (lv_at hl 3 rfl) ?_
    obtain ⟨q6, hq, hf⟩ := bnd_t hf
    refine x_ci Y (x_rV (rest := []) X Y k_X5_51 (c_X1_takeSamples X.hg hq) cl_1.1 rfl (by decide) rfl ⟨rfl, rfl⟩ ⟨by decide, by decide⟩ hl.1 rfl (Nat.le_of_ble_eq_true rfl) dX5_feed_33 ⟨Nat.zero_le _, Nat.zero_le _⟩) (fun H locs Y => ?_)
    exact x_iret X Y hr hlk hf dX5_feed_36
  · have hf := ite_f c hf
    refine lv_iload_n hx hb dX5_feed_14 rfl (lv_at hl 0 rfl) ?_
    exact x_iret X Y hr hlk hf dX5_feed_15
def f_X5_clear (I : HI) : Option (Int32 × HI) :=
  (f_X0_record I).bind fun q3 =>
  (f_X1_forget q3.2).bind fun q4 =>
  some (q4.1, q4.2)
abbrev rm_X5_clear : Room := { frames := 5, cells := 0, slots := 0, locals := 125 }
set_option maxHeartbeats 4000000 in
set_option maxRecDepth 100000 in
theorem c_X5_clear {l : Launch} {g : GX} (hg : gOk g) {I : HI} {r : Int32 × HI} (hf : f_X5_clear I = some r) : Met l yX5_clear (Cond.code yX5_clear cX5_clear 1 (some .int) :: WL) rm_X5_clear (xP g [.ref (gR g 0)] I) (xQi g r.1 r.2) 0 0 (gA g) := by
  refine x_met (by decide) hg (Nat.le_of_ble_eq_true rfl) (fun p e s m args below meth c X hr hlk Y ls hl => ?_)
  have hx := X.hx
  have hb := X.hb
  have hl : lv_has ls 1 [(0, .ref (gR g 0))] := hl
  unfold f_X5_clear at hf
  refine lv_aload_n hx hb dX5_clear_0 rfl (lv_at hl 0 rfl) ?_
  refine x_get (v := .ref (gR g 6)) X Y cl_5 rfl (by decide) 1 (by decide) wf_X5_19 rfl dX5_clear_1 ?_
  refine lv_aload_n hx hb dX5_clear_4 rfl (lv_at hl 0 rfl) ?_
  refine x_get (v := .ref (gR g 1)) X Y cl_5 rfl (by decide) 0 (by decide) wf_X5_10 rfl dX5_clear_5 ?_
  obtain ⟨q3, hq, hf⟩ := bnd_t hf
  refine x_cv Y (x_rV (rest := []) X Y k_X5_41 (c_X0_record X.hg hq) cl_0.1 rfl (by decide) rfl ⟨rfl, rfl⟩ ⟨by decide, by decide⟩ hl.1 rfl (Nat.le_of_ble_eq_true rfl) dX5_clear_8 ⟨Nat.zero_le _, Nat.zero_le _⟩) (fun H locs Y => ?_)
  refine lv_aload_n hx hb dX5_clear_11 rfl (lv_at hl 0 rfl) ?_
  refine x_get (v := .ref (gR g 1)) X Y cl_5 rfl (by decide) 0 (by decide) wf_X5_10 rfl dX5_clear_12 ?_
  obtain ⟨q4, hq, hf⟩ := bnd_t hf
  refine x_ci Y (x_rV (rest := []) X Y k_X5_54 (c_X1_forget X.hg hq) cl_1.1 rfl (by decide) rfl ⟨rfl, rfl⟩ ⟨by decide, by decide⟩ hl.1 rfl (Nat.le_of_ble_eq_true rfl) dX5_clear_15 ⟨Nat.zero_le _, Nat.zero_le _⟩) (fun H locs Y => ?_)
  exact x_iret X Y hr hlk hf dX5_clear_18
def f_X5_drop (v1 : Int32) (I : HI) : Option (Int32 × HI) :=
  (f_X3_has v1 I).bind fun q4 =>
  if q4.1 = (0 : Int32) then
    some ((-1 : Int32), q4.2)
  else
    (f_X0_record q4.2).bind fun q5 =>
    (f_X3_removeAt v1 q5.2).bind fun q6 =>
    some (q6.2 4 1, q6.2)
abbrev rm_X5_drop : Room := { frames := 5, cells := 0, slots := 0, locals := 125 }
set_option maxHeartbeats 4000000 in
set_option maxRecDepth 100000 in
theorem c_X5_drop {l : Launch} {g : GX} (hg : gOk g) {v1 : Int32} {I : HI} {r : Int32 × HI} (hf : f_X5_drop v1 I = some r) : Met l yX5_drop (Cond.code yX5_drop cX5_drop 2 (some .int) :: WL) rm_X5_drop (xP g [.ref (gR g 0), .int v1] I) (xQi g r.1 r.2) 0 0 (gA g) := by
  refine x_met (by decide) hg (Nat.le_of_ble_eq_true rfl) (fun p e s m args below meth c X hr hlk Y ls hl => ?_)
  have hx := X.hx
  have hb := X.hb
  have hl : lv_has ls 2 [(0, .ref (gR g 0)), (1, .int v1)] := hl
  unfold f_X5_drop at hf
  refine lv_aload_n hx hb dX5_drop_0 rfl (lv_at hl 0 rfl) ?_
  refine x_get (v := .ref (gR g 1)) X Y cl_5 rfl (by decide) 0 (by decide) wf_X5_10 rfl dX5_drop_1 ?_
  refine x_getN (v := .ref (gR g 4)) X Y cl_1 rfl (by decide) 2 (by decide) wg_X5_58 rfl dX5_drop_4 ?_
  refine lv_iload_n hx hb dX5_drop_7 rfl (lv_at hl 1 rfl) ?_
  obtain ⟨q4, hq, hf⟩ := bnd_t hf
  refine x_ci Y (x_rV (rest := []) X Y k_X5_62 (c_X3_has X.hg hq) cl_3.1 rfl (by decide) rfl ⟨rfl, rfl⟩ ⟨by decide, by decide⟩ hl.1 rfl (Nat.le_of_ble_eq_true rfl) dX5_drop_8 ⟨Nat.zero_le _, Nat.zero_le _⟩) (fun H locs Y => ?_)
  refine lv_if_ne (tgt := 16) hx hb dX5_drop_11 (by decide) (fun c => ?_) (fun c => ?_)
  · have hf := ite_f c hf
    refine lv_aload_n hx hb dX5_drop_16 rfl (lv_at hl 0 rfl) ?_
    refine x_get (v := .ref (gR g 6)) X Y cl_5 rfl (by decide) 1 (by decide) wf_X5_19 rfl dX5_drop_17 ?_
    refine lv_aload_n hx hb dX5_drop_20 rfl (lv_at hl 0 rfl) ?_
    refine x_get (v := .ref (gR g 1)) X Y cl_5 rfl (by decide) 0 (by decide) wf_X5_10 rfl dX5_drop_21 ?_
    obtain ⟨q5, hq, hf⟩ := bnd_t hf
    refine x_cv Y (x_rV (rest := []) X Y k_X5_41 (c_X0_record X.hg hq) cl_0.1 rfl (by decide) rfl ⟨rfl, rfl⟩ ⟨by decide, by decide⟩ hl.1 rfl (Nat.le_of_ble_eq_true rfl) dX5_drop_24 ⟨Nat.zero_le _, Nat.zero_le _⟩) (fun H locs Y => ?_)
    refine lv_aload_n hx hb dX5_drop_27 rfl (lv_at hl 0 rfl) ?_
    refine x_get (v := .ref (gR g 1)) X Y cl_5 rfl (by decide) 0 (by decide) wf_X5_10 rfl dX5_drop_28 ?_
    refine x_getN (v := .ref (gR g 4)) X Y cl_1 rfl (by decide) 2 (by decide) wg_X5_58 rfl dX5_drop_31 ?_
    refine lv_iload_n hx hb dX5_drop_34 rfl (lv_at hl 1 rfl) ?_
    obtain ⟨q6, hq, hf⟩ := bnd_t hf
    refine x_cv Y (x_rV (rest := []) X Y k_X5_68 (c_X3_removeAt X.hg hq) cl_3.1 rfl (by decide) rfl ⟨rfl, rfl⟩ ⟨by decide, by decide⟩ hl.1 rfl (Nat.le_of_ble_eq_true rfl) dX5_drop_35 ⟨Nat.zero_le _, Nat.zero_le _⟩) (fun H locs Y => ?_)
    refine lv_aload_n hx hb dX5_drop_38 rfl (lv_at hl 0 rfl) ?_
    refine x_get (v := .ref (gR g 1)) X Y cl_5 rfl (by decide) 0 (by decide) wf_X5_10 rfl dX5_drop_39 ?_
    refine x_getN (v := .ref (gR g 4)) X Y cl_1 rfl (by decide) 2 (by decide) wg_X5_58 rfl dX5_drop_42 ?_
    refine x_getiN X Y cl_3 rfl (by decide) 1 (by decide) rfl wg_X5_72 dX5_drop_45 ?_
    exact x_iret X Y hr hlk hf dX5_drop_48
  · have hf := ite_t c hf
    refine lv_iconst (v := -1) hx hb dX5_drop_14 (by decide) ?_
    exact x_iret X Y hr hlk hf dX5_drop_15
def f_X5_segment (v1 : Int32) (v2 : Int32) (I : HI) : Option (Int32 × HI) :=
  (f_X3_has v1 I).bind fun q7 =>
  if q7.1 = (0 : Int32) then
    some ((-1 : Int32), q7.2)
  else
    if v2 = (0 : Int32) then
      (f_X3_numberOf v1 v2 q7.2).bind fun q9 =>
      some (q9.1, q9.2)
    else
    if v2 = (1 : Int32) then
      (f_X3_numberOf v1 v2 q7.2).bind fun q11 =>
      some (q11.1, q11.2)
    else
    if v2 = (2 : Int32) then
      (f_X3_numberOf v1 v2 q7.2).bind fun q13 =>
      some (q13.1, q13.2)
    else
    if v2 = (3 : Int32) then
      (f_X3_numberOf v1 v2 q7.2).bind fun q15 =>
      some (q15.1, q15.2)
    else
    if v2 = (4 : Int32) then
      (f_X1_leastOf v1 q7.2).bind fun q17 =>
      some (q17.1 + (1000 : Int32), q17.2)
    else
    if v2 = (5 : Int32) then
      (f_X1_greatestOf v1 q7.2).bind fun q19 =>
      some (q19.1 + (1000 : Int32), q19.2)
    else
    if v2 = (6 : Int32) then
      (f_X1_sumOf v1 q7.2).bind fun q21 =>
      some (q21.1 + (10000 : Int32), q21.2)
    else
    if v2 = (7 : Int32) then
      (f_X1_upsOf v1 q7.2).bind fun q23 =>
      some (q23.1, q23.2)
    else
    some ((-2 : Int32), q7.2)
abbrev rm_X5_segment : Room := { frames := 4, cells := 0, slots := 0, locals := 89 }
set_option maxHeartbeats 4000000 in
set_option maxRecDepth 100000 in
theorem c_X5_segment {l : Launch} {g : GX} (hg : gOk g) {v1 : Int32} {v2 : Int32} {I : HI} {r : Int32 × HI} (hf : f_X5_segment v1 v2 I = some r) : Met l yX5_segment (Cond.code yX5_segment cX5_segment 3 (some .int) :: WL) rm_X5_segment (xP g [.ref (gR g 0), .int v1, .int v2] I) (xQi g r.1 r.2) 0 0 (gA g) := by
  refine x_met (by decide) hg (Nat.le_of_ble_eq_true rfl) (fun p e s m args below meth c X hr hlk Y ls hl => ?_)
  have hx := X.hx
  have hb := X.hb
  have hl : lv_has ls 3 [(0, .ref (gR g 0)), (1, .int v1), (2, .int v2)] := hl
  unfold f_X5_segment at hf
  refine lv_aload_n hx hb dX5_segment_0 rfl (lv_at hl 0 rfl) ?_
  refine x_get (v := .ref (gR g 1)) X Y cl_5 rfl (by decide) 0 (by decide) wf_X5_10 rfl dX5_segment_1 ?_
  refine x_getN (v := .ref (gR g 4)) X Y cl_1 rfl (by decide) 2 (by decide) wg_X5_58 rfl dX5_segment_4 ?_
  refine lv_iload_n hx hb dX5_segment_7 rfl (lv_at hl 1 rfl) ?_
  obtain ⟨q7, hq, hf⟩ := bnd_t hf
  refine x_ci Y (x_rV (rest := []) X Y k_X5_62 (c_X3_has X.hg hq) cl_3.1 rfl (by decide) rfl ⟨rfl, rfl⟩ ⟨by decide, by decide⟩ hl.1 rfl (Nat.le_of_ble_eq_true rfl) dX5_segment_8 ⟨Nat.zero_le _, Nat.zero_le _⟩) (fun H locs Y => ?_)
  refine lv_if_ne (tgt := 16) hx hb dX5_segment_11 (by decide) (fun c => ?_) (fun c => ?_)
  · have hf := ite_f c hf
    refine lv_iload_n hx hb dX5_segment_16 rfl (lv_at hl 2 rfl) ?_
    by_cases c8 : v2 = (0 : Int32)
    · have hf := ite_t c8 hf
      refine x_tab (off := 47) (tgt := 64) hx hb c8 dX5_segment_17 (by decide) (by decide) ?_
      refine lv_aload_n hx hb dX5_segment_64 rfl (lv_at hl 0 rfl) ?_
      refine x_get (v := .ref (gR g 1)) X Y cl_5 rfl (by decide) 0 (by decide) wf_X5_10 rfl dX5_segment_65 ?_
      refine x_getN (v := .ref (gR g 4)) X Y cl_1 rfl (by decide) 2 (by decide) wg_X5_58 rfl dX5_segment_68 ?_
      refine lv_iload_n hx hb dX5_segment_71 rfl (lv_at hl 1 rfl) ?_
      refine lv_iload_n hx hb dX5_segment_72 rfl (lv_at hl 2 rfl) ?_
      obtain ⟨q9, hq, hf⟩ := bnd_t hf
      refine x_ci Y (x_rV (rest := []) X Y k_X5_76 (c_X3_numberOf X.hg hq) cl_3.1 rfl (by decide) rfl ⟨rfl, rfl⟩ ⟨by decide, by decide⟩ hl.1 rfl (Nat.le_of_ble_eq_true rfl) dX5_segment_73 ⟨Nat.zero_le _, Nat.zero_le _⟩) (fun H locs Y => ?_)
      exact x_iret X Y hr hlk hf dX5_segment_76
    have hf := ite_f c8 hf
    by_cases c10 : v2 = (1 : Int32)
    · have hf := ite_t c10 hf
      refine x_tab (off := 47) (tgt := 64) hx hb c10 dX5_segment_17 (by decide) (by decide) ?_
      refine lv_aload_n hx hb dX5_segment_64 rfl (lv_at hl 0 rfl) ?_
      refine x_get (v := .ref (gR g 1)) X Y cl_5 rfl (by decide) 0 (by decide) wf_X5_10 rfl dX5_segment_65 ?_
      refine x_getN (v := .ref (gR g 4)) X Y cl_1 rfl (by decide) 2 (by decide) wg_X5_58 rfl dX5_segment_68 ?_
      refine lv_iload_n hx hb dX5_segment_71 rfl (lv_at hl 1 rfl) ?_
      refine lv_iload_n hx hb dX5_segment_72 rfl (lv_at hl 2 rfl) ?_
      obtain ⟨q11, hq, hf⟩ := bnd_t hf
      refine x_ci Y (x_rV (rest := []) X Y k_X5_76 (c_X3_numberOf X.hg hq) cl_3.1 rfl (by decide) rfl ⟨rfl, rfl⟩ ⟨by decide, by decide⟩ hl.1 rfl (Nat.le_of_ble_eq_true rfl) dX5_segment_73 ⟨Nat.zero_le _, Nat.zero_le _⟩) (fun H locs Y => ?_)
      exact x_iret X Y hr hlk hf dX5_segment_76
    have hf := ite_f c10 hf
    by_cases c12 : v2 = (2 : Int32)
    · have hf := ite_t c12 hf
      refine x_tab (off := 47) (tgt := 64) hx hb c12 dX5_segment_17 (by decide) (by decide) ?_
      refine lv_aload_n hx hb dX5_segment_64 rfl (lv_at hl 0 rfl) ?_
      refine x_get (v := .ref (gR g 1)) X Y cl_5 rfl (by decide) 0 (by decide) wf_X5_10 rfl dX5_segment_65 ?_
      refine x_getN (v := .ref (gR g 4)) X Y cl_1 rfl (by decide) 2 (by decide) wg_X5_58 rfl dX5_segment_68 ?_
      refine lv_iload_n hx hb dX5_segment_71 rfl (lv_at hl 1 rfl) ?_
      refine lv_iload_n hx hb dX5_segment_72 rfl (lv_at hl 2 rfl) ?_
      obtain ⟨q13, hq, hf⟩ := bnd_t hf
      refine x_ci Y (x_rV (rest := []) X Y k_X5_76 (c_X3_numberOf X.hg hq) cl_3.1 rfl (by decide) rfl ⟨rfl, rfl⟩ ⟨by decide, by decide⟩ hl.1 rfl (Nat.le_of_ble_eq_true rfl) dX5_segment_73 ⟨Nat.zero_le _, Nat.zero_le _⟩) (fun H locs Y => ?_)
      exact x_iret X Y hr hlk hf dX5_segment_76
    have hf := ite_f c12 hf
    by_cases c14 : v2 = (3 : Int32)
    · have hf := ite_t c14 hf
      refine x_tab (off := 47) (tgt := 64) hx hb c14 dX5_segment_17 (by decide) (by decide) ?_
      refine lv_aload_n hx hb dX5_segment_64 rfl (lv_at hl 0 rfl) ?_
      refine x_get (v := .ref (gR g 1)) X Y cl_5 rfl (by decide) 0 (by decide) wf_X5_10 rfl dX5_segment_65 ?_
      refine x_getN (v := .ref (gR g 4)) X Y cl_1 rfl (by decide) 2 (by decide) wg_X5_58 rfl dX5_segment_68 ?_
      refine lv_iload_n hx hb dX5_segment_71 rfl (lv_at hl 1 rfl) ?_
      refine lv_iload_n hx hb dX5_segment_72 rfl (lv_at hl 2 rfl) ?_
      obtain ⟨q15, hq, hf⟩ := bnd_t hf
      refine x_ci Y (x_rV (rest := []) X Y k_X5_76 (c_X3_numberOf X.hg hq) cl_3.1 rfl (by decide) rfl ⟨rfl, rfl⟩ ⟨by decide, by decide⟩ hl.1 rfl (Nat.le_of_ble_eq_true rfl) dX5_segment_73 ⟨Nat.zero_le _, Nat.zero_le _⟩) (fun H locs Y => ?_)
      exact x_iret X Y hr hlk hf dX5_segment_76
    have hf := ite_f c14 hf
    by_cases c16 : v2 = (4 : Int32)
    · have hf := ite_t c16 hf
      refine x_tab (off := 60) (tgt := 77) hx hb c16 dX5_segment_17 (by decide) (by decide) ?_
      refine lv_aload_n hx hb dX5_segment_77 rfl (lv_at hl 0 rfl) ?_
      refine x_get (v := .ref (gR g 1)) X Y cl_5 rfl (by decide) 0 (by decide) wf_X5_10 rfl dX5_segment_78 ?_
      refine lv_iload_n hx hb dX5_segment_81 rfl (lv_at hl 1 rfl) ?_
      obtain ⟨q17, hq, hf⟩ := bnd_t hf
      refine x_ci Y (x_rV (rest := []) X Y k_X5_79 (c_X1_leastOf X.hg hq) cl_1.1 rfl (by decide) rfl ⟨rfl, rfl⟩ ⟨by decide, by decide⟩ hl.1 rfl (Nat.le_of_ble_eq_true rfl) dX5_segment_82 ⟨Nat.zero_le _, Nat.zero_le _⟩) (fun H locs Y => ?_)
      refine lv_sipush (v := 1000) hx hb dX5_segment_85 (by decide) ?_
      refine lv_iadd hx hb dX5_segment_88 ?_
      exact x_iret X Y hr hlk hf dX5_segment_89
    have hf := ite_f c16 hf
    by_cases c18 : v2 = (5 : Int32)
    · have hf := ite_t c18 hf
      refine x_tab (off := 73) (tgt := 90) hx hb c18 dX5_segment_17 (by decide) (by decide) ?_
      refine lv_aload_n hx hb dX5_segment_90 rfl (lv_at hl 0 rfl) ?_
      refine x_get (v := .ref (gR g 1)) X Y cl_5 rfl (by decide) 0 (by decide) wf_X5_10 rfl dX5_segment_91 ?_
      refine lv_iload_n hx hb dX5_segment_94 rfl (lv_at hl 1 rfl) ?_
      obtain ⟨q19, hq, hf⟩ := bnd_t hf
      refine x_ci Y (x_rV (rest := []) X Y k_X5_83 (c_X1_greatestOf X.hg hq) cl_1.1 rfl (by decide) rfl ⟨rfl, rfl⟩ ⟨by decide, by decide⟩ hl.1 rfl (Nat.le_of_ble_eq_true rfl) dX5_segment_95 ⟨Nat.zero_le _, Nat.zero_le _⟩) (fun H locs Y => ?_)
      refine lv_sipush (v := 1000) hx hb dX5_segment_98 (by decide) ?_
      refine lv_iadd hx hb dX5_segment_101 ?_
      exact x_iret X Y hr hlk hf dX5_segment_102
    have hf := ite_f c18 hf
    by_cases c20 : v2 = (6 : Int32)
    · have hf := ite_t c20 hf
      refine x_tab (off := 86) (tgt := 103) hx hb c20 dX5_segment_17 (by decide) (by decide) ?_
      refine lv_aload_n hx hb dX5_segment_103 rfl (lv_at hl 0 rfl) ?_
      refine x_get (v := .ref (gR g 1)) X Y cl_5 rfl (by decide) 0 (by decide) wf_X5_10 rfl dX5_segment_104 ?_
      refine lv_iload_n hx hb dX5_segment_107 rfl (lv_at hl 1 rfl) ?_
      obtain ⟨q21, hq, hf⟩ := bnd_t hf
      refine x_ci Y (x_rV (rest := []) X Y k_X5_86 (c_X1_sumOf X.hg hq) cl_1.1 rfl (by decide) rfl ⟨rfl, rfl⟩ ⟨by decide, by decide⟩ hl.1 rfl (Nat.le_of_ble_eq_true rfl) dX5_segment_108 ⟨Nat.zero_le _, Nat.zero_le _⟩) (fun H locs Y => ?_)
      refine lv_sipush (v := 10000) hx hb dX5_segment_111 (by decide) ?_
      refine lv_iadd hx hb dX5_segment_114 ?_
      exact x_iret X Y hr hlk hf dX5_segment_115
    have hf := ite_f c20 hf
    by_cases c22 : v2 = (7 : Int32)
    · have hf := ite_t c22 hf
      refine x_tab (off := 99) (tgt := 116) hx hb c22 dX5_segment_17 (by decide) (by decide) ?_
      refine lv_aload_n hx hb dX5_segment_116 rfl (lv_at hl 0 rfl) ?_
      refine x_get (v := .ref (gR g 1)) X Y cl_5 rfl (by decide) 0 (by decide) wf_X5_10 rfl dX5_segment_117 ?_
      refine lv_iload_n hx hb dX5_segment_120 rfl (lv_at hl 1 rfl) ?_
      obtain ⟨q23, hq, hf⟩ := bnd_t hf
      refine x_ci Y (x_rV (rest := []) X Y k_X5_89 (c_X1_upsOf X.hg hq) cl_1.1 rfl (by decide) rfl ⟨rfl, rfl⟩ ⟨by decide, by decide⟩ hl.1 rfl (Nat.le_of_ble_eq_true rfl) dX5_segment_121 ⟨Nat.zero_le _, Nat.zero_le _⟩) (fun H locs Y => ?_)
      exact x_iret X Y hr hlk hf dX5_segment_124
    have hf := ite_f c22 hf
    refine lv_tableOut (tgt := 125) hx hb dX5_segment_17 (by have := lv_neT c8 (a := 0) (by decide); have := lv_neT c10 (a := 1) (by decide); have := lv_neT c12 (a := 2) (by decide); have := lv_neT c14 (a := 3) (by decide); have := lv_neT c16 (a := 4) (by decide); have := lv_neT c18 (a := 5) (by decide); have := lv_neT c20 (a := 6) (by decide); have := lv_neT c22 (a := 7) (by decide); omega) (by decide) ?_
    refine lv_bipush (v := -2) hx hb dX5_segment_125 (by decide) ?_
    exact x_iret X Y hr hlk hf dX5_segment_127
  · have hf := ite_t c hf
    refine lv_iconst (v := -1) hx hb dX5_segment_14 (by decide) ?_
    exact x_iret X Y hr hlk hf dX5_segment_15
def f_X5_sampleOf (v1 : Int32) (v2 : Int32) (I : HI) : Option (Int32 × HI) :=
  (f_X3_has v1 I).bind fun q5 =>
  if q5.1 = (0 : Int32) then
    some ((-1 : Int32), q5.2)
  else
    if v2 < (0 : Int32) then
      some ((-1 : Int32), q5.2)
    else
      (f_X3_numberOf v1 (1 : Int32) q5.2).bind fun q6 =>
      if v2 < q6.1 then
        (f_X3_firstOf v1 q6.2).bind fun q7 =>
        (f_X1_sampleAt (q7.1 + v2) q7.2).bind fun q8 =>
        some (q8.1 + (1000 : Int32), q8.2)
      else
        some ((-1 : Int32), q6.2)
abbrev rm_X5_sampleOf : Room := { frames := 3, cells := 0, slots := 0, locals := 64 }
set_option maxHeartbeats 4000000 in
set_option maxRecDepth 100000 in
theorem c_X5_sampleOf {l : Launch} {g : GX} (hg : gOk g) {v1 : Int32} {v2 : Int32} {I : HI} {r : Int32 × HI} (hf : f_X5_sampleOf v1 v2 I = some r) : Met l yX5_sampleOf (Cond.code yX5_sampleOf cX5_sampleOf 3 (some .int) :: WL) rm_X5_sampleOf (xP g [.ref (gR g 0), .int v1, .int v2] I) (xQi g r.1 r.2) 0 0 (gA g) := by
  refine x_met (by decide) hg (Nat.le_of_ble_eq_true rfl) (fun p e s m args below meth c X hr hlk Y ls hl => ?_)
  have hx := X.hx
  have hb := X.hb
  have hl : lv_has ls 3 [(0, .ref (gR g 0)), (1, .int v1), (2, .int v2)] := hl
  unfold f_X5_sampleOf at hf
  refine lv_aload_n hx hb dX5_sampleOf_0 rfl (lv_at hl 0 rfl) ?_
  refine x_get (v := .ref (gR g 1)) X Y cl_5 rfl (by decide) 0 (by decide) wf_X5_10 rfl dX5_sampleOf_1 ?_
  refine x_getN (v := .ref (gR g 4)) X Y cl_1 rfl (by decide) 2 (by decide) wg_X5_58 rfl dX5_sampleOf_4 ?_
  refine lv_iload_n hx hb dX5_sampleOf_7 rfl (lv_at hl 1 rfl) ?_
  obtain ⟨q5, hq, hf⟩ := bnd_t hf
  refine x_ci Y (x_rV (rest := []) X Y k_X5_62 (c_X3_has X.hg hq) cl_3.1 rfl (by decide) rfl ⟨rfl, rfl⟩ ⟨by decide, by decide⟩ hl.1 rfl (Nat.le_of_ble_eq_true rfl) dX5_sampleOf_8 ⟨Nat.zero_le _, Nat.zero_le _⟩) (fun H locs Y => ?_)
  refine lv_if_eq (tgt := 34) hx hb dX5_sampleOf_11 (by decide) (fun c => ?_) (fun c => ?_)
  · have hf := ite_t c hf
    refine lv_iconst (v := -1) hx hb dX5_sampleOf_34 (by decide) ?_
    exact x_iret X Y hr hlk hf dX5_sampleOf_35
  · have hf := ite_f c hf
    refine lv_iload_n hx hb dX5_sampleOf_14 rfl (lv_at hl 2 rfl) ?_
    refine lv_if_lt (tgt := 34) hx hb dX5_sampleOf_15 (by decide) (fun c => ?_) (fun c => ?_)
    · have hf := ite_t c hf
      refine lv_iconst (v := -1) hx hb dX5_sampleOf_34 (by decide) ?_
      exact x_iret X Y hr hlk hf dX5_sampleOf_35
    · have hf := ite_f c hf
      refine lv_iload_n hx hb dX5_sampleOf_18 rfl (lv_at hl 2 rfl) ?_
      refine lv_aload_n hx hb dX5_sampleOf_19 rfl (lv_at hl 0 rfl) ?_
      refine x_get (v := .ref (gR g 1)) X Y cl_5 rfl (by decide) 0 (by decide) wf_X5_10 rfl dX5_sampleOf_20 ?_
      refine x_getN (v := .ref (gR g 4)) X Y cl_1 rfl (by decide) 2 (by decide) wg_X5_58 rfl dX5_sampleOf_23 ?_
      refine lv_iload_n hx hb dX5_sampleOf_26 rfl (lv_at hl 1 rfl) ?_
      refine lv_iconst (v := 1) hx hb dX5_sampleOf_27 (by decide) ?_
      obtain ⟨q6, hq, hf⟩ := bnd_t hf
      refine x_ci Y (x_rV (rest := [_]) X Y k_X5_76 (c_X3_numberOf X.hg hq) cl_3.1 rfl (by decide) rfl ⟨rfl, rfl⟩ ⟨by decide, by decide⟩ hl.1 rfl (Nat.le_of_ble_eq_true rfl) dX5_sampleOf_28 ⟨Nat.zero_le _, Nat.zero_le _⟩) (fun H locs Y => ?_)
      refine lv_icmp_lt (tgt := 36) hx hb dX5_sampleOf_31 (by decide) (fun c => ?_) (fun c => ?_)
      · have hf := ite_t c hf
        refine lv_aload_n hx hb dX5_sampleOf_36 rfl (lv_at hl 0 rfl) ?_
        refine x_get (v := .ref (gR g 1)) X Y cl_5 rfl (by decide) 0 (by decide) wf_X5_10 rfl dX5_sampleOf_37 ?_
        refine lv_aload_n hx hb dX5_sampleOf_40 rfl (lv_at hl 0 rfl) ?_
        refine x_get (v := .ref (gR g 1)) X Y cl_5 rfl (by decide) 0 (by decide) wf_X5_10 rfl dX5_sampleOf_41 ?_
        refine x_getN (v := .ref (gR g 4)) X Y cl_1 rfl (by decide) 2 (by decide) wg_X5_58 rfl dX5_sampleOf_44 ?_
        refine lv_iload_n hx hb dX5_sampleOf_47 rfl (lv_at hl 1 rfl) ?_
        obtain ⟨q7, hq, hf⟩ := bnd_t hf
        refine x_ci Y (x_rV (rest := [_]) X Y k_X5_92 (c_X3_firstOf X.hg hq) cl_3.1 rfl (by decide) rfl ⟨rfl, rfl⟩ ⟨by decide, by decide⟩ hl.1 rfl (Nat.le_of_ble_eq_true rfl) dX5_sampleOf_48 ⟨Nat.zero_le _, Nat.zero_le _⟩) (fun H locs Y => ?_)
        refine lv_iload_n hx hb dX5_sampleOf_51 rfl (lv_at hl 2 rfl) ?_
        refine lv_iadd hx hb dX5_sampleOf_52 ?_
        obtain ⟨q8, hq, hf⟩ := bnd_t hf
        refine x_ci Y (x_rV (rest := []) X Y k_X5_95 (c_X1_sampleAt X.hg hq) cl_1.1 rfl (by decide) rfl ⟨rfl, rfl⟩ ⟨by decide, by decide⟩ hl.1 rfl (Nat.le_of_ble_eq_true rfl) dX5_sampleOf_53 ⟨Nat.zero_le _, Nat.zero_le _⟩) (fun H locs Y => ?_)
        refine lv_sipush (v := 1000) hx hb dX5_sampleOf_56 (by decide) ?_
        refine lv_iadd hx hb dX5_sampleOf_59 ?_
        exact x_iret X Y hr hlk hf dX5_sampleOf_60
      · have hf := ite_f c hf
        refine lv_iconst (v := -1) hx hb dX5_sampleOf_34 (by decide) ?_
        exact x_iret X Y hr hlk hf dX5_sampleOf_35
def f_X5_sample (v1 : Int32) (I : HI) : Option (Int32 × HI) :=
  if v1 < (0 : Int32) then
    some ((-1 : Int32), I)
  else
    if v1 < (I 1 3) then
      (f_X1_sampleAt v1 I).bind fun q2 =>
      some (q2.1 + (1000 : Int32), q2.2)
    else
      some ((-1 : Int32), I)
abbrev rm_X5_sample : Room := { frames := 2, cells := 0, slots := 0, locals := 42 }
set_option maxHeartbeats 4000000 in
set_option maxRecDepth 100000 in
theorem c_X5_sample {l : Launch} {g : GX} (hg : gOk g) {v1 : Int32} {I : HI} {r : Int32 × HI} (hf : f_X5_sample v1 I = some r) : Met l yX5_sample (Cond.code yX5_sample cX5_sample 2 (some .int) :: WL) rm_X5_sample (xP g [.ref (gR g 0), .int v1] I) (xQi g r.1 r.2) 0 0 (gA g) := by
  refine x_met (by decide) hg (Nat.le_of_ble_eq_true rfl) (fun p e s m args below meth c X hr hlk Y ls hl => ?_)
  have hx := X.hx
  have hb := X.hb
  have hl : lv_has ls 2 [(0, .ref (gR g 0)), (1, .int v1)] := hl
  unfold f_X5_sample at hf
  refine lv_iload_n hx hb dX5_sample_0 rfl (lv_at hl 1 rfl) ?_
  refine lv_if_lt (tgt := 15) hx hb dX5_sample_1 (by decide) (fun c => ?_) (fun c => ?_)
  · have hf := ite_t c hf
    refine lv_iconst (v := -1) hx hb dX5_sample_15 (by decide) ?_
    exact x_iret X Y hr hlk hf dX5_sample_16
  · have hf := ite_f c hf
    refine lv_iload_n hx hb dX5_sample_4 rfl (lv_at hl 1 rfl) ?_
    refine lv_aload_n hx hb dX5_sample_5 rfl (lv_at hl 0 rfl) ?_
    refine x_get (v := .ref (gR g 1)) X Y cl_5 rfl (by decide) 0 (by decide) wf_X5_10 rfl dX5_sample_6 ?_
    refine x_getiN X Y cl_1 rfl (by decide) 3 (by decide) rfl wg_X5_98 dX5_sample_9 ?_
    refine lv_icmp_lt (tgt := 17) hx hb dX5_sample_12 (by decide) (fun c => ?_) (fun c => ?_)
    · have hf := ite_t c hf
      refine lv_aload_n hx hb dX5_sample_17 rfl (lv_at hl 0 rfl) ?_
      refine x_get (v := .ref (gR g 1)) X Y cl_5 rfl (by decide) 0 (by decide) wf_X5_10 rfl dX5_sample_18 ?_
      refine lv_iload_n hx hb dX5_sample_21 rfl (lv_at hl 1 rfl) ?_
      obtain ⟨q2, hq, hf⟩ := bnd_t hf
      refine x_ci Y (x_rV (rest := []) X Y k_X5_95 (c_X1_sampleAt X.hg hq) cl_1.1 rfl (by decide) rfl ⟨rfl, rfl⟩ ⟨by decide, by decide⟩ hl.1 rfl (Nat.le_of_ble_eq_true rfl) dX5_sample_22 ⟨Nat.zero_le _, Nat.zero_le _⟩) (fun H locs Y => ?_)
      refine lv_sipush (v := 1000) hx hb dX5_sample_25 (by decide) ?_
      refine lv_iadd hx hb dX5_sample_28 ?_
      exact x_iret X Y hr hlk hf dX5_sample_29
    · have hf := ite_f c hf
      refine lv_iconst (v := -1) hx hb dX5_sample_15 (by decide) ?_
      exact x_iret X Y hr hlk hf dX5_sample_16
def f_X5_count (v1 : Int32) (I : HI) : Option (Int32 × HI) :=
  if v1 < (0 : Int32) then
    some ((-2 : Int32), I)
  else
    if v1 ≤ (21 : Int32) then
      if v1 = (21 : Int32) then
        some (I 6 2, I)
      else
        if v1 = (20 : Int32) then
          some (I 51 1, I)
        else
          if v1 < (10 : Int32) then
            (f_X1_numberOf v1 I).bind fun q3 =>
            some (q3.1, q3.2)
          else
            (f_X1_settingOf (v1 - (10 : Int32)) I).bind fun q4 =>
            some (q4.1 + (1000 : Int32), q4.2)
    else
      some ((-2 : Int32), I)
abbrev rm_X5_count : Room := { frames := 3, cells := 0, slots := 0, locals := 62 }
set_option maxHeartbeats 4000000 in
set_option maxRecDepth 100000 in
theorem c_X5_count {l : Launch} {g : GX} (hg : gOk g) {v1 : Int32} {I : HI} {r : Int32 × HI} (hf : f_X5_count v1 I = some r) : Met l yX5_count (Cond.code yX5_count cX5_count 2 (some .int) :: WL) rm_X5_count (xP g [.ref (gR g 0), .int v1] I) (xQi g r.1 r.2) 0 0 (gA g) := by
  refine x_met (by decide) hg (Nat.le_of_ble_eq_true rfl) (fun p e s m args below meth c X hr hlk Y ls hl => ?_)
  have hx := X.hx
  have hb := X.hb
  have hl : lv_has ls 2 [(0, .ref (gR g 0)), (1, .int v1)] := hl
  unfold f_X5_count at hf
  refine lv_iload_n hx hb dX5_count_0 rfl (lv_at hl 1 rfl) ?_
  refine lv_if_lt (tgt := 10) hx hb dX5_count_1 (by decide) (fun c => ?_) (fun c => ?_)
  · have hf := ite_t c hf
    refine lv_bipush (v := -2) hx hb dX5_count_10 (by decide) ?_
    exact x_iret X Y hr hlk hf dX5_count_12
  · have hf := ite_f c hf
    refine lv_iload_n hx hb dX5_count_4 rfl (lv_at hl 1 rfl) ?_
    refine lv_bipush (v := 21) hx hb dX5_count_5 (by decide) ?_
    refine lv_icmp_le (tgt := 13) hx hb dX5_count_7 (by decide) (fun c => ?_) (fun c => ?_)
    · have hf := ite_t c hf
      refine lv_iload_n hx hb dX5_count_13 rfl (lv_at hl 1 rfl) ?_
      refine lv_bipush (v := 21) hx hb dX5_count_14 (by decide) ?_
      refine lv_icmp_ne (tgt := 27) hx hb dX5_count_16 (by decide) (fun c => ?_) (fun c => ?_)
      · have hf := ite_f c hf
        refine lv_iload_n hx hb dX5_count_27 rfl (lv_at hl 1 rfl) ?_
        refine lv_bipush (v := 20) hx hb dX5_count_28 (by decide) ?_
        refine lv_icmp_ne (tgt := 41) hx hb dX5_count_30 (by decide) (fun c => ?_) (fun c => ?_)
        · have hf := ite_f c hf
          refine lv_iload_n hx hb dX5_count_41 rfl (lv_at hl 1 rfl) ?_
          refine lv_bipush (v := 10) hx hb dX5_count_42 (by decide) ?_
          refine lv_icmp_lt (tgt := 63) hx hb dX5_count_44 (by decide) (fun c => ?_) (fun c => ?_)
          · have hf := ite_t c hf
            refine lv_aload_n hx hb dX5_count_63 rfl (lv_at hl 0 rfl) ?_
            refine x_get (v := .ref (gR g 1)) X Y cl_5 rfl (by decide) 0 (by decide) wf_X5_10 rfl dX5_count_64 ?_
            refine lv_iload_n hx hb dX5_count_67 rfl (lv_at hl 1 rfl) ?_
            obtain ⟨q3, hq, hf⟩ := bnd_t hf
            refine x_ci Y (x_rV (rest := []) X Y k_X5_108 (c_X1_numberOf X.hg hq) cl_1.1 rfl (by decide) rfl ⟨rfl, rfl⟩ ⟨by decide, by decide⟩ hl.1 rfl (Nat.le_of_ble_eq_true rfl) dX5_count_68 ⟨Nat.zero_le _, Nat.zero_le _⟩) (fun H locs Y => ?_)
            exact x_iret X Y hr hlk hf dX5_count_71
          · have hf := ite_f c hf
            refine lv_aload_n hx hb dX5_count_47 rfl (lv_at hl 0 rfl) ?_
            refine x_get (v := .ref (gR g 1)) X Y cl_5 rfl (by decide) 0 (by decide) wf_X5_10 rfl dX5_count_48 ?_
            refine lv_iload_n hx hb dX5_count_51 rfl (lv_at hl 1 rfl) ?_
            refine lv_bipush (v := 10) hx hb dX5_count_52 (by decide) ?_
            refine lv_isub hx hb dX5_count_54 ?_
            obtain ⟨q4, hq, hf⟩ := bnd_t hf
            refine x_ci Y (x_rV (rest := []) X Y k_X5_105 (c_X1_settingOf X.hg hq) cl_1.1 rfl (by decide) rfl ⟨rfl, rfl⟩ ⟨by decide, by decide⟩ hl.1 rfl (Nat.le_of_ble_eq_true rfl) dX5_count_55 ⟨Nat.zero_le _, Nat.zero_le _⟩) (fun H locs Y => ?_)
            refine lv_sipush (v := 1000) hx hb dX5_count_58 (by decide) ?_
            refine lv_iadd hx hb dX5_count_61 ?_
            exact x_iret X Y hr hlk hf dX5_count_62
        · have hf := ite_t c hf
          refine lv_aload_n hx hb dX5_count_33 rfl (lv_at hl 0 rfl) ?_
          refine x_get (v := .ref (gR g 51)) X Y cl_5 rfl (by decide) 3 (by decide) wf_X5_33 rfl dX5_count_34 ?_
          refine x_getiN X Y cl_2 rfl (by decide) 1 (by decide) rfl wg_X5_102 dX5_count_37 ?_
          exact x_iret X Y hr hlk hf dX5_count_40
      · have hf := ite_t c hf
        refine lv_aload_n hx hb dX5_count_19 rfl (lv_at hl 0 rfl) ?_
        refine x_get (v := .ref (gR g 6)) X Y cl_5 rfl (by decide) 1 (by decide) wf_X5_19 rfl dX5_count_20 ?_
        refine x_getiN X Y cl_0 rfl (by decide) 2 (by decide) rfl wg_X5_101 dX5_count_23 ?_
        exact x_iret X Y hr hlk hf dX5_count_26
    · have hf := ite_f c hf
      refine lv_bipush (v := -2) hx hb dX5_count_10 (by decide) ?_
      exact x_iret X Y hr hlk hf dX5_count_12
def f_X5_fires (v1 : Int32) (I : HI) : Option (Int32 × HI) :=
  if v1 < (-100 : Int32) then
    some ((-2 : Int32), I)
  else
    if v1 ≤ (100 : Int32) then
      (f_X1_greatestLevel I).bind fun q3 =>
      if v1 ≤ q3.1 then
        (f_X1_firingsWith v1 q3.2).bind fun q4 =>
        some (q4.1, q4.2)
      else
        some ((-5 : Int32), q3.2)
    else
      some ((-2 : Int32), I)
abbrev rm_X5_fires : Room := { frames := 3, cells := 0, slots := 0, locals := 69 }
set_option maxHeartbeats 4000000 in
set_option maxRecDepth 100000 in
theorem c_X5_fires {l : Launch} {g : GX} (hg : gOk g) {v1 : Int32} {I : HI} {r : Int32 × HI} (hf : f_X5_fires v1 I = some r) : Met l yX5_fires (Cond.code yX5_fires cX5_fires 2 (some .int) :: WL) rm_X5_fires (xP g [.ref (gR g 0), .int v1] I) (xQi g r.1 r.2) 0 0 (gA g) := by
  refine x_met (by decide) hg (Nat.le_of_ble_eq_true rfl) (fun p e s m args below meth c X hr hlk Y ls hl => ?_)
  have hx := X.hx
  have hb := X.hb
  have hl : lv_has ls 2 [(0, .ref (gR g 0)), (1, .int v1)] := hl
  unfold f_X5_fires at hf
  refine lv_iload_n hx hb dX5_fires_0 rfl (lv_at hl 1 rfl) ?_
  refine lv_bipush (v := -100) hx hb dX5_fires_1 (by decide) ?_
  refine lv_icmp_lt (tgt := 12) hx hb dX5_fires_3 (by decide) (fun c => ?_) (fun c => ?_)
  · have hf := ite_t c hf
    refine lv_bipush (v := -2) hx hb dX5_fires_12 (by decide) ?_
    exact x_iret X Y hr hlk hf dX5_fires_14
  · have hf := ite_f c hf
    refine lv_iload_n hx hb dX5_fires_6 rfl (lv_at hl 1 rfl) ?_
    refine lv_bipush (v := 100) hx hb dX5_fires_7 (by decide) ?_
    refine lv_icmp_le (tgt := 15) hx hb dX5_fires_9 (by decide) (fun c => ?_) (fun c => ?_)
    · have hf := ite_t c hf
      refine lv_iload_n hx hb dX5_fires_15 rfl (lv_at hl 1 rfl) ?_
      refine lv_aload_n hx hb dX5_fires_16 rfl (lv_at hl 0 rfl) ?_
      refine x_get (v := .ref (gR g 1)) X Y cl_5 rfl (by decide) 0 (by decide) wf_X5_10 rfl dX5_fires_17 ?_
      obtain ⟨q3, hq, hf⟩ := bnd_t hf
      refine x_ci Y (x_rV (rest := [_]) X Y k_X5_110 (c_X1_greatestLevel X.hg hq) cl_1.1 rfl (by decide) rfl ⟨rfl, rfl⟩ ⟨by decide, by decide⟩ hl.1 rfl (Nat.le_of_ble_eq_true rfl) dX5_fires_20 ⟨Nat.zero_le _, Nat.zero_le _⟩) (fun H locs Y => ?_)
      refine lv_icmp_le (tgt := 29) hx hb dX5_fires_23 (by decide) (fun c => ?_) (fun c => ?_)
      · have hf := ite_t c hf
        refine lv_aload_n hx hb dX5_fires_29 rfl (lv_at hl 0 rfl) ?_
        refine x_get (v := .ref (gR g 1)) X Y cl_5 rfl (by decide) 0 (by decide) wf_X5_10 rfl dX5_fires_30 ?_
        refine lv_iload_n hx hb dX5_fires_33 rfl (lv_at hl 1 rfl) ?_
        obtain ⟨q4, hq, hf⟩ := bnd_t hf
        refine x_ci Y (x_rV (rest := []) X Y k_X5_113 (c_X1_firingsWith X.hg hq) cl_1.1 rfl (by decide) rfl ⟨rfl, rfl⟩ ⟨by decide, by decide⟩ hl.1 rfl (Nat.le_of_ble_eq_true rfl) dX5_fires_34 ⟨Nat.zero_le _, Nat.zero_le _⟩) (fun H locs Y => ?_)
        exact x_iret X Y hr hlk hf dX5_fires_37
      · have hf := ite_f c hf
        refine lv_bipush (v := -5) hx hb dX5_fires_26 (by decide) ?_
        exact x_iret X Y hr hlk hf dX5_fires_28
    · have hf := ite_f c hf
      refine lv_bipush (v := -2) hx hb dX5_fires_12 (by decide) ?_
      exact x_iret X Y hr hlk hf dX5_fires_14
def f_X5_bestLevel_L37_b (v1 : Int32) (v4 : Int32) (k : Int32 → Int32 → Int32 → HI → Option (Int32 × HI)) (v2 : Int32) (v3 : Int32) (v5 : Int32) (I : HI) : Option (Int32 × HI) :=
  if v4 < v5 then
    if v1 = (0 : Int32) then
      some (v2 + (1000 : Int32), I)
    else
      some (v3, I)
  else
    (f_X1_firingsWith v5 I).bind fun q4 =>
    if q4.1 ≤ v3 then
      k v2 v3 (v5 + (1 : Int32)) q4.2
    else
      k v5 q4.1 (v5 + (1 : Int32)) q4.2
def f_X5_bestLevel_L37 (v1 : Int32) (v4 : Int32) : Nat → Int32 → Int32 → Int32 → HI → Option (Int32 × HI)
  | 0, _, _, _, _ => none
  | n + 1, v2, v3, v5, I => f_X5_bestLevel_L37_b v1 v4 (f_X5_bestLevel_L37 v1 v4 n) v2 v3 v5 I
def f_X5_bestLevel_J12 (v1 : Int32) (I : HI) : Option (Int32 × HI) :=
  (f_X1_firingsWith (-100 : Int32) I).bind fun q5 =>
  (f_X1_greatestLevel q5.2).bind fun q6 =>
  f_X5_bestLevel_L37 v1 q6.1 4000 (-100 : Int32) q5.1 (-99 : Int32) q6.2
def f_X5_bestLevel (v1 : Int32) (I : HI) : Option (Int32 × HI) :=
  if v1 = (0 : Int32) then
    f_X5_bestLevel_J12 v1 I
  else
    if v1 = (1 : Int32) then
      f_X5_bestLevel_J12 v1 I
    else
      some ((-2 : Int32), I)
abbrev rm_X5_bestLevel : Room := { frames := 3, cells := 0, slots := 0, locals := 69 }
set_option maxHeartbeats 4000000 in
set_option maxRecDepth 100000 in
theorem c_X5_bestLevel {l : Launch} {g : GX} (hg : gOk g) {v1 : Int32} {I : HI} {r : Int32 × HI} (hf : f_X5_bestLevel v1 I = some r) : Met l yX5_bestLevel (Cond.code yX5_bestLevel cX5_bestLevel 7 (some .int) :: WL) rm_X5_bestLevel (xP g [.ref (gR g 0), .int v1] I) (xQi g r.1 r.2) 0 0 (gA g) := by
  refine x_met (by decide) hg (Nat.le_of_ble_eq_true rfl) (fun p e s m args below meth c X hr hlk Y ls hl => ?_)
  have hx := X.hx
  have hb := X.hb
  have hl : lv_has ls 7 [(0, .ref (gR g 0)), (1, .int v1)] := hl
  have hL37 : ∀ (v1 : Int32) (v4 : Int32) (n : Nat) (v2 : Int32) (v3 : Int32) (v5 : Int32) (I : HI) (H : Heap) (locs : List Loc) (ls : Array Slot), f_X5_bestLevel_L37 v1 v4 n v2 v3 v5 I = some r → XD g I s H locs → lv_has ls 7 [(0, .ref (gR g 0)), (1, .int v1), (2, .int v2), (3, .int v3), (4, .int v4), (5, .int v5)] → W p l e rm_X5_bestLevel s m args below meth c H locs 0 0 (MQ below (xQi g r.1 r.2) args s 0 0 (gA g)) (F0 m 37 ls []) := by
    intro v1 v4 n
    induction n with
    | zero => intro v2 v3 v5 I H locs ls hf Y hl; exact nn_t hf
    | succ n ih =>
      intro v2 v3 v5 I H locs ls hf Y hl
      have hf : f_X5_bestLevel_L37_b v1 v4 (f_X5_bestLevel_L37 v1 v4 n) v2 v3 v5 I = some r := hf
      unfold f_X5_bestLevel_L37_b at hf
      refine lv_iload hx hb dX5_bestLevel_37 (lv_at hl 5 rfl) ?_
      refine lv_iload hx hb dX5_bestLevel_39 (lv_at hl 4 rfl) ?_
      refine lv_icmp_gt (tgt := 73) hx hb dX5_bestLevel_41 (by decide) (fun c => ?_) (fun c => ?_)
      · have hf := ite_t c hf
        refine lv_iload_n hx hb dX5_bestLevel_73 rfl (lv_at hl 1 rfl) ?_
        refine lv_if_ne (tgt := 85) hx hb dX5_bestLevel_74 (by decide) (fun c => ?_) (fun c => ?_)
        · have hf := ite_f c hf
          refine lv_iload_n hx hb dX5_bestLevel_85 rfl (lv_at hl 3 rfl) ?_
          exact x_iret X Y hr hlk hf dX5_bestLevel_86
        · have hf := ite_t c hf
          refine lv_iload_n hx hb dX5_bestLevel_77 rfl (lv_at hl 2 rfl) ?_
          refine lv_sipush (v := 1000) hx hb dX5_bestLevel_78 (by decide) ?_
          refine lv_iadd hx hb dX5_bestLevel_81 ?_
          refine lv_goto (tgt := 86) hx hb dX5_bestLevel_82 (by decide) ?_
          exact x_iret X Y hr hlk hf dX5_bestLevel_86
      · have hf := ite_f c hf
        refine lv_aload_n hx hb dX5_bestLevel_44 rfl (lv_at hl 0 rfl) ?_
        refine x_get (v := .ref (gR g 1)) X Y cl_5 rfl (by decide) 0 (by decide) wf_X5_10 rfl dX5_bestLevel_45 ?_
        refine lv_iload hx hb dX5_bestLevel_48 (lv_at hl 5 rfl) ?_
        obtain ⟨q4, hq, hf⟩ := bnd_t hf
        refine x_ci Y (x_rV (rest := []) X Y k_X5_113 (c_X1_firingsWith X.hg hq) cl_1.1 rfl (by decide) rfl ⟨rfl, rfl⟩ ⟨by decide, by decide⟩ hl.1 rfl (Nat.le_of_ble_eq_true rfl) dX5_bestLevel_50 ⟨Nat.zero_le _, Nat.zero_le _⟩) (fun H locs Y => ?_)
        refine lv_istore (lv' := [(6, _), (0, _), (1, _), (2, _), (3, _), (4, _), (5, _)]) hx hb dX5_bestLevel_53 hl (by decide) rfl (fun ls hl => ?_)
        refine lv_iload hx hb dX5_bestLevel_55 (lv_at hl 0 rfl) ?_
        refine lv_iload_n hx hb dX5_bestLevel_57 rfl (lv_at hl 4 rfl) ?_
        refine lv_icmp_le (tgt := 67) hx hb dX5_bestLevel_58 (by decide) (fun c => ?_) (fun c => ?_)
        · have hf := ite_t c hf
          refine lv_iinc (v := _ + (1 : Int32)) (lv' := [(5, _), (6, _), (0, _), (1, _), (2, _), (3, _), (4, _)]) hx hb dX5_bestLevel_67 hl (k := 6) rfl rfl (by decide) rfl (fun ls hl => ?_)
          refine lv_goto (tgt := 37) hx hb dX5_bestLevel_70 (by decide) ?_
          exact ih _ _ _ _ _ _ _ hf Y (lv_sub hl [2, 3, 4, 5, 6, 0] rfl)
        · have hf := ite_f c hf
          refine lv_iload hx hb dX5_bestLevel_61 (lv_at hl 6 rfl) ?_
          refine lv_istore_n (lv' := [(2, _), (6, _), (0, _), (1, _), (3, _), (4, _), (5, _)]) hx hb dX5_bestLevel_63 rfl hl (by decide) rfl (fun ls hl => ?_)
          refine lv_iload hx hb dX5_bestLevel_64 (lv_at hl 1 rfl) ?_
          refine lv_istore_n (lv' := [(3, _), (2, _), (6, _), (0, _), (1, _), (4, _), (5, _)]) hx hb dX5_bestLevel_66 rfl hl (by decide) rfl (fun ls hl => ?_)
          refine lv_iinc (v := _ + (1 : Int32)) (lv' := [(5, _), (3, _), (2, _), (6, _), (0, _), (1, _), (4, _)]) hx hb dX5_bestLevel_67 hl (k := 6) rfl rfl (by decide) rfl (fun ls hl => ?_)
          refine lv_goto (tgt := 37) hx hb dX5_bestLevel_70 (by decide) ?_
          exact ih _ _ _ _ _ _ _ hf Y (lv_sub hl [4, 5, 2, 1, 6, 0] rfl)
  have hJ12 : ∀ (v1 : Int32) (I : HI) (H : Heap) (locs : List Loc) (ls : Array Slot), f_X5_bestLevel_J12 v1 I = some r → XD g I s H locs → lv_has ls 7 [(0, .ref (gR g 0)), (1, .int v1)] → W p l e rm_X5_bestLevel s m args below meth c H locs 0 0 (MQ below (xQi g r.1 r.2) args s 0 0 (gA g)) (F0 m 12 ls []) := by
    intro v1 I H locs ls hf Y hl
    unfold f_X5_bestLevel_J12 at hf
    refine lv_bipush (v := -100) hx hb dX5_bestLevel_12 (by decide) ?_
    refine lv_istore_n (lv' := [(2, _), (0, _), (1, _)]) hx hb dX5_bestLevel_14 rfl hl (by decide) rfl (fun ls hl => ?_)
    refine lv_aload_n hx hb dX5_bestLevel_15 rfl (lv_at hl 1 rfl) ?_
    refine x_get (v := .ref (gR g 1)) X Y cl_5 rfl (by decide) 0 (by decide) wf_X5_10 rfl dX5_bestLevel_16 ?_
    refine lv_iload_n hx hb dX5_bestLevel_19 rfl (lv_at hl 0 rfl) ?_
    obtain ⟨q5, hq, hf⟩ := bnd_t hf
    refine x_ci Y (x_rV (rest := []) X Y k_X5_113 (c_X1_firingsWith X.hg hq) cl_1.1 rfl (by decide) rfl ⟨rfl, rfl⟩ ⟨by decide, by decide⟩ hl.1 rfl (Nat.le_of_ble_eq_true rfl) dX5_bestLevel_20 ⟨Nat.zero_le _, Nat.zero_le _⟩) (fun H locs Y => ?_)
    refine lv_istore_n (lv' := [(3, _), (2, _), (0, _), (1, _)]) hx hb dX5_bestLevel_23 rfl hl (by decide) rfl (fun ls hl => ?_)
    refine lv_aload_n hx hb dX5_bestLevel_24 rfl (lv_at hl 2 rfl) ?_
    refine x_get (v := .ref (gR g 1)) X Y cl_5 rfl (by decide) 0 (by decide) wf_X5_10 rfl dX5_bestLevel_25 ?_
    obtain ⟨q6, hq, hf⟩ := bnd_t hf
    refine x_ci Y (x_rV (rest := []) X Y k_X5_110 (c_X1_greatestLevel X.hg hq) cl_1.1 rfl (by decide) rfl ⟨rfl, rfl⟩ ⟨by decide, by decide⟩ hl.1 rfl (Nat.le_of_ble_eq_true rfl) dX5_bestLevel_28 ⟨Nat.zero_le _, Nat.zero_le _⟩) (fun H locs Y => ?_)
    refine lv_istore (lv' := [(4, _), (3, _), (2, _), (0, _), (1, _)]) hx hb dX5_bestLevel_31 hl (by decide) rfl (fun ls hl => ?_)
    refine lv_bipush (v := -99) hx hb dX5_bestLevel_33 (by decide) ?_
    refine lv_istore (lv' := [(5, _), (4, _), (3, _), (2, _), (0, _), (1, _)]) hx hb dX5_bestLevel_35 hl (by decide) rfl (fun ls hl => ?_)
    exact hL37 _ _ _ _ _ _ _ _ _ _ hf Y (lv_sub hl [4, 5, 3, 2, 1, 0] rfl)
  unfold f_X5_bestLevel at hf
  refine lv_iload_n hx hb dX5_bestLevel_0 rfl (lv_at hl 1 rfl) ?_
  refine lv_if_eq (tgt := 12) hx hb dX5_bestLevel_1 (by decide) (fun c => ?_) (fun c => ?_)
  · have hf := ite_t c hf
    exact hJ12 _ _ _ _ _ hf Y (lv_sub hl [0, 1] rfl)
  · have hf := ite_f c hf
    refine lv_iload_n hx hb dX5_bestLevel_4 rfl (lv_at hl 1 rfl) ?_
    refine lv_iconst (v := 1) hx hb dX5_bestLevel_5 (by decide) ?_
    refine lv_icmp_eq (tgt := 12) hx hb dX5_bestLevel_6 (by decide) (fun c => ?_) (fun c => ?_)
    · have hf := ite_t c hf
      exact hJ12 _ _ _ _ _ hf Y (lv_sub hl [0, 1] rfl)
    · have hf := ite_f c hf
      refine lv_bipush (v := -2) hx hb dX5_bestLevel_9 (by decide) ?_
      exact x_iret X Y hr hlk hf dX5_bestLevel_11
def f_X5_unlike (v1 : Int32) (v2 : Int32) (I : HI) : Option (Int32 × HI) :=
  (f_X3_has v1 I).bind fun q4 =>
  if q4.1 = (0 : Int32) then
    some ((-1 : Int32), q4.2)
  else
    (f_X3_has v2 q4.2).bind fun q5 =>
    if q5.1 = (0 : Int32) then
      some ((-1 : Int32), q5.2)
    else
      (f_X1_differenceOf v1 v2 q5.2).bind fun q6 =>
      some (q6.1, q6.2)
abbrev rm_X5_unlike : Room := { frames := 4, cells := 0, slots := 0, locals := 92 }
set_option maxHeartbeats 4000000 in
set_option maxRecDepth 100000 in
theorem c_X5_unlike {l : Launch} {g : GX} (hg : gOk g) {v1 : Int32} {v2 : Int32} {I : HI} {r : Int32 × HI} (hf : f_X5_unlike v1 v2 I = some r) : Met l yX5_unlike (Cond.code yX5_unlike cX5_unlike 3 (some .int) :: WL) rm_X5_unlike (xP g [.ref (gR g 0), .int v1, .int v2] I) (xQi g r.1 r.2) 0 0 (gA g) := by
  refine x_met (by decide) hg (Nat.le_of_ble_eq_true rfl) (fun p e s m args below meth c X hr hlk Y ls hl => ?_)
  have hx := X.hx
  have hb := X.hb
  have hl : lv_has ls 3 [(0, .ref (gR g 0)), (1, .int v1), (2, .int v2)] := hl
  unfold f_X5_unlike at hf
  refine lv_aload_n hx hb dX5_unlike_0 rfl (lv_at hl 0 rfl) ?_
  refine x_get (v := .ref (gR g 1)) X Y cl_5 rfl (by decide) 0 (by decide) wf_X5_10 rfl dX5_unlike_1 ?_
  refine x_getN (v := .ref (gR g 4)) X Y cl_1 rfl (by decide) 2 (by decide) wg_X5_58 rfl dX5_unlike_4 ?_
  refine lv_iload_n hx hb dX5_unlike_7 rfl (lv_at hl 1 rfl) ?_
  obtain ⟨q4, hq, hf⟩ := bnd_t hf
  refine x_ci Y (x_rV (rest := []) X Y k_X5_62 (c_X3_has X.hg hq) cl_3.1 rfl (by decide) rfl ⟨rfl, rfl⟩ ⟨by decide, by decide⟩ hl.1 rfl (Nat.le_of_ble_eq_true rfl) dX5_unlike_8 ⟨Nat.zero_le _, Nat.zero_le _⟩) (fun H locs Y => ?_)
  refine lv_if_eq (tgt := 28) hx hb dX5_unlike_11 (by decide) (fun c => ?_) (fun c => ?_)
  · have hf := ite_t c hf
    refine lv_iconst (v := -1) hx hb dX5_unlike_28 (by decide) ?_
    exact x_iret X Y hr hlk hf dX5_unlike_29
  · have hf := ite_f c hf
    refine lv_aload_n hx hb dX5_unlike_14 rfl (lv_at hl 0 rfl) ?_
    refine x_get (v := .ref (gR g 1)) X Y cl_5 rfl (by decide) 0 (by decide) wf_X5_10 rfl dX5_unlike_15 ?_
    refine x_getN (v := .ref (gR g 4)) X Y cl_1 rfl (by decide) 2 (by decide) wg_X5_58 rfl dX5_unlike_18 ?_
    refine lv_iload_n hx hb dX5_unlike_21 rfl (lv_at hl 2 rfl) ?_
    obtain ⟨q5, hq, hf⟩ := bnd_t hf
    refine x_ci Y (x_rV (rest := []) X Y k_X5_62 (c_X3_has X.hg hq) cl_3.1 rfl (by decide) rfl ⟨rfl, rfl⟩ ⟨by decide, by decide⟩ hl.1 rfl (Nat.le_of_ble_eq_true rfl) dX5_unlike_22 ⟨Nat.zero_le _, Nat.zero_le _⟩) (fun H locs Y => ?_)
    refine lv_if_ne (tgt := 30) hx hb dX5_unlike_25 (by decide) (fun c => ?_) (fun c => ?_)
    · have hf := ite_f c hf
      refine lv_aload_n hx hb dX5_unlike_30 rfl (lv_at hl 0 rfl) ?_
      refine x_get (v := .ref (gR g 1)) X Y cl_5 rfl (by decide) 0 (by decide) wf_X5_10 rfl dX5_unlike_31 ?_
      refine lv_iload_n hx hb dX5_unlike_34 rfl (lv_at hl 1 rfl) ?_
      refine lv_iload_n hx hb dX5_unlike_35 rfl (lv_at hl 2 rfl) ?_
      obtain ⟨q6, hq, hf⟩ := bnd_t hf
      refine x_ci Y (x_rV (rest := []) X Y k_X5_116 (c_X1_differenceOf X.hg hq) cl_1.1 rfl (by decide) rfl ⟨rfl, rfl⟩ ⟨by decide, by decide⟩ hl.1 rfl (Nat.le_of_ble_eq_true rfl) dX5_unlike_36 ⟨Nat.zero_le _, Nat.zero_le _⟩) (fun H locs Y => ?_)
      exact x_iret X Y hr hlk hf dX5_unlike_39
    · have hf := ite_t c hf
      refine lv_iconst (v := -1) hx hb dX5_unlike_28 (by decide) ?_
      exact x_iret X Y hr hlk hf dX5_unlike_29
def f_X5_nearest_L24_b (v1 : Int32) (k : Int32 → Int32 → Int32 → HI → Option (Int32 × HI)) (v2 : Int32) (v3 : Int32) (v4 : Int32) (I : HI) : Option (Int32 × HI) :=
  if (I 4 1) ≤ v4 then
    some (v2, I)
  else
    if v4 = v1 then
      k v2 v3 (v4 + (1 : Int32)) I
    else
      (f_X1_differenceOf v1 v4 I).bind fun q3 =>
      if v2 = (-6 : Int32) then
        k v4 q3.1 (v4 + (1 : Int32)) q3.2
      else
        if v3 ≤ q3.1 then
          k v2 v3 (v4 + (1 : Int32)) q3.2
        else
          k v4 q3.1 (v4 + (1 : Int32)) q3.2
def f_X5_nearest_L24 (v1 : Int32) : Nat → Int32 → Int32 → Int32 → HI → Option (Int32 × HI)
  | 0, _, _, _, _ => none
  | n + 1, v2, v3, v4, I => f_X5_nearest_L24_b v1 (f_X5_nearest_L24 v1 n) v2 v3 v4 I
def f_X5_nearest (v1 : Int32) (I : HI) : Option (Int32 × HI) :=
  (f_X3_has v1 I).bind fun q4 =>
  if q4.1 = (0 : Int32) then
    some ((-1 : Int32), q4.2)
  else
    f_X5_nearest_L24 v1 4000 (-6 : Int32) (0 : Int32) (0 : Int32) q4.2
abbrev rm_X5_nearest : Room := { frames := 4, cells := 0, slots := 0, locals := 92 }
set_option maxHeartbeats 4000000 in
set_option maxRecDepth 100000 in
theorem c_X5_nearest {l : Launch} {g : GX} (hg : gOk g) {v1 : Int32} {I : HI} {r : Int32 × HI} (hf : f_X5_nearest v1 I = some r) : Met l yX5_nearest (Cond.code yX5_nearest cX5_nearest 6 (some .int) :: WL) rm_X5_nearest (xP g [.ref (gR g 0), .int v1] I) (xQi g r.1 r.2) 0 0 (gA g) := by
  refine x_met (by decide) hg (Nat.le_of_ble_eq_true rfl) (fun p e s m args below meth c X hr hlk Y ls hl => ?_)
  have hx := X.hx
  have hb := X.hb
  have hl : lv_has ls 6 [(0, .ref (gR g 0)), (1, .int v1)] := hl
  have hL24 : ∀ (v1 : Int32) (n : Nat) (v2 : Int32) (v3 : Int32) (v4 : Int32) (I : HI) (H : Heap) (locs : List Loc) (ls : Array Slot), f_X5_nearest_L24 v1 n v2 v3 v4 I = some r → XD g I s H locs → lv_has ls 6 [(0, .ref (gR g 0)), (1, .int v1), (2, .int v2), (3, .int v3), (4, .int v4)] → W p l e rm_X5_nearest s m args below meth c H locs 0 0 (MQ below (xQi g r.1 r.2) args s 0 0 (gA g)) (F0 m 24 ls []) := by
    intro v1 n
    induction n with
    | zero => intro v2 v3 v4 I H locs ls hf Y hl; exact nn_t hf
    | succ n ih =>
      intro v2 v3 v4 I H locs ls hf Y hl
      have hf : f_X5_nearest_L24_b v1 (f_X5_nearest_L24 v1 n) v2 v3 v4 I = some r := hf
      unfold f_X5_nearest_L24_b at hf
      refine lv_iload hx hb dX5_nearest_24 (lv_at hl 4 rfl) ?_
      refine lv_aload_n hx hb dX5_nearest_26 rfl (lv_at hl 0 rfl) ?_
      refine x_get (v := .ref (gR g 1)) X Y cl_5 rfl (by decide) 0 (by decide) wf_X5_10 rfl dX5_nearest_27 ?_
      refine x_getN (v := .ref (gR g 4)) X Y cl_1 rfl (by decide) 2 (by decide) wg_X5_58 rfl dX5_nearest_30 ?_
      refine x_getiN X Y cl_3 rfl (by decide) 1 (by decide) rfl wg_X5_72 dX5_nearest_33 ?_
      refine lv_icmp_ge (tgt := 81) hx hb dX5_nearest_36 (by decide) (fun c => ?_) (fun c => ?_)
      · have hf := ite_t c hf
        refine lv_iload_n hx hb dX5_nearest_81 rfl (lv_at hl 2 rfl) ?_
        exact x_iret X Y hr hlk hf dX5_nearest_82
      · have hf := ite_f c hf
        refine lv_iload hx hb dX5_nearest_39 (lv_at hl 4 rfl) ?_
        refine lv_iload_n hx hb dX5_nearest_41 rfl (lv_at hl 1 rfl) ?_
        refine lv_icmp_eq (tgt := 75) hx hb dX5_nearest_42 (by decide) (fun c => ?_) (fun c => ?_)
        · have hf := ite_t c hf
          refine lv_iinc (v := _ + (1 : Int32)) (lv' := [(4, _), (0, _), (1, _), (2, _), (3, _)]) hx hb dX5_nearest_75 hl (k := 4) rfl rfl (by decide) rfl (fun ls hl => ?_)
          refine lv_goto (tgt := 24) hx hb dX5_nearest_78 (by decide) ?_
          exact ih _ _ _ _ _ _ _ hf Y (lv_sub hl [1, 2, 3, 4, 0] rfl)
        · have hf := ite_f c hf
          refine lv_aload_n hx hb dX5_nearest_45 rfl (lv_at hl 0 rfl) ?_
          refine x_get (v := .ref (gR g 1)) X Y cl_5 rfl (by decide) 0 (by decide) wf_X5_10 rfl dX5_nearest_46 ?_
          refine lv_iload_n hx hb dX5_nearest_49 rfl (lv_at hl 1 rfl) ?_
          refine lv_iload hx hb dX5_nearest_50 (lv_at hl 4 rfl) ?_
          obtain ⟨q3, hq, hf⟩ := bnd_t hf
          refine x_ci Y (x_rV (rest := []) X Y k_X5_116 (c_X1_differenceOf X.hg hq) cl_1.1 rfl (by decide) rfl ⟨rfl, rfl⟩ ⟨by decide, by decide⟩ hl.1 rfl (Nat.le_of_ble_eq_true rfl) dX5_nearest_52 ⟨Nat.zero_le _, Nat.zero_le _⟩) (fun H locs Y => ?_)
          refine lv_istore (lv' := [(5, _), (0, _), (1, _), (2, _), (3, _), (4, _)]) hx hb dX5_nearest_55 hl (by decide) rfl (fun ls hl => ?_)
          refine lv_iload_n hx hb dX5_nearest_57 rfl (lv_at hl 3 rfl) ?_
          refine lv_bipush (v := -6) hx hb dX5_nearest_58 (by decide) ?_
          refine lv_icmp_eq (tgt := 69) hx hb dX5_nearest_60 (by decide) (fun c => ?_) (fun c => ?_)
          · have hf := ite_t c hf
            refine lv_iload hx hb dX5_nearest_69 (lv_at hl 5 rfl) ?_
            refine lv_istore_n (lv' := [(2, _), (5, _), (0, _), (1, _), (3, _), (4, _)]) hx hb dX5_nearest_71 rfl hl (by decide) rfl (fun ls hl => ?_)
            refine lv_iload hx hb dX5_nearest_72 (lv_at hl 1 rfl) ?_
            refine lv_istore_n (lv' := [(3, _), (2, _), (5, _), (0, _), (1, _), (4, _)]) hx hb dX5_nearest_74 rfl hl (by decide) rfl (fun ls hl => ?_)
            refine lv_iinc (v := _ + (1 : Int32)) (lv' := [(4, _), (3, _), (2, _), (5, _), (0, _), (1, _)]) hx hb dX5_nearest_75 hl (k := 5) rfl rfl (by decide) rfl (fun ls hl => ?_)
            refine lv_goto (tgt := 24) hx hb dX5_nearest_78 (by decide) ?_
            exact ih _ _ _ _ _ _ _ hf Y (lv_sub hl [4, 5, 2, 1, 0] rfl)
          · have hf := ite_f c hf
            refine lv_iload hx hb dX5_nearest_63 (lv_at hl 0 rfl) ?_
            refine lv_iload_n hx hb dX5_nearest_65 rfl (lv_at hl 4 rfl) ?_
            refine lv_icmp_ge (tgt := 75) hx hb dX5_nearest_66 (by decide) (fun c => ?_) (fun c => ?_)
            · have hf := ite_t c hf
              refine lv_iinc (v := _ + (1 : Int32)) (lv' := [(4, _), (5, _), (0, _), (1, _), (2, _), (3, _)]) hx hb dX5_nearest_75 hl (k := 5) rfl rfl (by decide) rfl (fun ls hl => ?_)
              refine lv_goto (tgt := 24) hx hb dX5_nearest_78 (by decide) ?_
              exact ih _ _ _ _ _ _ _ hf Y (lv_sub hl [2, 3, 4, 5, 0] rfl)
            · have hf := ite_f c hf
              refine lv_iload hx hb dX5_nearest_69 (lv_at hl 5 rfl) ?_
              refine lv_istore_n (lv' := [(2, _), (5, _), (0, _), (1, _), (3, _), (4, _)]) hx hb dX5_nearest_71 rfl hl (by decide) rfl (fun ls hl => ?_)
              refine lv_iload hx hb dX5_nearest_72 (lv_at hl 1 rfl) ?_
              refine lv_istore_n (lv' := [(3, _), (2, _), (5, _), (0, _), (1, _), (4, _)]) hx hb dX5_nearest_74 rfl hl (by decide) rfl (fun ls hl => ?_)
              refine lv_iinc (v := _ + (1 : Int32)) (lv' := [(4, _), (3, _), (2, _), (5, _), (0, _), (1, _)]) hx hb dX5_nearest_75 hl (k := 5) rfl rfl (by decide) rfl (fun ls hl => ?_)
              refine lv_goto (tgt := 24) hx hb dX5_nearest_78 (by decide) ?_
              exact ih _ _ _ _ _ _ _ hf Y (lv_sub hl [4, 5, 2, 1, 0] rfl)
  unfold f_X5_nearest at hf
  refine lv_aload_n hx hb dX5_nearest_0 rfl (lv_at hl 0 rfl) ?_
  refine x_get (v := .ref (gR g 1)) X Y cl_5 rfl (by decide) 0 (by decide) wf_X5_10 rfl dX5_nearest_1 ?_
  refine x_getN (v := .ref (gR g 4)) X Y cl_1 rfl (by decide) 2 (by decide) wg_X5_58 rfl dX5_nearest_4 ?_
  refine lv_iload_n hx hb dX5_nearest_7 rfl (lv_at hl 1 rfl) ?_
  obtain ⟨q4, hq, hf⟩ := bnd_t hf
  refine x_ci Y (x_rV (rest := []) X Y k_X5_62 (c_X3_has X.hg hq) cl_3.1 rfl (by decide) rfl ⟨rfl, rfl⟩ ⟨by decide, by decide⟩ hl.1 rfl (Nat.le_of_ble_eq_true rfl) dX5_nearest_8 ⟨Nat.zero_le _, Nat.zero_le _⟩) (fun H locs Y => ?_)
  refine lv_if_ne (tgt := 16) hx hb dX5_nearest_11 (by decide) (fun c => ?_) (fun c => ?_)
  · have hf := ite_f c hf
    refine lv_bipush (v := -6) hx hb dX5_nearest_16 (by decide) ?_
    refine lv_istore_n (lv' := [(2, _), (0, _), (1, _)]) hx hb dX5_nearest_18 rfl hl (by decide) rfl (fun ls hl => ?_)
    refine lv_iconst (v := 0) hx hb dX5_nearest_19 (by decide) ?_
    refine lv_istore_n (lv' := [(3, _), (2, _), (0, _), (1, _)]) hx hb dX5_nearest_20 rfl hl (by decide) rfl (fun ls hl => ?_)
    refine lv_iconst (v := 0) hx hb dX5_nearest_21 (by decide) ?_
    refine lv_istore (lv' := [(4, _), (3, _), (2, _), (0, _), (1, _)]) hx hb dX5_nearest_22 hl (by decide) rfl (fun ls hl => ?_)
    exact hL24 _ _ _ _ _ _ _ _ _ hf Y (lv_sub hl [3, 4, 2, 1, 0] rfl)
  · have hf := ite_t c hf
    refine lv_iconst (v := -1) hx hb dX5_nearest_14 (by decide) ?_
    exact x_iret X Y hr hlk hf dX5_nearest_15
def f_X5_undo (I : HI) : Option (Int32 × HI) :=
  if (I 6 2) = (0 : Int32) then
    some ((-5 : Int32), I)
  else
    (f_X0_bringBack I).bind fun q2 =>
    some (q2.2 6 2, q2.2)
abbrev rm_X5_undo : Room := { frames := 5, cells := 0, slots := 0, locals := 126 }
set_option maxHeartbeats 4000000 in
set_option maxRecDepth 100000 in
theorem c_X5_undo {l : Launch} {g : GX} (hg : gOk g) {I : HI} {r : Int32 × HI} (hf : f_X5_undo I = some r) : Met l yX5_undo (Cond.code yX5_undo cX5_undo 1 (some .int) :: WL) rm_X5_undo (xP g [.ref (gR g 0)] I) (xQi g r.1 r.2) 0 0 (gA g) := by
  refine x_met (by decide) hg (Nat.le_of_ble_eq_true rfl) (fun p e s m args below meth c X hr hlk Y ls hl => ?_)
  have hx := X.hx
  have hb := X.hb
  have hl : lv_has ls 1 [(0, .ref (gR g 0))] := hl
  unfold f_X5_undo at hf
  refine lv_aload_n hx hb dX5_undo_0 rfl (lv_at hl 0 rfl) ?_
  refine x_get (v := .ref (gR g 6)) X Y cl_5 rfl (by decide) 1 (by decide) wf_X5_19 rfl dX5_undo_1 ?_
  refine x_getiN X Y cl_0 rfl (by decide) 2 (by decide) rfl wg_X5_101 dX5_undo_4 ?_
  refine lv_if_ne (tgt := 13) hx hb dX5_undo_7 (by decide) (fun c => ?_) (fun c => ?_)
  · have hf := ite_f c hf
    refine lv_aload_n hx hb dX5_undo_13 rfl (lv_at hl 0 rfl) ?_
    refine x_get (v := .ref (gR g 6)) X Y cl_5 rfl (by decide) 1 (by decide) wf_X5_19 rfl dX5_undo_14 ?_
    refine lv_aload_n hx hb dX5_undo_17 rfl (lv_at hl 0 rfl) ?_
    refine x_get (v := .ref (gR g 1)) X Y cl_5 rfl (by decide) 0 (by decide) wf_X5_10 rfl dX5_undo_18 ?_
    obtain ⟨q2, hq, hf⟩ := bnd_t hf
    refine x_cv Y (x_rV (rest := []) X Y k_X5_153 (c_X0_bringBack X.hg hq) cl_0.1 rfl (by decide) rfl ⟨rfl, rfl⟩ ⟨by decide, by decide⟩ hl.1 rfl (Nat.le_of_ble_eq_true rfl) dX5_undo_21 ⟨Nat.zero_le _, Nat.zero_le _⟩) (fun H locs Y => ?_)
    refine lv_aload_n hx hb dX5_undo_24 rfl (lv_at hl 0 rfl) ?_
    refine x_get (v := .ref (gR g 6)) X Y cl_5 rfl (by decide) 1 (by decide) wf_X5_19 rfl dX5_undo_25 ?_
    refine x_getiN X Y cl_0 rfl (by decide) 2 (by decide) rfl wg_X5_101 dX5_undo_28 ?_
    exact x_iret X Y hr hlk hf dX5_undo_31
  · have hf := ite_t c hf
    refine lv_bipush (v := -5) hx hb dX5_undo_10 (by decide) ?_
    exact x_iret X Y hr hlk hf dX5_undo_12
