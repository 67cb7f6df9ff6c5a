def f_L_isWell_J559 (v1 : Int32) (I : HJ) : Option (Int32 × HJ) :=
  (f_X5_segment v1 (0 : Int32) I.1).bind fun q37 =>
  if ¬ (q37.1 = (-1 : Int32)) then none else
  some ((1 : Int32), (q37.2, I.2))
def f_L_isWell_L288_b (kk : Int32 → Int32 → Int32 → HJ → Option (Int32 × HJ)) (v1 : Int32) (v2 : Int32) (v7 : Int32) (v8 : Int32) (v9 : Int32) (v11 : Int32) (k : Int32 → Int32 → Int32 → Int32 → HJ → Option (Int32 × HJ)) (v6 : Int32) (v12 : Int32) (v13 : Int32) (v14 : Int32) (I : HJ) : Option (Int32 × HJ) :=
  if v9 ≤ v14 then
    if v6 = (0 : Int32) then none else
    (f_X5_segment v7 (6 : Int32) I.1).bind fun q38 =>
    if ¬ (v12 = (q38.1 - (10000 : Int32))) then none else
    (f_X5_segment v7 (7 : Int32) q38.2).bind fun q39 =>
    if ¬ (v13 = q39.1) then none else
    (f_X5_sampleOf v7 v9 q39.2).bind fun q40 =>
    if ¬ (q40.1 = (-1 : Int32)) then none else
    if (1 : Int32) = (0 : Int32) then none else
    if v8 ≤ (0 : Int32) then none else
    (f_X5_segment v7 (3 : Int32) q40.2).bind fun q41 =>
    if q41.1 = (0 : Int32) then
      (f_X5_sample v8 q41.2).bind fun q42 =>
      (f_X5_sample (v8 - (1 : Int32)) q42.2).bind fun q43 =>
      if q42.1 ≤ q43.1 then none else
      let x44 := (v11 + v9) - (1 : Int32)
      kk x44 (1 : Int32) (v7 + (1 : Int32)) (q43.2, I.2)
    else
      (f_X5_sample v8 q41.2).bind fun q45 =>
      (f_X5_sample (v8 - (1 : Int32)) q45.2).bind fun q46 =>
      if q46.1 ≤ q45.1 then none else
      let x47 := (v11 + v9) - (1 : Int32)
      kk x47 (1 : Int32) (v7 + (1 : Int32)) (q46.2, I.2)
  else
    if v6 = (0 : Int32) then none else
    (f_X5_sampleOf v7 v14 I.1).bind fun q48 =>
    (f_X5_sample (v11 + v14) q48.2).bind fun q49 =>
    if ¬ (q48.1 = q49.1) then none else
    (f_X5_segment v7 (4 : Int32) q49.2).bind fun q50 =>
    if q48.1 < q50.1 then none else
    (f_X5_segment v7 (5 : Int32) q50.2).bind fun q51 =>
    if q51.1 < q48.1 then none else
    let x52 := v12 + (q48.1 - (1000 : Int32))
    if v14 ≤ (0 : Int32) then
      let x53 := v13 + (0 : Int32)
      k (1 : Int32) x52 x53 (v14 + (1 : Int32)) (q51.2, I.2)
    else
      (f_X5_sampleOf v7 (v14 - (1 : Int32)) q51.2).bind fun q54 =>
      if q48.1 ≤ q54.1 then
        let x55 := v13 + (0 : Int32)
        k (1 : Int32) x52 x55 (v14 + (1 : Int32)) (q54.2, I.2)
      else
        let x56 := v13 + (1 : Int32)
        k (1 : Int32) x52 x56 (v14 + (1 : Int32)) (q54.2, I.2)
def f_L_isWell_L288 (kk : Int32 → Int32 → Int32 → HJ → Option (Int32 × HJ)) (v1 : Int32) (v2 : Int32) (v7 : Int32) (v8 : Int32) (v9 : Int32) (v11 : Int32) : Nat → Int32 → Int32 → Int32 → Int32 → HJ → Option (Int32 × HJ)
  | 0, _, _, _, _, _ => none
  | n + 1, v6, v12, v13, v14, I => f_L_isWell_L288_b kk v1 v2 v7 v8 v9 v11 (f_L_isWell_L288 kk v1 v2 v7 v8 v9 v11 n) v6 v12 v13 v14 I
def f_L_isWell_L204_b (v1 : Int32) (v2 : Int32) (k : Int32 → Int32 → Int32 → HJ → Option (Int32 × HJ)) (v5 : Int32) (v6 : Int32) (v7 : Int32) (I : HJ) : Option (Int32 × HJ) :=
  if v1 ≤ v7 then
    if v6 = (0 : Int32) then none else
    if v1 = (0 : Int32) then
      f_L_isWell_J559 v1 I
    else
      (f_X5_count (8 : Int32) I.1).bind fun q57 =>
      if ((v2 - v5) - (1 : Int32)) < q57.1 then none else
      f_L_isWell_J559 v1 (q57.2, I.2)
  else
    if v6 = (0 : Int32) then none else
    (f_X5_segment v7 (0 : Int32) I.1).bind fun q58 =>
    (f_X5_segment v7 (1 : Int32) q58.2).bind fun q59 =>
    (f_X5_segment v7 (2 : Int32) q59.2).bind fun q60 =>
    let x61 := q58.1 - q60.1
    if q59.1 ≤ q60.1 then none else
    if x61 ≤ v5 then none else
    if v2 < (x61 + q59.1) then none else
    f_L_isWell_L288 k v1 v2 v7 q58.1 q59.1 x61 4000 (1 : Int32) (0 : Int32) (0 : Int32) (0 : Int32) (q60.2, I.2)
def f_L_isWell_L204 (v1 : Int32) (v2 : Int32) : Nat → Int32 → Int32 → Int32 → HJ → Option (Int32 × HJ)
  | 0, _, _, _, _ => none
  | n + 1, v5, v6, v7, I => f_L_isWell_L204_b v1 v2 (f_L_isWell_L204 v1 v2 n) v5 v6 v7 I
def f_L_isWell_J151 (v1 : Int32) (v2 : Int32) (v3 : Int32) (v5 : Int32) (I : HJ) : Option (Int32 × HJ) :=
  if v3 = (1 : Int32) then
    (f_X5_count (8 : Int32) I.1).bind fun q62 =>
    (f_X5_count (16 : Int32) q62.2).bind fun q63 =>
    if q62.1 < (q63.1 - (1000 : Int32)) then none else
    (f_X5_count (8 : Int32) q63.2).bind fun q64 =>
    (f_X5_count (17 : Int32) q64.2).bind fun q65 =>
    if q64.1 < (q65.1 - (1000 : Int32)) then none else
    f_L_isWell_L204 v1 v2 4000 v5 (1 : Int32) (0 : Int32) (q65.2, I.2)
  else
    f_L_isWell_L204 v1 v2 4000 v5 (1 : Int32) (0 : Int32) I
def f_L_isWell_J117 (v1 : Int32) (v2 : Int32) (v3 : Int32) (v5 : Int32) (w0 : Int32) (w1 : Int32) (I : HJ) : Option (Int32 × HJ) :=
  if ¬ (w1 = w0) then none else
  if v3 = (2 : Int32) then
    (f_X5_count (18 : Int32) I.1).bind fun q66 =>
    if ¬ (v1 = (q66.1 - (1000 : Int32))) then none else
    (f_X5_count (19 : Int32) q66.2).bind fun q67 =>
    if ¬ (q67.1 = (1000 : Int32)) then none else
    f_L_isWell_J151 v1 v2 v3 v5 (q67.2, I.2)
  else
    f_L_isWell_J151 v1 v2 v3 v5 I
def f_L_isWell_J28 (v1 : Int32) (v2 : Int32) (v3 : Int32) (w0 : Int32) (I : HJ) : Option (Int32 × HJ) :=
  (f_X5_count (4 : Int32) I.1).bind fun q68 =>
  (f_X5_count (5 : Int32) q68.2).bind fun q69 =>
  (f_X5_count (6 : Int32) q69.2).bind fun q70 =>
  if ¬ (q68.1 = (q69.1 + q70.1)) then none else
  (f_X5_count (5 : Int32) q70.2).bind fun q71 =>
  (f_X5_count (7 : Int32) q71.2).bind fun q72 =>
  if q71.1 < q72.1 then none else
  (f_X5_count (18 : Int32) q72.2).bind fun q73 =>
  if (q73.1 - (1000 : Int32)) < v1 then none else
  (f_X5_count (7 : Int32) q73.2).bind fun q74 =>
  if q74.1 < v1 then none else
  (f_X5_count (8 : Int32) q74.2).bind fun q75 =>
  if v2 < q75.1 then none else
  (f_X5_count (9 : Int32) q75.2).bind fun q76 =>
  if q76.1 ≤ (0 : Int32) then
    f_L_isWell_J117 v1 v2 v3 (-1 : Int32) (0 : Int32) w0 (q76.2, I.2)
  else
    f_L_isWell_J117 v1 v2 v3 (-1 : Int32) (1 : Int32) w0 (q76.2, I.2)
def f_L_isWell (I : HJ) : Option (Int32 × HJ) :=
  (f_X5_count (1 : Int32) I.1).bind fun q77 =>
  (f_X5_count (0 : Int32) q77.2).bind fun q78 =>
  (f_X5_count (2 : Int32) q78.2).bind fun q79 =>
  if q79.1 = (3 : Int32) then
    f_L_isWell_J28 q77.1 q78.1 q79.1 (1 : Int32) (q79.2, I.2)
  else
    f_L_isWell_J28 q77.1 q78.1 q79.1 (0 : Int32) (q79.2, I.2)
abbrev rm_L_isWell : Room := { frames := 5, cells := 0, slots := 0, locals := 111 }
set_option maxHeartbeats 8000000 in
set_option maxRecDepth 100000 in
theorem c_L_isWell {l : Launch} {g : GX} (hg : gOk g) (hh : gOk (gH g)) {I : HJ} {r : Int32 × HJ} (hf : f_L_isWell I = some r) : Met l yL_isWell (Cond.code yL_isWell cL_isWell 16 (some .boolean) :: WL) rm_L_isWell (twP g [.ref (gR g 0)] I) (twQ g r.1 r.2) 0 0 (gB g) := by
  refine tw_met (by decide) hg hh (Nat.le_of_ble_eq_true rfl) (fun p e s m args below meth c X hr hlk Y ls hl => ?_)
  have hx := X.hx
  have hb := X.hb
  have hl : lv_has ls 16 [(0, .ref (gR g 0))] := hl
  have hJ559 : ∀ (v1 : Int32) (I : HJ) (H : Heap) (locs : List Loc) (ls : Array Slot), f_L_isWell_J559 v1 I = some r → twD g I s H locs → lv_has ls 16 [(0, .ref (gR g 0)), (1, .int v1)] → W p l e rm_L_isWell s m args below meth c H locs 0 0 (MQ below (twQ g r.1 r.2) args s 0 0 (gB g)) (F0 m 559 ls []) := by
    intro v1 I H locs ls hf Y hl
    unfold f_L_isWell_J559 at hf
    refine lv_aload_n hx hb dL_isWell_559 rfl (lv_at hl 0 rfl) ?_
    refine lv_iload_n hx hb dL_isWell_560 rfl (lv_at hl 1 rfl) ?_
    refine lv_iconst (v := 0) hx hb dL_isWell_561 (by decide) ?_
    obtain ⟨q37, hq, hf⟩ := bnd_t hf
    refine tw_cO X Y (tw_rO (rest := []) X Y k_L_46 (c_X5_segment X.hg hq) rfl ⟨rfl, rfl⟩ ⟨by decide, by decide⟩ hl.1 rfl (Nat.le_of_ble_eq_true rfl) dL_isWell_562 ⟨Nat.zero_le _, Nat.zero_le _⟩) (fun H locs Y => ?_)
    refine lv_iconst (v := -1) hx hb dL_isWell_565 (by decide) ?_
    refine lv_icmp_ne (tgt := 573) hx hb dL_isWell_566 (by decide) (fun c => ?_) (fun c => ?_)
    · exact nn_t (ite_t c hf)
    have hf := ite_f (not_not_intro c) hf
    refine lv_iconst (v := 1) hx hb dL_isWell_569 (by decide) ?_
    refine lv_goto (tgt := 574) hx hb dL_isWell_570 (by decide) ?_
    exact tw_zret X Y hr hlk rfl hf dL_isWell_574
  have hL288 : ∀ (v1 : Int32) (v2 : Int32) (v7 : Int32) (v8 : Int32) (v9 : Int32) (v11 : Int32) (kk : Int32 → Int32 → Int32 → HJ → Option (Int32 × HJ)) (hkk : ∀ (v5' : Int32) (v6' : Int32) (v7' : Int32) (I : HJ) (H : Heap) (locs : List Loc) (ls : Array Slot), kk v5' v6' v7' I = some r → twD g I s H locs → lv_has ls 16 [(0, .ref (gR g 0)), (1, .int v1), (2, .int v2), (5, .int (v5')), (6, .int (v6')), (7, .int (v7'))] → W p l e rm_L_isWell s m args below meth c H locs 0 0 (MQ below (twQ g r.1 r.2) args s 0 0 (gB g)) (F0 m 204 ls [])) (n : Nat) (v6 : Int32) (v12 : Int32) (v13 : Int32) (v14 : Int32) (I : HJ) (H : Heap) (locs : List Loc) (ls : Array Slot), f_L_isWell_L288 kk v1 v2 v7 v8 v9 v11 n v6 v12 v13 v14 I = some r → twD g I s H locs → lv_has ls 16 [(0, .ref (gR g 0)), (1, .int v1), (2, .int v2), (6, .int v6), (7, .int v7), (8, .int v8), (9, .int v9), (11, .int v11), (12, .int v12), (13, .int v13), (14, .int v14)] → W p l e rm_L_isWell s m args below meth c H locs 0 0 (MQ below (twQ g r.1 r.2) args s 0 0 (gB g)) (F0 m 288 ls []) := by
    intro v1 v2 v7 v8 v9 v11 kk hkk n
    induction n with
    | zero => intro v6 v12 v13 v14 I H locs ls hf Y hl; exact nn_t hf
    | succ n ih =>
      intro v6 v12 v13 v14 I H locs ls hf Y hl
      have hf : f_L_isWell_L288_b kk v1 v2 v7 v8 v9 v11 (f_L_isWell_L288 kk v1 v2 v7 v8 v9 v11 n) v6 v12 v13 v14 I = some r := hf
      unfold f_L_isWell_L288_b at hf
      refine lv_iload hx hb dL_isWell_288 (lv_at hl 10 rfl) ?_
      refine lv_iload hx hb dL_isWell_290 (lv_at hl 6 rfl) ?_
      refine lv_icmp_ge (tgt := 402) hx hb dL_isWell_292 (by decide) (fun c => ?_) (fun c => ?_)
      · have hf := ite_t c hf
        refine lv_iload hx hb dL_isWell_402 (lv_at hl 3 rfl) ?_
        refine lv_if_eq (tgt := 453) hx hb dL_isWell_404 (by decide) (fun c => ?_) (fun c => ?_)
        · exact nn_t (ite_t c hf)
        have hf := ite_f c hf
        refine lv_iload hx hb dL_isWell_407 (lv_at hl 8 rfl) ?_
        refine lv_aload_n hx hb dL_isWell_409 rfl (lv_at hl 0 rfl) ?_
        refine lv_iload hx hb dL_isWell_410 (lv_at hl 4 rfl) ?_
        refine lv_bipush (v := 6) hx hb dL_isWell_412 (by decide) ?_
        obtain ⟨q38, hq, hf⟩ := bnd_t hf
        refine tw_cO X Y (tw_rO (rest := [_]) X Y k_L_46 (c_X5_segment X.hg hq) rfl ⟨rfl, rfl⟩ ⟨by decide, by decide⟩ hl.1 rfl (Nat.le_of_ble_eq_true rfl) dL_isWell_414 ⟨Nat.zero_le _, Nat.zero_le _⟩) (fun H locs Y => ?_)
        refine lv_sipush (v := 10000) hx hb dL_isWell_417 (by decide) ?_
        refine lv_isub hx hb dL_isWell_420 ?_
        refine lv_icmp_ne (tgt := 453) hx hb dL_isWell_421 (by decide) (fun c => ?_) (fun c => ?_)
        · exact nn_t (ite_t c hf)
        have hf := ite_f (not_not_intro c) hf
        refine lv_iload hx hb dL_isWell_424 (lv_at hl 9 rfl) ?_
        refine lv_aload_n hx hb dL_isWell_426 rfl (lv_at hl 0 rfl) ?_
        refine lv_iload hx hb dL_isWell_427 (lv_at hl 4 rfl) ?_
        refine lv_bipush (v := 7) hx hb dL_isWell_429 (by decide) ?_
        obtain ⟨q39, hq, hf⟩ := bnd_t hf
        refine tw_cO X Y (tw_rO (rest := [_]) X Y k_L_46 (c_X5_segment X.hg hq) rfl ⟨rfl, rfl⟩ ⟨by decide, by decide⟩ hl.1 rfl (Nat.le_of_ble_eq_true rfl) dL_isWell_431 ⟨Nat.zero_le _, Nat.zero_le _⟩) (fun H locs Y => ?_)
        refine lv_icmp_ne (tgt := 453) hx hb dL_isWell_434 (by decide) (fun c => ?_) (fun c => ?_)
        · exact nn_t (ite_t c hf)
        have hf := ite_f (not_not_intro c) hf
        refine lv_aload_n hx hb dL_isWell_437 rfl (lv_at hl 0 rfl) ?_
        refine lv_iload hx hb dL_isWell_438 (lv_at hl 4 rfl) ?_
        refine lv_iload hx hb dL_isWell_440 (lv_at hl 6 rfl) ?_
        obtain ⟨q40, hq, hf⟩ := bnd_t hf
        refine tw_cO X Y (tw_rO (rest := []) X Y k_L_55 (c_X5_sampleOf X.hg hq) rfl ⟨rfl, rfl⟩ ⟨by decide, by decide⟩ hl.1 rfl (Nat.le_of_ble_eq_true rfl) dL_isWell_442 ⟨Nat.zero_le _, Nat.zero_le _⟩) (fun H locs Y => ?_)
        refine lv_iconst (v := -1) hx hb dL_isWell_445 (by decide) ?_
        refine lv_icmp_ne (tgt := 453) hx hb dL_isWell_446 (by decide) (fun c => ?_) (fun c => ?_)
        · exact nn_t (ite_t c hf)
        have hf := ite_f (not_not_intro c) hf
        refine lv_iconst (v := 1) hx hb dL_isWell_449 (by decide) ?_
        refine lv_goto (tgt := 454) hx hb dL_isWell_450 (by decide) ?_
        refine lv_istore (lv' := [(6, _), (0, _), (1, _), (2, _), (7, _), (8, _), (9, _), (11, _), (12, _), (13, _), (14, _)]) hx hb dL_isWell_454 hl (by decide) rfl (fun ls hl => ?_)
        refine lv_iload hx hb dL_isWell_456 (lv_at hl 0 rfl) ?_
        refine lv_if_eq (tgt := 517) hx hb dL_isWell_458 (by decide) (fun c => ?_) (fun c => ?_)
        · exact nn_t (ite_t c hf)
        have hf := ite_f c hf
        refine lv_iload hx hb dL_isWell_461 (lv_at hl 5 rfl) ?_
        refine lv_if_le (tgt := 517) hx hb dL_isWell_463 (by decide) (fun c => ?_) (fun c => ?_)
        · exact nn_t (ite_t c hf)
        have hf := ite_f c hf
        refine lv_aload_n hx hb dL_isWell_466 rfl (lv_at hl 1 rfl) ?_
        refine lv_iload hx hb dL_isWell_467 (lv_at hl 4 rfl) ?_
        refine lv_iconst (v := 3) hx hb dL_isWell_469 (by decide) ?_
        obtain ⟨q41, hq, hf⟩ := bnd_t hf
        refine tw_cO X Y (tw_rO (rest := []) X Y k_L_46 (c_X5_segment X.hg hq) rfl ⟨rfl, rfl⟩ ⟨by decide, by decide⟩ hl.1 rfl (Nat.le_of_ble_eq_true rfl) dL_isWell_470 ⟨Nat.zero_le _, Nat.zero_le _⟩) (fun H locs Y => ?_)
        refine lv_if_ne (tgt := 496) hx hb dL_isWell_473 (by decide) (fun c => ?_) (fun c => ?_)
        · have hf := ite_f c hf
          refine lv_aload_n hx hb dL_isWell_496 rfl (lv_at hl 1 rfl) ?_
          refine lv_iload hx hb dL_isWell_497 (lv_at hl 5 rfl) ?_
          obtain ⟨q45, hq, hf⟩ := bnd_t hf
          refine tw_cO X Y (tw_rO (rest := []) X Y k_L_24 (c_X5_sample X.hg hq) rfl ⟨rfl, rfl⟩ ⟨by decide, by decide⟩ hl.1 rfl (Nat.le_of_ble_eq_true rfl) dL_isWell_499 ⟨Nat.zero_le _, Nat.zero_le _⟩) (fun H locs Y => ?_)
          refine lv_aload_n hx hb dL_isWell_502 rfl (lv_at hl 1 rfl) ?_
          refine lv_iload hx hb dL_isWell_503 (lv_at hl 5 rfl) ?_
          refine lv_iconst (v := 1) hx hb dL_isWell_505 (by decide) ?_
          refine lv_isub hx hb dL_isWell_506 ?_
          obtain ⟨q46, hq, hf⟩ := bnd_t hf
          refine tw_cO X Y (tw_rO (rest := [_]) X Y k_L_24 (c_X5_sample X.hg hq) rfl ⟨rfl, rfl⟩ ⟨by decide, by decide⟩ hl.1 rfl (Nat.le_of_ble_eq_true rfl) dL_isWell_507 ⟨Nat.zero_le _, Nat.zero_le _⟩) (fun H locs Y => ?_)
          refine lv_icmp_ge (tgt := 517) hx hb dL_isWell_510 (by decide) (fun c => ?_) (fun c => ?_)
          · exact nn_t (ite_t c hf)
          have hf := ite_f c hf
          refine lv_iconst (v := 1) hx hb dL_isWell_513 (by decide) ?_
          refine lv_goto (tgt := 518) hx hb dL_isWell_514 (by decide) ?_
          refine lv_istore (lv' := [(6, _), (0, _), (1, _), (2, _), (7, _), (8, _), (9, _), (11, _), (12, _), (13, _), (14, _)]) hx hb dL_isWell_518 hl (by decide) rfl (fun ls hl => ?_)
          refine lv_iload hx hb dL_isWell_520 (lv_at hl 7 rfl) ?_
          refine lv_iload hx hb dL_isWell_522 (lv_at hl 6 rfl) ?_
          refine lv_iadd hx hb dL_isWell_524 ?_
          refine lv_iconst (v := 1) hx hb dL_isWell_525 (by decide) ?_
          refine lv_isub hx hb dL_isWell_526 ?_
          refine lv_istore (lv' := [(5, _), (6, _), (0, _), (1, _), (2, _), (7, _), (8, _), (9, _), (11, _), (12, _), (13, _), (14, _)]) hx hb dL_isWell_527 hl (by decide) rfl (fun ls hl => ?_)
          refine lv_iinc (v := _ + (1 : Int32)) (lv' := [(7, _), (5, _), (6, _), (0, _), (1, _), (2, _), (8, _), (9, _), (11, _), (12, _), (13, _), (14, _)]) hx hb dL_isWell_529 hl (k := 5) rfl rfl (by decide) rfl (fun ls hl => ?_)
          refine lv_goto (tgt := 204) hx hb dL_isWell_532 (by decide) ?_
          exact hkk _ _ _ _ _ _ _ hf Y (lv_sub hl [3, 4, 5, 1, 2, 0] rfl)
        · have hf := ite_t c hf
          refine lv_aload_n hx hb dL_isWell_476 rfl (lv_at hl 1 rfl) ?_
          refine lv_iload hx hb dL_isWell_477 (lv_at hl 5 rfl) ?_
          obtain ⟨q42, hq, hf⟩ := bnd_t hf
          refine tw_cO X Y (tw_rO (rest := []) X Y k_L_24 (c_X5_sample X.hg hq) rfl ⟨rfl, rfl⟩ ⟨by decide, by decide⟩ hl.1 rfl (Nat.le_of_ble_eq_true rfl) dL_isWell_479 ⟨Nat.zero_le _, Nat.zero_le _⟩) (fun H locs Y => ?_)
          refine lv_aload_n hx hb dL_isWell_482 rfl (lv_at hl 1 rfl) ?_
          refine lv_iload hx hb dL_isWell_483 (lv_at hl 5 rfl) ?_
          refine lv_iconst (v := 1) hx hb dL_isWell_485 (by decide) ?_
          refine lv_isub hx hb dL_isWell_486 ?_
          obtain ⟨q43, hq, hf⟩ := bnd_t hf
          refine tw_cO X Y (tw_rO (rest := [_]) X Y k_L_24 (c_X5_sample X.hg hq) rfl ⟨rfl, rfl⟩ ⟨by decide, by decide⟩ hl.1 rfl (Nat.le_of_ble_eq_true rfl) dL_isWell_487 ⟨Nat.zero_le _, Nat.zero_le _⟩) (fun H locs Y => ?_)
          refine lv_icmp_le (tgt := 517) hx hb dL_isWell_490 (by decide) (fun c => ?_) (fun c => ?_)
          · exact nn_t (ite_t c hf)
          have hf := ite_f c hf
          refine lv_goto (tgt := 513) hx hb dL_isWell_493 (by decide) ?_
          refine lv_iconst (v := 1) hx hb dL_isWell_513 (by decide) ?_
          refine lv_goto (tgt := 518) hx hb dL_isWell_514 (by decide) ?_
          refine lv_istore (lv' := [(6, _), (0, _), (1, _), (2, _), (7, _), (8, _), (9, _), (11, _), (12, _), (13, _), (14, _)]) hx hb dL_isWell_518 hl (by decide) rfl (fun ls hl => ?_)
          refine lv_iload hx hb dL_isWell_520 (lv_at hl 7 rfl) ?_
          refine lv_iload hx hb dL_isWell_522 (lv_at hl 6 rfl) ?_
          refine lv_iadd hx hb dL_isWell_524 ?_
          refine lv_iconst (v := 1) hx hb dL_isWell_525 (by decide) ?_
          refine lv_isub hx hb dL_isWell_526 ?_
          refine lv_istore (lv' := [(5, _), (6, _), (0, _), (1, _), (2, _), (7, _), (8, _), (9, _), (11, _), (12, _), (13, _), (14, _)]) hx hb dL_isWell_527 hl (by decide) rfl (fun ls hl => ?_)
          refine lv_iinc (v := _ + (1 : Int32)) (lv' := [(7, _), (5, _), (6, _), (0, _), (1, _), (2, _), (8, _), (9, _), (11, _), (12, _), (13, _), (14, _)]) hx hb dL_isWell_529 hl (k := 5) rfl rfl (by decide) rfl (fun ls hl => ?_)
          refine lv_goto (tgt := 204) hx hb dL_isWell_532 (by decide) ?_
          exact hkk _ _ _ _ _ _ _ hf Y (lv_sub hl [3, 4, 5, 1, 2, 0] rfl)
      · have hf := ite_f c hf
        refine lv_iload hx hb dL_isWell_295 (lv_at hl 3 rfl) ?_
        refine lv_if_eq (tgt := 402) hx hb dL_isWell_297 (by decide) (fun c => ?_) (fun c => ?_)
        · exact nn_t (ite_t c hf)
        have hf := ite_f c hf
        refine lv_aload_n hx hb dL_isWell_300 rfl (lv_at hl 0 rfl) ?_
        refine lv_iload hx hb dL_isWell_301 (lv_at hl 4 rfl) ?_
        refine lv_iload hx hb dL_isWell_303 (lv_at hl 10 rfl) ?_
        obtain ⟨q48, hq, hf⟩ := bnd_t hf
        refine tw_cO X Y (tw_rO (rest := []) X Y k_L_55 (c_X5_sampleOf X.hg hq) rfl ⟨rfl, rfl⟩ ⟨by decide, by decide⟩ hl.1 rfl (Nat.le_of_ble_eq_true rfl) dL_isWell_305 ⟨Nat.zero_le _, Nat.zero_le _⟩) (fun H locs Y => ?_)
        refine lv_istore (lv' := [(15, _), (0, _), (1, _), (2, _), (6, _), (7, _), (8, _), (9, _), (11, _), (12, _), (13, _), (14, _)]) hx hb dL_isWell_308 hl (by decide) rfl (fun ls hl => ?_)
        refine lv_iload hx hb dL_isWell_310 (lv_at hl 0 rfl) ?_
        refine lv_aload_n hx hb dL_isWell_312 rfl (lv_at hl 1 rfl) ?_
        refine lv_iload hx hb dL_isWell_313 (lv_at hl 8 rfl) ?_
        refine lv_iload hx hb dL_isWell_315 (lv_at hl 11 rfl) ?_
        refine lv_iadd hx hb dL_isWell_317 ?_
        obtain ⟨q49, hq, hf⟩ := bnd_t hf
        refine tw_cO X Y (tw_rO (rest := [_]) X Y k_L_24 (c_X5_sample X.hg hq) rfl ⟨rfl, rfl⟩ ⟨by decide, by decide⟩ hl.1 rfl (Nat.le_of_ble_eq_true rfl) dL_isWell_318 ⟨Nat.zero_le _, Nat.zero_le _⟩) (fun H locs Y => ?_)
        refine lv_icmp_ne (tgt := 352) hx hb dL_isWell_321 (by decide) (fun c => ?_) (fun c => ?_)
        · exact nn_t (ite_t c hf)
        have hf := ite_f (not_not_intro c) hf
        refine lv_iload hx hb dL_isWell_324 (lv_at hl 0 rfl) ?_
        refine lv_aload_n hx hb dL_isWell_326 rfl (lv_at hl 1 rfl) ?_
        refine lv_iload hx hb dL_isWell_327 (lv_at hl 5 rfl) ?_
        refine lv_iconst (v := 4) hx hb dL_isWell_329 (by decide) ?_
        obtain ⟨q50, hq, hf⟩ := bnd_t hf
        refine tw_cO X Y (tw_rO (rest := [_]) X Y k_L_46 (c_X5_segment X.hg hq) rfl ⟨rfl, rfl⟩ ⟨by decide, by decide⟩ hl.1 rfl (Nat.le_of_ble_eq_true rfl) dL_isWell_330 ⟨Nat.zero_le _, Nat.zero_le _⟩) (fun H locs Y => ?_)
        refine lv_icmp_lt (tgt := 352) hx hb dL_isWell_333 (by decide) (fun c => ?_) (fun c => ?_)
        · exact nn_t (ite_t c hf)
        have hf := ite_f c hf
        refine lv_iload hx hb dL_isWell_336 (lv_at hl 0 rfl) ?_
        refine lv_aload_n hx hb dL_isWell_338 rfl (lv_at hl 1 rfl) ?_
        refine lv_iload hx hb dL_isWell_339 (lv_at hl 5 rfl) ?_
        refine lv_iconst (v := 5) hx hb dL_isWell_341 (by decide) ?_
        obtain ⟨q51, hq, hf⟩ := bnd_t hf
        refine tw_cO X Y (tw_rO (rest := [_]) X Y k_L_46 (c_X5_segment X.hg hq) rfl ⟨rfl, rfl⟩ ⟨by decide, by decide⟩ hl.1 rfl (Nat.le_of_ble_eq_true rfl) dL_isWell_342 ⟨Nat.zero_le _, Nat.zero_le _⟩) (fun H locs Y => ?_)
        refine lv_icmp_gt (tgt := 352) hx hb dL_isWell_345 (by decide) (fun c => ?_) (fun c => ?_)
        · exact nn_t (ite_t c hf)
        have hf := ite_f c hf
        refine lv_iconst (v := 1) hx hb dL_isWell_348 (by decide) ?_
        refine lv_goto (tgt := 353) hx hb dL_isWell_349 (by decide) ?_
        refine lv_istore (lv' := [(6, _), (15, _), (0, _), (1, _), (2, _), (7, _), (8, _), (9, _), (11, _), (12, _), (13, _), (14, _)]) hx hb dL_isWell_353 hl (by decide) rfl (fun ls hl => ?_)
        refine lv_iload hx hb dL_isWell_355 (lv_at hl 9 rfl) ?_
        refine lv_iload hx hb dL_isWell_357 (lv_at hl 1 rfl) ?_
        refine lv_sipush (v := 1000) hx hb dL_isWell_359 (by decide) ?_
        refine lv_isub hx hb dL_isWell_362 ?_
        refine lv_iadd hx hb dL_isWell_363 ?_
        refine lv_istore (lv' := [(12, _), (6, _), (15, _), (0, _), (1, _), (2, _), (7, _), (8, _), (9, _), (11, _), (13, _), (14, _)]) hx hb dL_isWell_364 hl (by decide) rfl (fun ls hl => ?_)
        refine lv_iload hx hb dL_isWell_366 (lv_at hl 10 rfl) ?_
        refine lv_iload hx hb dL_isWell_368 (lv_at hl 11 rfl) ?_
        refine lv_if_le (tgt := 392) hx hb dL_isWell_370 (by decide) (fun c => ?_) (fun c => ?_)
        · have hf := ite_t c hf
          refine lv_iconst (v := 0) hx hb dL_isWell_392 (by decide) ?_
          refine lv_iadd hx hb dL_isWell_393 ?_
          refine lv_istore (lv' := [(13, _), (12, _), (6, _), (15, _), (0, _), (1, _), (2, _), (7, _), (8, _), (9, _), (11, _), (14, _)]) hx hb dL_isWell_394 hl (by decide) rfl (fun ls hl => ?_)
          refine lv_iinc (v := _ + (1 : Int32)) (lv' := [(14, _), (13, _), (12, _), (6, _), (15, _), (0, _), (1, _), (2, _), (7, _), (8, _), (9, _), (11, _)]) hx hb dL_isWell_396 hl (k := 11) rfl rfl (by decide) rfl (fun ls hl => ?_)
          refine lv_goto (tgt := 288) hx hb dL_isWell_399 (by decide) ?_
          exact ih _ _ _ _ _ _ _ _ hf Y (lv_sub hl [5, 6, 7, 3, 8, 9, 10, 11, 2, 1, 0] rfl)
        · have hf := ite_f c hf
          refine lv_iload hx hb dL_isWell_373 (lv_at hl 2 rfl) ?_
          refine lv_aload_n hx hb dL_isWell_375 rfl (lv_at hl 3 rfl) ?_
          refine lv_iload hx hb dL_isWell_376 (lv_at hl 6 rfl) ?_
          refine lv_iload hx hb dL_isWell_378 (lv_at hl 11 rfl) ?_
          refine lv_iconst (v := 1) hx hb dL_isWell_380 (by decide) ?_
          refine lv_isub hx hb dL_isWell_381 ?_
          obtain ⟨q54, hq, hf⟩ := bnd_t hf
          refine tw_cO X Y (tw_rO (rest := [_, _]) X Y k_L_55 (c_X5_sampleOf X.hg hq) rfl ⟨rfl, rfl⟩ ⟨by decide, by decide⟩ hl.1 rfl (Nat.le_of_ble_eq_true rfl) dL_isWell_382 ⟨Nat.zero_le _, Nat.zero_le _⟩) (fun H locs Y => ?_)
          refine lv_icmp_le (tgt := 392) hx hb dL_isWell_385 (by decide) (fun c => ?_) (fun c => ?_)
          · have hf := ite_t c hf
            refine lv_iconst (v := 0) hx hb dL_isWell_392 (by decide) ?_
            refine lv_iadd hx hb dL_isWell_393 ?_
            refine lv_istore (lv' := [(13, _), (12, _), (6, _), (15, _), (0, _), (1, _), (2, _), (7, _), (8, _), (9, _), (11, _), (14, _)]) hx hb dL_isWell_394 hl (by decide) rfl (fun ls hl => ?_)
            refine lv_iinc (v := _ + (1 : Int32)) (lv' := [(14, _), (13, _), (12, _), (6, _), (15, _), (0, _), (1, _), (2, _), (7, _), (8, _), (9, _), (11, _)]) hx hb dL_isWell_396 hl (k := 11) rfl rfl (by decide) rfl (fun ls hl => ?_)
            refine lv_goto (tgt := 288) hx hb dL_isWell_399 (by decide) ?_
            exact ih _ _ _ _ _ _ _ _ hf Y (lv_sub hl [5, 6, 7, 3, 8, 9, 10, 11, 2, 1, 0] rfl)
          · have hf := ite_f c hf
            refine lv_iconst (v := 1) hx hb dL_isWell_388 (by decide) ?_
            refine lv_goto (tgt := 393) hx hb dL_isWell_389 (by decide) ?_
            refine lv_iadd hx hb dL_isWell_393 ?_
            refine lv_istore (lv' := [(13, _), (12, _), (6, _), (15, _), (0, _), (1, _), (2, _), (7, _), (8, _), (9, _), (11, _), (14, _)]) hx hb dL_isWell_394 hl (by decide) rfl (fun ls hl => ?_)
            refine lv_iinc (v := _ + (1 : Int32)) (lv' := [(14, _), (13, _), (12, _), (6, _), (15, _), (0, _), (1, _), (2, _), (7, _), (8, _), (9, _), (11, _)]) hx hb dL_isWell_396 hl (k := 11) rfl rfl (by decide) rfl (fun ls hl => ?_)
            refine lv_goto (tgt := 288) hx hb dL_isWell_399 (by decide) ?_
            exact ih _ _ _ _ _ _ _ _ hf Y (lv_sub hl [5, 6, 7, 3, 8, 9, 10, 11, 2, 1, 0] rfl)
  have hL204 : ∀ (v1 : Int32) (v2 : Int32) (n : Nat) (v5 : Int32) (v6 : Int32) (v7 : Int32) (I : HJ) (H : Heap) (locs : List Loc) (ls : Array Slot), f_L_isWell_L204 v1 v2 n v5 v6 v7 I = some r → twD g I s H locs → lv_has ls 16 [(0, .ref (gR g 0)), (1, .int v1), (2, .int v2), (5, .int v5), (6, .int v6), (7, .int v7)] → W p l e rm_L_isWell s m args below meth c H locs 0 0 (MQ below (twQ g r.1 r.2) args s 0 0 (gB g)) (F0 m 204 ls []) := by
    intro v1 v2 n
    induction n with
    | zero => intro v5 v6 v7 I H locs ls hf Y hl; exact nn_t hf
    | succ n ih =>
      intro v5 v6 v7 I H locs ls hf Y hl
      have hf : f_L_isWell_L204_b v1 v2 (f_L_isWell_L204 v1 v2 n) v5 v6 v7 I = some r := hf
      unfold f_L_isWell_L204_b at hf
      refine lv_iload hx hb dL_isWell_204 (lv_at hl 5 rfl) ?_
      refine lv_iload_n hx hb dL_isWell_206 rfl (lv_at hl 1 rfl) ?_
      refine lv_icmp_ge (tgt := 535) hx hb dL_isWell_207 (by decide) (fun c => ?_) (fun c => ?_)
      · have hf := ite_t c hf
        refine lv_iload hx hb dL_isWell_535 (lv_at hl 4 rfl) ?_
        refine lv_if_eq (tgt := 573) hx hb dL_isWell_537 (by decide) (fun c => ?_) (fun c => ?_)
        · exact nn_t (ite_t c hf)
        have hf := ite_f c hf
        refine lv_iload_n hx hb dL_isWell_540 rfl (lv_at hl 1 rfl) ?_
        refine lv_if_eq (tgt := 559) hx hb dL_isWell_541 (by decide) (fun c => ?_) (fun c => ?_)
        · have hf := ite_t c hf
          exact hJ559  _ _ _ _ _ hf Y (lv_sub hl [0, 1] rfl)
        · have hf := ite_f c hf
          refine lv_iload_n hx hb dL_isWell_544 rfl (lv_at hl 2 rfl) ?_
          refine lv_iload hx hb dL_isWell_545 (lv_at hl 3 rfl) ?_
          refine lv_isub hx hb dL_isWell_547 ?_
          refine lv_iconst (v := 1) hx hb dL_isWell_548 (by decide) ?_
          refine lv_isub hx hb dL_isWell_549 ?_
          refine lv_aload_n hx hb dL_isWell_550 rfl (lv_at hl 0 rfl) ?_
          refine lv_bipush (v := 8) hx hb dL_isWell_551 (by decide) ?_
          obtain ⟨q57, hq, hf⟩ := bnd_t hf
          refine tw_cO X Y (tw_rO (rest := [_]) X Y k_L_9 (c_X5_count X.hg hq) rfl ⟨rfl, rfl⟩ ⟨by decide, by decide⟩ hl.1 rfl (Nat.le_of_ble_eq_true rfl) dL_isWell_553 ⟨Nat.zero_le _, Nat.zero_le _⟩) (fun H locs Y => ?_)
          refine lv_icmp_lt (tgt := 573) hx hb dL_isWell_556 (by decide) (fun c => ?_) (fun c => ?_)
          · exact nn_t (ite_t c hf)
          have hf := ite_f c hf
          exact hJ559  _ _ _ _ _ hf Y (lv_sub hl [0, 1] rfl)
      · have hf := ite_f c hf
        refine lv_iload hx hb dL_isWell_210 (lv_at hl 4 rfl) ?_
        refine lv_if_eq (tgt := 535) hx hb dL_isWell_212 (by decide) (fun c => ?_) (fun c => ?_)
        · exact nn_t (ite_t c hf)
        have hf := ite_f c hf
        refine lv_aload_n hx hb dL_isWell_215 rfl (lv_at hl 0 rfl) ?_
        refine lv_iload hx hb dL_isWell_216 (lv_at hl 5 rfl) ?_
        refine lv_iconst (v := 0) hx hb dL_isWell_218 (by decide) ?_
        obtain ⟨q58, hq, hf⟩ := bnd_t hf
        refine tw_cO X Y (tw_rO (rest := []) X Y k_L_46 (c_X5_segment X.hg hq) rfl ⟨rfl, rfl⟩ ⟨by decide, by decide⟩ hl.1 rfl (Nat.le_of_ble_eq_true rfl) dL_isWell_219 ⟨Nat.zero_le _, Nat.zero_le _⟩) (fun H locs Y => ?_)
        refine lv_istore (lv' := [(8, _), (0, _), (1, _), (2, _), (5, _), (6, _), (7, _)]) hx hb dL_isWell_222 hl (by decide) rfl (fun ls hl => ?_)
        refine lv_aload_n hx hb dL_isWell_224 rfl (lv_at hl 1 rfl) ?_
        refine lv_iload hx hb dL_isWell_225 (lv_at hl 6 rfl) ?_
        refine lv_iconst (v := 1) hx hb dL_isWell_227 (by decide) ?_
        obtain ⟨q59, hq, hf⟩ := bnd_t hf
        refine tw_cO X Y (tw_rO (rest := []) X Y k_L_46 (c_X5_segment X.hg hq) rfl ⟨rfl, rfl⟩ ⟨by decide, by decide⟩ hl.1 rfl (Nat.le_of_ble_eq_true rfl) dL_isWell_228 ⟨Nat.zero_le _, Nat.zero_le _⟩) (fun H locs Y => ?_)
        refine lv_istore (lv' := [(9, _), (8, _), (0, _), (1, _), (2, _), (5, _), (6, _), (7, _)]) hx hb dL_isWell_231 hl (by decide) rfl (fun ls hl => ?_)
        refine lv_aload_n hx hb dL_isWell_233 rfl (lv_at hl 2 rfl) ?_
        refine lv_iload hx hb dL_isWell_234 (lv_at hl 7 rfl) ?_
        refine lv_iconst (v := 2) hx hb dL_isWell_236 (by decide) ?_
        obtain ⟨q60, hq, hf⟩ := bnd_t hf
        refine tw_cO X Y (tw_rO (rest := []) X Y k_L_46 (c_X5_segment X.hg hq) rfl ⟨rfl, rfl⟩ ⟨by decide, by decide⟩ hl.1 rfl (Nat.le_of_ble_eq_true rfl) dL_isWell_237 ⟨Nat.zero_le _, Nat.zero_le _⟩) (fun H locs Y => ?_)
        refine lv_istore (lv' := [(10, _), (9, _), (8, _), (0, _), (1, _), (2, _), (5, _), (6, _), (7, _)]) hx hb dL_isWell_240 hl (by decide) rfl (fun ls hl => ?_)
        refine lv_iload hx hb dL_isWell_242 (lv_at hl 2 rfl) ?_
        refine lv_iload hx hb dL_isWell_244 (lv_at hl 0 rfl) ?_
        refine lv_isub hx hb dL_isWell_246 ?_
        refine lv_istore (lv' := [(11, _), (10, _), (9, _), (8, _), (0, _), (1, _), (2, _), (5, _), (6, _), (7, _)]) hx hb dL_isWell_247 hl (by decide) rfl (fun ls hl => ?_)
        refine lv_iconst (v := 0) hx hb dL_isWell_249 (by decide) ?_
        refine lv_istore (lv' := [(12, _), (11, _), (10, _), (9, _), (8, _), (0, _), (1, _), (2, _), (5, _), (6, _), (7, _)]) hx hb dL_isWell_250 hl (by decide) rfl (fun ls hl => ?_)
        refine lv_iconst (v := 0) hx hb dL_isWell_252 (by decide) ?_
        refine lv_istore (lv' := [(13, _), (12, _), (11, _), (10, _), (9, _), (8, _), (0, _), (1, _), (2, _), (5, _), (6, _), (7, _)]) hx hb dL_isWell_253 hl (by decide) rfl (fun ls hl => ?_)
        refine lv_iload hx hb dL_isWell_255 (lv_at hl 3 rfl) ?_
        refine lv_iload hx hb dL_isWell_257 (lv_at hl 4 rfl) ?_
        refine lv_icmp_ge (tgt := 282) hx hb dL_isWell_259 (by decide) (fun c => ?_) (fun c => ?_)
        · exact nn_t (ite_t c hf)
        have hf := ite_f c hf
        refine lv_iload hx hb dL_isWell_262 (lv_at hl 2 rfl) ?_
        refine lv_iload hx hb dL_isWell_264 (lv_at hl 9 rfl) ?_
        refine lv_icmp_le (tgt := 282) hx hb dL_isWell_266 (by decide) (fun c => ?_) (fun c => ?_)
        · exact nn_t (ite_t c hf)
        have hf := ite_f c hf
        refine lv_iload hx hb dL_isWell_269 (lv_at hl 2 rfl) ?_
        refine lv_iload hx hb dL_isWell_271 (lv_at hl 4 rfl) ?_
        refine lv_iadd hx hb dL_isWell_273 ?_
        refine lv_iload_n hx hb dL_isWell_274 rfl (lv_at hl 8 rfl) ?_
        refine lv_icmp_gt (tgt := 282) hx hb dL_isWell_275 (by decide) (fun c => ?_) (fun c => ?_)
        · exact nn_t (ite_t c hf)
        have hf := ite_f c hf
        refine lv_iconst (v := 1) hx hb dL_isWell_278 (by decide) ?_
        refine lv_goto (tgt := 283) hx hb dL_isWell_279 (by decide) ?_
        refine lv_istore (lv' := [(6, _), (13, _), (12, _), (11, _), (10, _), (9, _), (8, _), (0, _), (1, _), (2, _), (5, _), (7, _)]) hx hb dL_isWell_283 hl (by decide) rfl (fun ls hl => ?_)
        refine lv_iconst (v := 0) hx hb dL_isWell_285 (by decide) ?_
        refine lv_istore (lv' := [(14, _), (6, _), (13, _), (12, _), (11, _), (10, _), (9, _), (8, _), (0, _), (1, _), (2, _), (5, _), (7, _)]) hx hb dL_isWell_286 hl (by decide) rfl (fun ls hl => ?_)
        exact hL288 _ _ _ _ _ _ _ (fun v5' v6' v7' I H locs ls hf Y hl => ih v5' v6' v7' I H locs ls hf Y hl) _ _ _ _ _ _ _ _ _ hf Y (lv_sub hl [8, 9, 10, 1, 12, 7, 6, 4, 3, 2, 0] rfl)
  have hJ151 : ∀ (v1 : Int32) (v2 : Int32) (v3 : Int32) (v5 : Int32) (I : HJ) (H : Heap) (locs : List Loc) (ls : Array Slot), f_L_isWell_J151 v1 v2 v3 v5 I = some r → twD g I s H locs → lv_has ls 16 [(0, .ref (gR g 0)), (1, .int v1), (2, .int v2), (3, .int v3), (5, .int v5)] → W p l e rm_L_isWell s m args below meth c H locs 0 0 (MQ below (twQ g r.1 r.2) args s 0 0 (gB g)) (F0 m 151 ls []) := by
    intro v1 v2 v3 v5 I H locs ls hf Y hl
    unfold f_L_isWell_J151 at hf
    refine lv_iload_n hx hb dL_isWell_151 rfl (lv_at hl 3 rfl) ?_
    refine lv_iconst (v := 1) hx hb dL_isWell_152 (by decide) ?_
    refine lv_icmp_ne (tgt := 194) hx hb dL_isWell_153 (by decide) (fun c => ?_) (fun c => ?_)
    · have hf := ite_f c hf
      refine lv_iconst (v := 1) hx hb dL_isWell_194 (by decide) ?_
      refine lv_goto (tgt := 199) hx hb dL_isWell_195 (by decide) ?_
      refine lv_istore (lv' := [(6, _), (0, _), (1, _), (2, _), (3, _), (5, _)]) hx hb dL_isWell_199 hl (by decide) rfl (fun ls hl => ?_)
      refine lv_iconst (v := 0) hx hb dL_isWell_201 (by decide) ?_
      refine lv_istore (lv' := [(7, _), (6, _), (0, _), (1, _), (2, _), (3, _), (5, _)]) hx hb dL_isWell_202 hl (by decide) rfl (fun ls hl => ?_)
      exact hL204 _ _ _ _ _ _ _ _ _ _ hf Y (lv_sub hl [2, 3, 4, 6, 1, 0] rfl)
    · have hf := ite_t c hf
      refine lv_aload_n hx hb dL_isWell_156 rfl (lv_at hl 0 rfl) ?_
      refine lv_bipush (v := 8) hx hb dL_isWell_157 (by decide) ?_
      obtain ⟨q62, hq, hf⟩ := bnd_t hf
      refine tw_cO X Y (tw_rO (rest := []) X Y k_L_9 (c_X5_count X.hg hq) rfl ⟨rfl, rfl⟩ ⟨by decide, by decide⟩ hl.1 rfl (Nat.le_of_ble_eq_true rfl) dL_isWell_159 ⟨Nat.zero_le _, Nat.zero_le _⟩) (fun H locs Y => ?_)
      refine lv_aload_n hx hb dL_isWell_162 rfl (lv_at hl 0 rfl) ?_
      refine lv_bipush (v := 16) hx hb dL_isWell_163 (by decide) ?_
      obtain ⟨q63, hq, hf⟩ := bnd_t hf
      refine tw_cO X Y (tw_rO (rest := [_]) X Y k_L_9 (c_X5_count X.hg hq) rfl ⟨rfl, rfl⟩ ⟨by decide, by decide⟩ hl.1 rfl (Nat.le_of_ble_eq_true rfl) dL_isWell_165 ⟨Nat.zero_le _, Nat.zero_le _⟩) (fun H locs Y => ?_)
      refine lv_sipush (v := 1000) hx hb dL_isWell_168 (by decide) ?_
      refine lv_isub hx hb dL_isWell_171 ?_
      refine lv_icmp_lt (tgt := 198) hx hb dL_isWell_172 (by decide) (fun c => ?_) (fun c => ?_)
      · exact nn_t (ite_t c hf)
      have hf := ite_f c hf
      refine lv_aload_n hx hb dL_isWell_175 rfl (lv_at hl 0 rfl) ?_
      refine lv_bipush (v := 8) hx hb dL_isWell_176 (by decide) ?_
      obtain ⟨q64, hq, hf⟩ := bnd_t hf
      refine tw_cO X Y (tw_rO (rest := []) X Y k_L_9 (c_X5_count X.hg hq) rfl ⟨rfl, rfl⟩ ⟨by decide, by decide⟩ hl.1 rfl (Nat.le_of_ble_eq_true rfl) dL_isWell_178 ⟨Nat.zero_le _, Nat.zero_le _⟩) (fun H locs Y => ?_)
      refine lv_aload_n hx hb dL_isWell_181 rfl (lv_at hl 0 rfl) ?_
      refine lv_bipush (v := 17) hx hb dL_isWell_182 (by decide) ?_
      obtain ⟨q65, hq, hf⟩ := bnd_t hf
      refine tw_cO X Y (tw_rO (rest := [_]) X Y k_L_9 (c_X5_count X.hg hq) rfl ⟨rfl, rfl⟩ ⟨by decide, by decide⟩ hl.1 rfl (Nat.le_of_ble_eq_true rfl) dL_isWell_184 ⟨Nat.zero_le _, Nat.zero_le _⟩) (fun H locs Y => ?_)
      refine lv_sipush (v := 1000) hx hb dL_isWell_187 (by decide) ?_
      refine lv_isub hx hb dL_isWell_190 ?_
      refine lv_icmp_lt (tgt := 198) hx hb dL_isWell_191 (by decide) (fun c => ?_) (fun c => ?_)
      · exact nn_t (ite_t c hf)
      have hf := ite_f c hf
      refine lv_iconst (v := 1) hx hb dL_isWell_194 (by decide) ?_
      refine lv_goto (tgt := 199) hx hb dL_isWell_195 (by decide) ?_
      refine lv_istore (lv' := [(6, _), (0, _), (1, _), (2, _), (3, _), (5, _)]) hx hb dL_isWell_199 hl (by decide) rfl (fun ls hl => ?_)
      refine lv_iconst (v := 0) hx hb dL_isWell_201 (by decide) ?_
      refine lv_istore (lv' := [(7, _), (6, _), (0, _), (1, _), (2, _), (3, _), (5, _)]) hx hb dL_isWell_202 hl (by decide) rfl (fun ls hl => ?_)
      exact hL204 _ _ _ _ _ _ _ _ _ _ hf Y (lv_sub hl [2, 3, 4, 6, 1, 0] rfl)
  have hJ117 : ∀ (v1 : Int32) (v2 : Int32) (v3 : Int32) (v5 : Int32) (w0 : Int32) (w1 : Int32) (I : HJ) (H : Heap) (locs : List Loc) (ls : Array Slot), f_L_isWell_J117 v1 v2 v3 v5 w0 w1 I = some r → twD g I s H locs → lv_has ls 16 [(0, .ref (gR g 0)), (1, .int v1), (2, .int v2), (3, .int v3), (5, .int v5)] → W p l e rm_L_isWell s m args below meth c H locs 0 0 (MQ below (twQ g r.1 r.2) args s 0 0 (gB g)) (F0 m 117 ls [.int w0, .int w1]) := by
    intro v1 v2 v3 v5 w0 w1 I H locs ls hf Y hl
    unfold f_L_isWell_J117 at hf
    refine lv_icmp_ne (tgt := 198) hx hb dL_isWell_117 (by decide) (fun c => ?_) (fun c => ?_)
    · exact nn_t (ite_t c hf)
    have hf := ite_f (not_not_intro c) hf
    refine lv_iload_n hx hb dL_isWell_120 rfl (lv_at hl 3 rfl) ?_
    refine lv_iconst (v := 2) hx hb dL_isWell_121 (by decide) ?_
    refine lv_icmp_ne (tgt := 151) hx hb dL_isWell_122 (by decide) (fun c => ?_) (fun c => ?_)
    · have hf := ite_f c hf
      exact hJ151  _ _ _ _ _ _ _ _ hf Y (lv_sub hl [0, 1, 2, 3, 4] rfl)
    · have hf := ite_t c hf
      refine lv_iload_n hx hb dL_isWell_125 rfl (lv_at hl 1 rfl) ?_
      refine lv_aload_n hx hb dL_isWell_126 rfl (lv_at hl 0 rfl) ?_
      refine lv_bipush (v := 18) hx hb dL_isWell_127 (by decide) ?_
      obtain ⟨q66, hq, hf⟩ := bnd_t hf
      refine tw_cO X Y (tw_rO (rest := [_]) X Y k_L_9 (c_X5_count X.hg hq) rfl ⟨rfl, rfl⟩ ⟨by decide, by decide⟩ hl.1 rfl (Nat.le_of_ble_eq_true rfl) dL_isWell_129 ⟨Nat.zero_le _, Nat.zero_le _⟩) (fun H locs Y => ?_)
      refine lv_sipush (v := 1000) hx hb dL_isWell_132 (by decide) ?_
      refine lv_isub hx hb dL_isWell_135 ?_
      refine lv_icmp_ne (tgt := 198) hx hb dL_isWell_136 (by decide) (fun c => ?_) (fun c => ?_)
      · exact nn_t (ite_t c hf)
      have hf := ite_f (not_not_intro c) hf
      refine lv_aload_n hx hb dL_isWell_139 rfl (lv_at hl 0 rfl) ?_
      refine lv_bipush (v := 19) hx hb dL_isWell_140 (by decide) ?_
      obtain ⟨q67, hq, hf⟩ := bnd_t hf
      refine tw_cO X Y (tw_rO (rest := []) X Y k_L_9 (c_X5_count X.hg hq) rfl ⟨rfl, rfl⟩ ⟨by decide, by decide⟩ hl.1 rfl (Nat.le_of_ble_eq_true rfl) dL_isWell_142 ⟨Nat.zero_le _, Nat.zero_le _⟩) (fun H locs Y => ?_)
      refine lv_sipush (v := 1000) hx hb dL_isWell_145 (by decide) ?_
      refine lv_icmp_ne (tgt := 198) hx hb dL_isWell_148 (by decide) (fun c => ?_) (fun c => ?_)
      · exact nn_t (ite_t c hf)
      have hf := ite_f (not_not_intro c) hf
      exact hJ151  _ _ _ _ _ _ _ _ hf Y (lv_sub hl [0, 1, 2, 3, 4] rfl)
  have hJ28 : ∀ (v1 : Int32) (v2 : Int32) (v3 : Int32) (w0 : Int32) (I : HJ) (H : Heap) (locs : List Loc) (ls : Array Slot), f_L_isWell_J28 v1 v2 v3 w0 I = some r → twD g I s H locs → lv_has ls 16 [(0, .ref (gR g 0)), (1, .int v1), (2, .int v2), (3, .int v3)] → W p l e rm_L_isWell s m args below meth c H locs 0 0 (MQ below (twQ g r.1 r.2) args s 0 0 (gB g)) (F0 m 28 ls [.int w0]) := by
    intro v1 v2 v3 w0 I H locs ls hf Y hl
    unfold f_L_isWell_J28 at hf
    refine lv_istore (lv' := [(4, _), (0, _), (1, _), (2, _), (3, _)]) hx hb dL_isWell_28 hl (by decide) rfl (fun ls hl => ?_)
    refine lv_iconst (v := -1) hx hb dL_isWell_30 (by decide) ?_
    refine lv_istore (lv' := [(5, _), (4, _), (0, _), (1, _), (2, _), (3, _)]) hx hb dL_isWell_31 hl (by decide) rfl (fun ls hl => ?_)
    refine lv_aload_n hx hb dL_isWell_33 rfl (lv_at hl 2 rfl) ?_
    refine lv_iconst (v := 4) hx hb dL_isWell_34 (by decide) ?_
    obtain ⟨q68, hq, hf⟩ := bnd_t hf
    refine tw_cO X Y (tw_rO (rest := []) X Y k_L_9 (c_X5_count X.hg hq) rfl ⟨rfl, rfl⟩ ⟨by decide, by decide⟩ hl.1 rfl (Nat.le_of_ble_eq_true rfl) dL_isWell_35 ⟨Nat.zero_le _, Nat.zero_le _⟩) (fun H locs Y => ?_)
    refine lv_aload_n hx hb dL_isWell_38 rfl (lv_at hl 2 rfl) ?_
    refine lv_iconst (v := 5) hx hb dL_isWell_39 (by decide) ?_
    obtain ⟨q69, hq, hf⟩ := bnd_t hf
    refine tw_cO X Y (tw_rO (rest := [_]) X Y k_L_9 (c_X5_count X.hg hq) rfl ⟨rfl, rfl⟩ ⟨by decide, by decide⟩ hl.1 rfl (Nat.le_of_ble_eq_true rfl) dL_isWell_40 ⟨Nat.zero_le _, Nat.zero_le _⟩) (fun H locs Y => ?_)
    refine lv_aload_n hx hb dL_isWell_43 rfl (lv_at hl 2 rfl) ?_
    refine lv_bipush (v := 6) hx hb dL_isWell_44 (by decide) ?_
    obtain ⟨q70, hq, hf⟩ := bnd_t hf
    refine tw_cO X Y (tw_rO (rest := [_, _]) X Y k_L_9 (c_X5_count X.hg hq) rfl ⟨rfl, rfl⟩ ⟨by decide, by decide⟩ hl.1 rfl (Nat.le_of_ble_eq_true rfl) dL_isWell_46 ⟨Nat.zero_le _, Nat.zero_le _⟩) (fun H locs Y => ?_)
    refine lv_iadd hx hb dL_isWell_49 ?_
    refine lv_icmp_ne (tgt := 198) hx hb dL_isWell_50 (by decide) (fun c => ?_) (fun c => ?_)
    · exact nn_t (ite_t c hf)
    have hf := ite_f (not_not_intro c) hf
    refine lv_aload_n hx hb dL_isWell_53 rfl (lv_at hl 2 rfl) ?_
    refine lv_iconst (v := 5) hx hb dL_isWell_54 (by decide) ?_
    obtain ⟨q71, hq, hf⟩ := bnd_t hf
    refine tw_cO X Y (tw_rO (rest := []) X Y k_L_9 (c_X5_count X.hg hq) rfl ⟨rfl, rfl⟩ ⟨by decide, by decide⟩ hl.1 rfl (Nat.le_of_ble_eq_true rfl) dL_isWell_55 ⟨Nat.zero_le _, Nat.zero_le _⟩) (fun H locs Y => ?_)
    refine lv_aload_n hx hb dL_isWell_58 rfl (lv_at hl 2 rfl) ?_
    refine lv_bipush (v := 7) hx hb dL_isWell_59 (by decide) ?_
    obtain ⟨q72, hq, hf⟩ := bnd_t hf
    refine tw_cO X Y (tw_rO (rest := [_]) X Y k_L_9 (c_X5_count X.hg hq) rfl ⟨rfl, rfl⟩ ⟨by decide, by decide⟩ hl.1 rfl (Nat.le_of_ble_eq_true rfl) dL_isWell_61 ⟨Nat.zero_le _, Nat.zero_le _⟩) (fun H locs Y => ?_)
    refine lv_icmp_lt (tgt := 198) hx hb dL_isWell_64 (by decide) (fun c => ?_) (fun c => ?_)
    · exact nn_t (ite_t c hf)
    have hf := ite_f c hf
    refine lv_iload_n hx hb dL_isWell_67 rfl (lv_at hl 3 rfl) ?_
    refine lv_aload_n hx hb dL_isWell_68 rfl (lv_at hl 2 rfl) ?_
    refine lv_bipush (v := 18) hx hb dL_isWell_69 (by decide) ?_
    obtain ⟨q73, hq, hf⟩ := bnd_t hf
    refine tw_cO X Y (tw_rO (rest := [_]) X Y k_L_9 (c_X5_count X.hg hq) rfl ⟨rfl, rfl⟩ ⟨by decide, by decide⟩ hl.1 rfl (Nat.le_of_ble_eq_true rfl) dL_isWell_71 ⟨Nat.zero_le _, Nat.zero_le _⟩) (fun H locs Y => ?_)
    refine lv_sipush (v := 1000) hx hb dL_isWell_74 (by decide) ?_
    refine lv_isub hx hb dL_isWell_77 ?_
    refine lv_icmp_gt (tgt := 198) hx hb dL_isWell_78 (by decide) (fun c => ?_) (fun c => ?_)
    · exact nn_t (ite_t c hf)
    have hf := ite_f c hf
    refine lv_iload_n hx hb dL_isWell_81 rfl (lv_at hl 3 rfl) ?_
    refine lv_aload_n hx hb dL_isWell_82 rfl (lv_at hl 2 rfl) ?_
    refine lv_bipush (v := 7) hx hb dL_isWell_83 (by decide) ?_
    obtain ⟨q74, hq, hf⟩ := bnd_t hf
    refine tw_cO X Y (tw_rO (rest := [_]) X Y k_L_9 (c_X5_count X.hg hq) rfl ⟨rfl, rfl⟩ ⟨by decide, by decide⟩ hl.1 rfl (Nat.le_of_ble_eq_true rfl) dL_isWell_85 ⟨Nat.zero_le _, Nat.zero_le _⟩) (fun H locs Y => ?_)
    refine lv_icmp_gt (tgt := 198) hx hb dL_isWell_88 (by decide) (fun c => ?_) (fun c => ?_)
    · exact nn_t (ite_t c hf)
    have hf := ite_f c hf
    refine lv_aload_n hx hb dL_isWell_91 rfl (lv_at hl 2 rfl) ?_
    refine lv_bipush (v := 8) hx hb dL_isWell_92 (by decide) ?_
    obtain ⟨q75, hq, hf⟩ := bnd_t hf
    refine tw_cO X Y (tw_rO (rest := []) X Y k_L_9 (c_X5_count X.hg hq) rfl ⟨rfl, rfl⟩ ⟨by decide, by decide⟩ hl.1 rfl (Nat.le_of_ble_eq_true rfl) dL_isWell_94 ⟨Nat.zero_le _, Nat.zero_le _⟩) (fun H locs Y => ?_)
    refine lv_iload_n hx hb dL_isWell_97 rfl (lv_at hl 4 rfl) ?_
    refine lv_icmp_gt (tgt := 198) hx hb dL_isWell_98 (by decide) (fun c => ?_) (fun c => ?_)
    · exact nn_t (ite_t c hf)
    have hf := ite_f c hf
    refine lv_iload hx hb dL_isWell_101 (lv_at hl 1 rfl) ?_
    refine lv_aload_n hx hb dL_isWell_103 rfl (lv_at hl 2 rfl) ?_
    refine lv_bipush (v := 9) hx hb dL_isWell_104 (by decide) ?_
    obtain ⟨q76, hq, hf⟩ := bnd_t hf
    refine tw_cO X Y (tw_rO (rest := [_]) X Y k_L_9 (c_X5_count X.hg hq) rfl ⟨rfl, rfl⟩ ⟨by decide, by decide⟩ hl.1 rfl (Nat.le_of_ble_eq_true rfl) dL_isWell_106 ⟨Nat.zero_le _, Nat.zero_le _⟩) (fun H locs Y => ?_)
    refine lv_if_le (tgt := 116) hx hb dL_isWell_109 (by decide) (fun c => ?_) (fun c => ?_)
    · have hf := ite_t c hf
      refine lv_iconst (v := 0) hx hb dL_isWell_116 (by decide) ?_
      exact hJ117  _ _ _ _ _ _ _ _ _ _ hf Y (lv_sub hl [2, 3, 4, 5, 0] rfl)
    · have hf := ite_f c hf
      refine lv_iconst (v := 1) hx hb dL_isWell_112 (by decide) ?_
      refine lv_goto (tgt := 117) hx hb dL_isWell_113 (by decide) ?_
      exact hJ117  _ _ _ _ _ _ _ _ _ _ hf Y (lv_sub hl [2, 3, 4, 5, 0] rfl)
  unfold f_L_isWell at hf
  refine lv_aload_n hx hb dL_isWell_0 rfl (lv_at hl 0 rfl) ?_
  refine lv_iconst (v := 1) hx hb dL_isWell_1 (by decide) ?_
  obtain ⟨q77, hq, hf⟩ := bnd_t hf
  refine tw_cO X Y (tw_rO (rest := []) X Y k_L_9 (c_X5_count X.hg hq) rfl ⟨rfl, rfl⟩ ⟨by decide, by decide⟩ hl.1 rfl (Nat.le_of_ble_eq_true rfl) dL_isWell_2 ⟨Nat.zero_le _, Nat.zero_le _⟩) (fun H locs Y => ?_)
  refine lv_istore_n (lv' := [(1, _), (0, _)]) hx hb dL_isWell_5 rfl hl (by decide) rfl (fun ls hl => ?_)
  refine lv_aload_n hx hb dL_isWell_6 rfl (lv_at hl 1 rfl) ?_
  refine lv_iconst (v := 0) hx hb dL_isWell_7 (by decide) ?_
  obtain ⟨q78, hq, hf⟩ := bnd_t hf
  refine tw_cO X Y (tw_rO (rest := []) X Y k_L_9 (c_X5_count X.hg hq) rfl ⟨rfl, rfl⟩ ⟨by decide, by decide⟩ hl.1 rfl (Nat.le_of_ble_eq_true rfl) dL_isWell_8 ⟨Nat.zero_le _, Nat.zero_le _⟩) (fun H locs Y => ?_)
  refine lv_istore_n (lv' := [(2, _), (1, _), (0, _)]) hx hb dL_isWell_11 rfl hl (by decide) rfl (fun ls hl => ?_)
  refine lv_aload_n hx hb dL_isWell_12 rfl (lv_at hl 2 rfl) ?_
  refine lv_iconst (v := 2) hx hb dL_isWell_13 (by decide) ?_
  obtain ⟨q79, hq, hf⟩ := bnd_t hf
  refine tw_cO X Y (tw_rO (rest := []) X Y k_L_9 (c_X5_count X.hg hq) rfl ⟨rfl, rfl⟩ ⟨by decide, by decide⟩ hl.1 rfl (Nat.le_of_ble_eq_true rfl) dL_isWell_14 ⟨Nat.zero_le _, Nat.zero_le _⟩) (fun H locs Y => ?_)
  refine lv_istore_n (lv' := [(3, _), (2, _), (1, _), (0, _)]) hx hb dL_isWell_17 rfl hl (by decide) rfl (fun ls hl => ?_)
  refine lv_iload_n hx hb dL_isWell_18 rfl (lv_at hl 0 rfl) ?_
  refine lv_iconst (v := 3) hx hb dL_isWell_19 (by decide) ?_
  refine lv_icmp_ne (tgt := 27) hx hb dL_isWell_20 (by decide) (fun c => ?_) (fun c => ?_)
  · have hf := ite_f c hf
    refine lv_iconst (v := 0) hx hb dL_isWell_27 (by decide) ?_
    exact hJ28  _ _ _ _ _ _ _ _ hf Y (lv_sub hl [3, 2, 1, 0] rfl)
  · have hf := ite_t c hf
    refine lv_iconst (v := 1) hx hb dL_isWell_23 (by decide) ?_
    refine lv_goto (tgt := 28) hx hb dL_isWell_24 (by decide) ?_
    exact hJ28  _ _ _ _ _ _ _ _ hf Y (lv_sub hl [3, 2, 1, 0] rfl)
