def f_L_isStep_J575 (v9 : Int32) (w0 : Int32) (I : HJ) : Option (Int32 × HJ) :=
  (f_X5_set v9 w0 I.1).bind fun q42 =>
  (f_X5_set v9 w0 I.2).bind fun q43 =>
  if ¬ (q42.1 = q43.1) then none else
  if q42.1 < (0 : Int32) then
    if ¬ (q42.1 = (-5 : Int32)) then none else
    if v9 = (5 : Int32) then
      some ((1 : Int32), (q42.2, q43.2))
    else
      if ¬ (v9 = (6 : Int32)) then none else
      some ((1 : Int32), (q42.2, q43.2))
  else
    (f_X5_count ((10 : Int32) + v9) q42.2).bind fun q44 =>
    if ¬ (q44.1 = (w0 + (1000 : Int32))) then none else
    some ((1 : Int32), (q44.2, q43.2))
def f_L_isStep_J474 (v3 : Int32) (w0 : Int32) (I : HJ) : Option (Int32 × HJ) :=
  if w0 = (2 : Int32) then
    (f_L_up (v3 >>> ((3 : Int32) &&& 31)) (20 : Int32) I).bind fun q45 =>
    f_L_isStep_J575 w0 q45.1 q45.2
  else
    if w0 = (5 : Int32) then
      (f_L_up (v3 >>> ((3 : Int32) &&& 31)) (12 : Int32) I).bind fun q46 =>
      f_L_isStep_J575 w0 ((1 : Int32) + q46.1) q46.2
    else
      if w0 = (6 : Int32) then
        (f_L_up (v3 >>> ((3 : Int32) &&& 31)) (6 : Int32) I).bind fun q47 =>
        f_L_isStep_J575 w0 q47.1 q47.2
      else
        if w0 = (7 : Int32) then
          (f_L_up (v3 >>> ((3 : Int32) &&& 31)) (10 : Int32) I).bind fun q48 =>
          f_L_isStep_J575 w0 q48.1 q48.2
        else
          if w0 = (8 : Int32) then
            (f_L_up (v3 >>> ((3 : Int32) &&& 31)) (6 : Int32) I).bind fun q49 =>
            f_L_isStep_J575 w0 ((1 : Int32) + q49.1) q49.2
          else
            (f_L_up (v3 >>> ((3 : Int32) &&& 31)) (2 : Int32) I).bind fun q50 =>
            f_L_isStep_J575 w0 q50.1 q50.2
def f_L_isStep_J437 (w0 : Int32) (w1 : Int32) (I : HJ) : Option (Int32 × HJ) :=
  (f_X5_set w1 w0 I.2).bind fun q51 =>
  if q51.1 < (900 : Int32) then none else
  (f_X5_count (3 : Int32) I.1).bind fun q52 =>
  if ¬ (q52.1 = (0 : Int32)) then none else
  some ((1 : Int32), (q52.2, q51.2))
def f_L_isStep_J403 (v8 : Int32) (w0 : Int32) (I : HJ) : Option (Int32 × HJ) :=
  (f_X5_set v8 w0 I.1).bind fun q53 =>
  if q53.1 < (900 : Int32) then none else
  if v8 = (0 : Int32) then
    f_L_isStep_J437 ((1 : Int32) - w0) v8 (q53.2, I.2)
  else
    f_L_isStep_J437 (-w0) v8 (q53.2, I.2)
def f_L_isStep_J99 (v5 : Int32) (v6 : Int32) (v8 : Int32) (w0 : Int32) (w1 : Int32) (w2 : Int32) (I : HJ) : Option (Int32 × HJ) :=
  (f_L_up w1 w0 I).bind fun q54 =>
  let x55 := w2 + q54.1
  (f_X5_feed v8 x55 (q54.2.1)).bind fun q56 =>
  (f_X5_feed (-v8) x55 (q54.2.2)).bind fun q57 =>
  if ¬ (q56.1 = q57.1) then none else
  if (v5 + x55) ≤ (400 : Int32) then
    if q56.1 < (0 : Int32) then none else
    (f_X5_count (0 : Int32) q56.2).bind fun q58 =>
    if ¬ (q58.1 = (v5 + x55)) then none else
    (f_X5_count (7 : Int32) q58.2).bind fun q59 =>
    if ¬ (q59.1 = (v6 + q56.1)) then none else
    (f_X5_sample ((v5 + x55) - (1 : Int32)) q59.2).bind fun q60 =>
    if ¬ (q60.1 = (v8 + (1000 : Int32))) then none else
    some ((1 : Int32), (q60.2, q57.2))
  else
    if ¬ (q56.1 = (-4 : Int32)) then none else
    some ((1 : Int32), (q56.2, q57.2))
def f_L_isStep_J75 (v3 : Int32) (v5 : Int32) (v6 : Int32) (w0 : Int32) (I : HJ) : Option (Int32 × HJ) :=
  (f_L_up (v3 >>> ((8 : Int32) &&& 31)) (2 : Int32) I).bind fun q61 =>
  if q61.1 = (0 : Int32) then
    f_L_isStep_J99 v5 v6 w0 (1 : Int32) (v3 >>> ((9 : Int32) &&& 31)) (1 : Int32) q61.2
  else
    f_L_isStep_J99 v5 v6 w0 (6 : Int32) (v3 >>> ((9 : Int32) &&& 31)) (1 : Int32) q61.2
def f_L_isStep (v2 : Int32) (I : HJ) : Option (Int32 × HJ) :=
  let x62 := v2 >>> ((4 : Int32) &&& 31)
  (f_X5_count (1 : Int32) I.1).bind fun q63 =>
  (f_X5_count (0 : Int32) q63.2).bind fun q64 =>
  (f_X5_count (7 : Int32) q64.2).bind fun q65 =>
  (f_L_up v2 (18 : Int32) (q65.2, I.2)).bind fun q66 =>
  if (11 : Int32) ≤ q66.1 then
    if (12 : Int32) ≤ q66.1 then
      if (13 : Int32) ≤ q66.1 then
        if (14 : Int32) ≤ q66.1 then
          (f_L_up x62 (8 : Int32) q66.2).bind fun q67 =>
          if (2 : Int32) ≤ q67.1 then
            if q67.1 = (2 : Int32) then
              f_L_isStep_J474 x62 (2 : Int32) q67.2
            else
              f_L_isStep_J474 x62 (q67.1 + (2 : Int32)) q67.2
          else
            if q67.1 = (0 : Int32) then
              (f_L_up (x62 >>> ((3 : Int32) &&& 31)) (2 : Int32) q67.2).bind fun q68 =>
              f_L_isStep_J403 q67.1 q68.1 q68.2
            else
              (f_L_up (x62 >>> ((3 : Int32) &&& 31)) (31 : Int32) q67.2).bind fun q69 =>
              f_L_isStep_J403 q67.1 (q69.1 - (15 : Int32)) q69.2
        else
          (f_X5_count (21 : Int32) (q66.2.1)).bind fun q70 =>
          if q70.1 < (3 : Int32) then
            some ((1 : Int32), (q70.2, q66.2.2))
          else
            (f_X5_undo q70.2).bind fun q71 =>
            (f_X5_undo (q66.2.2)).bind fun q72 =>
            if ¬ (q71.1 = q72.1) then none else
            some ((1 : Int32), (q71.2, q72.2))
      else
        (f_L_up x62 (4 : Int32) q66.2).bind fun q73 =>
        if (0 : Int32) < q73.1 then
          some ((1 : Int32), q73.2)
        else
          (f_X5_clear (q73.2.1)).bind fun q74 =>
          (f_X5_clear (q73.2.2)).bind fun q75 =>
          if ¬ (q74.1 = q75.1) then none else
          (f_X5_count (0 : Int32) q74.2).bind fun q76 =>
          if ¬ (q76.1 = (0 : Int32)) then none else
          (f_X5_count (1 : Int32) q76.2).bind fun q77 =>
          if ¬ (q77.1 = (0 : Int32)) then none else
          (f_X5_count (7 : Int32) q77.2).bind fun q78 =>
          if ¬ (q78.1 = q65.1) then none else
          some ((1 : Int32), (q78.2, q75.2))
    else
      (f_L_up x62 (q63.1 + (1 : Int32)) q66.2).bind fun q79 =>
      (f_X5_drop q79.1 (q79.2.1)).bind fun q80 =>
      (f_X5_drop q79.1 (q79.2.2)).bind fun q81 =>
      if ¬ (q80.1 = q81.1) then none else
      if q79.1 = q63.1 then
        if ¬ (q80.1 = (-1 : Int32)) then none else
        some ((1 : Int32), (q80.2, q81.2))
      else
        if ¬ (q80.1 = (q63.1 - (1 : Int32))) then none else
        some ((1 : Int32), (q80.2, q81.2))
  else
    (f_L_up x62 (3 : Int32) q66.2).bind fun q82 =>
    if q82.1 = (0 : Int32) then
      (f_L_up (x62 >>> ((2 : Int32) &&& 31)) (201 : Int32) q82.2).bind fun q83 =>
      f_L_isStep_J75 x62 q64.1 q65.1 (q83.1 - (100 : Int32)) q83.2
    else
      (f_L_up (x62 >>> ((2 : Int32) &&& 31)) (61 : Int32) q82.2).bind fun q84 =>
      f_L_isStep_J75 x62 q64.1 q65.1 (q84.1 - (30 : Int32)) q84.2
abbrev rm_L_isStep : Room := { frames := 6, cells := 0, slots := 0, locals := 148 }
set_option maxHeartbeats 8000000 in
set_option maxRecDepth 100000 in
theorem c_L_isStep {l : Launch} {g : GX} (hg : gOk g) (hh : gOk (gH g)) {v2 : Int32} {I : HJ} {r : Int32 × HJ} (hf : f_L_isStep v2 I = some r) : Met l yL_isStep (Cond.code yL_isStep cL_isStep 12 (some .boolean) :: WL) rm_L_isStep (twP g [.ref (gR g 0), .ref (gR (gH g) 0), .int v2] I) (twQ g r.1 r.2) 0 0 (gB g) := by
  refine tw_met (by decide) hg hh (Nat.le_of_ble_eq_true rfl) (fun p e s m args below meth c X hr hlk Y ls hl => ?_)
  have hx := X.hx
  have hb := X.hb
  have hl : lv_has ls 12 [(0, .ref (gR g 0)), (1, .ref (gR (gH g) 0)), (2, .int v2)] := hl
  have hJ575 : ∀ (v9 : Int32) (w0 : Int32) (I : HJ) (H : Heap) (locs : List Loc) (ls : Array Slot), f_L_isStep_J575 v9 w0 I = some r → twD g I s H locs → lv_has ls 12 [(0, .ref (gR g 0)), (1, .ref (gR (gH g) 0)), (9, .int v9)] → W p l e rm_L_isStep s m args below meth c H locs 0 0 (MQ below (twQ g r.1 r.2) args s 0 0 (gB g)) (F0 m 575 ls [.int w0]) := by
    intro v9 w0 I H locs ls hf Y hl
    unfold f_L_isStep_J575 at hf
    refine lv_istore (lv' := [(10, _), (0, _), (1, _), (9, _)]) hx hb dL_isStep_575 hl (by decide) rfl (fun ls hl => ?_)
    refine lv_aload_n hx hb dL_isStep_577 rfl (lv_at hl 1 rfl) ?_
    refine lv_iload hx hb dL_isStep_578 (lv_at hl 3 rfl) ?_
    refine lv_iload hx hb dL_isStep_580 (lv_at hl 0 rfl) ?_
    obtain ⟨q42, hq, hf⟩ := bnd_t hf
    refine tw_cO X Y (tw_rO (rest := []) X Y k_L_37 (c_X5_set X.hg hq) rfl ⟨rfl, rfl⟩ ⟨by decide, by decide⟩ hl.1 rfl (Nat.le_of_ble_eq_true rfl) dL_isStep_582 ⟨Nat.zero_le _, Nat.zero_le _⟩) (fun H locs Y => ?_)
    refine lv_istore (lv' := [(11, _), (10, _), (0, _), (1, _), (9, _)]) hx hb dL_isStep_585 hl (by decide) rfl (fun ls hl => ?_)
    refine lv_iload hx hb dL_isStep_587 (lv_at hl 0 rfl) ?_
    refine lv_aload_n hx hb dL_isStep_589 rfl (lv_at hl 3 rfl) ?_
    refine lv_iload hx hb dL_isStep_590 (lv_at hl 4 rfl) ?_
    refine lv_iload hx hb dL_isStep_592 (lv_at hl 1 rfl) ?_
    obtain ⟨q43, hq, hf⟩ := bnd_t hf
    refine tw_cP X Y (tw_rP (rest := [_]) X Y k_L_37 (c_X5_set X.hh hq) rfl ⟨rfl, rfl⟩ ⟨by decide, by decide⟩ hl.1 rfl (Nat.le_of_ble_eq_true rfl) dL_isStep_594 ⟨Nat.zero_le _, Nat.zero_le _⟩) (fun H locs Y => ?_)
    refine lv_icmp_ne (tgt := 650) hx hb dL_isStep_597 (by decide) (fun c => ?_) (fun c => ?_)
    · exact nn_t (ite_t c hf)
    have hf := ite_f (not_not_intro c) hf
    refine lv_iload hx hb dL_isStep_600 (lv_at hl 0 rfl) ?_
    refine lv_if_lt (tgt := 626) hx hb dL_isStep_602 (by decide) (fun c => ?_) (fun c => ?_)
    · have hf := ite_t c hf
      refine lv_iload hx hb dL_isStep_626 (lv_at hl 0 rfl) ?_
      refine lv_bipush (v := -5) hx hb dL_isStep_628 (by decide) ?_
      refine lv_icmp_ne (tgt := 650) hx hb dL_isStep_630 (by decide) (fun c => ?_) (fun c => ?_)
      · exact nn_t (ite_t c hf)
      have hf := ite_f (not_not_intro c) hf
      refine lv_iload hx hb dL_isStep_633 (lv_at hl 4 rfl) ?_
      refine lv_iconst (v := 5) hx hb dL_isStep_635 (by decide) ?_
      refine lv_icmp_eq (tgt := 646) hx hb dL_isStep_636 (by decide) (fun c => ?_) (fun c => ?_)
      · have hf := ite_t c hf
        refine lv_iconst (v := 1) hx hb dL_isStep_646 (by decide) ?_
        refine lv_goto (tgt := 651) hx hb dL_isStep_647 (by decide) ?_
        exact tw_zret X Y hr hlk rfl hf dL_isStep_651
      · have hf := ite_f c hf
        refine lv_iload hx hb dL_isStep_639 (lv_at hl 4 rfl) ?_
        refine lv_bipush (v := 6) hx hb dL_isStep_641 (by decide) ?_
        refine lv_icmp_ne (tgt := 650) hx hb dL_isStep_643 (by decide) (fun c => ?_) (fun c => ?_)
        · exact nn_t (ite_t c hf)
        have hf := ite_f (not_not_intro c) hf
        refine lv_iconst (v := 1) hx hb dL_isStep_646 (by decide) ?_
        refine lv_goto (tgt := 651) hx hb dL_isStep_647 (by decide) ?_
        exact tw_zret X Y hr hlk rfl hf dL_isStep_651
    · have hf := ite_f c hf
      refine lv_aload_n hx hb dL_isStep_605 rfl (lv_at hl 2 rfl) ?_
      refine lv_bipush (v := 10) hx hb dL_isStep_606 (by decide) ?_
      refine lv_iload hx hb dL_isStep_608 (lv_at hl 4 rfl) ?_
      refine lv_iadd hx hb dL_isStep_610 ?_
      obtain ⟨q44, hq, hf⟩ := bnd_t hf
      refine tw_cO X Y (tw_rO (rest := []) X Y k_L_9 (c_X5_count X.hg hq) rfl ⟨rfl, rfl⟩ ⟨by decide, by decide⟩ hl.1 rfl (Nat.le_of_ble_eq_true rfl) dL_isStep_611 ⟨Nat.zero_le _, Nat.zero_le _⟩) (fun H locs Y => ?_)
      refine lv_iload hx hb dL_isStep_614 (lv_at hl 1 rfl) ?_
      refine lv_sipush (v := 1000) hx hb dL_isStep_616 (by decide) ?_
      refine lv_iadd hx hb dL_isStep_619 ?_
      refine lv_icmp_ne (tgt := 650) hx hb dL_isStep_620 (by decide) (fun c => ?_) (fun c => ?_)
      · exact nn_t (ite_t c hf)
      have hf := ite_f (not_not_intro c) hf
      refine lv_goto (tgt := 646) hx hb dL_isStep_623 (by decide) ?_
      refine lv_iconst (v := 1) hx hb dL_isStep_646 (by decide) ?_
      refine lv_goto (tgt := 651) hx hb dL_isStep_647 (by decide) ?_
      exact tw_zret X Y hr hlk rfl hf dL_isStep_651
  have hJ474 : ∀ (v3 : Int32) (w0 : Int32) (I : HJ) (H : Heap) (locs : List Loc) (ls : Array Slot), f_L_isStep_J474 v3 w0 I = some r → twD g I s H locs → lv_has ls 12 [(0, .ref (gR g 0)), (1, .ref (gR (gH g) 0)), (3, .int v3)] → W p l e rm_L_isStep s m args below meth c H locs 0 0 (MQ below (twQ g r.1 r.2) args s 0 0 (gB g)) (F0 m 474 ls [.int w0]) := by
    intro v3 w0 I H locs ls hf Y hl
    unfold f_L_isStep_J474 at hf
    refine lv_istore (lv' := [(9, _), (0, _), (1, _), (3, _)]) hx hb dL_isStep_474 hl (by decide) rfl (fun ls hl => ?_)
    refine lv_iload hx hb dL_isStep_476 (lv_at hl 0 rfl) ?_
    refine lv_iconst (v := 2) hx hb dL_isStep_478 (by decide) ?_
    refine lv_icmp_ne (tgt := 493) hx hb dL_isStep_479 (by decide) (fun c => ?_) (fun c => ?_)
    · have hf := ite_f c hf
      refine lv_iload hx hb dL_isStep_493 (lv_at hl 0 rfl) ?_
      refine lv_iconst (v := 5) hx hb dL_isStep_495 (by decide) ?_
      refine lv_icmp_ne (tgt := 512) hx hb dL_isStep_496 (by decide) (fun c => ?_) (fun c => ?_)
      · have hf := ite_f c hf
        refine lv_iload hx hb dL_isStep_512 (lv_at hl 0 rfl) ?_
        refine lv_bipush (v := 6) hx hb dL_isStep_514 (by decide) ?_
        refine lv_icmp_ne (tgt := 530) hx hb dL_isStep_516 (by decide) (fun c => ?_) (fun c => ?_)
        · have hf := ite_f c hf
          refine lv_iload hx hb dL_isStep_530 (lv_at hl 0 rfl) ?_
          refine lv_bipush (v := 7) hx hb dL_isStep_532 (by decide) ?_
          refine lv_icmp_ne (tgt := 548) hx hb dL_isStep_534 (by decide) (fun c => ?_) (fun c => ?_)
          · have hf := ite_f c hf
            refine lv_iload hx hb dL_isStep_548 (lv_at hl 0 rfl) ?_
            refine lv_bipush (v := 8) hx hb dL_isStep_550 (by decide) ?_
            refine lv_icmp_ne (tgt := 568) hx hb dL_isStep_552 (by decide) (fun c => ?_) (fun c => ?_)
            · have hf := ite_f c hf
              refine lv_iload_n hx hb dL_isStep_568 rfl (lv_at hl 3 rfl) ?_
              refine lv_iconst (v := 3) hx hb dL_isStep_569 (by decide) ?_
              refine lv_ishr hx hb dL_isStep_570 ?_
              refine lv_iconst (v := 2) hx hb dL_isStep_571 (by decide) ?_
              obtain ⟨q50, hq, hf⟩ := bnd_t hf
              refine tw_cS Y (tw_rS (rest := []) X Y k_L_15 (c_L_up X.hg X.hh hq) rfl ⟨rfl, rfl⟩ ⟨by decide, by decide⟩ hl.1 rfl (Nat.le_of_ble_eq_true rfl) dL_isStep_572 ⟨Nat.zero_le _, Nat.zero_le _⟩) (fun H locs Y => ?_)
              exact hJ575  _ _ _ _ _ _ hf Y (lv_sub hl [1, 2, 0] rfl)
            · have hf := ite_t c hf
              refine lv_iconst (v := 1) hx hb dL_isStep_555 (by decide) ?_
              refine lv_iload_n hx hb dL_isStep_556 rfl (lv_at hl 3 rfl) ?_
              refine lv_iconst (v := 3) hx hb dL_isStep_557 (by decide) ?_
              refine lv_ishr hx hb dL_isStep_558 ?_
              refine lv_bipush (v := 6) hx hb dL_isStep_559 (by decide) ?_
              obtain ⟨q49, hq, hf⟩ := bnd_t hf
              refine tw_cS Y (tw_rS (rest := [_]) X Y k_L_15 (c_L_up X.hg X.hh hq) rfl ⟨rfl, rfl⟩ ⟨by decide, by decide⟩ hl.1 rfl (Nat.le_of_ble_eq_true rfl) dL_isStep_561 ⟨Nat.zero_le _, Nat.zero_le _⟩) (fun H locs Y => ?_)
              refine lv_iadd hx hb dL_isStep_564 ?_
              refine lv_goto (tgt := 575) hx hb dL_isStep_565 (by decide) ?_
              exact hJ575  _ _ _ _ _ _ hf Y (lv_sub hl [1, 2, 0] rfl)
          · have hf := ite_t c hf
            refine lv_iload_n hx hb dL_isStep_537 rfl (lv_at hl 3 rfl) ?_
            refine lv_iconst (v := 3) hx hb dL_isStep_538 (by decide) ?_
            refine lv_ishr hx hb dL_isStep_539 ?_
            refine lv_bipush (v := 10) hx hb dL_isStep_540 (by decide) ?_
            obtain ⟨q48, hq, hf⟩ := bnd_t hf
            refine tw_cS Y (tw_rS (rest := []) X Y k_L_15 (c_L_up X.hg X.hh hq) rfl ⟨rfl, rfl⟩ ⟨by decide, by decide⟩ hl.1 rfl (Nat.le_of_ble_eq_true rfl) dL_isStep_542 ⟨Nat.zero_le _, Nat.zero_le _⟩) (fun H locs Y => ?_)
            refine lv_goto (tgt := 575) hx hb dL_isStep_545 (by decide) ?_
            exact hJ575  _ _ _ _ _ _ hf Y (lv_sub hl [1, 2, 0] rfl)
        · have hf := ite_t c hf
          refine lv_iload_n hx hb dL_isStep_519 rfl (lv_at hl 3 rfl) ?_
          refine lv_iconst (v := 3) hx hb dL_isStep_520 (by decide) ?_
          refine lv_ishr hx hb dL_isStep_521 ?_
          refine lv_bipush (v := 6) hx hb dL_isStep_522 (by decide) ?_
          obtain ⟨q47, hq, hf⟩ := bnd_t hf
          refine tw_cS Y (tw_rS (rest := []) X Y k_L_15 (c_L_up X.hg X.hh hq) rfl ⟨rfl, rfl⟩ ⟨by decide, by decide⟩ hl.1 rfl (Nat.le_of_ble_eq_true rfl) dL_isStep_524 ⟨Nat.zero_le _, Nat.zero_le _⟩) (fun H locs Y => ?_)
          refine lv_goto (tgt := 575) hx hb dL_isStep_527 (by decide) ?_
          exact hJ575  _ _ _ _ _ _ hf Y (lv_sub hl [1, 2, 0] rfl)
      · have hf := ite_t c hf
        refine lv_iconst (v := 1) hx hb dL_isStep_499 (by decide) ?_
        refine lv_iload_n hx hb dL_isStep_500 rfl (lv_at hl 3 rfl) ?_
        refine lv_iconst (v := 3) hx hb dL_isStep_501 (by decide) ?_
        refine lv_ishr hx hb dL_isStep_502 ?_
        refine lv_bipush (v := 12) hx hb dL_isStep_503 (by decide) ?_
        obtain ⟨q46, hq, hf⟩ := bnd_t hf
        refine tw_cS Y (tw_rS (rest := [_]) X Y k_L_15 (c_L_up X.hg X.hh hq) rfl ⟨rfl, rfl⟩ ⟨by decide, by decide⟩ hl.1 rfl (Nat.le_of_ble_eq_true rfl) dL_isStep_505 ⟨Nat.zero_le _, Nat.zero_le _⟩) (fun H locs Y => ?_)
        refine lv_iadd hx hb dL_isStep_508 ?_
        refine lv_goto (tgt := 575) hx hb dL_isStep_509 (by decide) ?_
        exact hJ575  _ _ _ _ _ _ hf Y (lv_sub hl [1, 2, 0] rfl)
    · have hf := ite_t c hf
      refine lv_iload_n hx hb dL_isStep_482 rfl (lv_at hl 3 rfl) ?_
      refine lv_iconst (v := 3) hx hb dL_isStep_483 (by decide) ?_
      refine lv_ishr hx hb dL_isStep_484 ?_
      refine lv_bipush (v := 20) hx hb dL_isStep_485 (by decide) ?_
      obtain ⟨q45, hq, hf⟩ := bnd_t hf
      refine tw_cS Y (tw_rS (rest := []) X Y k_L_15 (c_L_up X.hg X.hh hq) rfl ⟨rfl, rfl⟩ ⟨by decide, by decide⟩ hl.1 rfl (Nat.le_of_ble_eq_true rfl) dL_isStep_487 ⟨Nat.zero_le _, Nat.zero_le _⟩) (fun H locs Y => ?_)
      refine lv_goto (tgt := 575) hx hb dL_isStep_490 (by decide) ?_
      exact hJ575  _ _ _ _ _ _ hf Y (lv_sub hl [1, 2, 0] rfl)
  have hJ437 : ∀ (w0 : Int32) (w1 : Int32) (I : HJ) (H : Heap) (locs : List Loc) (ls : Array Slot), f_L_isStep_J437 w0 w1 I = some r → twD g I s H locs → lv_has ls 12 [(0, .ref (gR g 0))] → W p l e rm_L_isStep s m args below meth c H locs 0 0 (MQ below (twQ g r.1 r.2) args s 0 0 (gB g)) (F0 m 437 ls [.int w0, .int w1, .ref (gR (gH g) 0)]) := by
    intro w0 w1 I H locs ls hf Y hl
    unfold f_L_isStep_J437 at hf
    obtain ⟨q51, hq, hf⟩ := bnd_t hf
    refine tw_cP X Y (tw_rP (rest := []) X Y k_L_37 (c_X5_set X.hh hq) rfl ⟨rfl, rfl⟩ ⟨by decide, by decide⟩ hl.1 rfl (Nat.le_of_ble_eq_true rfl) dL_isStep_437 ⟨Nat.zero_le _, Nat.zero_le _⟩) (fun H locs Y => ?_)
    refine lv_sipush (v := 900) hx hb dL_isStep_440 (by decide) ?_
    refine lv_icmp_lt (tgt := 458) hx hb dL_isStep_443 (by decide) (fun c => ?_) (fun c => ?_)
    · exact nn_t (ite_t c hf)
    have hf := ite_f c hf
    refine lv_aload_n hx hb dL_isStep_446 rfl (lv_at hl 0 rfl) ?_
    refine lv_iconst (v := 3) hx hb dL_isStep_447 (by decide) ?_
    obtain ⟨q52, hq, hf⟩ := bnd_t hf
    refine tw_cO X Y (tw_rO (rest := []) X Y k_L_9 (c_X5_count X.hg hq) rfl ⟨rfl, rfl⟩ ⟨by decide, by decide⟩ hl.1 rfl (Nat.le_of_ble_eq_true rfl) dL_isStep_448 ⟨Nat.zero_le _, Nat.zero_le _⟩) (fun H locs Y => ?_)
    refine lv_if_ne (tgt := 458) hx hb dL_isStep_451 (by decide) (fun c => ?_) (fun c => ?_)
    · exact nn_t (ite_t c hf)
    have hf := ite_f (not_not_intro c) hf
    refine lv_iconst (v := 1) hx hb dL_isStep_454 (by decide) ?_
    refine lv_goto (tgt := 459) hx hb dL_isStep_455 (by decide) ?_
    exact tw_zret X Y hr hlk rfl hf dL_isStep_459
  have hJ403 : ∀ (v8 : Int32) (w0 : Int32) (I : HJ) (H : Heap) (locs : List Loc) (ls : Array Slot), f_L_isStep_J403 v8 w0 I = some r → twD g I s H locs → lv_has ls 12 [(0, .ref (gR g 0)), (1, .ref (gR (gH g) 0)), (8, .int v8)] → W p l e rm_L_isStep s m args below meth c H locs 0 0 (MQ below (twQ g r.1 r.2) args s 0 0 (gB g)) (F0 m 403 ls [.int w0]) := by
    intro v8 w0 I H locs ls hf Y hl
    unfold f_L_isStep_J403 at hf
    refine lv_istore (lv' := [(9, _), (0, _), (1, _), (8, _)]) hx hb dL_isStep_403 hl (by decide) rfl (fun ls hl => ?_)
    refine lv_aload_n hx hb dL_isStep_405 rfl (lv_at hl 1 rfl) ?_
    refine lv_iload hx hb dL_isStep_406 (lv_at hl 3 rfl) ?_
    refine lv_iload hx hb dL_isStep_408 (lv_at hl 0 rfl) ?_
    obtain ⟨q53, hq, hf⟩ := bnd_t hf
    refine tw_cO X Y (tw_rO (rest := []) X Y k_L_37 (c_X5_set X.hg hq) rfl ⟨rfl, rfl⟩ ⟨by decide, by decide⟩ hl.1 rfl (Nat.le_of_ble_eq_true rfl) dL_isStep_410 ⟨Nat.zero_le _, Nat.zero_le _⟩) (fun H locs Y => ?_)
    refine lv_sipush (v := 900) hx hb dL_isStep_413 (by decide) ?_
    refine lv_icmp_lt (tgt := 458) hx hb dL_isStep_416 (by decide) (fun c => ?_) (fun c => ?_)
    · exact nn_t (ite_t c hf)
    have hf := ite_f c hf
    refine lv_aload_n hx hb dL_isStep_419 rfl (lv_at hl 2 rfl) ?_
    refine lv_iload hx hb dL_isStep_420 (lv_at hl 3 rfl) ?_
    refine lv_iload hx hb dL_isStep_422 (lv_at hl 3 rfl) ?_
    refine lv_if_ne (tgt := 434) hx hb dL_isStep_424 (by decide) (fun c => ?_) (fun c => ?_)
    · have hf := ite_f c hf
      refine lv_iload hx hb dL_isStep_434 (lv_at hl 0 rfl) ?_
      refine lv_ineg hx hb dL_isStep_436 ?_
      exact hJ437  _ _ _ _ _ _ hf Y (lv_sub hl [1] rfl)
    · have hf := ite_t c hf
      refine lv_iconst (v := 1) hx hb dL_isStep_427 (by decide) ?_
      refine lv_iload hx hb dL_isStep_428 (lv_at hl 0 rfl) ?_
      refine lv_isub hx hb dL_isStep_430 ?_
      refine lv_goto (tgt := 437) hx hb dL_isStep_431 (by decide) ?_
      exact hJ437  _ _ _ _ _ _ hf Y (lv_sub hl [1] rfl)
  have hJ99 : ∀ (v5 : Int32) (v6 : Int32) (v8 : Int32) (w0 : Int32) (w1 : Int32) (w2 : Int32) (I : HJ) (H : Heap) (locs : List Loc) (ls : Array Slot), f_L_isStep_J99 v5 v6 v8 w0 w1 w2 I = some r → twD g I s H locs → lv_has ls 12 [(0, .ref (gR g 0)), (1, .ref (gR (gH g) 0)), (5, .int v5), (6, .int v6), (8, .int v8)] → W p l e rm_L_isStep s m args below meth c H locs 0 0 (MQ below (twQ g r.1 r.2) args s 0 0 (gB g)) (F0 m 99 ls [.int w0, .int w1, .int w2]) := by
    intro v5 v6 v8 w0 w1 w2 I H locs ls hf Y hl
    unfold f_L_isStep_J99 at hf
    obtain ⟨q54, hq, hf⟩ := bnd_t hf
    refine tw_cS Y (tw_rS (rest := [_]) X Y k_L_15 (c_L_up X.hg X.hh hq) rfl ⟨rfl, rfl⟩ ⟨by decide, by decide⟩ hl.1 rfl (Nat.le_of_ble_eq_true rfl) dL_isStep_99 ⟨Nat.zero_le _, Nat.zero_le _⟩) (fun H locs Y => ?_)
    refine lv_iadd hx hb dL_isStep_102 ?_
    refine lv_istore (lv' := [(9, _), (0, _), (1, _), (5, _), (6, _), (8, _)]) hx hb dL_isStep_103 hl (by decide) rfl (fun ls hl => ?_)
    refine lv_aload_n hx hb dL_isStep_105 rfl (lv_at hl 1 rfl) ?_
    refine lv_iload hx hb dL_isStep_106 (lv_at hl 5 rfl) ?_
    refine lv_iload hx hb dL_isStep_108 (lv_at hl 0 rfl) ?_
    obtain ⟨q56, hq, hf⟩ := bnd_t hf
    refine tw_cO X Y (tw_rO (rest := []) X Y k_L_21 (c_X5_feed X.hg hq) rfl ⟨rfl, rfl⟩ ⟨by decide, by decide⟩ hl.1 rfl (Nat.le_of_ble_eq_true rfl) dL_isStep_110 ⟨Nat.zero_le _, Nat.zero_le _⟩) (fun H locs Y => ?_)
    refine lv_istore (lv' := [(10, _), (9, _), (0, _), (1, _), (5, _), (6, _), (8, _)]) hx hb dL_isStep_113 hl (by decide) rfl (fun ls hl => ?_)
    refine lv_iload hx hb dL_isStep_115 (lv_at hl 0 rfl) ?_
    refine lv_aload_n hx hb dL_isStep_117 rfl (lv_at hl 3 rfl) ?_
    refine lv_iload hx hb dL_isStep_118 (lv_at hl 6 rfl) ?_
    refine lv_ineg hx hb dL_isStep_120 ?_
    refine lv_iload hx hb dL_isStep_121 (lv_at hl 1 rfl) ?_
    obtain ⟨q57, hq, hf⟩ := bnd_t hf
    refine tw_cP X Y (tw_rP (rest := [_]) X Y k_L_21 (c_X5_feed X.hh hq) rfl ⟨rfl, rfl⟩ ⟨by decide, by decide⟩ hl.1 rfl (Nat.le_of_ble_eq_true rfl) dL_isStep_123 ⟨Nat.zero_le _, Nat.zero_le _⟩) (fun H locs Y => ?_)
    refine lv_icmp_ne (tgt := 206) hx hb dL_isStep_126 (by decide) (fun c => ?_) (fun c => ?_)
    · exact nn_t (ite_t c hf)
    have hf := ite_f (not_not_intro c) hf
    refine lv_iload hx hb dL_isStep_129 (lv_at hl 4 rfl) ?_
    refine lv_iload hx hb dL_isStep_131 (lv_at hl 1 rfl) ?_
    refine lv_iadd hx hb dL_isStep_133 ?_
    refine lv_sipush (v := 400) hx hb dL_isStep_134 (by decide) ?_
    refine lv_icmp_le (tgt := 150) hx hb dL_isStep_137 (by decide) (fun c => ?_) (fun c => ?_)
    · have hf := ite_t c hf
      refine lv_iload hx hb dL_isStep_150 (lv_at hl 0 rfl) ?_
      refine lv_if_lt (tgt := 206) hx hb dL_isStep_152 (by decide) (fun c => ?_) (fun c => ?_)
      · exact nn_t (ite_t c hf)
      have hf := ite_f c hf
      refine lv_aload_n hx hb dL_isStep_155 rfl (lv_at hl 2 rfl) ?_
      refine lv_iconst (v := 0) hx hb dL_isStep_156 (by decide) ?_
      obtain ⟨q58, hq, hf⟩ := bnd_t hf
      refine tw_cO X Y (tw_rO (rest := []) X Y k_L_9 (c_X5_count X.hg hq) rfl ⟨rfl, rfl⟩ ⟨by decide, by decide⟩ hl.1 rfl (Nat.le_of_ble_eq_true rfl) dL_isStep_157 ⟨Nat.zero_le _, Nat.zero_le _⟩) (fun H locs Y => ?_)
      refine lv_iload hx hb dL_isStep_160 (lv_at hl 4 rfl) ?_
      refine lv_iload hx hb dL_isStep_162 (lv_at hl 1 rfl) ?_
      refine lv_iadd hx hb dL_isStep_164 ?_
      refine lv_icmp_ne (tgt := 206) hx hb dL_isStep_165 (by decide) (fun c => ?_) (fun c => ?_)
      · exact nn_t (ite_t c hf)
      have hf := ite_f (not_not_intro c) hf
      refine lv_aload_n hx hb dL_isStep_168 rfl (lv_at hl 2 rfl) ?_
      refine lv_bipush (v := 7) hx hb dL_isStep_169 (by decide) ?_
      obtain ⟨q59, hq, hf⟩ := bnd_t hf
      refine tw_cO X Y (tw_rO (rest := []) X Y k_L_9 (c_X5_count X.hg hq) rfl ⟨rfl, rfl⟩ ⟨by decide, by decide⟩ hl.1 rfl (Nat.le_of_ble_eq_true rfl) dL_isStep_171 ⟨Nat.zero_le _, Nat.zero_le _⟩) (fun H locs Y => ?_)
      refine lv_iload hx hb dL_isStep_174 (lv_at hl 5 rfl) ?_
      refine lv_iload hx hb dL_isStep_176 (lv_at hl 0 rfl) ?_
      refine lv_iadd hx hb dL_isStep_178 ?_
      refine lv_icmp_ne (tgt := 206) hx hb dL_isStep_179 (by decide) (fun c => ?_) (fun c => ?_)
      · exact nn_t (ite_t c hf)
      have hf := ite_f (not_not_intro c) hf
      refine lv_aload_n hx hb dL_isStep_182 rfl (lv_at hl 2 rfl) ?_
      refine lv_iload hx hb dL_isStep_183 (lv_at hl 4 rfl) ?_
      refine lv_iload hx hb dL_isStep_185 (lv_at hl 1 rfl) ?_
      refine lv_iadd hx hb dL_isStep_187 ?_
      refine lv_iconst (v := 1) hx hb dL_isStep_188 (by decide) ?_
      refine lv_isub hx hb dL_isStep_189 ?_
      obtain ⟨q60, hq, hf⟩ := bnd_t hf
      refine tw_cO X Y (tw_rO (rest := []) X Y k_L_24 (c_X5_sample X.hg hq) rfl ⟨rfl, rfl⟩ ⟨by decide, by decide⟩ hl.1 rfl (Nat.le_of_ble_eq_true rfl) dL_isStep_190 ⟨Nat.zero_le _, Nat.zero_le _⟩) (fun H locs Y => ?_)
      refine lv_iload hx hb dL_isStep_193 (lv_at hl 6 rfl) ?_
      refine lv_sipush (v := 1000) hx hb dL_isStep_195 (by decide) ?_
      refine lv_iadd hx hb dL_isStep_198 ?_
      refine lv_icmp_ne (tgt := 206) hx hb dL_isStep_199 (by decide) (fun c => ?_) (fun c => ?_)
      · exact nn_t (ite_t c hf)
      have hf := ite_f (not_not_intro c) hf
      refine lv_iconst (v := 1) hx hb dL_isStep_202 (by decide) ?_
      refine lv_goto (tgt := 207) hx hb dL_isStep_203 (by decide) ?_
      exact tw_zret X Y hr hlk rfl hf dL_isStep_207
    · have hf := ite_f c hf
      refine lv_iload hx hb dL_isStep_140 (lv_at hl 0 rfl) ?_
      refine lv_bipush (v := -4) hx hb dL_isStep_142 (by decide) ?_
      refine lv_icmp_ne (tgt := 206) hx hb dL_isStep_144 (by decide) (fun c => ?_) (fun c => ?_)
      · exact nn_t (ite_t c hf)
      have hf := ite_f (not_not_intro c) hf
      refine lv_goto (tgt := 202) hx hb dL_isStep_147 (by decide) ?_
      refine lv_iconst (v := 1) hx hb dL_isStep_202 (by decide) ?_
      refine lv_goto (tgt := 207) hx hb dL_isStep_203 (by decide) ?_
      exact tw_zret X Y hr hlk rfl hf dL_isStep_207
  have hJ75 : ∀ (v3 : Int32) (v5 : Int32) (v6 : Int32) (w0 : Int32) (I : HJ) (H : Heap) (locs : List Loc) (ls : Array Slot), f_L_isStep_J75 v3 v5 v6 w0 I = some r → twD g I s H locs → lv_has ls 12 [(0, .ref (gR g 0)), (1, .ref (gR (gH g) 0)), (3, .int v3), (5, .int v5), (6, .int v6)] → W p l e rm_L_isStep s m args below meth c H locs 0 0 (MQ below (twQ g r.1 r.2) args s 0 0 (gB g)) (F0 m 75 ls [.int w0]) := by
    intro v3 v5 v6 w0 I H locs ls hf Y hl
    unfold f_L_isStep_J75 at hf
    refine lv_istore (lv' := [(8, _), (0, _), (1, _), (3, _), (5, _), (6, _)]) hx hb dL_isStep_75 hl (by decide) rfl (fun ls hl => ?_)
    refine lv_iconst (v := 1) hx hb dL_isStep_77 (by decide) ?_
    refine lv_iload_n hx hb dL_isStep_78 rfl (lv_at hl 3 rfl) ?_
    refine lv_bipush (v := 9) hx hb dL_isStep_79 (by decide) ?_
    refine lv_ishr hx hb dL_isStep_81 ?_
    refine lv_iload_n hx hb dL_isStep_82 rfl (lv_at hl 3 rfl) ?_
    refine lv_bipush (v := 8) hx hb dL_isStep_83 (by decide) ?_
    refine lv_ishr hx hb dL_isStep_85 ?_
    refine lv_iconst (v := 2) hx hb dL_isStep_86 (by decide) ?_
    obtain ⟨q61, hq, hf⟩ := bnd_t hf
    refine tw_cS Y (tw_rS (rest := [_, _]) X Y k_L_15 (c_L_up X.hg X.hh hq) rfl ⟨rfl, rfl⟩ ⟨by decide, by decide⟩ hl.1 rfl (Nat.le_of_ble_eq_true rfl) dL_isStep_87 ⟨Nat.zero_le _, Nat.zero_le _⟩) (fun H locs Y => ?_)
    refine lv_if_ne (tgt := 97) hx hb dL_isStep_90 (by decide) (fun c => ?_) (fun c => ?_)
    · have hf := ite_f c hf
      refine lv_bipush (v := 6) hx hb dL_isStep_97 (by decide) ?_
      exact hJ99  _ _ _ _ _ _ _ _ _ _ hf Y (lv_sub hl [1, 2, 4, 5, 0] rfl)
    · have hf := ite_t c hf
      refine lv_iconst (v := 1) hx hb dL_isStep_93 (by decide) ?_
      refine lv_goto (tgt := 99) hx hb dL_isStep_94 (by decide) ?_
      exact hJ99  _ _ _ _ _ _ _ _ _ _ hf Y (lv_sub hl [1, 2, 4, 5, 0] rfl)
  unfold f_L_isStep at hf
  refine lv_iload_n hx hb dL_isStep_0 rfl (lv_at hl 2 rfl) ?_
  refine lv_iconst (v := 4) hx hb dL_isStep_1 (by decide) ?_
  refine lv_ishr hx hb dL_isStep_2 ?_
  refine lv_istore_n (lv' := [(3, _), (0, _), (1, _), (2, _)]) hx hb dL_isStep_3 rfl hl (by decide) rfl (fun ls hl => ?_)
  refine lv_aload_n hx hb dL_isStep_4 rfl (lv_at hl 1 rfl) ?_
  refine lv_iconst (v := 1) hx hb dL_isStep_5 (by decide) ?_
  obtain ⟨q63, hq, hf⟩ := bnd_t hf
  refine tw_cO X Y (tw_rO (rest := []) X Y k_L_9 (c_X5_count X.hg hq) rfl ⟨rfl, rfl⟩ ⟨by decide, by decide⟩ hl.1 rfl (Nat.le_of_ble_eq_true rfl) dL_isStep_6 ⟨Nat.zero_le _, Nat.zero_le _⟩) (fun H locs Y => ?_)
  refine lv_istore (lv' := [(4, _), (3, _), (0, _), (1, _), (2, _)]) hx hb dL_isStep_9 hl (by decide) rfl (fun ls hl => ?_)
  refine lv_aload_n hx hb dL_isStep_11 rfl (lv_at hl 2 rfl) ?_
  refine lv_iconst (v := 0) hx hb dL_isStep_12 (by decide) ?_
  obtain ⟨q64, hq, hf⟩ := bnd_t hf
  refine tw_cO X Y (tw_rO (rest := []) X Y k_L_9 (c_X5_count X.hg hq) rfl ⟨rfl, rfl⟩ ⟨by decide, by decide⟩ hl.1 rfl (Nat.le_of_ble_eq_true rfl) dL_isStep_13 ⟨Nat.zero_le _, Nat.zero_le _⟩) (fun H locs Y => ?_)
  refine lv_istore (lv' := [(5, _), (4, _), (3, _), (0, _), (1, _), (2, _)]) hx hb dL_isStep_16 hl (by decide) rfl (fun ls hl => ?_)
  refine lv_aload_n hx hb dL_isStep_18 rfl (lv_at hl 3 rfl) ?_
  refine lv_bipush (v := 7) hx hb dL_isStep_19 (by decide) ?_
  obtain ⟨q65, hq, hf⟩ := bnd_t hf
  refine tw_cO X Y (tw_rO (rest := []) X Y k_L_9 (c_X5_count X.hg hq) rfl ⟨rfl, rfl⟩ ⟨by decide, by decide⟩ hl.1 rfl (Nat.le_of_ble_eq_true rfl) dL_isStep_21 ⟨Nat.zero_le _, Nat.zero_le _⟩) (fun H locs Y => ?_)
  refine lv_istore (lv' := [(6, _), (5, _), (4, _), (3, _), (0, _), (1, _), (2, _)]) hx hb dL_isStep_24 hl (by decide) rfl (fun ls hl => ?_)
  refine lv_iload_n hx hb dL_isStep_26 rfl (lv_at hl 6 rfl) ?_
  refine lv_bipush (v := 18) hx hb dL_isStep_27 (by decide) ?_
  obtain ⟨q66, hq, hf⟩ := bnd_t hf
  refine tw_cS Y (tw_rS (rest := []) X Y k_L_15 (c_L_up X.hg X.hh hq) rfl ⟨rfl, rfl⟩ ⟨by decide, by decide⟩ hl.1 rfl (Nat.le_of_ble_eq_true rfl) dL_isStep_29 ⟨Nat.zero_le _, Nat.zero_le _⟩) (fun H locs Y => ?_)
  refine lv_istore (lv' := [(7, _), (6, _), (5, _), (4, _), (3, _), (0, _), (1, _), (2, _)]) hx hb dL_isStep_32 hl (by decide) rfl (fun ls hl => ?_)
  refine lv_iload hx hb dL_isStep_34 (lv_at hl 0 rfl) ?_
  refine lv_bipush (v := 11) hx hb dL_isStep_36 (by decide) ?_
  refine lv_icmp_ge (tgt := 208) hx hb dL_isStep_38 (by decide) (fun c => ?_) (fun c => ?_)
  · have hf := ite_t c hf
    refine lv_iload hx hb dL_isStep_208 (lv_at hl 0 rfl) ?_
    refine lv_bipush (v := 12) hx hb dL_isStep_210 (by decide) ?_
    refine lv_icmp_ge (tgt := 270) hx hb dL_isStep_212 (by decide) (fun c => ?_) (fun c => ?_)
    · have hf := ite_t c hf
      refine lv_iload hx hb dL_isStep_270 (lv_at hl 0 rfl) ?_
      refine lv_bipush (v := 13) hx hb dL_isStep_272 (by decide) ?_
      refine lv_icmp_ge (tgt := 329) hx hb dL_isStep_274 (by decide) (fun c => ?_) (fun c => ?_)
      · have hf := ite_t c hf
        refine lv_iload hx hb dL_isStep_329 (lv_at hl 0 rfl) ?_
        refine lv_bipush (v := 14) hx hb dL_isStep_331 (by decide) ?_
        refine lv_icmp_ge (tgt := 363) hx hb dL_isStep_333 (by decide) (fun c => ?_) (fun c => ?_)
        · have hf := ite_t c hf
          refine lv_iload_n hx hb dL_isStep_363 rfl (lv_at hl 4 rfl) ?_
          refine lv_bipush (v := 8) hx hb dL_isStep_364 (by decide) ?_
          obtain ⟨q67, hq, hf⟩ := bnd_t hf
          refine tw_cS Y (tw_rS (rest := []) X Y k_L_15 (c_L_up X.hg X.hh hq) rfl ⟨rfl, rfl⟩ ⟨by decide, by decide⟩ hl.1 rfl (Nat.le_of_ble_eq_true rfl) dL_isStep_366 ⟨Nat.zero_le _, Nat.zero_le _⟩) (fun H locs Y => ?_)
          refine lv_istore (lv' := [(8, _), (7, _), (6, _), (5, _), (4, _), (3, _), (0, _), (1, _), (2, _)]) hx hb dL_isStep_369 hl (by decide) rfl (fun ls hl => ?_)
          refine lv_iload hx hb dL_isStep_371 (lv_at hl 0 rfl) ?_
          refine lv_iconst (v := 2) hx hb dL_isStep_373 (by decide) ?_
          refine lv_icmp_ge (tgt := 460) hx hb dL_isStep_374 (by decide) (fun c => ?_) (fun c => ?_)
          · have hf := ite_t c hf
            refine lv_iload hx hb dL_isStep_460 (lv_at hl 0 rfl) ?_
            refine lv_iconst (v := 2) hx hb dL_isStep_462 (by decide) ?_
            refine lv_icmp_ne (tgt := 470) hx hb dL_isStep_463 (by decide) (fun c => ?_) (fun c => ?_)
            · have hf := ite_f c hf
              refine lv_iload hx hb dL_isStep_470 (lv_at hl 0 rfl) ?_
              refine lv_iconst (v := 2) hx hb dL_isStep_472 (by decide) ?_
              refine lv_iadd hx hb dL_isStep_473 ?_
              exact hJ474  _ _ _ _ _ _ hf Y (lv_sub hl [6, 7, 5] rfl)
            · have hf := ite_t c hf
              refine lv_iconst (v := 2) hx hb dL_isStep_466 (by decide) ?_
              refine lv_goto (tgt := 474) hx hb dL_isStep_467 (by decide) ?_
              exact hJ474  _ _ _ _ _ _ hf Y (lv_sub hl [6, 7, 5] rfl)
          · have hf := ite_f c hf
            refine lv_iload hx hb dL_isStep_377 (lv_at hl 0 rfl) ?_
            refine lv_if_ne (tgt := 392) hx hb dL_isStep_379 (by decide) (fun c => ?_) (fun c => ?_)
            · have hf := ite_f c hf
              refine lv_iload_n hx hb dL_isStep_392 rfl (lv_at hl 5 rfl) ?_
              refine lv_iconst (v := 3) hx hb dL_isStep_393 (by decide) ?_
              refine lv_ishr hx hb dL_isStep_394 ?_
              refine lv_bipush (v := 31) hx hb dL_isStep_395 (by decide) ?_
              obtain ⟨q69, hq, hf⟩ := bnd_t hf
              refine tw_cS Y (tw_rS (rest := []) X Y k_L_15 (c_L_up X.hg X.hh hq) rfl ⟨rfl, rfl⟩ ⟨by decide, by decide⟩ hl.1 rfl (Nat.le_of_ble_eq_true rfl) dL_isStep_397 ⟨Nat.zero_le _, Nat.zero_le _⟩) (fun H locs Y => ?_)
              refine lv_bipush (v := 15) hx hb dL_isStep_400 (by decide) ?_
              refine lv_isub hx hb dL_isStep_402 ?_
              exact hJ403  _ _ _ _ _ _ hf Y (lv_sub hl [6, 7, 0] rfl)
            · have hf := ite_t c hf
              refine lv_iload_n hx hb dL_isStep_382 rfl (lv_at hl 5 rfl) ?_
              refine lv_iconst (v := 3) hx hb dL_isStep_383 (by decide) ?_
              refine lv_ishr hx hb dL_isStep_384 ?_
              refine lv_iconst (v := 2) hx hb dL_isStep_385 (by decide) ?_
              obtain ⟨q68, hq, hf⟩ := bnd_t hf
              refine tw_cS Y (tw_rS (rest := []) X Y k_L_15 (c_L_up X.hg X.hh hq) rfl ⟨rfl, rfl⟩ ⟨by decide, by decide⟩ hl.1 rfl (Nat.le_of_ble_eq_true rfl) dL_isStep_386 ⟨Nat.zero_le _, Nat.zero_le _⟩) (fun H locs Y => ?_)
              refine lv_goto (tgt := 403) hx hb dL_isStep_389 (by decide) ?_
              exact hJ403  _ _ _ _ _ _ hf Y (lv_sub hl [6, 7, 0] rfl)
        · have hf := ite_f c hf
          refine lv_aload_n hx hb dL_isStep_336 rfl (lv_at hl 5 rfl) ?_
          refine lv_bipush (v := 21) hx hb dL_isStep_337 (by decide) ?_
          obtain ⟨q70, hq, hf⟩ := bnd_t hf
          refine tw_cO X Y (tw_rO (rest := []) X Y k_L_9 (c_X5_count X.hg hq) rfl ⟨rfl, rfl⟩ ⟨by decide, by decide⟩ hl.1 rfl (Nat.le_of_ble_eq_true rfl) dL_isStep_339 ⟨Nat.zero_le _, Nat.zero_le _⟩) (fun H locs Y => ?_)
          refine lv_iconst (v := 3) hx hb dL_isStep_342 (by decide) ?_
          refine lv_icmp_lt (tgt := 357) hx hb dL_isStep_343 (by decide) (fun c => ?_) (fun c => ?_)
          · have hf := ite_t c hf
            refine lv_iconst (v := 1) hx hb dL_isStep_357 (by decide) ?_
            refine lv_goto (tgt := 362) hx hb dL_isStep_358 (by decide) ?_
            exact tw_zret X Y hr hlk rfl hf dL_isStep_362
          · have hf := ite_f c hf
            refine lv_aload_n hx hb dL_isStep_346 rfl (lv_at hl 5 rfl) ?_
            obtain ⟨q71, hq, hf⟩ := bnd_t hf
            refine tw_cO X Y (tw_rO (rest := []) X Y k_L_34 (c_X5_undo X.hg hq) rfl ⟨rfl, rfl⟩ ⟨by decide, by decide⟩ hl.1 rfl (Nat.le_of_ble_eq_true rfl) dL_isStep_347 ⟨Nat.zero_le _, Nat.zero_le _⟩) (fun H locs Y => ?_)
            refine lv_aload_n hx hb dL_isStep_350 rfl (lv_at hl 6 rfl) ?_
            obtain ⟨q72, hq, hf⟩ := bnd_t hf
            refine tw_cP X Y (tw_rP (rest := [_]) X Y k_L_34 (c_X5_undo X.hh hq) rfl ⟨rfl, rfl⟩ ⟨by decide, by decide⟩ hl.1 rfl (Nat.le_of_ble_eq_true rfl) dL_isStep_351 ⟨Nat.zero_le _, Nat.zero_le _⟩) (fun H locs Y => ?_)
            refine lv_icmp_ne (tgt := 361) hx hb dL_isStep_354 (by decide) (fun c => ?_) (fun c => ?_)
            · exact nn_t (ite_t c hf)
            have hf := ite_f (not_not_intro c) hf
            refine lv_iconst (v := 1) hx hb dL_isStep_357 (by decide) ?_
            refine lv_goto (tgt := 362) hx hb dL_isStep_358 (by decide) ?_
            exact tw_zret X Y hr hlk rfl hf dL_isStep_362
      · have hf := ite_f c hf
        refine lv_iload_n hx hb dL_isStep_277 rfl (lv_at hl 4 rfl) ?_
        refine lv_iconst (v := 4) hx hb dL_isStep_278 (by decide) ?_
        obtain ⟨q73, hq, hf⟩ := bnd_t hf
        refine tw_cS Y (tw_rS (rest := []) X Y k_L_15 (c_L_up X.hg X.hh hq) rfl ⟨rfl, rfl⟩ ⟨by decide, by decide⟩ hl.1 rfl (Nat.le_of_ble_eq_true rfl) dL_isStep_279 ⟨Nat.zero_le _, Nat.zero_le _⟩) (fun H locs Y => ?_)
        refine lv_if_gt (tgt := 323) hx hb dL_isStep_282 (by decide) (fun c => ?_) (fun c => ?_)
        · have hf := ite_t c hf
          refine lv_iconst (v := 1) hx hb dL_isStep_323 (by decide) ?_
          refine lv_goto (tgt := 328) hx hb dL_isStep_324 (by decide) ?_
          exact tw_zret X Y hr hlk rfl hf dL_isStep_328
        · have hf := ite_f c hf
          refine lv_aload_n hx hb dL_isStep_285 rfl (lv_at hl 5 rfl) ?_
          obtain ⟨q74, hq, hf⟩ := bnd_t hf
          refine tw_cO X Y (tw_rO (rest := []) X Y k_L_30 (c_X5_clear X.hg hq) rfl ⟨rfl, rfl⟩ ⟨by decide, by decide⟩ hl.1 rfl (Nat.le_of_ble_eq_true rfl) dL_isStep_286 ⟨Nat.zero_le _, Nat.zero_le _⟩) (fun H locs Y => ?_)
          refine lv_aload_n hx hb dL_isStep_289 rfl (lv_at hl 6 rfl) ?_
          obtain ⟨q75, hq, hf⟩ := bnd_t hf
          refine tw_cP X Y (tw_rP (rest := [_]) X Y k_L_30 (c_X5_clear X.hh hq) rfl ⟨rfl, rfl⟩ ⟨by decide, by decide⟩ hl.1 rfl (Nat.le_of_ble_eq_true rfl) dL_isStep_290 ⟨Nat.zero_le _, Nat.zero_le _⟩) (fun H locs Y => ?_)
          refine lv_icmp_ne (tgt := 327) hx hb dL_isStep_293 (by decide) (fun c => ?_) (fun c => ?_)
          · exact nn_t (ite_t c hf)
          have hf := ite_f (not_not_intro c) hf
          refine lv_aload_n hx hb dL_isStep_296 rfl (lv_at hl 5 rfl) ?_
          refine lv_iconst (v := 0) hx hb dL_isStep_297 (by decide) ?_
          obtain ⟨q76, hq, hf⟩ := bnd_t hf
          refine tw_cO X Y (tw_rO (rest := []) X Y k_L_9 (c_X5_count X.hg hq) rfl ⟨rfl, rfl⟩ ⟨by decide, by decide⟩ hl.1 rfl (Nat.le_of_ble_eq_true rfl) dL_isStep_298 ⟨Nat.zero_le _, Nat.zero_le _⟩) (fun H locs Y => ?_)
          refine lv_if_ne (tgt := 327) hx hb dL_isStep_301 (by decide) (fun c => ?_) (fun c => ?_)
          · exact nn_t (ite_t c hf)
          have hf := ite_f (not_not_intro c) hf
          refine lv_aload_n hx hb dL_isStep_304 rfl (lv_at hl 5 rfl) ?_
          refine lv_iconst (v := 1) hx hb dL_isStep_305 (by decide) ?_
          obtain ⟨q77, hq, hf⟩ := bnd_t hf
          refine tw_cO X Y (tw_rO (rest := []) X Y k_L_9 (c_X5_count X.hg hq) rfl ⟨rfl, rfl⟩ ⟨by decide, by decide⟩ hl.1 rfl (Nat.le_of_ble_eq_true rfl) dL_isStep_306 ⟨Nat.zero_le _, Nat.zero_le _⟩) (fun H locs Y => ?_)
          refine lv_if_ne (tgt := 327) hx hb dL_isStep_309 (by decide) (fun c => ?_) (fun c => ?_)
          · exact nn_t (ite_t c hf)
          have hf := ite_f (not_not_intro c) hf
          refine lv_aload_n hx hb dL_isStep_312 rfl (lv_at hl 5 rfl) ?_
          refine lv_bipush (v := 7) hx hb dL_isStep_313 (by decide) ?_
          obtain ⟨q78, hq, hf⟩ := bnd_t hf
          refine tw_cO X Y (tw_rO (rest := []) X Y k_L_9 (c_X5_count X.hg hq) rfl ⟨rfl, rfl⟩ ⟨by decide, by decide⟩ hl.1 rfl (Nat.le_of_ble_eq_true rfl) dL_isStep_315 ⟨Nat.zero_le _, Nat.zero_le _⟩) (fun H locs Y => ?_)
          refine lv_iload hx hb dL_isStep_318 (lv_at hl 1 rfl) ?_
          refine lv_icmp_ne (tgt := 327) hx hb dL_isStep_320 (by decide) (fun c => ?_) (fun c => ?_)
          · exact nn_t (ite_t c hf)
          have hf := ite_f (not_not_intro c) hf
          refine lv_iconst (v := 1) hx hb dL_isStep_323 (by decide) ?_
          refine lv_goto (tgt := 328) hx hb dL_isStep_324 (by decide) ?_
          exact tw_zret X Y hr hlk rfl hf dL_isStep_328
    · have hf := ite_f c hf
      refine lv_iload_n hx hb dL_isStep_215 rfl (lv_at hl 4 rfl) ?_
      refine lv_iload hx hb dL_isStep_216 (lv_at hl 3 rfl) ?_
      refine lv_iconst (v := 1) hx hb dL_isStep_218 (by decide) ?_
      refine lv_iadd hx hb dL_isStep_219 ?_
      obtain ⟨q79, hq, hf⟩ := bnd_t hf
      refine tw_cS Y (tw_rS (rest := []) X Y k_L_15 (c_L_up X.hg X.hh hq) rfl ⟨rfl, rfl⟩ ⟨by decide, by decide⟩ hl.1 rfl (Nat.le_of_ble_eq_true rfl) dL_isStep_220 ⟨Nat.zero_le _, Nat.zero_le _⟩) (fun H locs Y => ?_)
      refine lv_istore (lv' := [(8, _), (7, _), (6, _), (5, _), (4, _), (3, _), (0, _), (1, _), (2, _)]) hx hb dL_isStep_223 hl (by decide) rfl (fun ls hl => ?_)
      refine lv_aload_n hx hb dL_isStep_225 rfl (lv_at hl 6 rfl) ?_
      refine lv_iload hx hb dL_isStep_226 (lv_at hl 0 rfl) ?_
      obtain ⟨q80, hq, hf⟩ := bnd_t hf
      refine tw_cO X Y (tw_rO (rest := []) X Y k_L_27 (c_X5_drop X.hg hq) rfl ⟨rfl, rfl⟩ ⟨by decide, by decide⟩ hl.1 rfl (Nat.le_of_ble_eq_true rfl) dL_isStep_228 ⟨Nat.zero_le _, Nat.zero_le _⟩) (fun H locs Y => ?_)
      refine lv_istore (lv' := [(9, _), (8, _), (7, _), (6, _), (5, _), (4, _), (3, _), (0, _), (1, _), (2, _)]) hx hb dL_isStep_231 hl (by decide) rfl (fun ls hl => ?_)
      refine lv_iload hx hb dL_isStep_233 (lv_at hl 0 rfl) ?_
      refine lv_aload_n hx hb dL_isStep_235 rfl (lv_at hl 8 rfl) ?_
      refine lv_iload hx hb dL_isStep_236 (lv_at hl 1 rfl) ?_
      obtain ⟨q81, hq, hf⟩ := bnd_t hf
      refine tw_cP X Y (tw_rP (rest := [_]) X Y k_L_27 (c_X5_drop X.hh hq) rfl ⟨rfl, rfl⟩ ⟨by decide, by decide⟩ hl.1 rfl (Nat.le_of_ble_eq_true rfl) dL_isStep_238 ⟨Nat.zero_le _, Nat.zero_le _⟩) (fun H locs Y => ?_)
      refine lv_icmp_ne (tgt := 268) hx hb dL_isStep_241 (by decide) (fun c => ?_) (fun c => ?_)
      · exact nn_t (ite_t c hf)
      have hf := ite_f (not_not_intro c) hf
      refine lv_iload hx hb dL_isStep_244 (lv_at hl 0 rfl) ?_
      refine lv_iload hx hb dL_isStep_246 (lv_at hl 1 rfl) ?_
      refine lv_iload hx hb dL_isStep_248 (lv_at hl 5 rfl) ?_
      refine lv_icmp_ne (tgt := 257) hx hb dL_isStep_250 (by decide) (fun c => ?_) (fun c => ?_)
      · have hf := ite_f c hf
        refine lv_iload hx hb dL_isStep_257 (lv_at hl 5 rfl) ?_
        refine lv_iconst (v := 1) hx hb dL_isStep_259 (by decide) ?_
        refine lv_isub hx hb dL_isStep_260 ?_
        refine lv_icmp_ne (tgt := 268) hx hb dL_isStep_261 (by decide) (fun c => ?_) (fun c => ?_)
        · exact nn_t (ite_t c hf)
        have hf := ite_f (not_not_intro c) hf
        refine lv_iconst (v := 1) hx hb dL_isStep_264 (by decide) ?_
        refine lv_goto (tgt := 269) hx hb dL_isStep_265 (by decide) ?_
        exact tw_zret X Y hr hlk rfl hf dL_isStep_269
      · have hf := ite_t c hf
        refine lv_iconst (v := -1) hx hb dL_isStep_253 (by decide) ?_
        refine lv_goto (tgt := 261) hx hb dL_isStep_254 (by decide) ?_
        refine lv_icmp_ne (tgt := 268) hx hb dL_isStep_261 (by decide) (fun c => ?_) (fun c => ?_)
        · exact nn_t (ite_t c hf)
        have hf := ite_f (not_not_intro c) hf
        refine lv_iconst (v := 1) hx hb dL_isStep_264 (by decide) ?_
        refine lv_goto (tgt := 269) hx hb dL_isStep_265 (by decide) ?_
        exact tw_zret X Y hr hlk rfl hf dL_isStep_269
  · have hf := ite_f c hf
    refine lv_iload_n hx hb dL_isStep_41 rfl (lv_at hl 4 rfl) ?_
    refine lv_iconst (v := 3) hx hb dL_isStep_42 (by decide) ?_
    obtain ⟨q82, hq, hf⟩ := bnd_t hf
    refine tw_cS Y (tw_rS (rest := []) X Y k_L_15 (c_L_up X.hg X.hh hq) rfl ⟨rfl, rfl⟩ ⟨by decide, by decide⟩ hl.1 rfl (Nat.le_of_ble_eq_true rfl) dL_isStep_43 ⟨Nat.zero_le _, Nat.zero_le _⟩) (fun H locs Y => ?_)
    refine lv_if_ne (tgt := 64) hx hb dL_isStep_46 (by decide) (fun c => ?_) (fun c => ?_)
    · have hf := ite_f c hf
      refine lv_iload_n hx hb dL_isStep_64 rfl (lv_at hl 4 rfl) ?_
      refine lv_iconst (v := 2) hx hb dL_isStep_65 (by decide) ?_
      refine lv_ishr hx hb dL_isStep_66 ?_
      refine lv_bipush (v := 61) hx hb dL_isStep_67 (by decide) ?_
      obtain ⟨q84, hq, hf⟩ := bnd_t hf
      refine tw_cS Y (tw_rS (rest := []) X Y k_L_15 (c_L_up X.hg X.hh hq) rfl ⟨rfl, rfl⟩ ⟨by decide, by decide⟩ hl.1 rfl (Nat.le_of_ble_eq_true rfl) dL_isStep_69 ⟨Nat.zero_le _, Nat.zero_le _⟩) (fun H locs Y => ?_)
      refine lv_bipush (v := 30) hx hb dL_isStep_72 (by decide) ?_
      refine lv_isub hx hb dL_isStep_74 ?_
      exact hJ75  _ _ _ _ _ _ _ _ hf Y (lv_sub hl [5, 6, 4, 2, 1] rfl)
    · have hf := ite_t c hf
      refine lv_iload_n hx hb dL_isStep_49 rfl (lv_at hl 4 rfl) ?_
      refine lv_iconst (v := 2) hx hb dL_isStep_50 (by decide) ?_
      refine lv_ishr hx hb dL_isStep_51 ?_
      refine lv_sipush (v := 201) hx hb dL_isStep_52 (by decide) ?_
      obtain ⟨q83, hq, hf⟩ := bnd_t hf
      refine tw_cS Y (tw_rS (rest := []) X Y k_L_15 (c_L_up X.hg X.hh hq) rfl ⟨rfl, rfl⟩ ⟨by decide, by decide⟩ hl.1 rfl (Nat.le_of_ble_eq_true rfl) dL_isStep_55 ⟨Nat.zero_le _, Nat.zero_le _⟩) (fun H locs Y => ?_)
      refine lv_bipush (v := 100) hx hb dL_isStep_58 (by decide) ?_
      refine lv_isub hx hb dL_isStep_60 ?_
      refine lv_goto (tgt := 75) hx hb dL_isStep_61 (by decide) ?_
      exact hJ75  _ _ _ _ _ _ _ _ hf Y (lv_sub hl [5, 6, 4, 2, 1] rfl)
