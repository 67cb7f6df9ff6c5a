def f_L_law_L50_b (L : Nat) (xs : Nat → Int32) (k : Int32 → Int32 → HJ → Option (Int32 × HJ)) (v3 : Int32) (v4 : Int32) (I : HJ) : Option (Int32 × HJ) :=
  if (60 : Int32) ≤ v4 then
    if v3 = (0 : Int32) then none else
    (f_L_isWell I).bind fun q10 =>
    if q10.1 = (0 : Int32) then none else
    (f_L_cell L xs (60 : Int32)).bind fun q11 =>
    (f_L_up q11 (61 : Int32) q10.2).bind fun q12 =>
    (f_L_areAlike (q12.1 - (30 : Int32)) q12.2).bind fun q13 =>
    if q13.1 = (0 : Int32) then none else
    some (1, q13.2)
  else
    if v3 = (0 : Int32) then none else
    (f_L_cell L xs v4).bind fun q14 =>
    (f_L_isStep q14 I).bind fun q15 =>
    if q15.1 = (0 : Int32) then none else
    if (0 : Int32) < (v4 - v4 / (4 : Int32) * (4 : Int32)) then
      k (1 : Int32) (v4 + (1 : Int32)) q15.2
    else
      (f_L_isWell q15.2).bind fun q16 =>
      if q16.1 = (0 : Int32) then none else
      k (1 : Int32) (v4 + (1 : Int32)) q16.2
def f_L_law_L50 (L : Nat) (xs : Nat → Int32) : Nat → Int32 → Int32 → HJ → Option (Int32 × HJ)
  | 0, _, _, _ => none
  | n + 1, v3, v4, I => f_L_law_L50_b L xs (f_L_law_L50 L xs n) v3 v4 I
def f_L_law (L : Nat) (xs : Nat → Int32) (I : HJ) : Option (Int32 × HJ) :=
  (f_X5_set (0 : Int32) (1 : Int32) I.2).bind fun q17 =>
  if ¬ (q17.1 = (1000 : Int32)) then none else
  (f_X5_set (9 : Int32) (0 : Int32) I.1).bind fun q18 =>
  if ¬ (q18.1 = (1000 : Int32)) then none else
  f_L_law_L50 L xs 4000 (1 : Int32) (0 : Int32) (q18.2, q17.2)
set_option maxHeartbeats 8000000 in
set_option maxRecDepth 100000 in
theorem c_law {p : Program} {l : Launch} {e : Env} {s : State} {m : MethodId} {below : List Frame} {meth : Method} {c : Code} {b L : Nat} {xs : Nat → Int32} {g : GX} {r : Int32 × HJ} {I : HJ} (X : twC g p s m #[Value.ref b] c code 5 RL) (hr : meth.sig.returnType = ret) (hlk : meth.locks = false) (hX : va_X b L xs s s.heap) (hbs : b < s.heap.size) (hgS : gS g = s.heap.size) (hf : f_L_law L xs I = some r) {H : Heap} {locs : List Loc} {ls : Array Slot} (Y : twD g I s H locs) (hl : lv_has ls 5 [(2, .ref (gR (gH g) 0)), (1, .ref (gR g 0)), (0, .ref b)]) : W p l e room_1 s m #[Value.ref b] below meth c H locs 600000 7302250 (lw_Z below #[Value.ref b] s) (F0 m 16 ls []) := by
  have hx := X.hx
  have hb := X.hb
  have hL50 : ∀ (n : Nat) (v3 : Int32) (v4 : Int32) (I : HJ) (H : Heap) (locs : List Loc) (ls : Array Slot), f_L_law_L50 L xs n v3 v4 I = some r → twD g I s H locs → lv_has ls 5 [(0, .ref b), (1, .ref (gR g 0)), (2, .ref (gR (gH g) 0)), (3, .int v3), (4, .int v4)] → W p l e room_1 s m #[Value.ref b] below meth c H locs 600000 7302250 (lw_Z below #[Value.ref b] s) (F0 m 50 ls []) := by
    intro n
    induction n with
    | zero => intro v3 v4 I H locs ls hf Y hl; exact nn_t hf
    | succ n ih =>
      intro v3 v4 I H locs ls hf Y hl
      have hf : f_L_law_L50_b L xs (f_L_law_L50 L xs n) v3 v4 I = some r := hf
      unfold f_L_law_L50_b at hf
      refine lv_iload hx hb dL_law_50 (lv_at hl 4 rfl) ?_
      refine lv_bipush (v := 60) hx hb dL_law_52 (by decide) ?_
      refine lv_icmp_ge (tgt := 101) hx hb dL_law_54 (by decide) (fun c => ?_) (fun c => ?_)
      · have hf := ite_t c hf
        refine lv_iload_n hx hb dL_law_101 rfl (lv_at hl 3 rfl) ?_
        refine lv_if_eq (tgt := 138) hx hb dL_law_102 (by decide) (fun c => ?_) (fun c => ?_)
        · exact nn_t (ite_t c hf)
        have hf := ite_f c hf
        refine lv_aload_n hx hb dL_law_105 rfl (lv_at hl 1 rfl) ?_
        obtain ⟨q10, hq, hf⟩ := bnd_t hf
        refine tw_cS Y (tw_rS (rest := []) X Y k_L_67 (c_L_isWell X.hg X.hh hq) rfl ⟨rfl, rfl⟩ ⟨by decide, by decide⟩ hl.1 rfl (Nat.le_of_ble_eq_true rfl) dL_law_106 ⟨Nat.le_refl _, Nat.le_refl _⟩) (fun H locs Y => ?_)
        refine lv_if_eq (tgt := 138) hx hb dL_law_109 (by decide) (fun c => ?_) (fun c => ?_)
        · exact nn_t (ite_t c hf)
        have hf := ite_f c hf
        refine lv_aload_n hx hb dL_law_112 rfl (lv_at hl 1 rfl) ?_
        refine lv_aload_n hx hb dL_law_113 rfl (lv_at hl 2 rfl) ?_
        refine lv_aload_n hx hb dL_law_114 rfl (lv_at hl 0 rfl) ?_
        refine lv_bipush (v := 60) hx hb dL_law_115 (by decide) ?_
        obtain ⟨q11, hq, hf⟩ := bnd_t hf
        refine tw_cC Y (tw_rC (rest := [_, _]) X Y k_L_59 (c_L_cell X.hg X.hh hq) hX hbs hgS rfl ⟨rfl, rfl⟩ ⟨by decide, by decide⟩ hl.1 rfl (Nat.le_of_ble_eq_true rfl) dL_law_117 ⟨Nat.le_refl _, Nat.le_refl _⟩) (fun H locs Y => ?_)
        refine lv_bipush (v := 61) hx hb dL_law_120 (by decide) ?_
        obtain ⟨q12, hq, hf⟩ := bnd_t hf
        refine tw_cS Y (tw_rS (rest := [_, _]) X Y k_L_15 (c_L_up X.hg X.hh hq) rfl ⟨rfl, rfl⟩ ⟨by decide, by decide⟩ hl.1 rfl (Nat.le_of_ble_eq_true rfl) dL_law_122 ⟨Nat.le_refl _, Nat.le_refl _⟩) (fun H locs Y => ?_)
        refine lv_bipush (v := 30) hx hb dL_law_125 (by decide) ?_
        refine lv_isub hx hb dL_law_127 ?_
        obtain ⟨q13, hq, hf⟩ := bnd_t hf
        refine tw_cS Y (tw_rS (rest := []) X Y k_L_71 (c_L_areAlike X.hg X.hh hq) rfl ⟨rfl, rfl⟩ ⟨by decide, by decide⟩ hl.1 rfl (Nat.le_of_ble_eq_true rfl) dL_law_128 ⟨Nat.le_refl _, Nat.le_refl _⟩) (fun H locs Y => ?_)
        refine lv_if_eq (tgt := 138) hx hb dL_law_131 (by decide) (fun c => ?_) (fun c => ?_)
        · exact nn_t (ite_t c hf)
        have hf := ite_f c hf
        refine lv_iconst (v := 1) hx hb dL_law_134 (by decide) ?_
        refine lv_goto (tgt := 139) hx hb dL_law_135 (by decide) ?_
        exact tw_end hx hb hr hlk hgS Y dL_law_139
      · have hf := ite_f c hf
        refine lv_iload_n hx hb dL_law_57 rfl (lv_at hl 3 rfl) ?_
        refine lv_if_eq (tgt := 101) hx hb dL_law_58 (by decide) (fun c => ?_) (fun c => ?_)
        · exact nn_t (ite_t c hf)
        have hf := ite_f c hf
        refine lv_aload_n hx hb dL_law_61 rfl (lv_at hl 1 rfl) ?_
        refine lv_aload_n hx hb dL_law_62 rfl (lv_at hl 2 rfl) ?_
        refine lv_aload_n hx hb dL_law_63 rfl (lv_at hl 0 rfl) ?_
        refine lv_iload hx hb dL_law_64 (lv_at hl 4 rfl) ?_
        obtain ⟨q14, hq, hf⟩ := bnd_t hf
        refine tw_cC Y (tw_rC (rest := [_, _]) X Y k_L_59 (c_L_cell X.hg X.hh hq) hX hbs hgS rfl ⟨rfl, rfl⟩ ⟨by decide, by decide⟩ hl.1 rfl (Nat.le_of_ble_eq_true rfl) dL_law_66 ⟨Nat.le_refl _, Nat.le_refl _⟩) (fun H locs Y => ?_)
        obtain ⟨q15, hq, hf⟩ := bnd_t hf
        refine tw_cS Y (tw_rS (rest := []) X Y k_L_63 (c_L_isStep X.hg X.hh hq) rfl ⟨rfl, rfl⟩ ⟨by decide, by decide⟩ hl.1 rfl (Nat.le_of_ble_eq_true rfl) dL_law_69 ⟨Nat.le_refl _, Nat.le_refl _⟩) (fun H locs Y => ?_)
        refine lv_if_eq (tgt := 93) hx hb dL_law_72 (by decide) (fun c => ?_) (fun c => ?_)
        · exact nn_t (ite_t c hf)
        have hf := ite_f c hf
        refine lv_iload hx hb dL_law_75 (lv_at hl 4 rfl) ?_
        refine lv_iconst (v := 4) hx hb dL_law_77 (by decide) ?_
        refine lv_irem hx hb dL_law_78 (by decide) ?_
        refine lv_if_gt (tgt := 89) hx hb dL_law_79 (by decide) (fun c => ?_) (fun c => ?_)
        · have hf := ite_t c hf
          refine lv_iconst (v := 1) hx hb dL_law_89 (by decide) ?_
          refine lv_goto (tgt := 94) hx hb dL_law_90 (by decide) ?_
          refine lv_istore_n (lv' := [(3, _), (0, _), (1, _), (2, _), (4, _)]) hx hb dL_law_94 rfl hl (by decide) rfl (fun ls hl => ?_)
          refine lv_iinc (v := _ + (1 : Int32)) (lv' := [(4, _), (3, _), (0, _), (1, _), (2, _)]) hx hb dL_law_95 hl (k := 4) rfl rfl (by decide) rfl (fun ls hl => ?_)
          refine lv_goto (tgt := 50) hx hb dL_law_98 (by decide) ?_
          exact ih _ _ _ _ _ _ hf Y (lv_sub hl [2, 3, 4, 1, 0] rfl)
        · have hf := ite_f c hf
          refine lv_aload_n hx hb dL_law_82 rfl (lv_at hl 1 rfl) ?_
          obtain ⟨q16, hq, hf⟩ := bnd_t hf
          refine tw_cS Y (tw_rS (rest := []) X Y k_L_67 (c_L_isWell X.hg X.hh hq) rfl ⟨rfl, rfl⟩ ⟨by decide, by decide⟩ hl.1 rfl (Nat.le_of_ble_eq_true rfl) dL_law_83 ⟨Nat.le_refl _, Nat.le_refl _⟩) (fun H locs Y => ?_)
          refine lv_if_eq (tgt := 93) hx hb dL_law_86 (by decide) (fun c => ?_) (fun c => ?_)
          · exact nn_t (ite_t c hf)
          have hf := ite_f c hf
          refine lv_iconst (v := 1) hx hb dL_law_89 (by decide) ?_
          refine lv_goto (tgt := 94) hx hb dL_law_90 (by decide) ?_
          refine lv_istore_n (lv' := [(3, _), (0, _), (1, _), (2, _), (4, _)]) hx hb dL_law_94 rfl hl (by decide) rfl (fun ls hl => ?_)
          refine lv_iinc (v := _ + (1 : Int32)) (lv' := [(4, _), (3, _), (0, _), (1, _), (2, _)]) hx hb dL_law_95 hl (k := 4) rfl rfl (by decide) rfl (fun ls hl => ?_)
          refine lv_goto (tgt := 50) hx hb dL_law_98 (by decide) ?_
          exact ih _ _ _ _ _ _ hf Y (lv_sub hl [2, 3, 4, 1, 0] rfl)
  unfold f_L_law at hf
  refine lv_aload_n hx hb dL_law_16 rfl (lv_at hl 0 rfl) ?_
  refine lv_iconst (v := 0) hx hb dL_law_17 (by decide) ?_
  refine lv_iconst (v := 1) hx hb dL_law_18 (by decide) ?_
  obtain ⟨q17, hq, hf⟩ := bnd_t hf
  refine tw_cP X Y (tw_rP (rest := []) X Y k_L_37 (c_X5_set X.hh hq) rfl ⟨rfl, rfl⟩ ⟨by decide, by decide⟩ hl.1 rfl (Nat.le_of_ble_eq_true rfl) dL_law_19 ⟨Nat.le_refl _, Nat.le_refl _⟩) (fun H locs Y => ?_)
  refine lv_sipush (v := 1000) hx hb dL_law_22 (by decide) ?_
  refine lv_icmp_ne (tgt := 45) hx hb dL_law_25 (by decide) (fun c => ?_) (fun c => ?_)
  · exact nn_t (ite_t c hf)
  have hf := ite_f (not_not_intro c) hf
  refine lv_aload_n hx hb dL_law_28 rfl (lv_at hl 1 rfl) ?_
  refine lv_bipush (v := 9) hx hb dL_law_29 (by decide) ?_
  refine lv_iconst (v := 0) hx hb dL_law_31 (by decide) ?_
  obtain ⟨q18, hq, hf⟩ := bnd_t hf
  refine tw_cO X Y (tw_rO (rest := []) X Y k_L_37 (c_X5_set X.hg hq) rfl ⟨rfl, rfl⟩ ⟨by decide, by decide⟩ hl.1 rfl (Nat.le_of_ble_eq_true rfl) dL_law_32 ⟨Nat.le_refl _, Nat.le_refl _⟩) (fun H locs Y => ?_)
  refine lv_sipush (v := 1000) hx hb dL_law_35 (by decide) ?_
  refine lv_icmp_ne (tgt := 45) hx hb dL_law_38 (by decide) (fun c => ?_) (fun c => ?_)
  · exact nn_t (ite_t c hf)
  have hf := ite_f (not_not_intro c) hf
  refine lv_iconst (v := 1) hx hb dL_law_41 (by decide) ?_
  refine lv_goto (tgt := 46) hx hb dL_law_42 (by decide) ?_
  refine lv_istore_n (lv' := [(3, _), (2, _), (1, _), (0, _)]) hx hb dL_law_46 rfl hl (by decide) rfl (fun ls hl => ?_)
  refine lv_iconst (v := 0) hx hb dL_law_47 (by decide) ?_
  refine lv_istore (lv' := [(4, _), (3, _), (2, _), (1, _), (0, _)]) hx hb dL_law_48 hl (by decide) rfl (fun ls hl => ?_)
  exact hL50  _ _ _ _ _ _ _ hf Y (lv_sub hl [4, 3, 2, 1, 0] rfl)
