def f_law_L18_b (L : Nat) (xs : Nat → Int32) (k : Int32 → HI → Option (Int32 × HI)) (v3 : Int32) (I : HI) : Option (Int32 × HI) :=
  if ((Int32.ofNat L) - (3 : Int32)) < v3 then
    some (1, I)
  else
    if v3 < 0 ∨ L ≤ v3.toNatClampNeg then none else
    if (xs v3.toNatClampNeg) &&& (31 : Int32) = (0 : Int32) then
      if (v3 + (1 : Int32)) < 0 ∨ L ≤ (v3 + (1 : Int32)).toNatClampNeg then none else
      if (v3 + (2 : Int32)) < 0 ∨ L ≤ (v3 + (2 : Int32)).toNatClampNeg then none else
      (f_X5_set (xs (v3 + (1 : Int32)).toNatClampNeg) (xs (v3 + (2 : Int32)).toNatClampNeg) I).bind fun q40 =>
      if (v3 + (1 : Int32)) < 0 ∨ L ≤ (v3 + (1 : Int32)).toNatClampNeg then none else
      if (v3 + (2 : Int32)) < 0 ∨ L ≤ (v3 + (2 : Int32)).toNatClampNeg then none else
      (f_X6_set (xs (v3 + (1 : Int32)).toNatClampNeg) (xs (v3 + (2 : Int32)).toNatClampNeg) q40.2).bind fun q41 =>
      if q40.1 = q41.1 then
        k (v3 + (3 : Int32)) q41.2
      else
        some (0, q41.2)
    else
    if (xs v3.toNatClampNeg) &&& (31 : Int32) = (1 : Int32) then
      if (v3 + (1 : Int32)) < 0 ∨ L ≤ (v3 + (1 : Int32)).toNatClampNeg then none else
      if (v3 + (2 : Int32)) < 0 ∨ L ≤ (v3 + (2 : Int32)).toNatClampNeg then none else
      (f_X5_feed (xs (v3 + (1 : Int32)).toNatClampNeg) (xs (v3 + (2 : Int32)).toNatClampNeg) I).bind fun q43 =>
      if (v3 + (1 : Int32)) < 0 ∨ L ≤ (v3 + (1 : Int32)).toNatClampNeg then none else
      if (v3 + (2 : Int32)) < 0 ∨ L ≤ (v3 + (2 : Int32)).toNatClampNeg then none else
      (f_X6_feed (xs (v3 + (1 : Int32)).toNatClampNeg) (xs (v3 + (2 : Int32)).toNatClampNeg) q43.2).bind fun q44 =>
      if q43.1 = q44.1 then
        k (v3 + (3 : Int32)) q44.2
      else
        some (0, q44.2)
    else
    if (xs v3.toNatClampNeg) &&& (31 : Int32) = (2 : Int32) then
      (f_X5_clear I).bind fun q46 =>
      (f_X6_clear q46.2).bind fun q47 =>
      if q46.1 = q47.1 then
        k (v3 + (3 : Int32)) q47.2
      else
        some (0, q47.2)
    else
    if (xs v3.toNatClampNeg) &&& (31 : Int32) = (3 : Int32) then
      if (v3 + (1 : Int32)) < 0 ∨ L ≤ (v3 + (1 : Int32)).toNatClampNeg then none else
      (f_X5_drop (xs (v3 + (1 : Int32)).toNatClampNeg) I).bind fun q49 =>
      if (v3 + (1 : Int32)) < 0 ∨ L ≤ (v3 + (1 : Int32)).toNatClampNeg then none else
      (f_X6_drop (xs (v3 + (1 : Int32)).toNatClampNeg) q49.2).bind fun q50 =>
      if q49.1 = q50.1 then
        k (v3 + (3 : Int32)) q50.2
      else
        some (0, q50.2)
    else
    if (xs v3.toNatClampNeg) &&& (31 : Int32) = (4 : Int32) then
      if (v3 + (1 : Int32)) < 0 ∨ L ≤ (v3 + (1 : Int32)).toNatClampNeg then none else
      if (v3 + (2 : Int32)) < 0 ∨ L ≤ (v3 + (2 : Int32)).toNatClampNeg then none else
      (f_X5_segment (xs (v3 + (1 : Int32)).toNatClampNeg) (xs (v3 + (2 : Int32)).toNatClampNeg) I).bind fun q52 =>
      if (v3 + (1 : Int32)) < 0 ∨ L ≤ (v3 + (1 : Int32)).toNatClampNeg then none else
      if (v3 + (2 : Int32)) < 0 ∨ L ≤ (v3 + (2 : Int32)).toNatClampNeg then none else
      (f_X6_segment (xs (v3 + (1 : Int32)).toNatClampNeg) (xs (v3 + (2 : Int32)).toNatClampNeg) q52.2).bind fun q53 =>
      if q52.1 = q53.1 then
        k (v3 + (3 : Int32)) q53.2
      else
        some (0, q53.2)
    else
    if (xs v3.toNatClampNeg) &&& (31 : Int32) = (5 : Int32) then
      if (v3 + (1 : Int32)) < 0 ∨ L ≤ (v3 + (1 : Int32)).toNatClampNeg then none else
      if (v3 + (2 : Int32)) < 0 ∨ L ≤ (v3 + (2 : Int32)).toNatClampNeg then none else
      (f_X5_sampleOf (xs (v3 + (1 : Int32)).toNatClampNeg) (xs (v3 + (2 : Int32)).toNatClampNeg) I).bind fun q55 =>
      if (v3 + (1 : Int32)) < 0 ∨ L ≤ (v3 + (1 : Int32)).toNatClampNeg then none else
      if (v3 + (2 : Int32)) < 0 ∨ L ≤ (v3 + (2 : Int32)).toNatClampNeg then none else
      (f_X6_sampleOf (xs (v3 + (1 : Int32)).toNatClampNeg) (xs (v3 + (2 : Int32)).toNatClampNeg) q55.2).bind fun q56 =>
      if q55.1 = q56.1 then
        k (v3 + (3 : Int32)) q56.2
      else
        some (0, q56.2)
    else
    if (xs v3.toNatClampNeg) &&& (31 : Int32) = (6 : Int32) then
      if (v3 + (1 : Int32)) < 0 ∨ L ≤ (v3 + (1 : Int32)).toNatClampNeg then none else
      (f_X5_sample (xs (v3 + (1 : Int32)).toNatClampNeg) I).bind fun q58 =>
      if (v3 + (1 : Int32)) < 0 ∨ L ≤ (v3 + (1 : Int32)).toNatClampNeg then none else
      (f_X6_sample (xs (v3 + (1 : Int32)).toNatClampNeg) q58.2).bind fun q59 =>
      if q58.1 = q59.1 then
        k (v3 + (3 : Int32)) q59.2
      else
        some (0, q59.2)
    else
    if (xs v3.toNatClampNeg) &&& (31 : Int32) = (7 : Int32) then
      if (v3 + (1 : Int32)) < 0 ∨ L ≤ (v3 + (1 : Int32)).toNatClampNeg then none else
      (f_X5_count (xs (v3 + (1 : Int32)).toNatClampNeg) I).bind fun q61 =>
      if (v3 + (1 : Int32)) < 0 ∨ L ≤ (v3 + (1 : Int32)).toNatClampNeg then none else
      (f_X6_count (xs (v3 + (1 : Int32)).toNatClampNeg) q61.2).bind fun q62 =>
      if q61.1 = q62.1 then
        k (v3 + (3 : Int32)) q62.2
      else
        some (0, q62.2)
    else
    if (xs v3.toNatClampNeg) &&& (31 : Int32) = (8 : Int32) then
      if (v3 + (1 : Int32)) < 0 ∨ L ≤ (v3 + (1 : Int32)).toNatClampNeg then none else
      (f_X5_fires (xs (v3 + (1 : Int32)).toNatClampNeg) I).bind fun q64 =>
      if (v3 + (1 : Int32)) < 0 ∨ L ≤ (v3 + (1 : Int32)).toNatClampNeg then none else
      (f_X6_fires (xs (v3 + (1 : Int32)).toNatClampNeg) q64.2).bind fun q65 =>
      if q64.1 = q65.1 then
        k (v3 + (3 : Int32)) q65.2
      else
        some (0, q65.2)
    else
    if (xs v3.toNatClampNeg) &&& (31 : Int32) = (9 : Int32) then
      if (v3 + (1 : Int32)) < 0 ∨ L ≤ (v3 + (1 : Int32)).toNatClampNeg then none else
      (f_X5_bestLevel (xs (v3 + (1 : Int32)).toNatClampNeg) I).bind fun q67 =>
      if (v3 + (1 : Int32)) < 0 ∨ L ≤ (v3 + (1 : Int32)).toNatClampNeg then none else
      (f_X6_bestLevel (xs (v3 + (1 : Int32)).toNatClampNeg) q67.2).bind fun q68 =>
      if q67.1 = q68.1 then
        k (v3 + (3 : Int32)) q68.2
      else
        some (0, q68.2)
    else
    if (xs v3.toNatClampNeg) &&& (31 : Int32) = (10 : Int32) then
      if (v3 + (1 : Int32)) < 0 ∨ L ≤ (v3 + (1 : Int32)).toNatClampNeg then none else
      if (v3 + (2 : Int32)) < 0 ∨ L ≤ (v3 + (2 : Int32)).toNatClampNeg then none else
      (f_X5_unlike (xs (v3 + (1 : Int32)).toNatClampNeg) (xs (v3 + (2 : Int32)).toNatClampNeg) I).bind fun q70 =>
      if (v3 + (1 : Int32)) < 0 ∨ L ≤ (v3 + (1 : Int32)).toNatClampNeg then none else
      if (v3 + (2 : Int32)) < 0 ∨ L ≤ (v3 + (2 : Int32)).toNatClampNeg then none else
      (f_X6_unlike (xs (v3 + (1 : Int32)).toNatClampNeg) (xs (v3 + (2 : Int32)).toNatClampNeg) q70.2).bind fun q71 =>
      if q70.1 = q71.1 then
        k (v3 + (3 : Int32)) q71.2
      else
        some (0, q71.2)
    else
    if (xs v3.toNatClampNeg) &&& (31 : Int32) = (11 : Int32) then
      if (v3 + (1 : Int32)) < 0 ∨ L ≤ (v3 + (1 : Int32)).toNatClampNeg then none else
      (f_X5_nearest (xs (v3 + (1 : Int32)).toNatClampNeg) I).bind fun q73 =>
      if (v3 + (1 : Int32)) < 0 ∨ L ≤ (v3 + (1 : Int32)).toNatClampNeg then none else
      (f_X6_nearest (xs (v3 + (1 : Int32)).toNatClampNeg) q73.2).bind fun q74 =>
      if q73.1 = q74.1 then
        k (v3 + (3 : Int32)) q74.2
      else
        some (0, q74.2)
    else
    if (xs v3.toNatClampNeg) &&& (31 : Int32) = (12 : Int32) then
      if (v3 + (1 : Int32)) < 0 ∨ L ≤ (v3 + (1 : Int32)).toNatClampNeg then none else
      if (v3 + (2 : Int32)) < 0 ∨ L ≤ (v3 + (2 : Int32)).toNatClampNeg then none else
      (f_X5_put ((((xs (v3 + (1 : Int32)).toNatClampNeg).toInt64) <<< ((32 : Int32).toInt64 &&& 63)) ||| (((xs (v3 + (2 : Int32)).toNatClampNeg).toInt64) &&& (4294967295 : Int64))) I).bind fun q76 =>
      if (v3 + (1 : Int32)) < 0 ∨ L ≤ (v3 + (1 : Int32)).toNatClampNeg then none else
      if (v3 + (2 : Int32)) < 0 ∨ L ≤ (v3 + (2 : Int32)).toNatClampNeg then none else
      (f_X6_put ((((xs (v3 + (1 : Int32)).toNatClampNeg).toInt64) <<< ((32 : Int32).toInt64 &&& 63)) ||| (((xs (v3 + (2 : Int32)).toNatClampNeg).toInt64) &&& (4294967295 : Int64))) q76.2).bind fun q77 =>
      if q76.1 = q77.1 then
        k (v3 + (3 : Int32)) q77.2
      else
        some (0, q77.2)
    else
    if (xs v3.toNatClampNeg) &&& (31 : Int32) = (13 : Int32) then
      (f_X5_wipe I).bind fun q79 =>
      (f_X6_wipe q79.2).bind fun q80 =>
      if q79.1 = q80.1 then
        k (v3 + (3 : Int32)) q80.2
      else
        some (0, q80.2)
    else
    if (xs v3.toNatClampNeg) &&& (31 : Int32) = (14 : Int32) then
      (f_X5_fault I).bind fun q82 =>
      (f_X6_fault q82.2).bind fun q83 =>
      if q82.1 = q83.1 then
        k (v3 + (3 : Int32)) q83.2
      else
        some (0, q83.2)
    else
    if (xs v3.toNatClampNeg) &&& (31 : Int32) = (15 : Int32) then
      (f_X5_carryOut I).bind fun q85 =>
      (f_X6_carryOut q85.2).bind fun q86 =>
      if q85.1 = q86.1 then
        k (v3 + (3 : Int32)) q86.2
      else
        some (0, q86.2)
    else
    if (xs v3.toNatClampNeg) &&& (31 : Int32) = (16 : Int32) then
      (f_X5_undo I).bind fun q88 =>
      (f_X6_undo q88.2).bind fun q89 =>
      if q88.1 = q89.1 then
        k (v3 + (3 : Int32)) q89.2
      else
        some (0, q89.2)
    else
    if (xs v3.toNatClampNeg) &&& (31 : Int32) = (17 : Int32) then
      if (v3 + (1 : Int32)) < 0 ∨ L ≤ (v3 + (1 : Int32)).toNatClampNeg then none else
      (f_X5_save (xs (v3 + (1 : Int32)).toNatClampNeg) I).bind fun q91 =>
      if (v3 + (1 : Int32)) < 0 ∨ L ≤ (v3 + (1 : Int32)).toNatClampNeg then none else
      (f_X6_save (xs (v3 + (1 : Int32)).toNatClampNeg) q91.2).bind fun q92 =>
      if q91.1 = q92.1 then
        k (v3 + (3 : Int32)) q92.2
      else
        some (0, q92.2)
    else
    if (xs v3.toNatClampNeg) &&& (31 : Int32) = (18 : Int32) then
      if (v3 + (1 : Int32)) < 0 ∨ L ≤ (v3 + (1 : Int32)).toNatClampNeg then none else
      (f_X5_restore (xs (v3 + (1 : Int32)).toNatClampNeg) I).bind fun q94 =>
      if (v3 + (1 : Int32)) < 0 ∨ L ≤ (v3 + (1 : Int32)).toNatClampNeg then none else
      (f_X6_restore (xs (v3 + (1 : Int32)).toNatClampNeg) q94.2).bind fun q95 =>
      if q94.1 = q95.1 then
        k (v3 + (3 : Int32)) q95.2
      else
        some (0, q95.2)
    else
    k (v3 + (3 : Int32)) I
def f_law_L18 (L : Nat) (xs : Nat → Int32) : Nat → Int32 → HI → Option (Int32 × HI)
  | 0, _, _ => none
  | n + 1, v3, I => f_law_L18_b L xs (f_law_L18 L xs n) v3 I
theorem law_no {I : HI} {r : Int32 × HI} {P : Prop} (hf : some ((0 : Int32), I) = some r) (h : r.1 = 1) : P := by
  cases hf
  exact absurd (show (0 : Int32) = 1 from h) (by decide)
theorem law_end {p : Program} {l : Launch} {e : Env} {s : State} {m : MethodId} {below : List Frame} {meth : Method} {c : Code} {b : Nat} {g : GX} {I : HI} (hx : p.tables.exec = Jvm.exec) (hb : c.code = code) (hr : meth.sig.returnType = ret) (hlk : meth.locks = false) (hgS : gS g = s.heap.size) {pc : Nat} {H : Heap} {locs : List Loc} {ls : Array Slot} (Y : XD g I s H locs) (hdg : decode code pc = .ok (.ireturn, 1)) : W p l e room_1 s m #[Value.ref b] below meth c H locs 600000 7302250 (lw_Z below #[Value.ref b] s) (F0 m pc ls [.int 1]) := by
  refine va_forget (fun q hq => ?_) ?_
  · have h1 : gS g ≤ q.base := Y.2.1.2.2 q hq
    rw [← hgS]; exact h1
  · exact lw_ret hx hb hr hlk hdg
set_option maxHeartbeats 8000000 in
set_option maxRecDepth 100000 in
theorem law_loop {p : Program} {l : Launch} {e : Env} {s : State} {m : MethodId} {below : List Frame} {meth : Method} {c : Code} {b L : Nat} {xs : Nat → Int32} {g : GX} {r : Int32 × HI} (X : XC g p s m #[Value.ref b] c code 4 RL) (hr : meth.sig.returnType = ret) (hlk : meth.locks = false) (hX : va_X b L xs s s.heap) (hbl : b < s.heap.size) (hgS : gS g = s.heap.size) (hr1 : r.1 = 1) : ∀ (n : Nat) (v3 : Int32) (I : HI) (H : Heap) (locs : List Loc) (ls : Array Slot), f_law_L18 L xs n v3 I = some r → XD g I s H locs → lv_has ls 4 [(0, .ref b), (1, .ref (gR g 0)), (2, .ref (gR g 57)), (3, .int v3)] → W p l e room_1 s m #[Value.ref b] below meth c H locs 600000 7302250 (lw_Z below #[Value.ref b] s) (F0 m 18 ls []) := by
  have hx := X.hx
  have hb := X.hb
  have hbA : ¬ gA g b := by
    show ¬ gS g ≤ b
    rw [hgS]
    exact Nat.not_le.mpr hbl
  intro n
  induction n with
  | zero => intro v3 I H locs ls hf Y hl; exact nn_t hf
  | succ n ih =>
    intro v3 I H locs ls hf Y hl
    have hf : f_law_L18_b L xs (f_law_L18 L xs n) v3 I = some r := hf
    unfold f_law_L18_b at hf
    refine lv_iload_n hx hb dL_law_18 rfl (lv_at hl 3 rfl) ?_
    refine lv_aload_n hx hb dL_law_19 rfl (lv_at hl 0 rfl) ?_
    refine va_slen hx hb hX hbl hbA Y.2.1 dL_law_20 ?_
    refine lv_iconst (v := 3) hx hb dL_law_21 (by decide) ?_
    refine lv_isub hx hb dL_law_22 ?_
    refine lv_icmp_gt (tgt := 597) hx hb dL_law_23 (by decide) (fun c => ?_) (fun c => ?_)
    · have hf := ite_t c hf
      refine lv_iconst (v := 1) hx hb dL_law_597 (by decide) ?_
      exact law_end hx hb hr hlk hgS Y dL_law_598
    · have hf := ite_f c hf
      refine lv_aload_n hx hb dL_law_26 rfl (lv_at hl 0 rfl) ?_
      refine lv_iload_n hx hb dL_law_27 rfl (lv_at hl 3 rfl) ?_
      obtain ⟨hin, hf⟩ := oob_t hf
      refine va_sld hx hb hX hbl hbA Y.2.1 hin dL_law_28 ?_
      refine lv_bipush (v := 31) hx hb dL_law_29 (by decide) ?_
      refine lv_iand hx hb dL_law_31 ?_
      by_cases c39 : (xs v3.toNatClampNeg) &&& (31 : Int32) = (0 : Int32)
      · have hf := ite_t c39 hf
        refine x_tab (off := 92) (tgt := 124) hx hb c39 dL_law_32 (by decide) (by decide) ?_
        refine lv_aload_n hx hb dL_law_124 rfl (lv_at hl 1 rfl) ?_
        refine lv_aload_n hx hb dL_law_125 rfl (lv_at hl 0 rfl) ?_
        refine lv_iload_n hx hb dL_law_126 rfl (lv_at hl 3 rfl) ?_
        refine lv_iconst (v := 1) hx hb dL_law_127 (by decide) ?_
        refine lv_iadd hx hb dL_law_128 ?_
        obtain ⟨hin, hf⟩ := oob_t hf
        refine va_sld hx hb hX hbl hbA Y.2.1 hin dL_law_129 ?_
        refine lv_aload_n hx hb dL_law_130 rfl (lv_at hl 0 rfl) ?_
        refine lv_iload_n hx hb dL_law_131 rfl (lv_at hl 3 rfl) ?_
        refine lv_iconst (v := 2) hx hb dL_law_132 (by decide) ?_
        refine lv_iadd hx hb dL_law_133 ?_
        obtain ⟨hin, hf⟩ := oob_t hf
        refine va_sld hx hb hX hbl hbA Y.2.1 hin dL_law_134 ?_
        obtain ⟨q40, hq, hf⟩ := bnd_t hf
        refine x_ci Y (x_rV (rest := []) X Y k_L_13 (c_X5_set X.hg hq) cl_5.1 rfl (by decide) rfl ⟨rfl, rfl⟩ ⟨by decide, by decide⟩ hl.1 rfl (Nat.le_of_ble_eq_true rfl) dL_law_135 ⟨Nat.le_refl _, Nat.le_refl _⟩) (fun H locs Y => ?_)
        refine lv_aload_n hx hb dL_law_138 rfl (lv_at hl 2 rfl) ?_
        refine lv_aload_n hx hb dL_law_139 rfl (lv_at hl 0 rfl) ?_
        refine lv_iload_n hx hb dL_law_140 rfl (lv_at hl 3 rfl) ?_
        refine lv_iconst (v := 1) hx hb dL_law_141 (by decide) ?_
        refine lv_iadd hx hb dL_law_142 ?_
        obtain ⟨hin, hf⟩ := oob_t hf
        refine va_sld hx hb hX hbl hbA Y.2.1 hin dL_law_143 ?_
        refine lv_aload_n hx hb dL_law_144 rfl (lv_at hl 0 rfl) ?_
        refine lv_iload_n hx hb dL_law_145 rfl (lv_at hl 3 rfl) ?_
        refine lv_iconst (v := 2) hx hb dL_law_146 (by decide) ?_
        refine lv_iadd hx hb dL_law_147 ?_
        obtain ⟨hin, hf⟩ := oob_t hf
        refine va_sld hx hb hX hbl hbA Y.2.1 hin dL_law_148 ?_
        obtain ⟨q41, hq, hf⟩ := bnd_t hf
        refine x_ci Y (x_rV (rest := [_]) X Y k_L_17 (c_X6_set X.hg hq) cl_6.1 rfl (by decide) rfl ⟨rfl, rfl⟩ ⟨by decide, by decide⟩ hl.1 rfl (Nat.le_of_ble_eq_true rfl) dL_law_149 ⟨Nat.le_refl _, Nat.le_refl _⟩) (fun H locs Y => ?_)
        refine lv_icmp_eq (tgt := 591) hx hb dL_law_152 (by decide) (fun c => ?_) (fun c => ?_)
        · have hf := ite_t c hf
          refine lv_iinc (v := _ + (3 : Int32)) (lv' := [(3, _), (0, _), (1, _), (2, _)]) hx hb dL_law_591 hl (k := 3) rfl rfl (by decide) rfl (fun ls hl => ?_)
          refine lv_goto (tgt := 18) hx hb dL_law_594 (by decide) ?_
          exact ih _ _ _ _ _ hf Y (lv_sub hl [1, 2, 3, 0] rfl)
        · have hf := ite_f c hf
          refine lv_iconst (v := 0) hx hb dL_law_155 (by decide) ?_
          exact law_no hf hr1
      have hf := ite_f c39 hf
      by_cases c42 : (xs v3.toNatClampNeg) &&& (31 : Int32) = (1 : Int32)
      · have hf := ite_t c42 hf
        refine x_tab (off := 125) (tgt := 157) hx hb c42 dL_law_32 (by decide) (by decide) ?_
        refine lv_aload_n hx hb dL_law_157 rfl (lv_at hl 1 rfl) ?_
        refine lv_aload_n hx hb dL_law_158 rfl (lv_at hl 0 rfl) ?_
        refine lv_iload_n hx hb dL_law_159 rfl (lv_at hl 3 rfl) ?_
        refine lv_iconst (v := 1) hx hb dL_law_160 (by decide) ?_
        refine lv_iadd hx hb dL_law_161 ?_
        obtain ⟨hin, hf⟩ := oob_t hf
        refine va_sld hx hb hX hbl hbA Y.2.1 hin dL_law_162 ?_
        refine lv_aload_n hx hb dL_law_163 rfl (lv_at hl 0 rfl) ?_
        refine lv_iload_n hx hb dL_law_164 rfl (lv_at hl 3 rfl) ?_
        refine lv_iconst (v := 2) hx hb dL_law_165 (by decide) ?_
        refine lv_iadd hx hb dL_law_166 ?_
        obtain ⟨hin, hf⟩ := oob_t hf
        refine va_sld hx hb hX hbl hbA Y.2.1 hin dL_law_167 ?_
        obtain ⟨q43, hq, hf⟩ := bnd_t hf
        refine x_ci Y (x_rV (rest := []) X Y k_L_18 (c_X5_feed X.hg hq) cl_5.1 rfl (by decide) rfl ⟨rfl, rfl⟩ ⟨by decide, by decide⟩ hl.1 rfl (Nat.le_of_ble_eq_true rfl) dL_law_168 ⟨Nat.le_refl _, Nat.le_refl _⟩) (fun H locs Y => ?_)
        refine lv_aload_n hx hb dL_law_171 rfl (lv_at hl 2 rfl) ?_
        refine lv_aload_n hx hb dL_law_172 rfl (lv_at hl 0 rfl) ?_
        refine lv_iload_n hx hb dL_law_173 rfl (lv_at hl 3 rfl) ?_
        refine lv_iconst (v := 1) hx hb dL_law_174 (by decide) ?_
        refine lv_iadd hx hb dL_law_175 ?_
        obtain ⟨hin, hf⟩ := oob_t hf
        refine va_sld hx hb hX hbl hbA Y.2.1 hin dL_law_176 ?_
        refine lv_aload_n hx hb dL_law_177 rfl (lv_at hl 0 rfl) ?_
        refine lv_iload_n hx hb dL_law_178 rfl (lv_at hl 3 rfl) ?_
        refine lv_iconst (v := 2) hx hb dL_law_179 (by decide) ?_
        refine lv_iadd hx hb dL_law_180 ?_
        obtain ⟨hin, hf⟩ := oob_t hf
        refine va_sld hx hb hX hbl hbA Y.2.1 hin dL_law_181 ?_
        obtain ⟨q44, hq, hf⟩ := bnd_t hf
        refine x_ci Y (x_rV (rest := [_]) X Y k_L_21 (c_X6_feed X.hg hq) cl_6.1 rfl (by decide) rfl ⟨rfl, rfl⟩ ⟨by decide, by decide⟩ hl.1 rfl (Nat.le_of_ble_eq_true rfl) dL_law_182 ⟨Nat.le_refl _, Nat.le_refl _⟩) (fun H locs Y => ?_)
        refine lv_icmp_eq (tgt := 591) hx hb dL_law_185 (by decide) (fun c => ?_) (fun c => ?_)
        · have hf := ite_t c hf
          refine lv_iinc (v := _ + (3 : Int32)) (lv' := [(3, _), (0, _), (1, _), (2, _)]) hx hb dL_law_591 hl (k := 3) rfl rfl (by decide) rfl (fun ls hl => ?_)
          refine lv_goto (tgt := 18) hx hb dL_law_594 (by decide) ?_
          exact ih _ _ _ _ _ hf Y (lv_sub hl [1, 2, 3, 0] rfl)
        · have hf := ite_f c hf
          refine lv_iconst (v := 0) hx hb dL_law_188 (by decide) ?_
          exact law_no hf hr1
      have hf := ite_f c42 hf
      by_cases c45 : (xs v3.toNatClampNeg) &&& (31 : Int32) = (2 : Int32)
      · have hf := ite_t c45 hf
        refine x_tab (off := 158) (tgt := 190) hx hb c45 dL_law_32 (by decide) (by decide) ?_
        refine lv_aload_n hx hb dL_law_190 rfl (lv_at hl 1 rfl) ?_
        obtain ⟨q46, hq, hf⟩ := bnd_t hf
        refine x_ci Y (x_rV (rest := []) X Y k_L_22 (c_X5_clear X.hg hq) cl_5.1 rfl (by decide) rfl ⟨rfl, rfl⟩ ⟨by decide, by decide⟩ hl.1 rfl (Nat.le_of_ble_eq_true rfl) dL_law_191 ⟨Nat.le_refl _, Nat.le_refl _⟩) (fun H locs Y => ?_)
        refine lv_aload_n hx hb dL_law_194 rfl (lv_at hl 2 rfl) ?_
        obtain ⟨q47, hq, hf⟩ := bnd_t hf
        refine x_ci Y (x_rV (rest := [_]) X Y k_L_26 (c_X6_clear X.hg hq) cl_6.1 rfl (by decide) rfl ⟨rfl, rfl⟩ ⟨by decide, by decide⟩ hl.1 rfl (Nat.le_of_ble_eq_true rfl) dL_law_195 ⟨Nat.le_refl _, Nat.le_refl _⟩) (fun H locs Y => ?_)
        refine lv_icmp_eq (tgt := 591) hx hb dL_law_198 (by decide) (fun c => ?_) (fun c => ?_)
        · have hf := ite_t c hf
          refine lv_iinc (v := _ + (3 : Int32)) (lv' := [(3, _), (0, _), (1, _), (2, _)]) hx hb dL_law_591 hl (k := 3) rfl rfl (by decide) rfl (fun ls hl => ?_)
          refine lv_goto (tgt := 18) hx hb dL_law_594 (by decide) ?_
          exact ih _ _ _ _ _ hf Y (lv_sub hl [1, 2, 3, 0] rfl)
        · have hf := ite_f c hf
          refine lv_iconst (v := 0) hx hb dL_law_201 (by decide) ?_
          exact law_no hf hr1
      have hf := ite_f c45 hf
      by_cases c48 : (xs v3.toNatClampNeg) &&& (31 : Int32) = (3 : Int32)
      · have hf := ite_t c48 hf
        refine x_tab (off := 171) (tgt := 203) hx hb c48 dL_law_32 (by decide) (by decide) ?_
        refine lv_aload_n hx hb dL_law_203 rfl (lv_at hl 1 rfl) ?_
        refine lv_aload_n hx hb dL_law_204 rfl (lv_at hl 0 rfl) ?_
        refine lv_iload_n hx hb dL_law_205 rfl (lv_at hl 3 rfl) ?_
        refine lv_iconst (v := 1) hx hb dL_law_206 (by decide) ?_
        refine lv_iadd hx hb dL_law_207 ?_
        obtain ⟨hin, hf⟩ := oob_t hf
        refine va_sld hx hb hX hbl hbA Y.2.1 hin dL_law_208 ?_
        obtain ⟨q49, hq, hf⟩ := bnd_t hf
        refine x_ci Y (x_rV (rest := []) X Y k_L_27 (c_X5_drop X.hg hq) cl_5.1 rfl (by decide) rfl ⟨rfl, rfl⟩ ⟨by decide, by decide⟩ hl.1 rfl (Nat.le_of_ble_eq_true rfl) dL_law_209 ⟨Nat.le_refl _, Nat.le_refl _⟩) (fun H locs Y => ?_)
        refine lv_aload_n hx hb dL_law_212 rfl (lv_at hl 2 rfl) ?_
        refine lv_aload_n hx hb dL_law_213 rfl (lv_at hl 0 rfl) ?_
        refine lv_iload_n hx hb dL_law_214 rfl (lv_at hl 3 rfl) ?_
        refine lv_iconst (v := 1) hx hb dL_law_215 (by decide) ?_
        refine lv_iadd hx hb dL_law_216 ?_
        obtain ⟨hin, hf⟩ := oob_t hf
        refine va_sld hx hb hX hbl hbA Y.2.1 hin dL_law_217 ?_
        obtain ⟨q50, hq, hf⟩ := bnd_t hf
        refine x_ci Y (x_rV (rest := [_]) X Y k_L_31 (c_X6_drop X.hg hq) cl_6.1 rfl (by decide) rfl ⟨rfl, rfl⟩ ⟨by decide, by decide⟩ hl.1 rfl (Nat.le_of_ble_eq_true rfl) dL_law_218 ⟨Nat.le_refl _, Nat.le_refl _⟩) (fun H locs Y => ?_)
        refine lv_icmp_eq (tgt := 591) hx hb dL_law_221 (by decide) (fun c => ?_) (fun c => ?_)
        · have hf := ite_t c hf
          refine lv_iinc (v := _ + (3 : Int32)) (lv' := [(3, _), (0, _), (1, _), (2, _)]) hx hb dL_law_591 hl (k := 3) rfl rfl (by decide) rfl (fun ls hl => ?_)
          refine lv_goto (tgt := 18) hx hb dL_law_594 (by decide) ?_
          exact ih _ _ _ _ _ hf Y (lv_sub hl [1, 2, 3, 0] rfl)
        · have hf := ite_f c hf
          refine lv_iconst (v := 0) hx hb dL_law_224 (by decide) ?_
          exact law_no hf hr1
      have hf := ite_f c48 hf
      by_cases c51 : (xs v3.toNatClampNeg) &&& (31 : Int32) = (4 : Int32)
      · have hf := ite_t c51 hf
        refine x_tab (off := 194) (tgt := 226) hx hb c51 dL_law_32 (by decide) (by decide) ?_
        refine lv_aload_n hx hb dL_law_226 rfl (lv_at hl 1 rfl) ?_
        refine lv_aload_n hx hb dL_law_227 rfl (lv_at hl 0 rfl) ?_
        refine lv_iload_n hx hb dL_law_228 rfl (lv_at hl 3 rfl) ?_
        refine lv_iconst (v := 1) hx hb dL_law_229 (by decide) ?_
        refine lv_iadd hx hb dL_law_230 ?_
        obtain ⟨hin, hf⟩ := oob_t hf
        refine va_sld hx hb hX hbl hbA Y.2.1 hin dL_law_231 ?_
        refine lv_aload_n hx hb dL_law_232 rfl (lv_at hl 0 rfl) ?_
        refine lv_iload_n hx hb dL_law_233 rfl (lv_at hl 3 rfl) ?_
        refine lv_iconst (v := 2) hx hb dL_law_234 (by decide) ?_
        refine lv_iadd hx hb dL_law_235 ?_
        obtain ⟨hin, hf⟩ := oob_t hf
        refine va_sld hx hb hX hbl hbA Y.2.1 hin dL_law_236 ?_
        obtain ⟨q52, hq, hf⟩ := bnd_t hf
        refine x_ci Y (x_rV (rest := []) X Y k_L_32 (c_X5_segment X.hg hq) cl_5.1 rfl (by decide) rfl ⟨rfl, rfl⟩ ⟨by decide, by decide⟩ hl.1 rfl (Nat.le_of_ble_eq_true rfl) dL_law_237 ⟨Nat.le_refl _, Nat.le_refl _⟩) (fun H locs Y => ?_)
        refine lv_aload_n hx hb dL_law_240 rfl (lv_at hl 2 rfl) ?_
        refine lv_aload_n hx hb dL_law_241 rfl (lv_at hl 0 rfl) ?_
        refine lv_iload_n hx hb dL_law_242 rfl (lv_at hl 3 rfl) ?_
        refine lv_iconst (v := 1) hx hb dL_law_243 (by decide) ?_
        refine lv_iadd hx hb dL_law_244 ?_
        obtain ⟨hin, hf⟩ := oob_t hf
        refine va_sld hx hb hX hbl hbA Y.2.1 hin dL_law_245 ?_
        refine lv_aload_n hx hb dL_law_246 rfl (lv_at hl 0 rfl) ?_
        refine lv_iload_n hx hb dL_law_247 rfl (lv_at hl 3 rfl) ?_
        refine lv_iconst (v := 2) hx hb dL_law_248 (by decide) ?_
        refine lv_iadd hx hb dL_law_249 ?_
        obtain ⟨hin, hf⟩ := oob_t hf
        refine va_sld hx hb hX hbl hbA Y.2.1 hin dL_law_250 ?_
        obtain ⟨q53, hq, hf⟩ := bnd_t hf
        refine x_ci Y (x_rV (rest := [_]) X Y k_L_35 (c_X6_segment X.hg hq) cl_6.1 rfl (by decide) rfl ⟨rfl, rfl⟩ ⟨by decide, by decide⟩ hl.1 rfl (Nat.le_of_ble_eq_true rfl) dL_law_251 ⟨Nat.le_refl _, Nat.le_refl _⟩) (fun H locs Y => ?_)
        refine lv_icmp_eq (tgt := 591) hx hb dL_law_254 (by decide) (fun c => ?_) (fun c => ?_)
        · have hf := ite_t c hf
          refine lv_iinc (v := _ + (3 : Int32)) (lv' := [(3, _), (0, _), (1, _), (2, _)]) hx hb dL_law_591 hl (k := 3) rfl rfl (by decide) rfl (fun ls hl => ?_)
          refine lv_goto (tgt := 18) hx hb dL_law_594 (by decide) ?_
          exact ih _ _ _ _ _ hf Y (lv_sub hl [1, 2, 3, 0] rfl)
        · have hf := ite_f c hf
          refine lv_iconst (v := 0) hx hb dL_law_257 (by decide) ?_
          exact law_no hf hr1
      have hf := ite_f c51 hf
      by_cases c54 : (xs v3.toNatClampNeg) &&& (31 : Int32) = (5 : Int32)
      · have hf := ite_t c54 hf
        refine x_tab (off := 227) (tgt := 259) hx hb c54 dL_law_32 (by decide) (by decide) ?_
        refine lv_aload_n hx hb dL_law_259 rfl (lv_at hl 1 rfl) ?_
        refine lv_aload_n hx hb dL_law_260 rfl (lv_at hl 0 rfl) ?_
        refine lv_iload_n hx hb dL_law_261 rfl (lv_at hl 3 rfl) ?_
        refine lv_iconst (v := 1) hx hb dL_law_262 (by decide) ?_
        refine lv_iadd hx hb dL_law_263 ?_
        obtain ⟨hin, hf⟩ := oob_t hf
        refine va_sld hx hb hX hbl hbA Y.2.1 hin dL_law_264 ?_
        refine lv_aload_n hx hb dL_law_265 rfl (lv_at hl 0 rfl) ?_
        refine lv_iload_n hx hb dL_law_266 rfl (lv_at hl 3 rfl) ?_
        refine lv_iconst (v := 2) hx hb dL_law_267 (by decide) ?_
        refine lv_iadd hx hb dL_law_268 ?_
        obtain ⟨hin, hf⟩ := oob_t hf
        refine va_sld hx hb hX hbl hbA Y.2.1 hin dL_law_269 ?_
        obtain ⟨q55, hq, hf⟩ := bnd_t hf
        refine x_ci Y (x_rV (rest := []) X Y k_L_36 (c_X5_sampleOf X.hg hq) cl_5.1 rfl (by decide) rfl ⟨rfl, rfl⟩ ⟨by decide, by decide⟩ hl.1 rfl (Nat.le_of_ble_eq_true rfl) dL_law_270 ⟨Nat.le_refl _, Nat.le_refl _⟩) (fun H locs Y => ?_)
        refine lv_aload_n hx hb dL_law_273 rfl (lv_at hl 2 rfl) ?_
        refine lv_aload_n hx hb dL_law_274 rfl (lv_at hl 0 rfl) ?_
        refine lv_iload_n hx hb dL_law_275 rfl (lv_at hl 3 rfl) ?_
        refine lv_iconst (v := 1) hx hb dL_law_276 (by decide) ?_
        refine lv_iadd hx hb dL_law_277 ?_
        obtain ⟨hin, hf⟩ := oob_t hf
        refine va_sld hx hb hX hbl hbA Y.2.1 hin dL_law_278 ?_
        refine lv_aload_n hx hb dL_law_279 rfl (lv_at hl 0 rfl) ?_
        refine lv_iload_n hx hb dL_law_280 rfl (lv_at hl 3 rfl) ?_
        refine lv_iconst (v := 2) hx hb dL_law_281 (by decide) ?_
        refine lv_iadd hx hb dL_law_282 ?_
        obtain ⟨hin, hf⟩ := oob_t hf
        refine va_sld hx hb hX hbl hbA Y.2.1 hin dL_law_283 ?_
        obtain ⟨q56, hq, hf⟩ := bnd_t hf
        refine x_ci Y (x_rV (rest := [_]) X Y k_L_39 (c_X6_sampleOf X.hg hq) cl_6.1 rfl (by decide) rfl ⟨rfl, rfl⟩ ⟨by decide, by decide⟩ hl.1 rfl (Nat.le_of_ble_eq_true rfl) dL_law_284 ⟨Nat.le_refl _, Nat.le_refl _⟩) (fun H locs Y => ?_)
        refine lv_icmp_eq (tgt := 591) hx hb dL_law_287 (by decide) (fun c => ?_) (fun c => ?_)
        · have hf := ite_t c hf
          refine lv_iinc (v := _ + (3 : Int32)) (lv' := [(3, _), (0, _), (1, _), (2, _)]) hx hb dL_law_591 hl (k := 3) rfl rfl (by decide) rfl (fun ls hl => ?_)
          refine lv_goto (tgt := 18) hx hb dL_law_594 (by decide) ?_
          exact ih _ _ _ _ _ hf Y (lv_sub hl [1, 2, 3, 0] rfl)
        · have hf := ite_f c hf
          refine lv_iconst (v := 0) hx hb dL_law_290 (by decide) ?_
          exact law_no hf hr1
      have hf := ite_f c54 hf
      by_cases c57 : (xs v3.toNatClampNeg) &&& (31 : Int32) = (6 : Int32)
      · have hf := ite_t c57 hf
        refine x_tab (off := 260) (tgt := 292) hx hb c57 dL_law_32 (by decide) (by decide) ?_
        refine lv_aload_n hx hb dL_law_292 rfl (lv_at hl 1 rfl) ?_
        refine lv_aload_n hx hb dL_law_293 rfl (lv_at hl 0 rfl) ?_
        refine lv_iload_n hx hb dL_law_294 rfl (lv_at hl 3 rfl) ?_
        refine lv_iconst (v := 1) hx hb dL_law_295 (by decide) ?_
        refine lv_iadd hx hb dL_law_296 ?_
        obtain ⟨hin, hf⟩ := oob_t hf
        refine va_sld hx hb hX hbl hbA Y.2.1 hin dL_law_297 ?_
        obtain ⟨q58, hq, hf⟩ := bnd_t hf
        refine x_ci Y (x_rV (rest := []) X Y k_L_40 (c_X5_sample X.hg hq) cl_5.1 rfl (by decide) rfl ⟨rfl, rfl⟩ ⟨by decide, by decide⟩ hl.1 rfl (Nat.le_of_ble_eq_true rfl) dL_law_298 ⟨Nat.le_refl _, Nat.le_refl _⟩) (fun H locs Y => ?_)
        refine lv_aload_n hx hb dL_law_301 rfl (lv_at hl 2 rfl) ?_
        refine lv_aload_n hx hb dL_law_302 rfl (lv_at hl 0 rfl) ?_
        refine lv_iload_n hx hb dL_law_303 rfl (lv_at hl 3 rfl) ?_
        refine lv_iconst (v := 1) hx hb dL_law_304 (by decide) ?_
        refine lv_iadd hx hb dL_law_305 ?_
        obtain ⟨hin, hf⟩ := oob_t hf
        refine va_sld hx hb hX hbl hbA Y.2.1 hin dL_law_306 ?_
        obtain ⟨q59, hq, hf⟩ := bnd_t hf
        refine x_ci Y (x_rV (rest := [_]) X Y k_L_43 (c_X6_sample X.hg hq) cl_6.1 rfl (by decide) rfl ⟨rfl, rfl⟩ ⟨by decide, by decide⟩ hl.1 rfl (Nat.le_of_ble_eq_true rfl) dL_law_307 ⟨Nat.le_refl _, Nat.le_refl _⟩) (fun H locs Y => ?_)
        refine lv_icmp_eq (tgt := 591) hx hb dL_law_310 (by decide) (fun c => ?_) (fun c => ?_)
        · have hf := ite_t c hf
          refine lv_iinc (v := _ + (3 : Int32)) (lv' := [(3, _), (0, _), (1, _), (2, _)]) hx hb dL_law_591 hl (k := 3) rfl rfl (by decide) rfl (fun ls hl => ?_)
          refine lv_goto (tgt := 18) hx hb dL_law_594 (by decide) ?_
          exact ih _ _ _ _ _ hf Y (lv_sub hl [1, 2, 3, 0] rfl)
        · have hf := ite_f c hf
          refine lv_iconst (v := 0) hx hb dL_law_313 (by decide) ?_
          exact law_no hf hr1
      have hf := ite_f c57 hf
      by_cases c60 : (xs v3.toNatClampNeg) &&& (31 : Int32) = (7 : Int32)
      · have hf := ite_t c60 hf
        refine x_tab (off := 283) (tgt := 315) hx hb c60 dL_law_32 (by decide) (by decide) ?_
        refine lv_aload_n hx hb dL_law_315 rfl (lv_at hl 1 rfl) ?_
        refine lv_aload_n hx hb dL_law_316 rfl (lv_at hl 0 rfl) ?_
        refine lv_iload_n hx hb dL_law_317 rfl (lv_at hl 3 rfl) ?_
        refine lv_iconst (v := 1) hx hb dL_law_318 (by decide) ?_
        refine lv_iadd hx hb dL_law_319 ?_
        obtain ⟨hin, hf⟩ := oob_t hf
        refine va_sld hx hb hX hbl hbA Y.2.1 hin dL_law_320 ?_
        obtain ⟨q61, hq, hf⟩ := bnd_t hf
        refine x_ci Y (x_rV (rest := []) X Y k_L_44 (c_X5_count X.hg hq) cl_5.1 rfl (by decide) rfl ⟨rfl, rfl⟩ ⟨by decide, by decide⟩ hl.1 rfl (Nat.le_of_ble_eq_true rfl) dL_law_321 ⟨Nat.le_refl _, Nat.le_refl _⟩) (fun H locs Y => ?_)
        refine lv_aload_n hx hb dL_law_324 rfl (lv_at hl 2 rfl) ?_
        refine lv_aload_n hx hb dL_law_325 rfl (lv_at hl 0 rfl) ?_
        refine lv_iload_n hx hb dL_law_326 rfl (lv_at hl 3 rfl) ?_
        refine lv_iconst (v := 1) hx hb dL_law_327 (by decide) ?_
        refine lv_iadd hx hb dL_law_328 ?_
        obtain ⟨hin, hf⟩ := oob_t hf
        refine va_sld hx hb hX hbl hbA Y.2.1 hin dL_law_329 ?_
        obtain ⟨q62, hq, hf⟩ := bnd_t hf
        refine x_ci Y (x_rV (rest := [_]) X Y k_L_47 (c_X6_count X.hg hq) cl_6.1 rfl (by decide) rfl ⟨rfl, rfl⟩ ⟨by decide, by decide⟩ hl.1 rfl (Nat.le_of_ble_eq_true rfl) dL_law_330 ⟨Nat.le_refl _, Nat.le_refl _⟩) (fun H locs Y => ?_)
        refine lv_icmp_eq (tgt := 591) hx hb dL_law_333 (by decide) (fun c => ?_) (fun c => ?_)
        · have hf := ite_t c hf
          refine lv_iinc (v := _ + (3 : Int32)) (lv' := [(3, _), (0, _), (1, _), (2, _)]) hx hb dL_law_591 hl (k := 3) rfl rfl (by decide) rfl (fun ls hl => ?_)
          refine lv_goto (tgt := 18) hx hb dL_law_594 (by decide) ?_
          exact ih _ _ _ _ _ hf Y (lv_sub hl [1, 2, 3, 0] rfl)
        · have hf := ite_f c hf
          refine lv_iconst (v := 0) hx hb dL_law_336 (by decide) ?_
          exact law_no hf hr1
      have hf := ite_f c60 hf
      by_cases c63 : (xs v3.toNatClampNeg) &&& (31 : Int32) = (8 : Int32)
      · have hf := ite_t c63 hf
        refine x_tab (off := 306) (tgt := 338) hx hb c63 dL_law_32 (by decide) (by decide) ?_
        refine lv_aload_n hx hb dL_law_338 rfl (lv_at hl 1 rfl) ?_
        refine lv_aload_n hx hb dL_law_339 rfl (lv_at hl 0 rfl) ?_
        refine lv_iload_n hx hb dL_law_340 rfl (lv_at hl 3 rfl) ?_
        refine lv_iconst (v := 1) hx hb dL_law_341 (by decide) ?_
        refine lv_iadd hx hb dL_law_342 ?_
        obtain ⟨hin, hf⟩ := oob_t hf
        refine va_sld hx hb hX hbl hbA Y.2.1 hin dL_law_343 ?_
        obtain ⟨q64, hq, hf⟩ := bnd_t hf
        refine x_ci Y (x_rV (rest := []) X Y k_L_48 (c_X5_fires X.hg hq) cl_5.1 rfl (by decide) rfl ⟨rfl, rfl⟩ ⟨by decide, by decide⟩ hl.1 rfl (Nat.le_of_ble_eq_true rfl) dL_law_344 ⟨Nat.le_refl _, Nat.le_refl _⟩) (fun H locs Y => ?_)
        refine lv_aload_n hx hb dL_law_347 rfl (lv_at hl 2 rfl) ?_
        refine lv_aload_n hx hb dL_law_348 rfl (lv_at hl 0 rfl) ?_
        refine lv_iload_n hx hb dL_law_349 rfl (lv_at hl 3 rfl) ?_
        refine lv_iconst (v := 1) hx hb dL_law_350 (by decide) ?_
        refine lv_iadd hx hb dL_law_351 ?_
        obtain ⟨hin, hf⟩ := oob_t hf
        refine va_sld hx hb hX hbl hbA Y.2.1 hin dL_law_352 ?_
        obtain ⟨q65, hq, hf⟩ := bnd_t hf
        refine x_ci Y (x_rV (rest := [_]) X Y k_L_51 (c_X6_fires X.hg hq) cl_6.1 rfl (by decide) rfl ⟨rfl, rfl⟩ ⟨by decide, by decide⟩ hl.1 rfl (Nat.le_of_ble_eq_true rfl) dL_law_353 ⟨Nat.le_refl _, Nat.le_refl _⟩) (fun H locs Y => ?_)
        refine lv_icmp_eq (tgt := 591) hx hb dL_law_356 (by decide) (fun c => ?_) (fun c => ?_)
        · have hf := ite_t c hf
          refine lv_iinc (v := _ + (3 : Int32)) (lv' := [(3, _), (0, _), (1, _), (2, _)]) hx hb dL_law_591 hl (k := 3) rfl rfl (by decide) rfl (fun ls hl => ?_)
          refine lv_goto (tgt := 18) hx hb dL_law_594 (by decide) ?_
          exact ih _ _ _ _ _ hf Y (lv_sub hl [1, 2, 3, 0] rfl)
        · have hf := ite_f c hf
          refine lv_iconst (v := 0) hx hb dL_law_359 (by decide) ?_
          exact law_no hf hr1
      have hf := ite_f c63 hf
      by_cases c66 : (xs v3.toNatClampNeg) &&& (31 : Int32) = (9 : Int32)
      · have hf := ite_t c66 hf
        refine x_tab (off := 329) (tgt := 361) hx hb c66 dL_law_32 (by decide) (by decide) ?_
        refine lv_aload_n hx hb dL_law_361 rfl (lv_at hl 1 rfl) ?_
        refine lv_aload_n hx hb dL_law_362 rfl (lv_at hl 0 rfl) ?_
        refine lv_iload_n hx hb dL_law_363 rfl (lv_at hl 3 rfl) ?_
        refine lv_iconst (v := 1) hx hb dL_law_364 (by decide) ?_
        refine lv_iadd hx hb dL_law_365 ?_
        obtain ⟨hin, hf⟩ := oob_t hf
        refine va_sld hx hb hX hbl hbA Y.2.1 hin dL_law_366 ?_
        obtain ⟨q67, hq, hf⟩ := bnd_t hf
        refine x_ci Y (x_rV (rest := []) X Y k_L_52 (c_X5_bestLevel X.hg hq) cl_5.1 rfl (by decide) rfl ⟨rfl, rfl⟩ ⟨by decide, by decide⟩ hl.1 rfl (Nat.le_of_ble_eq_true rfl) dL_law_367 ⟨Nat.le_refl _, Nat.le_refl _⟩) (fun H locs Y => ?_)
        refine lv_aload_n hx hb dL_law_370 rfl (lv_at hl 2 rfl) ?_
        refine lv_aload_n hx hb dL_law_371 rfl (lv_at hl 0 rfl) ?_
        refine lv_iload_n hx hb dL_law_372 rfl (lv_at hl 3 rfl) ?_
        refine lv_iconst (v := 1) hx hb dL_law_373 (by decide) ?_
        refine lv_iadd hx hb dL_law_374 ?_
        obtain ⟨hin, hf⟩ := oob_t hf
        refine va_sld hx hb hX hbl hbA Y.2.1 hin dL_law_375 ?_
        obtain ⟨q68, hq, hf⟩ := bnd_t hf
        refine x_ci Y (x_rV (rest := [_]) X Y k_L_55 (c_X6_bestLevel X.hg hq) cl_6.1 rfl (by decide) rfl ⟨rfl, rfl⟩ ⟨by decide, by decide⟩ hl.1 rfl (Nat.le_of_ble_eq_true rfl) dL_law_376 ⟨Nat.le_refl _, Nat.le_refl _⟩) (fun H locs Y => ?_)
        refine lv_icmp_eq (tgt := 591) hx hb dL_law_379 (by decide) (fun c => ?_) (fun c => ?_)
        · have hf := ite_t c hf
          refine lv_iinc (v := _ + (3 : Int32)) (lv' := [(3, _), (0, _), (1, _), (2, _)]) hx hb dL_law_591 hl (k := 3) rfl rfl (by decide) rfl (fun ls hl => ?_)
          refine lv_goto (tgt := 18) hx hb dL_law_594 (by decide) ?_
          exact ih _ _ _ _ _ hf Y (lv_sub hl [1, 2, 3, 0] rfl)
        · have hf := ite_f c hf
          refine lv_iconst (v := 0) hx hb dL_law_382 (by decide) ?_
          exact law_no hf hr1
      have hf := ite_f c66 hf
      by_cases c69 : (xs v3.toNatClampNeg) &&& (31 : Int32) = (10 : Int32)
      · have hf := ite_t c69 hf
        refine x_tab (off := 352) (tgt := 384) hx hb c69 dL_law_32 (by decide) (by decide) ?_
        refine lv_aload_n hx hb dL_law_384 rfl (lv_at hl 1 rfl) ?_
        refine lv_aload_n hx hb dL_law_385 rfl (lv_at hl 0 rfl) ?_
        refine lv_iload_n hx hb dL_law_386 rfl (lv_at hl 3 rfl) ?_
        refine lv_iconst (v := 1) hx hb dL_law_387 (by decide) ?_
        refine lv_iadd hx hb dL_law_388 ?_
        obtain ⟨hin, hf⟩ := oob_t hf
        refine va_sld hx hb hX hbl hbA Y.2.1 hin dL_law_389 ?_
        refine lv_aload_n hx hb dL_law_390 rfl (lv_at hl 0 rfl) ?_
        refine lv_iload_n hx hb dL_law_391 rfl (lv_at hl 3 rfl) ?_
        refine lv_iconst (v := 2) hx hb dL_law_392 (by decide) ?_
        refine lv_iadd hx hb dL_law_393 ?_
        obtain ⟨hin, hf⟩ := oob_t hf
        refine va_sld hx hb hX hbl hbA Y.2.1 hin dL_law_394 ?_
        obtain ⟨q70, hq, hf⟩ := bnd_t hf
        refine x_ci Y (x_rV (rest := []) X Y k_L_56 (c_X5_unlike X.hg hq) cl_5.1 rfl (by decide) rfl ⟨rfl, rfl⟩ ⟨by decide, by decide⟩ hl.1 rfl (Nat.le_of_ble_eq_true rfl) dL_law_395 ⟨Nat.le_refl _, Nat.le_refl _⟩) (fun H locs Y => ?_)
        refine lv_aload_n hx hb dL_law_398 rfl (lv_at hl 2 rfl) ?_
        refine lv_aload_n hx hb dL_law_399 rfl (lv_at hl 0 rfl) ?_
        refine lv_iload_n hx hb dL_law_400 rfl (lv_at hl 3 rfl) ?_
        refine lv_iconst (v := 1) hx hb dL_law_401 (by decide) ?_
        refine lv_iadd hx hb dL_law_402 ?_
        obtain ⟨hin, hf⟩ := oob_t hf
        refine va_sld hx hb hX hbl hbA Y.2.1 hin dL_law_403 ?_
        refine lv_aload_n hx hb dL_law_404 rfl (lv_at hl 0 rfl) ?_
        refine lv_iload_n hx hb dL_law_405 rfl (lv_at hl 3 rfl) ?_
        refine lv_iconst (v := 2) hx hb dL_law_406 (by decide) ?_
        refine lv_iadd hx hb dL_law_407 ?_
        obtain ⟨hin, hf⟩ := oob_t hf
        refine va_sld hx hb hX hbl hbA Y.2.1 hin dL_law_408 ?_
        obtain ⟨q71, hq, hf⟩ := bnd_t hf
        refine x_ci Y (x_rV (rest := [_]) X Y k_L_59 (c_X6_unlike X.hg hq) cl_6.1 rfl (by decide) rfl ⟨rfl, rfl⟩ ⟨by decide, by decide⟩ hl.1 rfl (Nat.le_of_ble_eq_true rfl) dL_law_409 ⟨Nat.le_refl _, Nat.le_refl _⟩) (fun H locs Y => ?_)
        refine lv_icmp_eq (tgt := 591) hx hb dL_law_412 (by decide) (fun c => ?_) (fun c => ?_)
        · have hf := ite_t c hf
          refine lv_iinc (v := _ + (3 : Int32)) (lv' := [(3, _), (0, _), (1, _), (2, _)]) hx hb dL_law_591 hl (k := 3) rfl rfl (by decide) rfl (fun ls hl => ?_)
          refine lv_goto (tgt := 18) hx hb dL_law_594 (by decide) ?_
          exact ih _ _ _ _ _ hf Y (lv_sub hl [1, 2, 3, 0] rfl)
        · have hf := ite_f c hf
          refine lv_iconst (v := 0) hx hb dL_law_415 (by decide) ?_
          exact law_no hf hr1
      have hf := ite_f c69 hf
      by_cases c72 : (xs v3.toNatClampNeg) &&& (31 : Int32) = (11 : Int32)
      · have hf := ite_t c72 hf
        refine x_tab (off := 385) (tgt := 417) hx hb c72 dL_law_32 (by decide) (by decide) ?_
        refine lv_aload_n hx hb dL_law_417 rfl (lv_at hl 1 rfl) ?_
        refine lv_aload_n hx hb dL_law_418 rfl (lv_at hl 0 rfl) ?_
        refine lv_iload_n hx hb dL_law_419 rfl (lv_at hl 3 rfl) ?_
        refine lv_iconst (v := 1) hx hb dL_law_420 (by decide) ?_
        refine lv_iadd hx hb dL_law_421 ?_
        obtain ⟨hin, hf⟩ := oob_t hf
        refine va_sld hx hb hX hbl hbA Y.2.1 hin dL_law_422 ?_
        obtain ⟨q73, hq, hf⟩ := bnd_t hf
        refine x_ci Y (x_rV (rest := []) X Y k_L_60 (c_X5_nearest X.hg hq) cl_5.1 rfl (by decide) rfl ⟨rfl, rfl⟩ ⟨by decide, by decide⟩ hl.1 rfl (Nat.le_of_ble_eq_true rfl) dL_law_423 ⟨Nat.le_refl _, Nat.le_refl _⟩) (fun H locs Y => ?_)
        refine lv_aload_n hx hb dL_law_426 rfl (lv_at hl 2 rfl) ?_
        refine lv_aload_n hx hb dL_law_427 rfl (lv_at hl 0 rfl) ?_
        refine lv_iload_n hx hb dL_law_428 rfl (lv_at hl 3 rfl) ?_
        refine lv_iconst (v := 1) hx hb dL_law_429 (by decide) ?_
        refine lv_iadd hx hb dL_law_430 ?_
        obtain ⟨hin, hf⟩ := oob_t hf
        refine va_sld hx hb hX hbl hbA Y.2.1 hin dL_law_431 ?_
        obtain ⟨q74, hq, hf⟩ := bnd_t hf
        refine x_ci Y (x_rV (rest := [_]) X Y k_L_63 (c_X6_nearest X.hg hq) cl_6.1 rfl (by decide) rfl ⟨rfl, rfl⟩ ⟨by decide, by decide⟩ hl.1 rfl (Nat.le_of_ble_eq_true rfl) dL_law_432 ⟨Nat.le_refl _, Nat.le_refl _⟩) (fun H locs Y => ?_)
        refine lv_icmp_eq (tgt := 591) hx hb dL_law_435 (by decide) (fun c => ?_) (fun c => ?_)
        · have hf := ite_t c hf
          refine lv_iinc (v := _ + (3 : Int32)) (lv' := [(3, _), (0, _), (1, _), (2, _)]) hx hb dL_law_591 hl (k := 3) rfl rfl (by decide) rfl (fun ls hl => ?_)
          refine lv_goto (tgt := 18) hx hb dL_law_594 (by decide) ?_
          exact ih _ _ _ _ _ hf Y (lv_sub hl [1, 2, 3, 0] rfl)
        · have hf := ite_f c hf
          refine lv_iconst (v := 0) hx hb dL_law_438 (by decide) ?_
          exact law_no hf hr1
      have hf := ite_f c72 hf
      by_cases c75 : (xs v3.toNatClampNeg) &&& (31 : Int32) = (12 : Int32)
      · have hf := ite_t c75 hf
        refine x_tab (off := 408) (tgt := 440) hx hb c75 dL_law_32 (by decide) (by decide) ?_
        refine lv_aload_n hx hb dL_law_440 rfl (lv_at hl 1 rfl) ?_
        refine lv_aload_n hx hb dL_law_441 rfl (lv_at hl 0 rfl) ?_
        refine lv_iload_n hx hb dL_law_442 rfl (lv_at hl 3 rfl) ?_
        refine lv_iconst (v := 1) hx hb dL_law_443 (by decide) ?_
        refine lv_iadd hx hb dL_law_444 ?_
        obtain ⟨hin, hf⟩ := oob_t hf
        refine va_sld hx hb hX hbl hbA Y.2.1 hin dL_law_445 ?_
        refine lv_i2l hx hb dL_law_446 rfl ?_
        refine lv_bipush (v := 32) hx hb dL_law_447 (by decide) ?_
        refine lv_lshl hx hb dL_law_449 rfl ?_
        refine lv_aload_n hx hb dL_law_450 rfl (lv_at hl 0 rfl) ?_
        refine lv_iload_n hx hb dL_law_451 rfl (lv_at hl 3 rfl) ?_
        refine lv_iconst (v := 2) hx hb dL_law_452 (by decide) ?_
        refine lv_iadd hx hb dL_law_453 ?_
        obtain ⟨hin, hf⟩ := oob_t hf
        refine va_sld hx hb hX hbl hbA Y.2.1 hin dL_law_454 ?_
        refine lv_i2l hx hb dL_law_455 rfl ?_
        refine lv_ldc2 (v := 4294967295) hx hb X.1.2.2.2.1 (X.w wk_L_64) dL_law_456 ?_
        refine lv_land hx hb dL_law_459 ?_
        refine lv_lor hx hb dL_law_460 ?_
        obtain ⟨q76, hq, hf⟩ := bnd_t hf
        refine x_ci Y (x_rV (rest := []) X Y k_L_66 (c_X5_put X.hg hq) cl_5.1 rfl (by decide) rfl ⟨rfl, rfl⟩ ⟨by decide, by decide⟩ hl.1 rfl (Nat.le_of_ble_eq_true rfl) dL_law_461 ⟨Nat.le_refl _, Nat.le_refl _⟩) (fun H locs Y => ?_)
        refine lv_aload_n hx hb dL_law_464 rfl (lv_at hl 2 rfl) ?_
        refine lv_aload_n hx hb dL_law_465 rfl (lv_at hl 0 rfl) ?_
        refine lv_iload_n hx hb dL_law_466 rfl (lv_at hl 3 rfl) ?_
        refine lv_iconst (v := 1) hx hb dL_law_467 (by decide) ?_
        refine lv_iadd hx hb dL_law_468 ?_
        obtain ⟨hin, hf⟩ := oob_t hf
        refine va_sld hx hb hX hbl hbA Y.2.1 hin dL_law_469 ?_
        refine lv_i2l hx hb dL_law_470 rfl ?_
        refine lv_bipush (v := 32) hx hb dL_law_471 (by decide) ?_
        refine lv_lshl hx hb dL_law_473 rfl ?_
        refine lv_aload_n hx hb dL_law_474 rfl (lv_at hl 0 rfl) ?_
        refine lv_iload_n hx hb dL_law_475 rfl (lv_at hl 3 rfl) ?_
        refine lv_iconst (v := 2) hx hb dL_law_476 (by decide) ?_
        refine lv_iadd hx hb dL_law_477 ?_
        obtain ⟨hin, hf⟩ := oob_t hf
        refine va_sld hx hb hX hbl hbA Y.2.1 hin dL_law_478 ?_
        refine lv_i2l hx hb dL_law_479 rfl ?_
        refine lv_ldc2 (v := 4294967295) hx hb X.1.2.2.2.1 (X.w wk_L_64) dL_law_480 ?_
        refine lv_land hx hb dL_law_483 ?_
        refine lv_lor hx hb dL_law_484 ?_
        obtain ⟨q77, hq, hf⟩ := bnd_t hf
        refine x_ci Y (x_rV (rest := [_]) X Y k_L_70 (c_X6_put X.hg hq) cl_6.1 rfl (by decide) rfl ⟨rfl, rfl⟩ ⟨by decide, by decide⟩ hl.1 rfl (Nat.le_of_ble_eq_true rfl) dL_law_485 ⟨Nat.le_refl _, Nat.le_refl _⟩) (fun H locs Y => ?_)
        refine lv_icmp_eq (tgt := 591) hx hb dL_law_488 (by decide) (fun c => ?_) (fun c => ?_)
        · have hf := ite_t c hf
          refine lv_iinc (v := _ + (3 : Int32)) (lv' := [(3, _), (0, _), (1, _), (2, _)]) hx hb dL_law_591 hl (k := 3) rfl rfl (by decide) rfl (fun ls hl => ?_)
          refine lv_goto (tgt := 18) hx hb dL_law_594 (by decide) ?_
          exact ih _ _ _ _ _ hf Y (lv_sub hl [1, 2, 3, 0] rfl)
        · have hf := ite_f c hf
          refine lv_iconst (v := 0) hx hb dL_law_491 (by decide) ?_
          exact law_no hf hr1
      have hf := ite_f c75 hf
      by_cases c78 : (xs v3.toNatClampNeg) &&& (31 : Int32) = (13 : Int32)
      · have hf := ite_t c78 hf
        refine x_tab (off := 461) (tgt := 493) hx hb c78 dL_law_32 (by decide) (by decide) ?_
        refine lv_aload_n hx hb dL_law_493 rfl (lv_at hl 1 rfl) ?_
        obtain ⟨q79, hq, hf⟩ := bnd_t hf
        refine x_ci Y (x_rV (rest := []) X Y k_L_71 (c_X5_wipe X.hg hq) cl_5.1 rfl (by decide) rfl ⟨rfl, rfl⟩ ⟨by decide, by decide⟩ hl.1 rfl (Nat.le_of_ble_eq_true rfl) dL_law_494 ⟨Nat.le_refl _, Nat.le_refl _⟩) (fun H locs Y => ?_)
        refine lv_aload_n hx hb dL_law_497 rfl (lv_at hl 2 rfl) ?_
        obtain ⟨q80, hq, hf⟩ := bnd_t hf
        refine x_ci Y (x_rV (rest := [_]) X Y k_L_74 (c_X6_wipe X.hg hq) cl_6.1 rfl (by decide) rfl ⟨rfl, rfl⟩ ⟨by decide, by decide⟩ hl.1 rfl (Nat.le_of_ble_eq_true rfl) dL_law_498 ⟨Nat.le_refl _, Nat.le_refl _⟩) (fun H locs Y => ?_)
        refine lv_icmp_eq (tgt := 591) hx hb dL_law_501 (by decide) (fun c => ?_) (fun c => ?_)
        · have hf := ite_t c hf
          refine lv_iinc (v := _ + (3 : Int32)) (lv' := [(3, _), (0, _), (1, _), (2, _)]) hx hb dL_law_591 hl (k := 3) rfl rfl (by decide) rfl (fun ls hl => ?_)
          refine lv_goto (tgt := 18) hx hb dL_law_594 (by decide) ?_
          exact ih _ _ _ _ _ hf Y (lv_sub hl [1, 2, 3, 0] rfl)
        · have hf := ite_f c hf
          refine lv_iconst (v := 0) hx hb dL_law_504 (by decide) ?_
          exact law_no hf hr1
      have hf := ite_f c78 hf
      by_cases c81 : (xs v3.toNatClampNeg) &&& (31 : Int32) = (14 : Int32)
      · have hf := ite_t c81 hf
        refine x_tab (off := 474) (tgt := 506) hx hb c81 dL_law_32 (by decide) (by decide) ?_
        refine lv_aload_n hx hb dL_law_506 rfl (lv_at hl 1 rfl) ?_
        obtain ⟨q82, hq, hf⟩ := bnd_t hf
        refine x_ci Y (x_rV (rest := []) X Y k_L_75 (c_X5_fault X.hg hq) cl_5.1 rfl (by decide) rfl ⟨rfl, rfl⟩ ⟨by decide, by decide⟩ hl.1 rfl (Nat.le_of_ble_eq_true rfl) dL_law_507 ⟨Nat.le_refl _, Nat.le_refl _⟩) (fun H locs Y => ?_)
        refine lv_aload_n hx hb dL_law_510 rfl (lv_at hl 2 rfl) ?_
        obtain ⟨q83, hq, hf⟩ := bnd_t hf
        refine x_ci Y (x_rV (rest := [_]) X Y k_L_78 (c_X6_fault X.hg hq) cl_6.1 rfl (by decide) rfl ⟨rfl, rfl⟩ ⟨by decide, by decide⟩ hl.1 rfl (Nat.le_of_ble_eq_true rfl) dL_law_511 ⟨Nat.le_refl _, Nat.le_refl _⟩) (fun H locs Y => ?_)
        refine lv_icmp_eq (tgt := 591) hx hb dL_law_514 (by decide) (fun c => ?_) (fun c => ?_)
        · have hf := ite_t c hf
          refine lv_iinc (v := _ + (3 : Int32)) (lv' := [(3, _), (0, _), (1, _), (2, _)]) hx hb dL_law_591 hl (k := 3) rfl rfl (by decide) rfl (fun ls hl => ?_)
          refine lv_goto (tgt := 18) hx hb dL_law_594 (by decide) ?_
          exact ih _ _ _ _ _ hf Y (lv_sub hl [1, 2, 3, 0] rfl)
        · have hf := ite_f c hf
          refine lv_iconst (v := 0) hx hb dL_law_517 (by decide) ?_
          exact law_no hf hr1
      have hf := ite_f c81 hf
      by_cases c84 : (xs v3.toNatClampNeg) &&& (31 : Int32) = (15 : Int32)
      · have hf := ite_t c84 hf
        refine x_tab (off := 487) (tgt := 519) hx hb c84 dL_law_32 (by decide) (by decide) ?_
        refine lv_aload_n hx hb dL_law_519 rfl (lv_at hl 1 rfl) ?_
        obtain ⟨q85, hq, hf⟩ := bnd_t hf
        refine x_ci Y (x_rV (rest := []) X Y k_L_79 (c_X5_carryOut X.hg hq) cl_5.1 rfl (by decide) rfl ⟨rfl, rfl⟩ ⟨by decide, by decide⟩ hl.1 rfl (Nat.le_of_ble_eq_true rfl) dL_law_520 ⟨Nat.le_refl _, Nat.le_refl _⟩) (fun H locs Y => ?_)
        refine lv_aload_n hx hb dL_law_523 rfl (lv_at hl 2 rfl) ?_
        obtain ⟨q86, hq, hf⟩ := bnd_t hf
        refine x_ci Y (x_rV (rest := [_]) X Y k_L_82 (c_X6_carryOut X.hg hq) cl_6.1 rfl (by decide) rfl ⟨rfl, rfl⟩ ⟨by decide, by decide⟩ hl.1 rfl (Nat.le_of_ble_eq_true rfl) dL_law_524 ⟨Nat.le_refl _, Nat.le_refl _⟩) (fun H locs Y => ?_)
        refine lv_icmp_eq (tgt := 591) hx hb dL_law_527 (by decide) (fun c => ?_) (fun c => ?_)
        · have hf := ite_t c hf
          refine lv_iinc (v := _ + (3 : Int32)) (lv' := [(3, _), (0, _), (1, _), (2, _)]) hx hb dL_law_591 hl (k := 3) rfl rfl (by decide) rfl (fun ls hl => ?_)
          refine lv_goto (tgt := 18) hx hb dL_law_594 (by decide) ?_
          exact ih _ _ _ _ _ hf Y (lv_sub hl [1, 2, 3, 0] rfl)
        · have hf := ite_f c hf
          refine lv_iconst (v := 0) hx hb dL_law_530 (by decide) ?_
          exact law_no hf hr1
      have hf := ite_f c84 hf
      by_cases c87 : (xs v3.toNatClampNeg) &&& (31 : Int32) = (16 : Int32)
      · have hf := ite_t c87 hf
        refine x_tab (off := 500) (tgt := 532) hx hb c87 dL_law_32 (by decide) (by decide) ?_
        refine lv_aload_n hx hb dL_law_532 rfl (lv_at hl 1 rfl) ?_
        obtain ⟨q88, hq, hf⟩ := bnd_t hf
        refine x_ci Y (x_rV (rest := []) X Y k_L_83 (c_X5_undo X.hg hq) cl_5.1 rfl (by decide) rfl ⟨rfl, rfl⟩ ⟨by decide, by decide⟩ hl.1 rfl (Nat.le_of_ble_eq_true rfl) dL_law_533 ⟨Nat.le_refl _, Nat.le_refl _⟩) (fun H locs Y => ?_)
        refine lv_aload_n hx hb dL_law_536 rfl (lv_at hl 2 rfl) ?_
        obtain ⟨q89, hq, hf⟩ := bnd_t hf
        refine x_ci Y (x_rV (rest := [_]) X Y k_L_86 (c_X6_undo X.hg hq) cl_6.1 rfl (by decide) rfl ⟨rfl, rfl⟩ ⟨by decide, by decide⟩ hl.1 rfl (Nat.le_of_ble_eq_true rfl) dL_law_537 ⟨Nat.le_refl _, Nat.le_refl _⟩) (fun H locs Y => ?_)
        refine lv_icmp_eq (tgt := 591) hx hb dL_law_540 (by decide) (fun c => ?_) (fun c => ?_)
        · have hf := ite_t c hf
          refine lv_iinc (v := _ + (3 : Int32)) (lv' := [(3, _), (0, _), (1, _), (2, _)]) hx hb dL_law_591 hl (k := 3) rfl rfl (by decide) rfl (fun ls hl => ?_)
          refine lv_goto (tgt := 18) hx hb dL_law_594 (by decide) ?_
          exact ih _ _ _ _ _ hf Y (lv_sub hl [1, 2, 3, 0] rfl)
        · have hf := ite_f c hf
          refine lv_iconst (v := 0) hx hb dL_law_543 (by decide) ?_
          exact law_no hf hr1
      have hf := ite_f c87 hf
      by_cases c90 : (xs v3.toNatClampNeg) &&& (31 : Int32) = (17 : Int32)
      · have hf := ite_t c90 hf
        refine x_tab (off := 513) (tgt := 545) hx hb c90 dL_law_32 (by decide) (by decide) ?_
        refine lv_aload_n hx hb dL_law_545 rfl (lv_at hl 1 rfl) ?_
        refine lv_aload_n hx hb dL_law_546 rfl (lv_at hl 0 rfl) ?_
        refine lv_iload_n hx hb dL_law_547 rfl (lv_at hl 3 rfl) ?_
        refine lv_iconst (v := 1) hx hb dL_law_548 (by decide) ?_
        refine lv_iadd hx hb dL_law_549 ?_
        obtain ⟨hin, hf⟩ := oob_t hf
        refine va_sld hx hb hX hbl hbA Y.2.1 hin dL_law_550 ?_
        obtain ⟨q91, hq, hf⟩ := bnd_t hf
        refine x_ci Y (x_rV (rest := []) X Y k_L_87 (c_X5_save X.hg hq) cl_5.1 rfl (by decide) rfl ⟨rfl, rfl⟩ ⟨by decide, by decide⟩ hl.1 rfl (Nat.le_of_ble_eq_true rfl) dL_law_551 ⟨Nat.le_refl _, Nat.le_refl _⟩) (fun H locs Y => ?_)
        refine lv_aload_n hx hb dL_law_554 rfl (lv_at hl 2 rfl) ?_
        refine lv_aload_n hx hb dL_law_555 rfl (lv_at hl 0 rfl) ?_
        refine lv_iload_n hx hb dL_law_556 rfl (lv_at hl 3 rfl) ?_
        refine lv_iconst (v := 1) hx hb dL_law_557 (by decide) ?_
        refine lv_iadd hx hb dL_law_558 ?_
        obtain ⟨hin, hf⟩ := oob_t hf
        refine va_sld hx hb hX hbl hbA Y.2.1 hin dL_law_559 ?_
        obtain ⟨q92, hq, hf⟩ := bnd_t hf
        refine x_ci Y (x_rV (rest := [_]) X Y k_L_90 (c_X6_save X.hg hq) cl_6.1 rfl (by decide) rfl ⟨rfl, rfl⟩ ⟨by decide, by decide⟩ hl.1 rfl (Nat.le_of_ble_eq_true rfl) dL_law_560 ⟨Nat.le_refl _, Nat.le_refl _⟩) (fun H locs Y => ?_)
        refine lv_icmp_eq (tgt := 591) hx hb dL_law_563 (by decide) (fun c => ?_) (fun c => ?_)
        · have hf := ite_t c hf
          refine lv_iinc (v := _ + (3 : Int32)) (lv' := [(3, _), (0, _), (1, _), (2, _)]) hx hb dL_law_591 hl (k := 3) rfl rfl (by decide) rfl (fun ls hl => ?_)
          refine lv_goto (tgt := 18) hx hb dL_law_594 (by decide) ?_
          exact ih _ _ _ _ _ hf Y (lv_sub hl [1, 2, 3, 0] rfl)
        · have hf := ite_f c hf
          refine lv_iconst (v := 0) hx hb dL_law_566 (by decide) ?_
          exact law_no hf hr1
      have hf := ite_f c90 hf
      by_cases c93 : (xs v3.toNatClampNeg) &&& (31 : Int32) = (18 : Int32)
      · have hf := ite_t c93 hf
        refine x_tab (off := 536) (tgt := 568) hx hb c93 dL_law_32 (by decide) (by decide) ?_
        refine lv_aload_n hx hb dL_law_568 rfl (lv_at hl 1 rfl) ?_
        refine lv_aload_n hx hb dL_law_569 rfl (lv_at hl 0 rfl) ?_
        refine lv_iload_n hx hb dL_law_570 rfl (lv_at hl 3 rfl) ?_
        refine lv_iconst (v := 1) hx hb dL_law_571 (by decide) ?_
        refine lv_iadd hx hb dL_law_572 ?_
        obtain ⟨hin, hf⟩ := oob_t hf
        refine va_sld hx hb hX hbl hbA Y.2.1 hin dL_law_573 ?_
        obtain ⟨q94, hq, hf⟩ := bnd_t hf
        refine x_ci Y (x_rV (rest := []) X Y k_L_91 (c_X5_restore X.hg hq) cl_5.1 rfl (by decide) rfl ⟨rfl, rfl⟩ ⟨by decide, by decide⟩ hl.1 rfl (Nat.le_of_ble_eq_true rfl) dL_law_574 ⟨Nat.le_refl _, Nat.le_refl _⟩) (fun H locs Y => ?_)
        refine lv_aload_n hx hb dL_law_577 rfl (lv_at hl 2 rfl) ?_
        refine lv_aload_n hx hb dL_law_578 rfl (lv_at hl 0 rfl) ?_
        refine lv_iload_n hx hb dL_law_579 rfl (lv_at hl 3 rfl) ?_
        refine lv_iconst (v := 1) hx hb dL_law_580 (by decide) ?_
        refine lv_iadd hx hb dL_law_581 ?_
        obtain ⟨hin, hf⟩ := oob_t hf
        refine va_sld hx hb hX hbl hbA Y.2.1 hin dL_law_582 ?_
        obtain ⟨q95, hq, hf⟩ := bnd_t hf
        refine x_ci Y (x_rV (rest := [_]) X Y k_L_94 (c_X6_restore X.hg hq) cl_6.1 rfl (by decide) rfl ⟨rfl, rfl⟩ ⟨by decide, by decide⟩ hl.1 rfl (Nat.le_of_ble_eq_true rfl) dL_law_583 ⟨Nat.le_refl _, Nat.le_refl _⟩) (fun H locs Y => ?_)
        refine lv_icmp_eq (tgt := 591) hx hb dL_law_586 (by decide) (fun c => ?_) (fun c => ?_)
        · have hf := ite_t c hf
          refine lv_iinc (v := _ + (3 : Int32)) (lv' := [(3, _), (0, _), (1, _), (2, _)]) hx hb dL_law_591 hl (k := 3) rfl rfl (by decide) rfl (fun ls hl => ?_)
          refine lv_goto (tgt := 18) hx hb dL_law_594 (by decide) ?_
          exact ih _ _ _ _ _ hf Y (lv_sub hl [1, 2, 3, 0] rfl)
        · have hf := ite_f c hf
          refine lv_iconst (v := 0) hx hb dL_law_589 (by decide) ?_
          exact law_no hf hr1
      have hf := ite_f c93 hf
      refine lv_tableOut (tgt := 591) hx hb dL_law_32 (by have := lv_neT c39 (a := 0) (by decide); have := lv_neT c42 (a := 1) (by decide); have := lv_neT c45 (a := 2) (by decide); have := lv_neT c48 (a := 3) (by decide); have := lv_neT c51 (a := 4) (by decide); have := lv_neT c54 (a := 5) (by decide); have := lv_neT c57 (a := 6) (by decide); have := lv_neT c60 (a := 7) (by decide); have := lv_neT c63 (a := 8) (by decide); have := lv_neT c66 (a := 9) (by decide); have := lv_neT c69 (a := 10) (by decide); have := lv_neT c72 (a := 11) (by decide); have := lv_neT c75 (a := 12) (by decide); have := lv_neT c78 (a := 13) (by decide); have := lv_neT c81 (a := 14) (by decide); have := lv_neT c84 (a := 15) (by decide); have := lv_neT c87 (a := 16) (by decide); have := lv_neT c90 (a := 17) (by decide); have := lv_neT c93 (a := 18) (by decide); omega) (by decide) ?_
      refine lv_iinc (v := _ + (3 : Int32)) (lv' := [(3, _), (0, _), (1, _), (2, _)]) hx hb dL_law_591 hl (k := 3) rfl rfl (by decide) rfl (fun ls hl => ?_)
      refine lv_goto (tgt := 18) hx hb dL_law_594 (by decide) ?_
      exact ih _ _ _ _ _ hf Y (lv_sub hl [1, 2, 3, 0] rfl)
