def f_L_areAlike_L269_b (kk : Int32 → Int32 → HJ → Option (Int32 × HJ)) (v3 : Int32) (v5 : Int32) (k : Int32 → Int32 → HJ → Option (Int32 × HJ)) (v4 : Int32) (v6 : Int32) (I : HJ) : Option (Int32 × HJ) :=
  if v3 ≤ v6 then
    kk v4 (v5 + (1 : Int32)) I
  else
    if v4 = (0 : Int32) then none else
    (f_X5_unlike v5 v6 I.1).bind fun q26 =>
    (f_X5_unlike v5 v6 I.2).bind fun q27 =>
    if ¬ (q26.1 = q27.1) then none else
    k (1 : Int32) (v6 + (1 : Int32)) (q26.2, q27.2)
def f_L_areAlike_L269 (kk : Int32 → Int32 → HJ → Option (Int32 × HJ)) (v3 : Int32) (v5 : Int32) : Nat → Int32 → Int32 → HJ → Option (Int32 × HJ)
  | 0, _, _, _ => none
  | n + 1, v4, v6, I => f_L_areAlike_L269_b kk v3 v5 (f_L_areAlike_L269 kk v3 v5 n) v4 v6 I
def f_L_areAlike_L86_b (v3 : Int32) (k : Int32 → Int32 → HJ → Option (Int32 × HJ)) (v4 : Int32) (v5 : Int32) (I : HJ) : Option (Int32 × HJ) :=
  if v3 ≤ v5 then
    if v4 = 0 ∨ v4 = 1 then some (v4, I) else none
  else
    if v4 = (0 : Int32) then none else
    (f_X5_segment v5 (0 : Int32) I.1).bind fun q28 =>
    (f_X5_segment v5 (0 : Int32) I.2).bind fun q29 =>
    if ¬ (q28.1 = q29.1) then none else
    (f_X5_segment v5 (1 : Int32) q28.2).bind fun q30 =>
    (f_X5_segment v5 (1 : Int32) q29.2).bind fun q31 =>
    if ¬ (q30.1 = q31.1) then none else
    (f_X5_segment v5 (2 : Int32) q30.2).bind fun q32 =>
    (f_X5_segment v5 (2 : Int32) q31.2).bind fun q33 =>
    if ¬ (q32.1 = q33.1) then none else
    (f_X5_segment v5 (3 : Int32) q32.2).bind fun q34 =>
    (f_X5_segment v5 (3 : Int32) q33.2).bind fun q35 =>
    if ¬ (q34.1 = ((1 : Int32) - q35.1)) then none else
    (f_X5_segment v5 (4 : Int32) q34.2).bind fun q36 =>
    (f_X5_segment v5 (5 : Int32) q35.2).bind fun q37 =>
    if ¬ ((q36.1 - (1000 : Int32)) = ((1000 : Int32) - q37.1)) then none else
    (f_X5_segment v5 (5 : Int32) q36.2).bind fun q38 =>
    (f_X5_segment v5 (4 : Int32) q37.2).bind fun q39 =>
    if ¬ ((q38.1 - (1000 : Int32)) = ((1000 : Int32) - q39.1)) then none else
    (f_X5_segment v5 (6 : Int32) q38.2).bind fun q40 =>
    (f_X5_segment v5 (6 : Int32) q39.2).bind fun q41 =>
    if ¬ ((q40.1 - (10000 : Int32)) = ((10000 : Int32) - q41.1)) then none else
    (f_X5_nearest v5 q40.2).bind fun q42 =>
    (f_X5_nearest v5 q41.2).bind fun q43 =>
    if ¬ (q42.1 = q43.1) then none else
    f_L_areAlike_L269 k v3 v5 4000 (1 : Int32) (0 : Int32) (q42.2, q43.2)
def f_L_areAlike_L86 (v3 : Int32) : Nat → Int32 → Int32 → HJ → Option (Int32 × HJ)
  | 0, _, _, _ => none
  | n + 1, v4, v5, I => f_L_areAlike_L86_b v3 (f_L_areAlike_L86 v3 n) v4 v5 I
def f_L_areAlike_L43_b (v3 : Int32) (k : Int32 → Int32 → HJ → Option (Int32 × HJ)) (v4 : Int32) (v5 : Int32) (I : HJ) : Option (Int32 × HJ) :=
  if (10 : Int32) ≤ v5 then
    f_L_areAlike_L86 v3 4000 v4 (0 : Int32) I
  else
    if v4 = (0 : Int32) then none else
    (f_X5_count v5 I.1).bind fun q44 =>
    (f_X5_count v5 I.2).bind fun q45 =>
    if ¬ (q44.1 = q45.1) then none else
    k (1 : Int32) (v5 + (1 : Int32)) (q44.2, q45.2)
def f_L_areAlike_L43 (v3 : Int32) : Nat → Int32 → Int32 → HJ → Option (Int32 × HJ)
  | 0, _, _, _ => none
  | n + 1, v4, v5, I => f_L_areAlike_L43_b v3 (f_L_areAlike_L43 v3 n) v4 v5 I
def f_L_areAlike (v2 : Int32) (I : HJ) : Option (Int32 × HJ) :=
  (f_X5_count (1 : Int32) I.1).bind fun q46 =>
  (f_X5_fires v2 q46.2).bind fun q47 =>
  (f_X5_fires (-v2) I.2).bind fun q48 =>
  if ¬ (q47.1 = q48.1) then none else
  (f_X5_bestLevel (1 : Int32) q47.2).bind fun q49 =>
  (f_X5_bestLevel (1 : Int32) q48.2).bind fun q50 =>
  if ¬ (q49.1 = q50.1) then none else
  f_L_areAlike_L43 q46.1 4000 (1 : Int32) (0 : Int32) (q49.2, q50.2)
abbrev rm_L_areAlike : Room := { frames := 5, cells := 0, slots := 0, locals := 117 }
set_option maxHeartbeats 8000000 in
set_option maxRecDepth 100000 in
theorem c_L_areAlike {l : Launch} {g : GX} (hg : gOk g) (hh : gOk (gH g)) {v2 : Int32} {I : HJ} {r : Int32 × HJ} (hf : f_L_areAlike v2 I = some r) : Met l yL_areAlike (Cond.code yL_areAlike cL_areAlike 7 (some .boolean) :: WL) rm_L_areAlike (twP g [.ref (gR g 0), .ref (gR (gH g) 0), .int v2] I) (twQ g r.1 r.2) 0 0 (gB g) := by
  refine tw_met (by decide) hg hh (Nat.le_of_ble_eq_true rfl) (fun p e s m args below meth c X hr hlk Y ls hl => ?_)
  have hx := X.hx
  have hb := X.hb
  have hl : lv_has ls 7 [(0, .ref (gR g 0)), (1, .ref (gR (gH g) 0)), (2, .int v2)] := hl
  have hL269 : ∀ (v3 : Int32) (v5 : Int32) (kk : Int32 → Int32 → HJ → Option (Int32 × HJ)) (hkk : ∀ (v4' : Int32) (v5' : Int32) (I : HJ) (H : Heap) (locs : List Loc) (ls : Array Slot), kk v4' v5' I = some r → twD g I s H locs → lv_has ls 7 [(0, .ref (gR g 0)), (1, .ref (gR (gH g) 0)), (3, .int v3), (4, .int (v4')), (5, .int (v5'))] → W p l e rm_L_areAlike s m args below meth c H locs 0 0 (MQ below (twQ g r.1 r.2) args s 0 0 (gB g)) (F0 m 86 ls [])) (n : Nat) (v4 : Int32) (v6 : Int32) (I : HJ) (H : Heap) (locs : List Loc) (ls : Array Slot), f_L_areAlike_L269 kk v3 v5 n v4 v6 I = some r → twD g I s H locs → lv_has ls 7 [(0, .ref (gR g 0)), (1, .ref (gR (gH g) 0)), (3, .int v3), (4, .int v4), (5, .int v5), (6, .int v6)] → W p l e rm_L_areAlike s m args below meth c H locs 0 0 (MQ below (twQ g r.1 r.2) args s 0 0 (gB g)) (F0 m 269 ls []) := by
    intro v3 v5 kk hkk n
    induction n with
    | zero => intro v4 v6 I H locs ls hf Y hl; exact nn_t hf
    | succ n ih =>
      intro v4 v6 I H locs ls hf Y hl
      have hf : f_L_areAlike_L269_b kk v3 v5 (f_L_areAlike_L269 kk v3 v5 n) v4 v6 I = some r := hf
      unfold f_L_areAlike_L269_b at hf
      refine lv_iload hx hb dL_areAlike_269 (lv_at hl 5 rfl) ?_
      refine lv_iload_n hx hb dL_areAlike_271 rfl (lv_at hl 2 rfl) ?_
      refine lv_icmp_ge (tgt := 312) hx hb dL_areAlike_272 (by decide) (fun c => ?_) (fun c => ?_)
      · have hf := ite_t c hf
        refine lv_iinc (v := _ + (1 : Int32)) (lv' := [(5, _), (0, _), (1, _), (3, _), (4, _), (6, _)]) hx hb dL_areAlike_312 hl (k := 4) rfl rfl (by decide) rfl (fun ls hl => ?_)
        refine lv_goto (tgt := 86) hx hb dL_areAlike_315 (by decide) ?_
        exact hkk _ _ _ _ _ _ hf Y (lv_sub hl [1, 2, 3, 4, 0] rfl)
      · have hf := ite_f c hf
        refine lv_iload hx hb dL_areAlike_275 (lv_at hl 3 rfl) ?_
        refine lv_if_eq (tgt := 303) hx hb dL_areAlike_277 (by decide) (fun c => ?_) (fun c => ?_)
        · exact nn_t (ite_t c hf)
        have hf := ite_f c hf
        refine lv_aload_n hx hb dL_areAlike_280 rfl (lv_at hl 0 rfl) ?_
        refine lv_iload hx hb dL_areAlike_281 (lv_at hl 4 rfl) ?_
        refine lv_iload hx hb dL_areAlike_283 (lv_at hl 5 rfl) ?_
        obtain ⟨q26, hq, hf⟩ := bnd_t hf
        refine tw_cO X Y (tw_rO (rest := []) X Y k_L_52 (c_X5_unlike X.hg hq) rfl ⟨rfl, rfl⟩ ⟨by decide, by decide⟩ hl.1 rfl (Nat.le_of_ble_eq_true rfl) dL_areAlike_285 ⟨Nat.zero_le _, Nat.zero_le _⟩) (fun H locs Y => ?_)
        refine lv_aload_n hx hb dL_areAlike_288 rfl (lv_at hl 1 rfl) ?_
        refine lv_iload hx hb dL_areAlike_289 (lv_at hl 4 rfl) ?_
        refine lv_iload hx hb dL_areAlike_291 (lv_at hl 5 rfl) ?_
        obtain ⟨q27, hq, hf⟩ := bnd_t hf
        refine tw_cP X Y (tw_rP (rest := [_]) X Y k_L_52 (c_X5_unlike X.hh hq) rfl ⟨rfl, rfl⟩ ⟨by decide, by decide⟩ hl.1 rfl (Nat.le_of_ble_eq_true rfl) dL_areAlike_293 ⟨Nat.zero_le _, Nat.zero_le _⟩) (fun H locs Y => ?_)
        refine lv_icmp_ne (tgt := 303) hx hb dL_areAlike_296 (by decide) (fun c => ?_) (fun c => ?_)
        · exact nn_t (ite_t c hf)
        have hf := ite_f (not_not_intro c) hf
        refine lv_iconst (v := 1) hx hb dL_areAlike_299 (by decide) ?_
        refine lv_goto (tgt := 304) hx hb dL_areAlike_300 (by decide) ?_
        refine lv_istore (lv' := [(4, _), (0, _), (1, _), (3, _), (5, _), (6, _)]) hx hb dL_areAlike_304 hl (by decide) rfl (fun ls hl => ?_)
        refine lv_iinc (v := _ + (1 : Int32)) (lv' := [(6, _), (4, _), (0, _), (1, _), (3, _), (5, _)]) hx hb dL_areAlike_306 hl (k := 5) rfl rfl (by decide) rfl (fun ls hl => ?_)
        refine lv_goto (tgt := 269) hx hb dL_areAlike_309 (by decide) ?_
        exact ih _ _ _ _ _ _ hf Y (lv_sub hl [2, 3, 4, 1, 5, 0] rfl)
  have hL86 : ∀ (v3 : Int32) (n : Nat) (v4 : Int32) (v5 : Int32) (I : HJ) (H : Heap) (locs : List Loc) (ls : Array Slot), f_L_areAlike_L86 v3 n v4 v5 I = some r → twD g I s H locs → lv_has ls 7 [(0, .ref (gR g 0)), (1, .ref (gR (gH g) 0)), (3, .int v3), (4, .int v4), (5, .int v5)] → W p l e rm_L_areAlike s m args below meth c H locs 0 0 (MQ below (twQ g r.1 r.2) args s 0 0 (gB g)) (F0 m 86 ls []) := by
    intro v3 n
    induction n with
    | zero => intro v4 v5 I H locs ls hf Y hl; exact nn_t hf
    | succ n ih =>
      intro v4 v5 I H locs ls hf Y hl
      have hf : f_L_areAlike_L86_b v3 (f_L_areAlike_L86 v3 n) v4 v5 I = some r := hf
      unfold f_L_areAlike_L86_b at hf
      refine lv_iload hx hb dL_areAlike_86 (lv_at hl 4 rfl) ?_
      refine lv_iload_n hx hb dL_areAlike_88 rfl (lv_at hl 2 rfl) ?_
      refine lv_icmp_ge (tgt := 318) hx hb dL_areAlike_89 (by decide) (fun c => ?_) (fun c => ?_)
      · have hf := ite_t c hf
        refine lv_iload hx hb dL_areAlike_318 (lv_at hl 3 rfl) ?_
        obtain ⟨hz, hf⟩ := bool_t hf
        exact tw_zret X Y hr hlk hz hf dL_areAlike_320
      · have hf := ite_f c hf
        refine lv_iload hx hb dL_areAlike_92 (lv_at hl 3 rfl) ?_
        refine lv_if_eq (tgt := 318) hx hb dL_areAlike_94 (by decide) (fun c => ?_) (fun c => ?_)
        · exact nn_t (ite_t c hf)
        have hf := ite_f c hf
        refine lv_aload_n hx hb dL_areAlike_97 rfl (lv_at hl 0 rfl) ?_
        refine lv_iload hx hb dL_areAlike_98 (lv_at hl 4 rfl) ?_
        refine lv_iconst (v := 0) hx hb dL_areAlike_100 (by decide) ?_
        obtain ⟨q28, hq, hf⟩ := bnd_t hf
        refine tw_cO X Y (tw_rO (rest := []) X Y k_L_46 (c_X5_segment X.hg hq) rfl ⟨rfl, rfl⟩ ⟨by decide, by decide⟩ hl.1 rfl (Nat.le_of_ble_eq_true rfl) dL_areAlike_101 ⟨Nat.zero_le _, Nat.zero_le _⟩) (fun H locs Y => ?_)
        refine lv_aload_n hx hb dL_areAlike_104 rfl (lv_at hl 1 rfl) ?_
        refine lv_iload hx hb dL_areAlike_105 (lv_at hl 4 rfl) ?_
        refine lv_iconst (v := 0) hx hb dL_areAlike_107 (by decide) ?_
        obtain ⟨q29, hq, hf⟩ := bnd_t hf
        refine tw_cP X Y (tw_rP (rest := [_]) X Y k_L_46 (c_X5_segment X.hh hq) rfl ⟨rfl, rfl⟩ ⟨by decide, by decide⟩ hl.1 rfl (Nat.le_of_ble_eq_true rfl) dL_areAlike_108 ⟨Nat.zero_le _, Nat.zero_le _⟩) (fun H locs Y => ?_)
        refine lv_icmp_ne (tgt := 263) hx hb dL_areAlike_111 (by decide) (fun c => ?_) (fun c => ?_)
        · exact nn_t (ite_t c hf)
        have hf := ite_f (not_not_intro c) hf
        refine lv_aload_n hx hb dL_areAlike_114 rfl (lv_at hl 0 rfl) ?_
        refine lv_iload hx hb dL_areAlike_115 (lv_at hl 4 rfl) ?_
        refine lv_iconst (v := 1) hx hb dL_areAlike_117 (by decide) ?_
        obtain ⟨q30, hq, hf⟩ := bnd_t hf
        refine tw_cO X Y (tw_rO (rest := []) X Y k_L_46 (c_X5_segment X.hg hq) rfl ⟨rfl, rfl⟩ ⟨by decide, by decide⟩ hl.1 rfl (Nat.le_of_ble_eq_true rfl) dL_areAlike_118 ⟨Nat.zero_le _, Nat.zero_le _⟩) (fun H locs Y => ?_)
        refine lv_aload_n hx hb dL_areAlike_121 rfl (lv_at hl 1 rfl) ?_
        refine lv_iload hx hb dL_areAlike_122 (lv_at hl 4 rfl) ?_
        refine lv_iconst (v := 1) hx hb dL_areAlike_124 (by decide) ?_
        obtain ⟨q31, hq, hf⟩ := bnd_t hf
        refine tw_cP X Y (tw_rP (rest := [_]) X Y k_L_46 (c_X5_segment X.hh hq) rfl ⟨rfl, rfl⟩ ⟨by decide, by decide⟩ hl.1 rfl (Nat.le_of_ble_eq_true rfl) dL_areAlike_125 ⟨Nat.zero_le _, Nat.zero_le _⟩) (fun H locs Y => ?_)
        refine lv_icmp_ne (tgt := 263) hx hb dL_areAlike_128 (by decide) (fun c => ?_) (fun c => ?_)
        · exact nn_t (ite_t c hf)
        have hf := ite_f (not_not_intro c) hf
        refine lv_aload_n hx hb dL_areAlike_131 rfl (lv_at hl 0 rfl) ?_
        refine lv_iload hx hb dL_areAlike_132 (lv_at hl 4 rfl) ?_
        refine lv_iconst (v := 2) hx hb dL_areAlike_134 (by decide) ?_
        obtain ⟨q32, hq, hf⟩ := bnd_t hf
        refine tw_cO X Y (tw_rO (rest := []) X Y k_L_46 (c_X5_segment X.hg hq) rfl ⟨rfl, rfl⟩ ⟨by decide, by decide⟩ hl.1 rfl (Nat.le_of_ble_eq_true rfl) dL_areAlike_135 ⟨Nat.zero_le _, Nat.zero_le _⟩) (fun H locs Y => ?_)
        refine lv_aload_n hx hb dL_areAlike_138 rfl (lv_at hl 1 rfl) ?_
        refine lv_iload hx hb dL_areAlike_139 (lv_at hl 4 rfl) ?_
        refine lv_iconst (v := 2) hx hb dL_areAlike_141 (by decide) ?_
        obtain ⟨q33, hq, hf⟩ := bnd_t hf
        refine tw_cP X Y (tw_rP (rest := [_]) X Y k_L_46 (c_X5_segment X.hh hq) rfl ⟨rfl, rfl⟩ ⟨by decide, by decide⟩ hl.1 rfl (Nat.le_of_ble_eq_true rfl) dL_areAlike_142 ⟨Nat.zero_le _, Nat.zero_le _⟩) (fun H locs Y => ?_)
        refine lv_icmp_ne (tgt := 263) hx hb dL_areAlike_145 (by decide) (fun c => ?_) (fun c => ?_)
        · exact nn_t (ite_t c hf)
        have hf := ite_f (not_not_intro c) hf
        refine lv_aload_n hx hb dL_areAlike_148 rfl (lv_at hl 0 rfl) ?_
        refine lv_iload hx hb dL_areAlike_149 (lv_at hl 4 rfl) ?_
        refine lv_iconst (v := 3) hx hb dL_areAlike_151 (by decide) ?_
        obtain ⟨q34, hq, hf⟩ := bnd_t hf
        refine tw_cO X Y (tw_rO (rest := []) X Y k_L_46 (c_X5_segment X.hg hq) rfl ⟨rfl, rfl⟩ ⟨by decide, by decide⟩ hl.1 rfl (Nat.le_of_ble_eq_true rfl) dL_areAlike_152 ⟨Nat.zero_le _, Nat.zero_le _⟩) (fun H locs Y => ?_)
        refine lv_iconst (v := 1) hx hb dL_areAlike_155 (by decide) ?_
        refine lv_aload_n hx hb dL_areAlike_156 rfl (lv_at hl 1 rfl) ?_
        refine lv_iload hx hb dL_areAlike_157 (lv_at hl 4 rfl) ?_
        refine lv_iconst (v := 3) hx hb dL_areAlike_159 (by decide) ?_
        obtain ⟨q35, hq, hf⟩ := bnd_t hf
        refine tw_cP X Y (tw_rP (rest := [_, _]) X Y k_L_46 (c_X5_segment X.hh hq) rfl ⟨rfl, rfl⟩ ⟨by decide, by decide⟩ hl.1 rfl (Nat.le_of_ble_eq_true rfl) dL_areAlike_160 ⟨Nat.zero_le _, Nat.zero_le _⟩) (fun H locs Y => ?_)
        refine lv_isub hx hb dL_areAlike_163 ?_
        refine lv_icmp_ne (tgt := 263) hx hb dL_areAlike_164 (by decide) (fun c => ?_) (fun c => ?_)
        · exact nn_t (ite_t c hf)
        have hf := ite_f (not_not_intro c) hf
        refine lv_aload_n hx hb dL_areAlike_167 rfl (lv_at hl 0 rfl) ?_
        refine lv_iload hx hb dL_areAlike_168 (lv_at hl 4 rfl) ?_
        refine lv_iconst (v := 4) hx hb dL_areAlike_170 (by decide) ?_
        obtain ⟨q36, hq, hf⟩ := bnd_t hf
        refine tw_cO X Y (tw_rO (rest := []) X Y k_L_46 (c_X5_segment X.hg hq) rfl ⟨rfl, rfl⟩ ⟨by decide, by decide⟩ hl.1 rfl (Nat.le_of_ble_eq_true rfl) dL_areAlike_171 ⟨Nat.zero_le _, Nat.zero_le _⟩) (fun H locs Y => ?_)
        refine lv_sipush (v := 1000) hx hb dL_areAlike_174 (by decide) ?_
        refine lv_isub hx hb dL_areAlike_177 ?_
        refine lv_sipush (v := 1000) hx hb dL_areAlike_178 (by decide) ?_
        refine lv_aload_n hx hb dL_areAlike_181 rfl (lv_at hl 1 rfl) ?_
        refine lv_iload hx hb dL_areAlike_182 (lv_at hl 4 rfl) ?_
        refine lv_iconst (v := 5) hx hb dL_areAlike_184 (by decide) ?_
        obtain ⟨q37, hq, hf⟩ := bnd_t hf
        refine tw_cP X Y (tw_rP (rest := [_, _]) X Y k_L_46 (c_X5_segment X.hh hq) rfl ⟨rfl, rfl⟩ ⟨by decide, by decide⟩ hl.1 rfl (Nat.le_of_ble_eq_true rfl) dL_areAlike_185 ⟨Nat.zero_le _, Nat.zero_le _⟩) (fun H locs Y => ?_)
        refine lv_isub hx hb dL_areAlike_188 ?_
        refine lv_icmp_ne (tgt := 263) hx hb dL_areAlike_189 (by decide) (fun c => ?_) (fun c => ?_)
        · exact nn_t (ite_t c hf)
        have hf := ite_f (not_not_intro c) hf
        refine lv_aload_n hx hb dL_areAlike_192 rfl (lv_at hl 0 rfl) ?_
        refine lv_iload hx hb dL_areAlike_193 (lv_at hl 4 rfl) ?_
        refine lv_iconst (v := 5) hx hb dL_areAlike_195 (by decide) ?_
        obtain ⟨q38, hq, hf⟩ := bnd_t hf
        refine tw_cO X Y (tw_rO (rest := []) X Y k_L_46 (c_X5_segment X.hg hq) rfl ⟨rfl, rfl⟩ ⟨by decide, by decide⟩ hl.1 rfl (Nat.le_of_ble_eq_true rfl) dL_areAlike_196 ⟨Nat.zero_le _, Nat.zero_le _⟩) (fun H locs Y => ?_)
        refine lv_sipush (v := 1000) hx hb dL_areAlike_199 (by decide) ?_
        refine lv_isub hx hb dL_areAlike_202 ?_
        refine lv_sipush (v := 1000) hx hb dL_areAlike_203 (by decide) ?_
        refine lv_aload_n hx hb dL_areAlike_206 rfl (lv_at hl 1 rfl) ?_
        refine lv_iload hx hb dL_areAlike_207 (lv_at hl 4 rfl) ?_
        refine lv_iconst (v := 4) hx hb dL_areAlike_209 (by decide) ?_
        obtain ⟨q39, hq, hf⟩ := bnd_t hf
        refine tw_cP X Y (tw_rP (rest := [_, _]) X Y k_L_46 (c_X5_segment X.hh hq) rfl ⟨rfl, rfl⟩ ⟨by decide, by decide⟩ hl.1 rfl (Nat.le_of_ble_eq_true rfl) dL_areAlike_210 ⟨Nat.zero_le _, Nat.zero_le _⟩) (fun H locs Y => ?_)
        refine lv_isub hx hb dL_areAlike_213 ?_
        refine lv_icmp_ne (tgt := 263) hx hb dL_areAlike_214 (by decide) (fun c => ?_) (fun c => ?_)
        · exact nn_t (ite_t c hf)
        have hf := ite_f (not_not_intro c) hf
        refine lv_aload_n hx hb dL_areAlike_217 rfl (lv_at hl 0 rfl) ?_
        refine lv_iload hx hb dL_areAlike_218 (lv_at hl 4 rfl) ?_
        refine lv_bipush (v := 6) hx hb dL_areAlike_220 (by decide) ?_
        obtain ⟨q40, hq, hf⟩ := bnd_t hf
        refine tw_cO X Y (tw_rO (rest := []) X Y k_L_46 (c_X5_segment X.hg hq) rfl ⟨rfl, rfl⟩ ⟨by decide, by decide⟩ hl.1 rfl (Nat.le_of_ble_eq_true rfl) dL_areAlike_222 ⟨Nat.zero_le _, Nat.zero_le _⟩) (fun H locs Y => ?_)
        refine lv_sipush (v := 10000) hx hb dL_areAlike_225 (by decide) ?_
        refine lv_isub hx hb dL_areAlike_228 ?_
        refine lv_sipush (v := 10000) hx hb dL_areAlike_229 (by decide) ?_
        refine lv_aload_n hx hb dL_areAlike_232 rfl (lv_at hl 1 rfl) ?_
        refine lv_iload hx hb dL_areAlike_233 (lv_at hl 4 rfl) ?_
        refine lv_bipush (v := 6) hx hb dL_areAlike_235 (by decide) ?_
        obtain ⟨q41, hq, hf⟩ := bnd_t hf
        refine tw_cP X Y (tw_rP (rest := [_, _]) X Y k_L_46 (c_X5_segment X.hh hq) rfl ⟨rfl, rfl⟩ ⟨by decide, by decide⟩ hl.1 rfl (Nat.le_of_ble_eq_true rfl) dL_areAlike_237 ⟨Nat.zero_le _, Nat.zero_le _⟩) (fun H locs Y => ?_)
        refine lv_isub hx hb dL_areAlike_240 ?_
        refine lv_icmp_ne (tgt := 263) hx hb dL_areAlike_241 (by decide) (fun c => ?_) (fun c => ?_)
        · exact nn_t (ite_t c hf)
        have hf := ite_f (not_not_intro c) hf
        refine lv_aload_n hx hb dL_areAlike_244 rfl (lv_at hl 0 rfl) ?_
        refine lv_iload hx hb dL_areAlike_245 (lv_at hl 4 rfl) ?_
        obtain ⟨q42, hq, hf⟩ := bnd_t hf
        refine tw_cO X Y (tw_rO (rest := []) X Y k_L_49 (c_X5_nearest X.hg hq) rfl ⟨rfl, rfl⟩ ⟨by decide, by decide⟩ hl.1 rfl (Nat.le_of_ble_eq_true rfl) dL_areAlike_247 ⟨Nat.zero_le _, Nat.zero_le _⟩) (fun H locs Y => ?_)
        refine lv_aload_n hx hb dL_areAlike_250 rfl (lv_at hl 1 rfl) ?_
        refine lv_iload hx hb dL_areAlike_251 (lv_at hl 4 rfl) ?_
        obtain ⟨q43, hq, hf⟩ := bnd_t hf
        refine tw_cP X Y (tw_rP (rest := [_]) X Y k_L_49 (c_X5_nearest X.hh hq) rfl ⟨rfl, rfl⟩ ⟨by decide, by decide⟩ hl.1 rfl (Nat.le_of_ble_eq_true rfl) dL_areAlike_253 ⟨Nat.zero_le _, Nat.zero_le _⟩) (fun H locs Y => ?_)
        refine lv_icmp_ne (tgt := 263) hx hb dL_areAlike_256 (by decide) (fun c => ?_) (fun c => ?_)
        · exact nn_t (ite_t c hf)
        have hf := ite_f (not_not_intro c) hf
        refine lv_iconst (v := 1) hx hb dL_areAlike_259 (by decide) ?_
        refine lv_goto (tgt := 264) hx hb dL_areAlike_260 (by decide) ?_
        refine lv_istore (lv' := [(4, _), (0, _), (1, _), (3, _), (5, _)]) hx hb dL_areAlike_264 hl (by decide) rfl (fun ls hl => ?_)
        refine lv_iconst (v := 0) hx hb dL_areAlike_266 (by decide) ?_
        refine lv_istore (lv' := [(6, _), (4, _), (0, _), (1, _), (3, _), (5, _)]) hx hb dL_areAlike_267 hl (by decide) rfl (fun ls hl => ?_)
        exact hL269 _ _ _ (fun v4' v5' I H locs ls hf Y hl => ih v4' v5' I H locs ls hf Y hl) _ _ _ _ _ _ _ hf Y (lv_sub hl [2, 3, 4, 1, 5, 0] rfl)
  have hL43 : ∀ (v3 : Int32) (n : Nat) (v4 : Int32) (v5 : Int32) (I : HJ) (H : Heap) (locs : List Loc) (ls : Array Slot), f_L_areAlike_L43 v3 n v4 v5 I = some r → twD g I s H locs → lv_has ls 7 [(0, .ref (gR g 0)), (1, .ref (gR (gH g) 0)), (3, .int v3), (4, .int v4), (5, .int v5)] → W p l e rm_L_areAlike s m args below meth c H locs 0 0 (MQ below (twQ g r.1 r.2) args s 0 0 (gB g)) (F0 m 43 ls []) := by
    intro v3 n
    induction n with
    | zero => intro v4 v5 I H locs ls hf Y hl; exact nn_t hf
    | succ n ih =>
      intro v4 v5 I H locs ls hf Y hl
      have hf : f_L_areAlike_L43_b v3 (f_L_areAlike_L43 v3 n) v4 v5 I = some r := hf
      unfold f_L_areAlike_L43_b at hf
      refine lv_iload hx hb dL_areAlike_43 (lv_at hl 4 rfl) ?_
      refine lv_bipush (v := 10) hx hb dL_areAlike_45 (by decide) ?_
      refine lv_icmp_ge (tgt := 83) hx hb dL_areAlike_47 (by decide) (fun c => ?_) (fun c => ?_)
      · have hf := ite_t c hf
        refine lv_iconst (v := 0) hx hb dL_areAlike_83 (by decide) ?_
        refine lv_istore (lv' := [(5, _), (0, _), (1, _), (3, _), (4, _)]) hx hb dL_areAlike_84 hl (by decide) rfl (fun ls hl => ?_)
        exact hL86 _ _ _ _ _ _ _ _ hf Y (lv_sub hl [1, 2, 3, 4, 0] rfl)
      · have hf := ite_f c hf
        refine lv_iload hx hb dL_areAlike_50 (lv_at hl 3 rfl) ?_
        refine lv_if_eq (tgt := 74) hx hb dL_areAlike_52 (by decide) (fun c => ?_) (fun c => ?_)
        · exact nn_t (ite_t c hf)
        have hf := ite_f c hf
        refine lv_aload_n hx hb dL_areAlike_55 rfl (lv_at hl 0 rfl) ?_
        refine lv_iload hx hb dL_areAlike_56 (lv_at hl 4 rfl) ?_
        obtain ⟨q44, hq, hf⟩ := bnd_t hf
        refine tw_cO X Y (tw_rO (rest := []) X Y k_L_9 (c_X5_count X.hg hq) rfl ⟨rfl, rfl⟩ ⟨by decide, by decide⟩ hl.1 rfl (Nat.le_of_ble_eq_true rfl) dL_areAlike_58 ⟨Nat.zero_le _, Nat.zero_le _⟩) (fun H locs Y => ?_)
        refine lv_aload_n hx hb dL_areAlike_61 rfl (lv_at hl 1 rfl) ?_
        refine lv_iload hx hb dL_areAlike_62 (lv_at hl 4 rfl) ?_
        obtain ⟨q45, hq, hf⟩ := bnd_t hf
        refine tw_cP X Y (tw_rP (rest := [_]) X Y k_L_9 (c_X5_count X.hh hq) rfl ⟨rfl, rfl⟩ ⟨by decide, by decide⟩ hl.1 rfl (Nat.le_of_ble_eq_true rfl) dL_areAlike_64 ⟨Nat.zero_le _, Nat.zero_le _⟩) (fun H locs Y => ?_)
        refine lv_icmp_ne (tgt := 74) hx hb dL_areAlike_67 (by decide) (fun c => ?_) (fun c => ?_)
        · exact nn_t (ite_t c hf)
        have hf := ite_f (not_not_intro c) hf
        refine lv_iconst (v := 1) hx hb dL_areAlike_70 (by decide) ?_
        refine lv_goto (tgt := 75) hx hb dL_areAlike_71 (by decide) ?_
        refine lv_istore (lv' := [(4, _), (0, _), (1, _), (3, _), (5, _)]) hx hb dL_areAlike_75 hl (by decide) rfl (fun ls hl => ?_)
        refine lv_iinc (v := _ + (1 : Int32)) (lv' := [(5, _), (4, _), (0, _), (1, _), (3, _)]) hx hb dL_areAlike_77 hl (k := 4) rfl rfl (by decide) rfl (fun ls hl => ?_)
        refine lv_goto (tgt := 43) hx hb dL_areAlike_80 (by decide) ?_
        exact ih _ _ _ _ _ _ hf Y (lv_sub hl [2, 3, 4, 1, 0] rfl)
  unfold f_L_areAlike at hf
  refine lv_aload_n hx hb dL_areAlike_0 rfl (lv_at hl 0 rfl) ?_
  refine lv_iconst (v := 1) hx hb dL_areAlike_1 (by decide) ?_
  obtain ⟨q46, hq, hf⟩ := bnd_t hf
  refine tw_cO X Y (tw_rO (rest := []) X Y k_L_9 (c_X5_count X.hg hq) rfl ⟨rfl, rfl⟩ ⟨by decide, by decide⟩ hl.1 rfl (Nat.le_of_ble_eq_true rfl) dL_areAlike_2 ⟨Nat.zero_le _, Nat.zero_le _⟩) (fun H locs Y => ?_)
  refine lv_istore_n (lv' := [(3, _), (0, _), (1, _), (2, _)]) hx hb dL_areAlike_5 rfl hl (by decide) rfl (fun ls hl => ?_)
  refine lv_aload_n hx hb dL_areAlike_6 rfl (lv_at hl 1 rfl) ?_
  refine lv_iload_n hx hb dL_areAlike_7 rfl (lv_at hl 3 rfl) ?_
  obtain ⟨q47, hq, hf⟩ := bnd_t hf
  refine tw_cO X Y (tw_rO (rest := []) X Y k_L_40 (c_X5_fires X.hg hq) rfl ⟨rfl, rfl⟩ ⟨by decide, by decide⟩ hl.1 rfl (Nat.le_of_ble_eq_true rfl) dL_areAlike_8 ⟨Nat.zero_le _, Nat.zero_le _⟩) (fun H locs Y => ?_)
  refine lv_aload_n hx hb dL_areAlike_11 rfl (lv_at hl 2 rfl) ?_
  refine lv_iload_n hx hb dL_areAlike_12 rfl (lv_at hl 3 rfl) ?_
  refine lv_ineg hx hb dL_areAlike_13 ?_
  obtain ⟨q48, hq, hf⟩ := bnd_t hf
  refine tw_cP X Y (tw_rP (rest := [_]) X Y k_L_40 (c_X5_fires X.hh hq) rfl ⟨rfl, rfl⟩ ⟨by decide, by decide⟩ hl.1 rfl (Nat.le_of_ble_eq_true rfl) dL_areAlike_14 ⟨Nat.zero_le _, Nat.zero_le _⟩) (fun H locs Y => ?_)
  refine lv_icmp_ne (tgt := 37) hx hb dL_areAlike_17 (by decide) (fun c => ?_) (fun c => ?_)
  · exact nn_t (ite_t c hf)
  have hf := ite_f (not_not_intro c) hf
  refine lv_aload_n hx hb dL_areAlike_20 rfl (lv_at hl 1 rfl) ?_
  refine lv_iconst (v := 1) hx hb dL_areAlike_21 (by decide) ?_
  obtain ⟨q49, hq, hf⟩ := bnd_t hf
  refine tw_cO X Y (tw_rO (rest := []) X Y k_L_43 (c_X5_bestLevel X.hg hq) rfl ⟨rfl, rfl⟩ ⟨by decide, by decide⟩ hl.1 rfl (Nat.le_of_ble_eq_true rfl) dL_areAlike_22 ⟨Nat.zero_le _, Nat.zero_le _⟩) (fun H locs Y => ?_)
  refine lv_aload_n hx hb dL_areAlike_25 rfl (lv_at hl 2 rfl) ?_
  refine lv_iconst (v := 1) hx hb dL_areAlike_26 (by decide) ?_
  obtain ⟨q50, hq, hf⟩ := bnd_t hf
  refine tw_cP X Y (tw_rP (rest := [_]) X Y k_L_43 (c_X5_bestLevel X.hh hq) rfl ⟨rfl, rfl⟩ ⟨by decide, by decide⟩ hl.1 rfl (Nat.le_of_ble_eq_true rfl) dL_areAlike_27 ⟨Nat.zero_le _, Nat.zero_le _⟩) (fun H locs Y => ?_)
  refine lv_icmp_ne (tgt := 37) hx hb dL_areAlike_30 (by decide) (fun c => ?_) (fun c => ?_)
  · exact nn_t (ite_t c hf)
  have hf := ite_f (not_not_intro c) hf
  refine lv_iconst (v := 1) hx hb dL_areAlike_33 (by decide) ?_
  refine lv_goto (tgt := 38) hx hb dL_areAlike_34 (by decide) ?_
  refine lv_istore (lv' := [(4, _), (3, _), (0, _), (1, _), (2, _)]) hx hb dL_areAlike_38 hl (by decide) rfl (fun ls hl => ?_)
  refine lv_iconst (v := 0) hx hb dL_areAlike_40 (by decide) ?_
  refine lv_istore (lv' := [(5, _), (4, _), (3, _), (0, _), (1, _), (2, _)]) hx hb dL_areAlike_41 hl (by decide) rfl (fun ls hl => ?_)
  exact hL43 _ _ _ _ _ _ _ _ hf Y (lv_sub hl [3, 4, 2, 1, 0] rfl)
