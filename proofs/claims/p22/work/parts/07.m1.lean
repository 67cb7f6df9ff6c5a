def f_X1_settingOf (v1 : Int32) (I : HI) : Option (Int32 × HI) :=
  if v1 < (0 : Int32) then
    some ((0 : Int32), I)
  else
    if (10 : Int32) ≤ v1 then
      some ((0 : Int32), I)
    else
      if v1 < 0 ∨ 10 ≤ v1.toNatClampNeg then none else
      some (I 2 v1.toNatClampNeg, I)
abbrev rm_X1_settingOf : Room := { frames := 0, cells := 0, slots := 0, locals := 0 }
set_option maxHeartbeats 4000000 in
set_option maxRecDepth 100000 in
theorem c_X1_settingOf {l : Launch} {g : GX} (hg : gOk g) {v1 : Int32} {I : HI} {r : Int32 × HI} (hf : f_X1_settingOf v1 I = some r) : Met l yX1_settingOf (Cond.code yX1_settingOf cX1_settingOf 2 (some .int) :: WL) rm_X1_settingOf (xP g [.ref (gR g 1), .int v1] I) (xQi g r.1 r.2) 0 0 (gA g) := by
  refine x_met (by decide) hg (Nat.le_of_ble_eq_true rfl) (fun p e s m args below meth c X hr hlk Y ls hl => ?_)
  have hx := X.hx
  have hb := X.hb
  have hl : lv_has ls 2 [(0, .ref (gR g 1)), (1, .int v1)] := hl
  unfold f_X1_settingOf at hf
  refine lv_iload_n hx hb dX1_settingOf_0 rfl (lv_at hl 1 rfl) ?_
  refine lv_if_lt (tgt := 22) hx hb dX1_settingOf_1 (by decide) (fun c => ?_) (fun c => ?_)
  · have hf := ite_t c hf
    refine lv_iconst (v := 0) hx hb dX1_settingOf_22 (by decide) ?_
    exact x_iret X Y hr hlk hf dX1_settingOf_23
  · have hf := ite_f c hf
    refine lv_iload_n hx hb dX1_settingOf_4 rfl (lv_at hl 1 rfl) ?_
    refine lv_aload_n hx hb dX1_settingOf_5 rfl (lv_at hl 0 rfl) ?_
    refine x_get (v := .ref (gR g 2)) X Y cl_1 rfl (by decide) 0 (by decide) wf_X1_9 rfl dX1_settingOf_6 ?_
    refine x_len (v := 10) X Y rfl (by decide) dX1_settingOf_9 ?_
    refine lv_icmp_ge (tgt := 22) hx hb dX1_settingOf_10 (by decide) (fun c => ?_) (fun c => ?_)
    · have hf := ite_t c hf
      refine lv_iconst (v := 0) hx hb dX1_settingOf_22 (by decide) ?_
      exact x_iret X Y hr hlk hf dX1_settingOf_23
    · have hf := ite_f c hf
      refine lv_aload_n hx hb dX1_settingOf_13 rfl (lv_at hl 0 rfl) ?_
      refine x_get (v := .ref (gR g 2)) X Y cl_1 rfl (by decide) 0 (by decide) wf_X1_9 rfl dX1_settingOf_14 ?_
      refine lv_iload_n hx hb dX1_settingOf_17 rfl (lv_at hl 1 rfl) ?_
      obtain ⟨hin, hf⟩ := oob_t hf
      refine x_iald X Y rfl hin dX1_settingOf_18 ?_
      refine lv_goto (tgt := 23) hx hb dX1_settingOf_19 (by decide) ?_
      exact x_iret X Y hr hlk hf dX1_settingOf_23
def f_X1_fits (v1 : Int32) (v2 : Int32) (I : HI) : Option (Int32 × HI) :=
  if v1 = (3 : Int32) then
    (f_X1_settingOf (4 : Int32) I).bind fun q6 =>
    if q6.1 ≤ v2 then
      some ((0 : Int32), q6.2)
    else
      some ((1 : Int32), q6.2)
  else
  if v1 = (4 : Int32) then
    (f_X1_settingOf (3 : Int32) I).bind fun q8 =>
    if v2 ≤ q8.1 then
      some ((0 : Int32), q8.2)
    else
      some ((1 : Int32), q8.2)
  else
  if v1 = (5 : Int32) then
    if (I 1 14) = (0 : Int32) then
      (f_X1_settingOf (6 : Int32) I).bind fun q10 =>
      if v2 ≤ q10.1 then
        some ((0 : Int32), q10.2)
      else
        some ((1 : Int32), q10.2)
    else
      some ((0 : Int32), I)
  else
  if v1 = (6 : Int32) then
    if (I 1 14) = (0 : Int32) then
      (f_X1_settingOf (5 : Int32) I).bind fun q12 =>
      if q12.1 ≤ v2 then
        some ((0 : Int32), q12.2)
      else
        some ((1 : Int32), q12.2)
    else
      some ((0 : Int32), I)
  else
  some ((1 : Int32), I)
abbrev rm_X1_fits : Room := { frames := 1, cells := 0, slots := 0, locals := 21 }
set_option maxHeartbeats 4000000 in
set_option maxRecDepth 100000 in
theorem c_X1_fits {l : Launch} {g : GX} (hg : gOk g) {v1 : Int32} {v2 : Int32} {I : HI} {r : Int32 × HI} (hf : f_X1_fits v1 v2 I = some r) : Met l yX1_fits (Cond.code yX1_fits cX1_fits 3 (some .boolean) :: WL) rm_X1_fits (xP g [.ref (gR g 1), .int v1, .int v2] I) (xQi g r.1 r.2) 0 0 (gA g) := by
  refine x_met (by decide) hg (Nat.le_of_ble_eq_true rfl) (fun p e s m args below meth c X hr hlk Y ls hl => ?_)
  have hx := X.hx
  have hb := X.hb
  have hl : lv_has ls 3 [(0, .ref (gR g 1)), (1, .int v1), (2, .int v2)] := hl
  unfold f_X1_fits at hf
  refine lv_iload_n hx hb dX1_fits_0 rfl (lv_at hl 1 rfl) ?_
  by_cases c5 : v1 = (3 : Int32)
  · have hf := ite_t c5 hf
    refine x_tab (off := 31) (tgt := 32) hx hb c5 dX1_fits_1 (by decide) (by decide) ?_
    refine lv_iload_n hx hb dX1_fits_32 rfl (lv_at hl 2 rfl) ?_
    refine lv_aload_n hx hb dX1_fits_33 rfl (lv_at hl 0 rfl) ?_
    refine lv_iconst (v := 4) hx hb dX1_fits_34 (by decide) ?_
    obtain ⟨q6, hq, hf⟩ := bnd_t hf
    refine x_ci Y (x_rV (rest := [_]) X Y k_X1_87 (c_X1_settingOf X.hg hq) cl_1.1 rfl (by decide) rfl ⟨rfl, rfl⟩ ⟨by decide, by decide⟩ hl.1 rfl (Nat.le_of_ble_eq_true rfl) dX1_fits_35 ⟨Nat.zero_le _, Nat.zero_le _⟩) (fun H locs Y => ?_)
    refine lv_icmp_ge (tgt := 45) hx hb dX1_fits_38 (by decide) (fun c => ?_) (fun c => ?_)
    · have hf := ite_t c hf
      refine lv_iconst (v := 0) hx hb dX1_fits_45 (by decide) ?_
      exact x_zret X Y hr hlk rfl hf dX1_fits_46
    · have hf := ite_f c hf
      refine lv_iconst (v := 1) hx hb dX1_fits_41 (by decide) ?_
      refine lv_goto (tgt := 46) hx hb dX1_fits_42 (by decide) ?_
      exact x_zret X Y hr hlk rfl hf dX1_fits_46
  have hf := ite_f c5 hf
  by_cases c7 : v1 = (4 : Int32)
  · have hf := ite_t c7 hf
    refine x_tab (off := 46) (tgt := 47) hx hb c7 dX1_fits_1 (by decide) (by decide) ?_
    refine lv_iload_n hx hb dX1_fits_47 rfl (lv_at hl 2 rfl) ?_
    refine lv_aload_n hx hb dX1_fits_48 rfl (lv_at hl 0 rfl) ?_
    refine lv_iconst (v := 3) hx hb dX1_fits_49 (by decide) ?_
    obtain ⟨q8, hq, hf⟩ := bnd_t hf
    refine x_ci Y (x_rV (rest := [_]) X Y k_X1_87 (c_X1_settingOf X.hg hq) cl_1.1 rfl (by decide) rfl ⟨rfl, rfl⟩ ⟨by decide, by decide⟩ hl.1 rfl (Nat.le_of_ble_eq_true rfl) dX1_fits_50 ⟨Nat.zero_le _, Nat.zero_le _⟩) (fun H locs Y => ?_)
    refine lv_icmp_le (tgt := 60) hx hb dX1_fits_53 (by decide) (fun c => ?_) (fun c => ?_)
    · have hf := ite_t c hf
      refine lv_iconst (v := 0) hx hb dX1_fits_60 (by decide) ?_
      exact x_zret X Y hr hlk rfl hf dX1_fits_61
    · have hf := ite_f c hf
      refine lv_iconst (v := 1) hx hb dX1_fits_56 (by decide) ?_
      refine lv_goto (tgt := 61) hx hb dX1_fits_57 (by decide) ?_
      exact x_zret X Y hr hlk rfl hf dX1_fits_61
  have hf := ite_f c7 hf
  by_cases c9 : v1 = (5 : Int32)
  · have hf := ite_t c9 hf
    refine x_tab (off := 61) (tgt := 62) hx hb c9 dX1_fits_1 (by decide) (by decide) ?_
    refine lv_aload_n hx hb dX1_fits_62 rfl (lv_at hl 0 rfl) ?_
    refine x_geti X Y cl_1 rfl (by decide) 14 (by decide) rfl wf_X1_59 dX1_fits_63 ?_
    refine lv_if_ne (tgt := 83) hx hb dX1_fits_66 (by decide) (fun c => ?_) (fun c => ?_)
    · have hf := ite_f c hf
      refine lv_iconst (v := 0) hx hb dX1_fits_83 (by decide) ?_
      exact x_zret X Y hr hlk rfl hf dX1_fits_84
    · have hf := ite_t c hf
      refine lv_iload_n hx hb dX1_fits_69 rfl (lv_at hl 2 rfl) ?_
      refine lv_aload_n hx hb dX1_fits_70 rfl (lv_at hl 0 rfl) ?_
      refine lv_bipush (v := 6) hx hb dX1_fits_71 (by decide) ?_
      obtain ⟨q10, hq, hf⟩ := bnd_t hf
      refine x_ci Y (x_rV (rest := [_]) X Y k_X1_87 (c_X1_settingOf X.hg hq) cl_1.1 rfl (by decide) rfl ⟨rfl, rfl⟩ ⟨by decide, by decide⟩ hl.1 rfl (Nat.le_of_ble_eq_true rfl) dX1_fits_73 ⟨Nat.zero_le _, Nat.zero_le _⟩) (fun H locs Y => ?_)
      refine lv_icmp_le (tgt := 83) hx hb dX1_fits_76 (by decide) (fun c => ?_) (fun c => ?_)
      · have hf := ite_t c hf
        refine lv_iconst (v := 0) hx hb dX1_fits_83 (by decide) ?_
        exact x_zret X Y hr hlk rfl hf dX1_fits_84
      · have hf := ite_f c hf
        refine lv_iconst (v := 1) hx hb dX1_fits_79 (by decide) ?_
        refine lv_goto (tgt := 84) hx hb dX1_fits_80 (by decide) ?_
        exact x_zret X Y hr hlk rfl hf dX1_fits_84
  have hf := ite_f c9 hf
  by_cases c11 : v1 = (6 : Int32)
  · have hf := ite_t c11 hf
    refine x_tab (off := 84) (tgt := 85) hx hb c11 dX1_fits_1 (by decide) (by decide) ?_
    refine lv_aload_n hx hb dX1_fits_85 rfl (lv_at hl 0 rfl) ?_
    refine x_geti X Y cl_1 rfl (by decide) 14 (by decide) rfl wf_X1_59 dX1_fits_86 ?_
    refine lv_if_ne (tgt := 105) hx hb dX1_fits_89 (by decide) (fun c => ?_) (fun c => ?_)
    · have hf := ite_f c hf
      refine lv_iconst (v := 0) hx hb dX1_fits_105 (by decide) ?_
      exact x_zret X Y hr hlk rfl hf dX1_fits_106
    · have hf := ite_t c hf
      refine lv_iload_n hx hb dX1_fits_92 rfl (lv_at hl 2 rfl) ?_
      refine lv_aload_n hx hb dX1_fits_93 rfl (lv_at hl 0 rfl) ?_
      refine lv_iconst (v := 5) hx hb dX1_fits_94 (by decide) ?_
      obtain ⟨q12, hq, hf⟩ := bnd_t hf
      refine x_ci Y (x_rV (rest := [_]) X Y k_X1_87 (c_X1_settingOf X.hg hq) cl_1.1 rfl (by decide) rfl ⟨rfl, rfl⟩ ⟨by decide, by decide⟩ hl.1 rfl (Nat.le_of_ble_eq_true rfl) dX1_fits_95 ⟨Nat.zero_le _, Nat.zero_le _⟩) (fun H locs Y => ?_)
      refine lv_icmp_ge (tgt := 105) hx hb dX1_fits_98 (by decide) (fun c => ?_) (fun c => ?_)
      · have hf := ite_t c hf
        refine lv_iconst (v := 0) hx hb dX1_fits_105 (by decide) ?_
        exact x_zret X Y hr hlk rfl hf dX1_fits_106
      · have hf := ite_f c hf
        refine lv_iconst (v := 1) hx hb dX1_fits_101 (by decide) ?_
        refine lv_goto (tgt := 106) hx hb dX1_fits_102 (by decide) ?_
        exact x_zret X Y hr hlk rfl hf dX1_fits_106
  have hf := ite_f c11 hf
  refine lv_tableOut (tgt := 107) hx hb dX1_fits_1 (by have := lv_neT c5 (a := 3) (by decide); have := lv_neT c7 (a := 4) (by decide); have := lv_neT c9 (a := 5) (by decide); have := lv_neT c11 (a := 6) (by decide); omega) (by decide) ?_
  refine lv_iconst (v := 1) hx hb dX1_fits_107 (by decide) ?_
  exact x_zret X Y hr hlk rfl hf dX1_fits_108
def f_X1_errorOfSetting (v1 : Int32) (v2 : Int32) (I : HI) : Option (Int32 × HI) :=
  if v1 < (0 : Int32) then
    some ((-2 : Int32), I)
  else
    if v1 < (10 : Int32) then
      (f_X5_at 65 v1 I).bind fun q4 =>
      if v2 < q4.1 then
        some ((-2 : Int32), q4.2)
      else
        (f_X5_at 66 v1 q4.2).bind fun q5 =>
        if v2 ≤ q5.1 then
          (f_X1_fits v1 v2 q5.2).bind fun q6 =>
          if q6.1 = (0 : Int32) then
            some ((-5 : Int32), q6.2)
          else
            some ((0 : Int32), q6.2)
        else
          some ((-2 : Int32), q5.2)
    else
      some ((-2 : Int32), I)
abbrev rm_X1_errorOfSetting : Room := { frames := 2, cells := 0, slots := 0, locals := 43 }
set_option maxHeartbeats 4000000 in
set_option maxRecDepth 100000 in
theorem c_X1_errorOfSetting {l : Launch} {g : GX} (hg : gOk g) {v1 : Int32} {v2 : Int32} {I : HI} {r : Int32 × HI} (hf : f_X1_errorOfSetting v1 v2 I = some r) : Met l yX1_errorOfSetting (Cond.code yX1_errorOfSetting cX1_errorOfSetting 3 (some .int) :: WL) rm_X1_errorOfSetting (xP g [.ref (gR g 1), .int v1, .int v2] I) (xQi g r.1 r.2) 0 0 (gA g) := by
  refine x_met (by decide) hg (Nat.le_of_ble_eq_true rfl) (fun p e s m args below meth c X hr hlk Y ls hl => ?_)
  have hx := X.hx
  have hb := X.hb
  have hl : lv_has ls 3 [(0, .ref (gR g 1)), (1, .int v1), (2, .int v2)] := hl
  unfold f_X1_errorOfSetting at hf
  refine lv_iload_n hx hb dX1_errorOfSetting_0 rfl (lv_at hl 1 rfl) ?_
  refine lv_if_lt (tgt := 10) hx hb dX1_errorOfSetting_1 (by decide) (fun c => ?_) (fun c => ?_)
  · have hf := ite_t c hf
    refine lv_bipush (v := -2) hx hb dX1_errorOfSetting_10 (by decide) ?_
    exact x_iret X Y hr hlk hf dX1_errorOfSetting_12
  · have hf := ite_f c hf
    refine lv_iload_n hx hb dX1_errorOfSetting_4 rfl (lv_at hl 1 rfl) ?_
    refine lv_bipush (v := 10) hx hb dX1_errorOfSetting_5 (by decide) ?_
    refine lv_icmp_lt (tgt := 13) hx hb dX1_errorOfSetting_7 (by decide) (fun c => ?_) (fun c => ?_)
    · have hf := ite_t c hf
      refine lv_iload_n hx hb dX1_errorOfSetting_13 rfl (lv_at hl 2 rfl) ?_
      refine x_gstN (a := 65) X Y X.2.2.2.1.1.2.1 wg_X1_73 dX1_errorOfSetting_14 ?_
      refine lv_iload_n hx hb dX1_errorOfSetting_17 rfl (lv_at hl 1 rfl) ?_
      obtain ⟨q4, hq, hf⟩ := bnd_t hf
      refine x_ci Y (x_rSN (rest := [_]) X Y k_X1_76 (c_X5_at X.hg hq) rfl ⟨rfl, rfl⟩ ⟨by decide, by decide⟩ hl.1 rfl (Nat.le_of_ble_eq_true rfl) dX1_errorOfSetting_18 ⟨Nat.zero_le _, Nat.zero_le _⟩) (fun H locs Y => ?_)
      refine lv_icmp_lt (tgt := 35) hx hb dX1_errorOfSetting_21 (by decide) (fun c => ?_) (fun c => ?_)
      · have hf := ite_t c hf
        refine lv_bipush (v := -2) hx hb dX1_errorOfSetting_35 (by decide) ?_
        exact x_iret X Y hr hlk hf dX1_errorOfSetting_37
      · have hf := ite_f c hf
        refine lv_iload_n hx hb dX1_errorOfSetting_24 rfl (lv_at hl 2 rfl) ?_
        refine x_gstN (a := 66) X Y X.2.2.2.1.1.2.2 wg_X1_80 dX1_errorOfSetting_25 ?_
        refine lv_iload_n hx hb dX1_errorOfSetting_28 rfl (lv_at hl 1 rfl) ?_
        obtain ⟨q5, hq, hf⟩ := bnd_t hf
        refine x_ci Y (x_rSN (rest := [_]) X Y k_X1_76 (c_X5_at X.hg hq) rfl ⟨rfl, rfl⟩ ⟨by decide, by decide⟩ hl.1 rfl (Nat.le_of_ble_eq_true rfl) dX1_errorOfSetting_29 ⟨Nat.zero_le _, Nat.zero_le _⟩) (fun H locs Y => ?_)
        refine lv_icmp_le (tgt := 38) hx hb dX1_errorOfSetting_32 (by decide) (fun c => ?_) (fun c => ?_)
        · have hf := ite_t c hf
          refine lv_aload_n hx hb dX1_errorOfSetting_38 rfl (lv_at hl 0 rfl) ?_
          refine lv_iload_n hx hb dX1_errorOfSetting_39 rfl (lv_at hl 1 rfl) ?_
          refine lv_iload_n hx hb dX1_errorOfSetting_40 rfl (lv_at hl 2 rfl) ?_
          obtain ⟨q6, hq, hf⟩ := bnd_t hf
          refine x_ci Y (x_rV (rest := []) X Y k_X1_83 (c_X1_fits X.hg hq) cl_1.1 rfl (by decide) rfl ⟨rfl, rfl⟩ ⟨by decide, by decide⟩ hl.1 rfl (Nat.le_of_ble_eq_true rfl) dX1_errorOfSetting_41 ⟨Nat.zero_le _, Nat.zero_le _⟩) (fun H locs Y => ?_)
          refine lv_if_eq (tgt := 51) hx hb dX1_errorOfSetting_44 (by decide) (fun c => ?_) (fun c => ?_)
          · have hf := ite_t c hf
            refine lv_bipush (v := -5) hx hb dX1_errorOfSetting_51 (by decide) ?_
            exact x_iret X Y hr hlk hf dX1_errorOfSetting_53
          · have hf := ite_f c hf
            refine lv_iconst (v := 0) hx hb dX1_errorOfSetting_47 (by decide) ?_
            refine lv_goto (tgt := 53) hx hb dX1_errorOfSetting_48 (by decide) ?_
            exact x_iret X Y hr hlk hf dX1_errorOfSetting_53
        · have hf := ite_f c hf
          refine lv_bipush (v := -2) hx hb dX1_errorOfSetting_35 (by decide) ?_
          exact x_iret X Y hr hlk hf dX1_errorOfSetting_37
    · have hf := ite_f c hf
      refine lv_bipush (v := -2) hx hb dX1_errorOfSetting_10 (by decide) ?_
      exact x_iret X Y hr hlk hf dX1_errorOfSetting_12
def f_X1_takeOver (a : Nat) (b : Nat) (I : HI) : Option (Int32 × HI) :=
if (kd a = 1 ∧ a < 57) ∧ (kd b = 1 ∧ b < 57) then
  (f_X5_copyRow (b + 1) (a + 1) I).bind fun q16 =>
  (f_X5_copyRow (b + 2) (a + 2) q16.2).bind fun q17 =>
  (f_X3_takeOver (a + 3) (b + 3) q17.2).bind fun q18 =>
  let I19 := upI q18.2 a 3 (q18.2 b 3)
  let I20 := upI I19 a 4 (I19 b 4)
  let I21 := upI I20 a 5 (I20 b 5)
  let I22 := upI I21 a 6 (I21 b 6)
  let I23 := upI I22 a 7 (I22 b 7)
  let I24 := upI I23 a 8 (I23 b 8)
  let I25 := upI I24 a 9 (I24 b 9)
  let I26 := upI I25 a 10 (I25 b 10)
  let I27 := upI I26 a 11 (I26 b 11)
  let I28 := upI I27 a 12 (I27 b 12)
  let I29 := upI I28 a 13 (I28 b 13)
  let I30 := upI I29 a 14 (I29 b 14)
  some (0, I30)
  else none
abbrev rm_X1_takeOver : Room := { frames := 3, cells := 0, slots := 0, locals := 82 }
set_option maxHeartbeats 4000000 in
set_option maxRecDepth 100000 in
theorem c_X1_takeOver {l : Launch} {g : GX} (hg : gOk g) {a : Nat} {b : Nat} {I : HI} {r : Int32 × HI} (hf : f_X1_takeOver a b I = some r) : Met l yX1_takeOver (Cond.code yX1_takeOver cX1_takeOver 2 none :: WL) rm_X1_takeOver (xP g [.ref (gR g a), .ref (gR g b)] I) (xQv g r.2) 0 0 (gA g) := by
  refine x_met (by decide) hg (Nat.le_of_ble_eq_true rfl) (fun p e s m args below meth c X hr hlk Y ls hl => ?_)
  have hx := X.hx
  have hb := X.hb
  have hl : lv_has ls 2 [(0, .ref (gR g a)), (1, .ref (gR g b))] := hl
  unfold f_X1_takeOver at hf
  obtain ⟨hchk, hf⟩ := chk_t hf
  refine lv_aload_n hx hb dX1_takeOver_0 rfl (lv_at hl 1 rfl) ?_
  refine x_get (v := .ref (gR g (b + 1))) X Y cl_1 hchk.2.1 hchk.2.2 0 (by decide) wf_X1_9 rfl dX1_takeOver_1 ?_
  refine lv_aload_n hx hb dX1_takeOver_4 rfl (lv_at hl 0 rfl) ?_
  refine x_get (v := .ref (gR g (a + 1))) X Y cl_1 hchk.1.1 hchk.1.2 0 (by decide) wf_X1_9 rfl dX1_takeOver_5 ?_
  obtain ⟨q16, hq, hf⟩ := bnd_t hf
  refine x_cv Y (x_rSN (rest := []) X Y k_X1_65 (c_X5_copyRow X.hg hq) rfl ⟨rfl, rfl⟩ ⟨by decide, by decide⟩ hl.1 rfl (Nat.le_of_ble_eq_true rfl) dX1_takeOver_8 ⟨Nat.zero_le _, Nat.zero_le _⟩) (fun H locs Y => ?_)
  refine lv_aload_n hx hb dX1_takeOver_11 rfl (lv_at hl 1 rfl) ?_
  refine x_get (v := .ref (gR g (b + 2))) X Y cl_1 hchk.2.1 hchk.2.2 1 (by decide) wf_X1_15 rfl dX1_takeOver_12 ?_
  refine lv_aload_n hx hb dX1_takeOver_15 rfl (lv_at hl 0 rfl) ?_
  refine x_get (v := .ref (gR g (a + 2))) X Y cl_1 hchk.1.1 hchk.1.2 1 (by decide) wf_X1_15 rfl dX1_takeOver_16 ?_
  obtain ⟨q17, hq, hf⟩ := bnd_t hf
  refine x_cv Y (x_rSN (rest := []) X Y k_X1_65 (c_X5_copyRow X.hg hq) rfl ⟨rfl, rfl⟩ ⟨by decide, by decide⟩ hl.1 rfl (Nat.le_of_ble_eq_true rfl) dX1_takeOver_19 ⟨Nat.zero_le _, Nat.zero_le _⟩) (fun H locs Y => ?_)
  refine lv_aload_n hx hb dX1_takeOver_22 rfl (lv_at hl 0 rfl) ?_
  refine x_get (v := .ref (gR g (a + 3))) X Y cl_1 hchk.1.1 hchk.1.2 2 (by decide) wf_X1_21 rfl dX1_takeOver_23 ?_
  refine lv_aload_n hx hb dX1_takeOver_26 rfl (lv_at hl 1 rfl) ?_
  refine x_get (v := .ref (gR g (b + 3))) X Y cl_1 hchk.2.1 hchk.2.2 2 (by decide) wf_X1_21 rfl dX1_takeOver_27 ?_
  obtain ⟨q18, hq, hf⟩ := bnd_t hf
  refine x_cv Y (x_rV (rest := []) X Y k_X1_69 (c_X3_takeOver X.hg hq) cl_3.1 (m_3 hchk.1).1 (m_3 hchk.1).2 rfl ⟨rfl, rfl⟩ ⟨by decide, by decide⟩ hl.1 rfl (Nat.le_of_ble_eq_true rfl) dX1_takeOver_30 ⟨Nat.zero_le _, Nat.zero_le _⟩) (fun H locs Y => ?_)
  refine lv_aload_n hx hb dX1_takeOver_33 rfl (lv_at hl 0 rfl) ?_
  refine lv_aload_n hx hb dX1_takeOver_34 rfl (lv_at hl 1 rfl) ?_
  refine x_geti X Y cl_1 hchk.2.1 hchk.2.2 3 (by decide) rfl wf_X1_25 dX1_takeOver_35 ?_
  refine x_put X Y cl_1 hchk.1.1 hchk.1.2 3 (by decide) rfl wf_X1_25 rfl rfl rfl dX1_takeOver_38 (fun H locs Y => ?_)
  refine lv_aload_n hx hb dX1_takeOver_41 rfl (lv_at hl 0 rfl) ?_
  refine lv_aload_n hx hb dX1_takeOver_42 rfl (lv_at hl 1 rfl) ?_
  refine x_geti X Y cl_1 hchk.2.1 hchk.2.2 4 (by decide) rfl wf_X1_29 dX1_takeOver_43 ?_
  refine x_put X Y cl_1 hchk.1.1 hchk.1.2 4 (by decide) rfl wf_X1_29 rfl rfl rfl dX1_takeOver_46 (fun H locs Y => ?_)
  refine lv_aload_n hx hb dX1_takeOver_49 rfl (lv_at hl 0 rfl) ?_
  refine lv_aload_n hx hb dX1_takeOver_50 rfl (lv_at hl 1 rfl) ?_
  refine x_geti X Y cl_1 hchk.2.1 hchk.2.2 5 (by decide) rfl wf_X1_32 dX1_takeOver_51 ?_
  refine x_put X Y cl_1 hchk.1.1 hchk.1.2 5 (by decide) rfl wf_X1_32 rfl rfl rfl dX1_takeOver_54 (fun H locs Y => ?_)
  refine lv_aload_n hx hb dX1_takeOver_57 rfl (lv_at hl 0 rfl) ?_
  refine lv_aload_n hx hb dX1_takeOver_58 rfl (lv_at hl 1 rfl) ?_
  refine x_geti X Y cl_1 hchk.2.1 hchk.2.2 6 (by decide) rfl wf_X1_35 dX1_takeOver_59 ?_
  refine x_put X Y cl_1 hchk.1.1 hchk.1.2 6 (by decide) rfl wf_X1_35 rfl rfl rfl dX1_takeOver_62 (fun H locs Y => ?_)
  refine lv_aload_n hx hb dX1_takeOver_65 rfl (lv_at hl 0 rfl) ?_
  refine lv_aload_n hx hb dX1_takeOver_66 rfl (lv_at hl 1 rfl) ?_
  refine x_geti X Y cl_1 hchk.2.1 hchk.2.2 7 (by decide) rfl wf_X1_38 dX1_takeOver_67 ?_
  refine x_put X Y cl_1 hchk.1.1 hchk.1.2 7 (by decide) rfl wf_X1_38 rfl rfl rfl dX1_takeOver_70 (fun H locs Y => ?_)
  refine lv_aload_n hx hb dX1_takeOver_73 rfl (lv_at hl 0 rfl) ?_
  refine lv_aload_n hx hb dX1_takeOver_74 rfl (lv_at hl 1 rfl) ?_
  refine x_geti X Y cl_1 hchk.2.1 hchk.2.2 8 (by decide) rfl wf_X1_41 dX1_takeOver_75 ?_
  refine x_put X Y cl_1 hchk.1.1 hchk.1.2 8 (by decide) rfl wf_X1_41 rfl rfl rfl dX1_takeOver_78 (fun H locs Y => ?_)
  refine lv_aload_n hx hb dX1_takeOver_81 rfl (lv_at hl 0 rfl) ?_
  refine lv_aload_n hx hb dX1_takeOver_82 rfl (lv_at hl 1 rfl) ?_
  refine x_geti X Y cl_1 hchk.2.1 hchk.2.2 9 (by decide) rfl wf_X1_44 dX1_takeOver_83 ?_
  refine x_put X Y cl_1 hchk.1.1 hchk.1.2 9 (by decide) rfl wf_X1_44 rfl rfl rfl dX1_takeOver_86 (fun H locs Y => ?_)
  refine lv_aload_n hx hb dX1_takeOver_89 rfl (lv_at hl 0 rfl) ?_
  refine lv_aload_n hx hb dX1_takeOver_90 rfl (lv_at hl 1 rfl) ?_
  refine x_geti X Y cl_1 hchk.2.1 hchk.2.2 10 (by decide) rfl wf_X1_47 dX1_takeOver_91 ?_
  refine x_put X Y cl_1 hchk.1.1 hchk.1.2 10 (by decide) rfl wf_X1_47 rfl rfl rfl dX1_takeOver_94 (fun H locs Y => ?_)
  refine lv_aload_n hx hb dX1_takeOver_97 rfl (lv_at hl 0 rfl) ?_
  refine lv_aload_n hx hb dX1_takeOver_98 rfl (lv_at hl 1 rfl) ?_
  refine x_geti X Y cl_1 hchk.2.1 hchk.2.2 11 (by decide) rfl wf_X1_50 dX1_takeOver_99 ?_
  refine x_put X Y cl_1 hchk.1.1 hchk.1.2 11 (by decide) rfl wf_X1_50 rfl rfl rfl dX1_takeOver_102 (fun H locs Y => ?_)
  refine lv_aload_n hx hb dX1_takeOver_105 rfl (lv_at hl 0 rfl) ?_
  refine lv_aload_n hx hb dX1_takeOver_106 rfl (lv_at hl 1 rfl) ?_
  refine x_geti X Y cl_1 hchk.2.1 hchk.2.2 12 (by decide) rfl wf_X1_53 dX1_takeOver_107 ?_
  refine x_put X Y cl_1 hchk.1.1 hchk.1.2 12 (by decide) rfl wf_X1_53 rfl rfl rfl dX1_takeOver_110 (fun H locs Y => ?_)
  refine lv_aload_n hx hb dX1_takeOver_113 rfl (lv_at hl 0 rfl) ?_
  refine lv_aload_n hx hb dX1_takeOver_114 rfl (lv_at hl 1 rfl) ?_
  refine x_geti X Y cl_1 hchk.2.1 hchk.2.2 13 (by decide) rfl wf_X1_56 dX1_takeOver_115 ?_
  refine x_put X Y cl_1 hchk.1.1 hchk.1.2 13 (by decide) rfl wf_X1_56 rfl rfl rfl dX1_takeOver_118 (fun H locs Y => ?_)
  refine lv_aload_n hx hb dX1_takeOver_121 rfl (lv_at hl 0 rfl) ?_
  refine lv_aload_n hx hb dX1_takeOver_122 rfl (lv_at hl 1 rfl) ?_
  refine x_geti X Y cl_1 hchk.2.1 hchk.2.2 14 (by decide) rfl wf_X1_59 dX1_takeOver_123 ?_
  refine x_put X Y cl_1 hchk.1.1 hchk.1.2 14 (by decide) rfl wf_X1_59 rfl rfl rfl dX1_takeOver_126 (fun H locs Y => ?_)
  exact x_vret X Y hr hlk hf dX1_takeOver_129
theorem isM_t {a b : Nat} {I : HI} {q : Int32 × HI} (h : f_X1_takeOver a b I = some q) : kd a = 1 ∧ a < 57 := by
  unfold f_X1_takeOver at h
  exact (chk_t h).1.1
def f_X1_changeSetting_J25 (v1 : Int32) (v2 : Int32) (v3 : Int32) (I : HI) : Option (Int32 × HI) :=
  if v1 = (8 : Int32) then
    (f_X3_keepLatest v2 I).bind fun q5 =>
    some (v3, q5.2)
  else
    some (v3, I)
def f_X1_changeSetting (v1 : Int32) (v2 : Int32) (I : HI) : Option (Int32 × HI) :=
  (f_X1_settingOf v1 I).bind fun q6 =>
  (f_X5_writeAt 2 v1 v2 q6.2).bind fun q7 =>
  if (4 : Int32) < v1 then
    f_X1_changeSetting_J25 v1 v2 q6.1 q7.2
  else
    let I8 := upI q7.2 1 4 (0 : Int32)
    f_X1_changeSetting_J25 v1 v2 q6.1 I8
abbrev rm_X1_changeSetting : Room := { frames := 3, cells := 0, slots := 0, locals := 66 }
set_option maxHeartbeats 4000000 in
set_option maxRecDepth 100000 in
theorem c_X1_changeSetting {l : Launch} {g : GX} (hg : gOk g) {v1 : Int32} {v2 : Int32} {I : HI} {r : Int32 × HI} (hf : f_X1_changeSetting v1 v2 I = some r) : Met l yX1_changeSetting (Cond.code yX1_changeSetting cX1_changeSetting 4 (some .int) :: WL) rm_X1_changeSetting (xP g [.ref (gR g 1), .int v1, .int v2] I) (xQi g r.1 r.2) 0 0 (gA g) := by
  refine x_met (by decide) hg (Nat.le_of_ble_eq_true rfl) (fun p e s m args below meth c X hr hlk Y ls hl => ?_)
  have hx := X.hx
  have hb := X.hb
  have hl : lv_has ls 4 [(0, .ref (gR g 1)), (1, .int v1), (2, .int v2)] := hl
  have hJ25 : ∀ (v1 : Int32) (v2 : Int32) (v3 : Int32) (I : HI) (H : Heap) (locs : List Loc) (ls : Array Slot), f_X1_changeSetting_J25 v1 v2 v3 I = some r → XD g I s H locs → lv_has ls 4 [(0, .ref (gR g 1)), (1, .int v1), (2, .int v2), (3, .int v3)] → W p l e rm_X1_changeSetting s m args below meth c H locs 0 0 (MQ below (xQi g r.1 r.2) args s 0 0 (gA g)) (F0 m 25 ls []) := by
    intro v1 v2 v3 I H locs ls hf Y hl
    unfold f_X1_changeSetting_J25 at hf
    refine lv_iload_n hx hb dX1_changeSetting_25 rfl (lv_at hl 1 rfl) ?_
    refine lv_bipush (v := 8) hx hb dX1_changeSetting_26 (by decide) ?_
    refine lv_icmp_ne (tgt := 39) hx hb dX1_changeSetting_28 (by decide) (fun c => ?_) (fun c => ?_)
    · have hf := ite_f c hf
      refine lv_iload_n hx hb dX1_changeSetting_39 rfl (lv_at hl 3 rfl) ?_
      exact x_iret X Y hr hlk hf dX1_changeSetting_40
    · have hf := ite_t c hf
      refine lv_aload_n hx hb dX1_changeSetting_31 rfl (lv_at hl 0 rfl) ?_
      refine x_get (v := .ref (gR g 4)) X Y cl_1 rfl (by decide) 2 (by decide) wf_X1_21 rfl dX1_changeSetting_32 ?_
      refine lv_iload_n hx hb dX1_changeSetting_35 rfl (lv_at hl 2 rfl) ?_
      obtain ⟨q5, hq, hf⟩ := bnd_t hf
      refine x_cv Y (x_rV (rest := []) X Y k_X1_95 (c_X3_keepLatest X.hg hq) cl_3.1 rfl (by decide) rfl ⟨rfl, rfl⟩ ⟨by decide, by decide⟩ hl.1 rfl (Nat.le_of_ble_eq_true rfl) dX1_changeSetting_36 ⟨Nat.zero_le _, Nat.zero_le _⟩) (fun H locs Y => ?_)
      refine lv_iload_n hx hb dX1_changeSetting_39 rfl (lv_at hl 3 rfl) ?_
      exact x_iret X Y hr hlk hf dX1_changeSetting_40
  unfold f_X1_changeSetting at hf
  refine lv_aload_n hx hb dX1_changeSetting_0 rfl (lv_at hl 0 rfl) ?_
  refine lv_iload_n hx hb dX1_changeSetting_1 rfl (lv_at hl 1 rfl) ?_
  obtain ⟨q6, hq, hf⟩ := bnd_t hf
  refine x_ci Y (x_rV (rest := []) X Y k_X1_87 (c_X1_settingOf X.hg hq) cl_1.1 rfl (by decide) rfl ⟨rfl, rfl⟩ ⟨by decide, by decide⟩ hl.1 rfl (Nat.le_of_ble_eq_true rfl) dX1_changeSetting_2 ⟨Nat.zero_le _, Nat.zero_le _⟩) (fun H locs Y => ?_)
  refine lv_istore_n (lv' := [(3, _), (0, _), (1, _), (2, _)]) hx hb dX1_changeSetting_5 rfl hl (by decide) rfl (fun ls hl => ?_)
  refine lv_aload_n hx hb dX1_changeSetting_6 rfl (lv_at hl 1 rfl) ?_
  refine x_get (v := .ref (gR g 2)) X Y cl_1 rfl (by decide) 0 (by decide) wf_X1_9 rfl dX1_changeSetting_7 ?_
  refine lv_iload_n hx hb dX1_changeSetting_10 rfl (lv_at hl 2 rfl) ?_
  refine lv_iload_n hx hb dX1_changeSetting_11 rfl (lv_at hl 3 rfl) ?_
  obtain ⟨q7, hq, hf⟩ := bnd_t hf
  refine x_cv Y (x_rSN (rest := []) X Y k_X1_91 (c_X5_writeAt X.hg hq) rfl ⟨rfl, rfl⟩ ⟨by decide, by decide⟩ hl.1 rfl (Nat.le_of_ble_eq_true rfl) dX1_changeSetting_12 ⟨Nat.zero_le _, Nat.zero_le _⟩) (fun H locs Y => ?_)
  refine lv_iload_n hx hb dX1_changeSetting_15 rfl (lv_at hl 2 rfl) ?_
  refine lv_iconst (v := 4) hx hb dX1_changeSetting_16 (by decide) ?_
  refine lv_icmp_gt (tgt := 25) hx hb dX1_changeSetting_17 (by decide) (fun c => ?_) (fun c => ?_)
  · have hf := ite_t c hf
    exact hJ25 _ _ _ _ _ _ _ hf Y (lv_sub hl [1, 2, 3, 0] rfl)
  · have hf := ite_f c hf
    refine lv_aload_n hx hb dX1_changeSetting_20 rfl (lv_at hl 1 rfl) ?_
    refine lv_iconst (v := 0) hx hb dX1_changeSetting_21 (by decide) ?_
    refine x_put X Y cl_1 rfl (by decide) 4 (by decide) rfl wf_X1_29 rfl rfl rfl dX1_changeSetting_22 (fun H locs Y => ?_)
    exact hJ25 _ _ _ _ _ _ _ hf Y (lv_sub hl [1, 2, 3, 0] rfl)
def f_X1_errorOfSamples (v1 : Int32) (v2 : Int32) (I : HI) : Option (Int32 × HI) :=
  if v1 < (-100 : Int32) then
    some ((-2 : Int32), I)
  else
    if (100 : Int32) < v1 then
      some ((-2 : Int32), I)
    else
      if v2 < (1 : Int32) then
        some ((-2 : Int32), I)
      else
        if v2 ≤ (100 : Int32) then
          if ((I 1 3) + v2) ≤ (400 : Int32) then
            some ((0 : Int32), I)
          else
            some ((-4 : Int32), I)
        else
          some ((-2 : Int32), I)
abbrev rm_X1_errorOfSamples : Room := { frames := 0, cells := 0, slots := 0, locals := 0 }
set_option maxHeartbeats 4000000 in
set_option maxRecDepth 100000 in
theorem c_X1_errorOfSamples {l : Launch} {g : GX} (hg : gOk g) {v1 : Int32} {v2 : Int32} {I : HI} {r : Int32 × HI} (hf : f_X1_errorOfSamples v1 v2 I = some r) : Met l yX1_errorOfSamples (Cond.code yX1_errorOfSamples cX1_errorOfSamples 3 (some .int) :: WL) rm_X1_errorOfSamples (xP g [.ref (gR g 1), .int v1, .int v2] I) (xQi g r.1 r.2) 0 0 (gA g) := by
  refine x_met (by decide) hg (Nat.le_of_ble_eq_true rfl) (fun p e s m args below meth c X hr hlk Y ls hl => ?_)
  have hx := X.hx
  have hb := X.hb
  have hl : lv_has ls 3 [(0, .ref (gR g 1)), (1, .int v1), (2, .int v2)] := hl
  unfold f_X1_errorOfSamples at hf
  refine lv_iload_n hx hb dX1_errorOfSamples_0 rfl (lv_at hl 1 rfl) ?_
  refine lv_bipush (v := -100) hx hb dX1_errorOfSamples_1 (by decide) ?_
  refine lv_icmp_lt (tgt := 23) hx hb dX1_errorOfSamples_3 (by decide) (fun c => ?_) (fun c => ?_)
  · have hf := ite_t c hf
    refine lv_bipush (v := -2) hx hb dX1_errorOfSamples_23 (by decide) ?_
    exact x_iret X Y hr hlk hf dX1_errorOfSamples_25
  · have hf := ite_f c hf
    refine lv_iload_n hx hb dX1_errorOfSamples_6 rfl (lv_at hl 1 rfl) ?_
    refine lv_bipush (v := 100) hx hb dX1_errorOfSamples_7 (by decide) ?_
    refine lv_icmp_gt (tgt := 23) hx hb dX1_errorOfSamples_9 (by decide) (fun c => ?_) (fun c => ?_)
    · have hf := ite_t c hf
      refine lv_bipush (v := -2) hx hb dX1_errorOfSamples_23 (by decide) ?_
      exact x_iret X Y hr hlk hf dX1_errorOfSamples_25
    · have hf := ite_f c hf
      refine lv_iload_n hx hb dX1_errorOfSamples_12 rfl (lv_at hl 2 rfl) ?_
      refine lv_iconst (v := 1) hx hb dX1_errorOfSamples_13 (by decide) ?_
      refine lv_icmp_lt (tgt := 23) hx hb dX1_errorOfSamples_14 (by decide) (fun c => ?_) (fun c => ?_)
      · have hf := ite_t c hf
        refine lv_bipush (v := -2) hx hb dX1_errorOfSamples_23 (by decide) ?_
        exact x_iret X Y hr hlk hf dX1_errorOfSamples_25
      · have hf := ite_f c hf
        refine lv_iload_n hx hb dX1_errorOfSamples_17 rfl (lv_at hl 2 rfl) ?_
        refine lv_bipush (v := 100) hx hb dX1_errorOfSamples_18 (by decide) ?_
        refine lv_icmp_le (tgt := 26) hx hb dX1_errorOfSamples_20 (by decide) (fun c => ?_) (fun c => ?_)
        · have hf := ite_t c hf
          refine lv_aload_n hx hb dX1_errorOfSamples_26 rfl (lv_at hl 0 rfl) ?_
          refine x_geti X Y cl_1 rfl (by decide) 3 (by decide) rfl wf_X1_25 dX1_errorOfSamples_27 ?_
          refine lv_iload_n hx hb dX1_errorOfSamples_30 rfl (lv_at hl 2 rfl) ?_
          refine lv_iadd hx hb dX1_errorOfSamples_31 ?_
          refine lv_sipush (v := 400) hx hb dX1_errorOfSamples_32 (by decide) ?_
          refine lv_icmp_le (tgt := 43) hx hb dX1_errorOfSamples_35 (by decide) (fun c => ?_) (fun c => ?_)
          · have hf := ite_t c hf
            refine lv_iconst (v := 0) hx hb dX1_errorOfSamples_43 (by decide) ?_
            exact x_iret X Y hr hlk hf dX1_errorOfSamples_44
          · have hf := ite_f c hf
            refine lv_bipush (v := -4) hx hb dX1_errorOfSamples_38 (by decide) ?_
            refine lv_goto (tgt := 44) hx hb dX1_errorOfSamples_40 (by decide) ?_
            exact x_iret X Y hr hlk hf dX1_errorOfSamples_44
        · have hf := ite_f c hf
          refine lv_bipush (v := -2) hx hb dX1_errorOfSamples_23 (by decide) ?_
          exact x_iret X Y hr hlk hf dX1_errorOfSamples_25
def f_X1_detectorAfter_J73 (v1 : Int32) (v2 : Int32) (v3 : Int32) (I : HI) : Option (Int32 × HI) :=
  (f_X1_settingOf (2 : Int32) I).bind fun q5 =>
  if v1 ≤ (v3 + q5.1) then
    some (v2, q5.2)
  else
    some ((1 : Int32), q5.2)
def f_X1_detectorAfter_J44 (v1 : Int32) (v2 : Int32) (v3 : Int32) (I : HI) : Option (Int32 × HI) :=
  (f_X1_settingOf (2 : Int32) I).bind fun q6 =>
  if (v3 - q6.1) ≤ v1 then
    some (v2, q6.2)
  else
    some ((1 : Int32), q6.2)
def f_X1_detectorAfter (v1 : Int32) (v2 : Int32) (v3 : Int32) (I : HI) : Option (Int32 × HI) :=
  (f_X1_settingOf (0 : Int32) I).bind fun q7 =>
  if q7.1 = (0 : Int32) then
    if v2 = (1 : Int32) then
      if v1 < v3 then
        f_X1_detectorAfter_J44 v1 v2 v3 q7.2
      else
        some ((4 : Int32), q7.2)
    else
      f_X1_detectorAfter_J44 v1 v2 v3 q7.2
  else
  if q7.1 = (1 : Int32) then
    if v2 = (1 : Int32) then
      if v3 < v1 then
        f_X1_detectorAfter_J73 v1 v2 v3 q7.2
      else
        some ((4 : Int32), q7.2)
    else
      f_X1_detectorAfter_J73 v1 v2 v3 q7.2
  else
  if v3 ≤ v1 then
    (f_X1_settingOf (4 : Int32) q7.2).bind fun q10 =>
    if v1 < q10.1 then
      if v2 = (1 : Int32) then
        some ((2 : Int32), q10.2)
      else
        some (v2, q10.2)
    else
      some ((0 : Int32), q10.2)
  else
    if v2 = (2 : Int32) then
      some ((5 : Int32), q7.2)
    else
      some ((1 : Int32), q7.2)
abbrev rm_X1_detectorAfter : Room := { frames := 1, cells := 0, slots := 0, locals := 21 }
set_option maxHeartbeats 4000000 in
set_option maxRecDepth 100000 in
theorem c_X1_detectorAfter {l : Launch} {g : GX} (hg : gOk g) {v1 : Int32} {v2 : Int32} {v3 : Int32} {I : HI} {r : Int32 × HI} (hf : f_X1_detectorAfter v1 v2 v3 I = some r) : Met l yX1_detectorAfter (Cond.code yX1_detectorAfter cX1_detectorAfter 4 (some .int) :: WL) rm_X1_detectorAfter (xP g [.ref (gR g 1), .int v1, .int v2, .int v3] I) (xQi g r.1 r.2) 0 0 (gA g) := by
  refine x_met (by decide) hg (Nat.le_of_ble_eq_true rfl) (fun p e s m args below meth c X hr hlk Y ls hl => ?_)
  have hx := X.hx
  have hb := X.hb
  have hl : lv_has ls 4 [(0, .ref (gR g 1)), (1, .int v1), (2, .int v2), (3, .int v3)] := hl
  have hJ73 : ∀ (v1 : Int32) (v2 : Int32) (v3 : Int32) (I : HI) (H : Heap) (locs : List Loc) (ls : Array Slot), f_X1_detectorAfter_J73 v1 v2 v3 I = some r → XD g I s H locs → lv_has ls 4 [(0, .ref (gR g 1)), (1, .int v1), (2, .int v2), (3, .int v3)] → W p l e rm_X1_detectorAfter s m args below meth c H locs 0 0 (MQ below (xQi g r.1 r.2) args s 0 0 (gA g)) (F0 m 73 ls []) := by
    intro v1 v2 v3 I H locs ls hf Y hl
    unfold f_X1_detectorAfter_J73 at hf
    refine lv_iload_n hx hb dX1_detectorAfter_73 rfl (lv_at hl 1 rfl) ?_
    refine lv_iload_n hx hb dX1_detectorAfter_74 rfl (lv_at hl 3 rfl) ?_
    refine lv_aload_n hx hb dX1_detectorAfter_75 rfl (lv_at hl 0 rfl) ?_
    refine lv_iconst (v := 2) hx hb dX1_detectorAfter_76 (by decide) ?_
    obtain ⟨q5, hq, hf⟩ := bnd_t hf
    refine x_ci Y (x_rV (rest := [_, _]) X Y k_X1_87 (c_X1_settingOf X.hg hq) cl_1.1 rfl (by decide) rfl ⟨rfl, rfl⟩ ⟨by decide, by decide⟩ hl.1 rfl (Nat.le_of_ble_eq_true rfl) dX1_detectorAfter_77 ⟨Nat.zero_le _, Nat.zero_le _⟩) (fun H locs Y => ?_)
    refine lv_iadd hx hb dX1_detectorAfter_80 ?_
    refine lv_icmp_le (tgt := 88) hx hb dX1_detectorAfter_81 (by decide) (fun c => ?_) (fun c => ?_)
    · have hf := ite_t c hf
      refine lv_iload_n hx hb dX1_detectorAfter_88 rfl (lv_at hl 2 rfl) ?_
      exact x_iret X Y hr hlk hf dX1_detectorAfter_89
    · have hf := ite_f c hf
      refine lv_iconst (v := 1) hx hb dX1_detectorAfter_84 (by decide) ?_
      refine lv_goto (tgt := 89) hx hb dX1_detectorAfter_85 (by decide) ?_
      exact x_iret X Y hr hlk hf dX1_detectorAfter_89
  have hJ44 : ∀ (v1 : Int32) (v2 : Int32) (v3 : Int32) (I : HI) (H : Heap) (locs : List Loc) (ls : Array Slot), f_X1_detectorAfter_J44 v1 v2 v3 I = some r → XD g I s H locs → lv_has ls 4 [(0, .ref (gR g 1)), (1, .int v1), (2, .int v2), (3, .int v3)] → W p l e rm_X1_detectorAfter s m args below meth c H locs 0 0 (MQ below (xQi g r.1 r.2) args s 0 0 (gA g)) (F0 m 44 ls []) := by
    intro v1 v2 v3 I H locs ls hf Y hl
    unfold f_X1_detectorAfter_J44 at hf
    refine lv_iload_n hx hb dX1_detectorAfter_44 rfl (lv_at hl 1 rfl) ?_
    refine lv_iload_n hx hb dX1_detectorAfter_45 rfl (lv_at hl 3 rfl) ?_
    refine lv_aload_n hx hb dX1_detectorAfter_46 rfl (lv_at hl 0 rfl) ?_
    refine lv_iconst (v := 2) hx hb dX1_detectorAfter_47 (by decide) ?_
    obtain ⟨q6, hq, hf⟩ := bnd_t hf
    refine x_ci Y (x_rV (rest := [_, _]) X Y k_X1_87 (c_X1_settingOf X.hg hq) cl_1.1 rfl (by decide) rfl ⟨rfl, rfl⟩ ⟨by decide, by decide⟩ hl.1 rfl (Nat.le_of_ble_eq_true rfl) dX1_detectorAfter_48 ⟨Nat.zero_le _, Nat.zero_le _⟩) (fun H locs Y => ?_)
    refine lv_isub hx hb dX1_detectorAfter_51 ?_
    refine lv_icmp_ge (tgt := 59) hx hb dX1_detectorAfter_52 (by decide) (fun c => ?_) (fun c => ?_)
    · have hf := ite_t c hf
      refine lv_iload_n hx hb dX1_detectorAfter_59 rfl (lv_at hl 2 rfl) ?_
      exact x_iret X Y hr hlk hf dX1_detectorAfter_60
    · have hf := ite_f c hf
      refine lv_iconst (v := 1) hx hb dX1_detectorAfter_55 (by decide) ?_
      refine lv_goto (tgt := 60) hx hb dX1_detectorAfter_56 (by decide) ?_
      exact x_iret X Y hr hlk hf dX1_detectorAfter_60
  unfold f_X1_detectorAfter at hf
  refine lv_aload_n hx hb dX1_detectorAfter_0 rfl (lv_at hl 0 rfl) ?_
  refine lv_iconst (v := 0) hx hb dX1_detectorAfter_1 (by decide) ?_
  obtain ⟨q7, hq, hf⟩ := bnd_t hf
  refine x_ci Y (x_rV (rest := []) X Y k_X1_87 (c_X1_settingOf X.hg hq) cl_1.1 rfl (by decide) rfl ⟨rfl, rfl⟩ ⟨by decide, by decide⟩ hl.1 rfl (Nat.le_of_ble_eq_true rfl) dX1_detectorAfter_2 ⟨Nat.zero_le _, Nat.zero_le _⟩) (fun H locs Y => ?_)
  by_cases c8 : q7.1 = (0 : Int32)
  · have hf := ite_t c8 hf
    refine lv_lookup (off := 27) (tgt := 32) hx hb dX1_detectorAfter_5 (by decide) (by rw [c8]; decide) (by decide) ?_
    refine lv_iload_n hx hb dX1_detectorAfter_32 rfl (lv_at hl 2 rfl) ?_
    refine lv_iconst (v := 1) hx hb dX1_detectorAfter_33 (by decide) ?_
    refine lv_icmp_ne (tgt := 44) hx hb dX1_detectorAfter_34 (by decide) (fun c => ?_) (fun c => ?_)
    · have hf := ite_f c hf
      exact hJ44 _ _ _ _ _ _ _ hf Y (lv_sub hl [0, 1, 2, 3] rfl)
    · have hf := ite_t c hf
      refine lv_iload_n hx hb dX1_detectorAfter_37 rfl (lv_at hl 1 rfl) ?_
      refine lv_iload_n hx hb dX1_detectorAfter_38 rfl (lv_at hl 3 rfl) ?_
      refine lv_icmp_lt (tgt := 44) hx hb dX1_detectorAfter_39 (by decide) (fun c => ?_) (fun c => ?_)
      · have hf := ite_t c hf
        exact hJ44 _ _ _ _ _ _ _ hf Y (lv_sub hl [0, 1, 2, 3] rfl)
      · have hf := ite_f c hf
        refine lv_iconst (v := 4) hx hb dX1_detectorAfter_42 (by decide) ?_
        exact x_iret X Y hr hlk hf dX1_detectorAfter_43
  have hf := ite_f c8 hf
  by_cases c9 : q7.1 = (1 : Int32)
  · have hf := ite_t c9 hf
    refine lv_lookup (off := 56) (tgt := 61) hx hb dX1_detectorAfter_5 (by decide) (by rw [c9]; decide) (by decide) ?_
    refine lv_iload_n hx hb dX1_detectorAfter_61 rfl (lv_at hl 2 rfl) ?_
    refine lv_iconst (v := 1) hx hb dX1_detectorAfter_62 (by decide) ?_
    refine lv_icmp_ne (tgt := 73) hx hb dX1_detectorAfter_63 (by decide) (fun c => ?_) (fun c => ?_)
    · have hf := ite_f c hf
      exact hJ73 _ _ _ _ _ _ _ hf Y (lv_sub hl [0, 1, 2, 3] rfl)
    · have hf := ite_t c hf
      refine lv_iload_n hx hb dX1_detectorAfter_66 rfl (lv_at hl 1 rfl) ?_
      refine lv_iload_n hx hb dX1_detectorAfter_67 rfl (lv_at hl 3 rfl) ?_
      refine lv_icmp_gt (tgt := 73) hx hb dX1_detectorAfter_68 (by decide) (fun c => ?_) (fun c => ?_)
      · have hf := ite_t c hf
        exact hJ73 _ _ _ _ _ _ _ hf Y (lv_sub hl [0, 1, 2, 3] rfl)
      · have hf := ite_f c hf
        refine lv_iconst (v := 4) hx hb dX1_detectorAfter_71 (by decide) ?_
        exact x_iret X Y hr hlk hf dX1_detectorAfter_72
  have hf := ite_f c9 hf
  refine lv_lookup (off := 85) (tgt := 90) hx hb dX1_detectorAfter_5 (by decide) (by show Op.lookupswitch.offset [(0, _), (1, _)] _ _ = _; rw [lv_osw c8 (by decide), lv_osw c9 (by decide)]; try rfl) (by decide) ?_
  refine lv_iload_n hx hb dX1_detectorAfter_90 rfl (lv_at hl 1 rfl) ?_
  refine lv_iload_n hx hb dX1_detectorAfter_91 rfl (lv_at hl 3 rfl) ?_
  refine lv_icmp_ge (tgt := 106) hx hb dX1_detectorAfter_92 (by decide) (fun c => ?_) (fun c => ?_)
  · have hf := ite_t c hf
    refine lv_iload_n hx hb dX1_detectorAfter_106 rfl (lv_at hl 1 rfl) ?_
    refine lv_aload_n hx hb dX1_detectorAfter_107 rfl (lv_at hl 0 rfl) ?_
    refine lv_iconst (v := 4) hx hb dX1_detectorAfter_108 (by decide) ?_
    obtain ⟨q10, hq, hf⟩ := bnd_t hf
    refine x_ci Y (x_rV (rest := [_]) X Y k_X1_87 (c_X1_settingOf X.hg hq) cl_1.1 rfl (by decide) rfl ⟨rfl, rfl⟩ ⟨by decide, by decide⟩ hl.1 rfl (Nat.le_of_ble_eq_true rfl) dX1_detectorAfter_109 ⟨Nat.zero_le _, Nat.zero_le _⟩) (fun H locs Y => ?_)
    refine lv_icmp_lt (tgt := 117) hx hb dX1_detectorAfter_112 (by decide) (fun c => ?_) (fun c => ?_)
    · have hf := ite_t c hf
      refine lv_iload_n hx hb dX1_detectorAfter_117 rfl (lv_at hl 2 rfl) ?_
      refine lv_iconst (v := 1) hx hb dX1_detectorAfter_118 (by decide) ?_
      refine lv_icmp_ne (tgt := 126) hx hb dX1_detectorAfter_119 (by decide) (fun c => ?_) (fun c => ?_)
      · have hf := ite_f c hf
        refine lv_iload_n hx hb dX1_detectorAfter_126 rfl (lv_at hl 2 rfl) ?_
        exact x_iret X Y hr hlk hf dX1_detectorAfter_127
      · have hf := ite_t c hf
        refine lv_iconst (v := 2) hx hb dX1_detectorAfter_122 (by decide) ?_
        refine lv_goto (tgt := 127) hx hb dX1_detectorAfter_123 (by decide) ?_
        exact x_iret X Y hr hlk hf dX1_detectorAfter_127
    · have hf := ite_f c hf
      refine lv_iconst (v := 0) hx hb dX1_detectorAfter_115 (by decide) ?_
      exact x_iret X Y hr hlk hf dX1_detectorAfter_116
  · have hf := ite_f c hf
    refine lv_iload_n hx hb dX1_detectorAfter_95 rfl (lv_at hl 2 rfl) ?_
    refine lv_iconst (v := 2) hx hb dX1_detectorAfter_96 (by decide) ?_
    refine lv_icmp_ne (tgt := 104) hx hb dX1_detectorAfter_97 (by decide) (fun c => ?_) (fun c => ?_)
    · have hf := ite_f c hf
      refine lv_iconst (v := 1) hx hb dX1_detectorAfter_104 (by decide) ?_
      exact x_iret X Y hr hlk hf dX1_detectorAfter_105
    · have hf := ite_t c hf
      refine lv_iconst (v := 5) hx hb dX1_detectorAfter_100 (by decide) ?_
      refine lv_goto (tgt := 105) hx hb dX1_detectorAfter_101 (by decide) ?_
      exact x_iret X Y hr hlk hf dX1_detectorAfter_105
def f_X1_detect_J15 (v1 : Int32) (w0 : Int32) (I : HI) : Option (Int32 × HI) :=
  (f_X1_settingOf w0 I).bind fun q6 =>
  (f_X1_detectorAfter v1 (q6.2 1 4) q6.1 q6.2).bind fun q7 =>
  let I8 := upI q7.2 1 4 (q7.1 &&& (-5 : Int32))
  if (q7.1 &&& (4 : Int32)) = (0 : Int32) then
    some ((0 : Int32), I8)
  else
    let I9 := upI I8 1 5 ((I8 1 5) + (1 : Int32))
    some ((1 : Int32), I9)
def f_X1_detect (v1 : Int32) (I : HI) : Option (Int32 × HI) :=
  (f_X1_settingOf (0 : Int32) I).bind fun q10 =>
  if q10.1 = (2 : Int32) then
    f_X1_detect_J15 v1 (3 : Int32) q10.2
  else
    f_X1_detect_J15 v1 (1 : Int32) q10.2
abbrev rm_X1_detect : Room := { frames := 2, cells := 0, slots := 0, locals := 44 }
set_option maxHeartbeats 4000000 in
set_option maxRecDepth 100000 in
theorem c_X1_detect {l : Launch} {g : GX} (hg : gOk g) {v1 : Int32} {I : HI} {r : Int32 × HI} (hf : f_X1_detect v1 I = some r) : Met l yX1_detect (Cond.code yX1_detect cX1_detect 4 (some .boolean) :: WL) rm_X1_detect (xP g [.ref (gR g 1), .int v1] I) (xQi g r.1 r.2) 0 0 (gA g) := by
  refine x_met (by decide) hg (Nat.le_of_ble_eq_true rfl) (fun p e s m args below meth c X hr hlk Y ls hl => ?_)
  have hx := X.hx
  have hb := X.hb
  have hl : lv_has ls 4 [(0, .ref (gR g 1)), (1, .int v1)] := hl
  have hJ15 : ∀ (v1 : Int32) (w0 : Int32) (I : HI) (H : Heap) (locs : List Loc) (ls : Array Slot), f_X1_detect_J15 v1 w0 I = some r → XD g I s H locs → lv_has ls 4 [(0, .ref (gR g 1)), (1, .int v1)] → W p l e rm_X1_detect s m args below meth c H locs 0 0 (MQ below (xQi g r.1 r.2) args s 0 0 (gA g)) (F0 m 15 ls [.int w0, .ref (gR g 1)]) := by
    intro v1 w0 I H locs ls hf Y hl
    unfold f_X1_detect_J15 at hf
    obtain ⟨q6, hq, hf⟩ := bnd_t hf
    refine x_ci Y (x_rV (rest := []) X Y k_X1_87 (c_X1_settingOf X.hg hq) cl_1.1 rfl (by decide) rfl ⟨rfl, rfl⟩ ⟨by decide, by decide⟩ hl.1 rfl (Nat.le_of_ble_eq_true rfl) dX1_detect_15 ⟨Nat.zero_le _, Nat.zero_le _⟩) (fun H locs Y => ?_)
    refine lv_istore_n (lv' := [(2, _), (0, _), (1, _)]) hx hb dX1_detect_18 rfl hl (by decide) rfl (fun ls hl => ?_)
    refine lv_aload_n hx hb dX1_detect_19 rfl (lv_at hl 1 rfl) ?_
    refine lv_iload_n hx hb dX1_detect_20 rfl (lv_at hl 2 rfl) ?_
    refine lv_aload_n hx hb dX1_detect_21 rfl (lv_at hl 1 rfl) ?_
    refine x_geti X Y cl_1 rfl (by decide) 4 (by decide) rfl wf_X1_29 dX1_detect_22 ?_
    refine lv_iload_n hx hb dX1_detect_25 rfl (lv_at hl 0 rfl) ?_
    obtain ⟨q7, hq, hf⟩ := bnd_t hf
    refine x_ci Y (x_rV (rest := []) X Y k_X1_116 (c_X1_detectorAfter X.hg hq) cl_1.1 rfl (by decide) rfl ⟨rfl, rfl⟩ ⟨by decide, by decide⟩ hl.1 rfl (Nat.le_of_ble_eq_true rfl) dX1_detect_26 ⟨Nat.zero_le _, Nat.zero_le _⟩) (fun H locs Y => ?_)
    refine lv_istore_n (lv' := [(3, _), (2, _), (0, _), (1, _)]) hx hb dX1_detect_29 rfl hl (by decide) rfl (fun ls hl => ?_)
    refine lv_aload_n hx hb dX1_detect_30 rfl (lv_at hl 2 rfl) ?_
    refine lv_iload_n hx hb dX1_detect_31 rfl (lv_at hl 0 rfl) ?_
    refine lv_bipush (v := -5) hx hb dX1_detect_32 (by decide) ?_
    refine lv_iand hx hb dX1_detect_34 ?_
    refine x_put X Y cl_1 rfl (by decide) 4 (by decide) rfl wf_X1_29 rfl rfl rfl dX1_detect_35 (fun H locs Y => ?_)
    refine lv_iload_n hx hb dX1_detect_38 rfl (lv_at hl 0 rfl) ?_
    refine lv_iconst (v := 4) hx hb dX1_detect_39 (by decide) ?_
    refine lv_iand hx hb dX1_detect_40 ?_
    refine lv_if_ne (tgt := 46) hx hb dX1_detect_41 (by decide) (fun c => ?_) (fun c => ?_)
    · have hf := ite_f c hf
      refine lv_aload_n hx hb dX1_detect_46 rfl (lv_at hl 2 rfl) ?_
      refine lv_dup hx hb dX1_detect_47 rfl ?_
      refine x_geti X Y cl_1 rfl (by decide) 5 (by decide) rfl wf_X1_32 dX1_detect_48 ?_
      refine lv_iconst (v := 1) hx hb dX1_detect_51 (by decide) ?_
      refine lv_iadd hx hb dX1_detect_52 ?_
      refine x_put X Y cl_1 rfl (by decide) 5 (by decide) rfl wf_X1_32 rfl rfl rfl dX1_detect_53 (fun H locs Y => ?_)
      refine lv_iconst (v := 1) hx hb dX1_detect_56 (by decide) ?_
      exact x_zret X Y hr hlk rfl hf dX1_detect_57
    · have hf := ite_t c hf
      refine lv_iconst (v := 0) hx hb dX1_detect_44 (by decide) ?_
      exact x_zret X Y hr hlk rfl hf dX1_detect_45
  unfold f_X1_detect at hf
  refine lv_aload_n hx hb dX1_detect_0 rfl (lv_at hl 0 rfl) ?_
  refine lv_aload_n hx hb dX1_detect_1 rfl (lv_at hl 0 rfl) ?_
  refine lv_iconst (v := 0) hx hb dX1_detect_2 (by decide) ?_
  obtain ⟨q10, hq, hf⟩ := bnd_t hf
  refine x_ci Y (x_rV (rest := [_]) X Y k_X1_87 (c_X1_settingOf X.hg hq) cl_1.1 rfl (by decide) rfl ⟨rfl, rfl⟩ ⟨by decide, by decide⟩ hl.1 rfl (Nat.le_of_ble_eq_true rfl) dX1_detect_3 ⟨Nat.zero_le _, Nat.zero_le _⟩) (fun H locs Y => ?_)
  refine lv_iconst (v := 2) hx hb dX1_detect_6 (by decide) ?_
  refine lv_icmp_ne (tgt := 14) hx hb dX1_detect_7 (by decide) (fun c => ?_) (fun c => ?_)
  · have hf := ite_f c hf
    refine lv_iconst (v := 1) hx hb dX1_detect_14 (by decide) ?_
    exact hJ15 _ _ _ _ _ _ hf Y (lv_sub hl [0, 1] rfl)
  · have hf := ite_t c hf
    refine lv_iconst (v := 3) hx hb dX1_detect_10 (by decide) ?_
    refine lv_goto (tgt := 15) hx hb dX1_detect_11 (by decide) ?_
    exact hJ15 _ _ _ _ _ _ hf Y (lv_sub hl [0, 1] rfl)
def f_X1_phase_J36 (I : HI) : Option (Int32 × HI) :=
  (f_X1_settingOf (6 : Int32) I).bind fun q5 =>
  if (I 1 9) < q5.1 then
    some ((0 : Int32), q5.2)
  else
    (f_X1_settingOf (7 : Int32) q5.2).bind fun q6 =>
    if q6.1 ≤ (q5.2 1 9) then
      some ((1 : Int32), q6.2)
    else
      some ((0 : Int32), q6.2)
def f_X1_phase (I : HI) : Option (Int32 × HI) :=
  if (I 1 14) ≤ (0 : Int32) then
    (f_X1_settingOf (8 : Int32) I).bind fun q7 =>
    if (I 4 1) < q7.1 then
      f_X1_phase_J36 q7.2
    else
      (f_X1_settingOf (9 : Int32) q7.2).bind fun q8 =>
      if q8.1 = (0 : Int32) then
        some ((2 : Int32), q8.2)
      else
        f_X1_phase_J36 q8.2
  else
    some ((3 : Int32), I)
abbrev rm_X1_phase : Room := { frames := 1, cells := 0, slots := 0, locals := 21 }
set_option maxHeartbeats 4000000 in
set_option maxRecDepth 100000 in
theorem c_X1_phase {l : Launch} {g : GX} (hg : gOk g) {I : HI} {r : Int32 × HI} (hf : f_X1_phase I = some r) : Met l yX1_phase (Cond.code yX1_phase cX1_phase 1 (some .int) :: WL) rm_X1_phase (xP g [.ref (gR g 1)] I) (xQi g r.1 r.2) 0 0 (gA g) := by
  refine x_met (by decide) hg (Nat.le_of_ble_eq_true rfl) (fun p e s m args below meth c X hr hlk Y ls hl => ?_)
  have hx := X.hx
  have hb := X.hb
  have hl : lv_has ls 1 [(0, .ref (gR g 1))] := hl
  have hJ36 : ∀ (I : HI) (H : Heap) (locs : List Loc) (ls : Array Slot), f_X1_phase_J36 I = some r → XD g I s H locs → lv_has ls 1 [(0, .ref (gR g 1))] → W p l e rm_X1_phase s m args below meth c H locs 0 0 (MQ below (xQi g r.1 r.2) args s 0 0 (gA g)) (F0 m 36 ls []) := by
    intro I H locs ls hf Y hl
    unfold f_X1_phase_J36 at hf
    refine lv_aload_n hx hb dX1_phase_36 rfl (lv_at hl 0 rfl) ?_
    refine x_geti X Y cl_1 rfl (by decide) 9 (by decide) rfl wf_X1_44 dX1_phase_37 ?_
    refine lv_aload_n hx hb dX1_phase_40 rfl (lv_at hl 0 rfl) ?_
    refine lv_bipush (v := 6) hx hb dX1_phase_41 (by decide) ?_
    obtain ⟨q5, hq, hf⟩ := bnd_t hf
    refine x_ci Y (x_rV (rest := [_]) X Y k_X1_87 (c_X1_settingOf X.hg hq) cl_1.1 rfl (by decide) rfl ⟨rfl, rfl⟩ ⟨by decide, by decide⟩ hl.1 rfl (Nat.le_of_ble_eq_true rfl) dX1_phase_43 ⟨Nat.zero_le _, Nat.zero_le _⟩) (fun H locs Y => ?_)
    refine lv_icmp_lt (tgt := 62) hx hb dX1_phase_46 (by decide) (fun c => ?_) (fun c => ?_)
    · have hf := ite_t c hf
      refine lv_iconst (v := 0) hx hb dX1_phase_62 (by decide) ?_
      refine lv_goto (tgt := 67) hx hb dX1_phase_63 (by decide) ?_
      exact x_iret X Y hr hlk hf dX1_phase_67
    · have hf := ite_f c hf
      refine lv_aload_n hx hb dX1_phase_49 rfl (lv_at hl 0 rfl) ?_
      refine x_geti X Y cl_1 rfl (by decide) 9 (by decide) rfl wf_X1_44 dX1_phase_50 ?_
      refine lv_aload_n hx hb dX1_phase_53 rfl (lv_at hl 0 rfl) ?_
      refine lv_bipush (v := 7) hx hb dX1_phase_54 (by decide) ?_
      obtain ⟨q6, hq, hf⟩ := bnd_t hf
      refine x_ci Y (x_rV (rest := [_]) X Y k_X1_87 (c_X1_settingOf X.hg hq) cl_1.1 rfl (by decide) rfl ⟨rfl, rfl⟩ ⟨by decide, by decide⟩ hl.1 rfl (Nat.le_of_ble_eq_true rfl) dX1_phase_56 ⟨Nat.zero_le _, Nat.zero_le _⟩) (fun H locs Y => ?_)
      refine lv_icmp_ge (tgt := 66) hx hb dX1_phase_59 (by decide) (fun c => ?_) (fun c => ?_)
      · have hf := ite_t c hf
        refine lv_iconst (v := 1) hx hb dX1_phase_66 (by decide) ?_
        exact x_iret X Y hr hlk hf dX1_phase_67
      · have hf := ite_f c hf
        refine lv_iconst (v := 0) hx hb dX1_phase_62 (by decide) ?_
        refine lv_goto (tgt := 67) hx hb dX1_phase_63 (by decide) ?_
        exact x_iret X Y hr hlk hf dX1_phase_67
  unfold f_X1_phase at hf
  refine lv_aload_n hx hb dX1_phase_0 rfl (lv_at hl 0 rfl) ?_
  refine x_geti X Y cl_1 rfl (by decide) 14 (by decide) rfl wf_X1_59 dX1_phase_1 ?_
  refine lv_if_le (tgt := 9) hx hb dX1_phase_4 (by decide) (fun c => ?_) (fun c => ?_)
  · have hf := ite_t c hf
    refine lv_aload_n hx hb dX1_phase_9 rfl (lv_at hl 0 rfl) ?_
    refine x_get (v := .ref (gR g 4)) X Y cl_1 rfl (by decide) 2 (by decide) wf_X1_21 rfl dX1_phase_10 ?_
    refine x_getiN X Y cl_3 rfl (by decide) 1 (by decide) rfl wg_X1_124 dX1_phase_13 ?_
    refine lv_aload_n hx hb dX1_phase_16 rfl (lv_at hl 0 rfl) ?_
    refine lv_bipush (v := 8) hx hb dX1_phase_17 (by decide) ?_
    obtain ⟨q7, hq, hf⟩ := bnd_t hf
    refine x_ci Y (x_rV (rest := [_]) X Y k_X1_87 (c_X1_settingOf X.hg hq) cl_1.1 rfl (by decide) rfl ⟨rfl, rfl⟩ ⟨by decide, by decide⟩ hl.1 rfl (Nat.le_of_ble_eq_true rfl) dX1_phase_19 ⟨Nat.zero_le _, Nat.zero_le _⟩) (fun H locs Y => ?_)
    refine lv_icmp_lt (tgt := 36) hx hb dX1_phase_22 (by decide) (fun c => ?_) (fun c => ?_)
    · have hf := ite_t c hf
      exact hJ36  _ _ _ _ hf Y (lv_sub hl [0] rfl)
    · have hf := ite_f c hf
      refine lv_aload_n hx hb dX1_phase_25 rfl (lv_at hl 0 rfl) ?_
      refine lv_bipush (v := 9) hx hb dX1_phase_26 (by decide) ?_
      obtain ⟨q8, hq, hf⟩ := bnd_t hf
      refine x_ci Y (x_rV (rest := []) X Y k_X1_87 (c_X1_settingOf X.hg hq) cl_1.1 rfl (by decide) rfl ⟨rfl, rfl⟩ ⟨by decide, by decide⟩ hl.1 rfl (Nat.le_of_ble_eq_true rfl) dX1_phase_28 ⟨Nat.zero_le _, Nat.zero_le _⟩) (fun H locs Y => ?_)
      refine lv_if_ne (tgt := 36) hx hb dX1_phase_31 (by decide) (fun c => ?_) (fun c => ?_)
      · have hf := ite_f c hf
        exact hJ36  _ _ _ _ hf Y (lv_sub hl [0] rfl)
      · have hf := ite_t c hf
        refine lv_iconst (v := 2) hx hb dX1_phase_34 (by decide) ?_
        exact x_iret X Y hr hlk hf dX1_phase_35
  · have hf := ite_f c hf
    refine lv_iconst (v := 3) hx hb dX1_phase_7 (by decide) ?_
    exact x_iret X Y hr hlk hf dX1_phase_8
def f_X1_beginSegment (I : HI) : Option (Int32 × HI) :=
  let I10 := upI I 1 6 ((I 1 6) + (1 : Int32))
  let I11 := upI I10 1 10 (I10 1 3)
  (f_X1_settingOf (5 : Int32) I11).bind fun q12 =>
  let I13 := upI q12.2 1 11 q12.1
  (f_X1_settingOf (6 : Int32) I13).bind fun q14 =>
  let I15 := upI q14.2 1 12 q14.1
  (f_X1_settingOf (0 : Int32) I15).bind fun q16 =>
  let I17 := upI q16.2 1 13 q16.1
  let I18 := upI I17 1 14 (((I17 1 11) - (I17 1 12)) - (1 : Int32))
  some (0, I18)
abbrev rm_X1_beginSegment : Room := { frames := 1, cells := 0, slots := 0, locals := 21 }
set_option maxHeartbeats 4000000 in
set_option maxRecDepth 100000 in
theorem c_X1_beginSegment {l : Launch} {g : GX} (hg : gOk g) {I : HI} {r : Int32 × HI} (hf : f_X1_beginSegment I = some r) : Met l yX1_beginSegment (Cond.code yX1_beginSegment cX1_beginSegment 1 none :: WL) rm_X1_beginSegment (xP g [.ref (gR g 1)] I) (xQv g r.2) 0 0 (gA g) := by
  refine x_met (by decide) hg (Nat.le_of_ble_eq_true rfl) (fun p e s m args below meth c X hr hlk Y ls hl => ?_)
  have hx := X.hx
  have hb := X.hb
  have hl : lv_has ls 1 [(0, .ref (gR g 1))] := hl
  unfold f_X1_beginSegment at hf
  refine lv_aload_n hx hb dX1_beginSegment_0 rfl (lv_at hl 0 rfl) ?_
  refine lv_dup hx hb dX1_beginSegment_1 rfl ?_
  refine x_geti X Y cl_1 rfl (by decide) 6 (by decide) rfl wf_X1_35 dX1_beginSegment_2 ?_
  refine lv_iconst (v := 1) hx hb dX1_beginSegment_5 (by decide) ?_
  refine lv_iadd hx hb dX1_beginSegment_6 ?_
  refine x_put X Y cl_1 rfl (by decide) 6 (by decide) rfl wf_X1_35 rfl rfl rfl dX1_beginSegment_7 (fun H locs Y => ?_)
  refine lv_aload_n hx hb dX1_beginSegment_10 rfl (lv_at hl 0 rfl) ?_
  refine lv_aload_n hx hb dX1_beginSegment_11 rfl (lv_at hl 0 rfl) ?_
  refine x_geti X Y cl_1 rfl (by decide) 3 (by decide) rfl wf_X1_25 dX1_beginSegment_12 ?_
  refine x_put X Y cl_1 rfl (by decide) 10 (by decide) rfl wf_X1_47 rfl rfl rfl dX1_beginSegment_15 (fun H locs Y => ?_)
  refine lv_aload_n hx hb dX1_beginSegment_18 rfl (lv_at hl 0 rfl) ?_
  refine lv_aload_n hx hb dX1_beginSegment_19 rfl (lv_at hl 0 rfl) ?_
  refine lv_iconst (v := 5) hx hb dX1_beginSegment_20 (by decide) ?_
  obtain ⟨q12, hq, hf⟩ := bnd_t hf
  refine x_ci Y (x_rV (rest := [_]) X Y k_X1_87 (c_X1_settingOf X.hg hq) cl_1.1 rfl (by decide) rfl ⟨rfl, rfl⟩ ⟨by decide, by decide⟩ hl.1 rfl (Nat.le_of_ble_eq_true rfl) dX1_beginSegment_21 ⟨Nat.zero_le _, Nat.zero_le _⟩) (fun H locs Y => ?_)
  refine x_put X Y cl_1 rfl (by decide) 11 (by decide) rfl wf_X1_50 rfl rfl rfl dX1_beginSegment_24 (fun H locs Y => ?_)
  refine lv_aload_n hx hb dX1_beginSegment_27 rfl (lv_at hl 0 rfl) ?_
  refine lv_aload_n hx hb dX1_beginSegment_28 rfl (lv_at hl 0 rfl) ?_
  refine lv_bipush (v := 6) hx hb dX1_beginSegment_29 (by decide) ?_
  obtain ⟨q14, hq, hf⟩ := bnd_t hf
  refine x_ci Y (x_rV (rest := [_]) X Y k_X1_87 (c_X1_settingOf X.hg hq) cl_1.1 rfl (by decide) rfl ⟨rfl, rfl⟩ ⟨by decide, by decide⟩ hl.1 rfl (Nat.le_of_ble_eq_true rfl) dX1_beginSegment_31 ⟨Nat.zero_le _, Nat.zero_le _⟩) (fun H locs Y => ?_)
  refine x_put X Y cl_1 rfl (by decide) 12 (by decide) rfl wf_X1_53 rfl rfl rfl dX1_beginSegment_34 (fun H locs Y => ?_)
  refine lv_aload_n hx hb dX1_beginSegment_37 rfl (lv_at hl 0 rfl) ?_
  refine lv_aload_n hx hb dX1_beginSegment_38 rfl (lv_at hl 0 rfl) ?_
  refine lv_iconst (v := 0) hx hb dX1_beginSegment_39 (by decide) ?_
  obtain ⟨q16, hq, hf⟩ := bnd_t hf
  refine x_ci Y (x_rV (rest := [_]) X Y k_X1_87 (c_X1_settingOf X.hg hq) cl_1.1 rfl (by decide) rfl ⟨rfl, rfl⟩ ⟨by decide, by decide⟩ hl.1 rfl (Nat.le_of_ble_eq_true rfl) dX1_beginSegment_40 ⟨Nat.zero_le _, Nat.zero_le _⟩) (fun H locs Y => ?_)
  refine x_put X Y cl_1 rfl (by decide) 13 (by decide) rfl wf_X1_56 rfl rfl rfl dX1_beginSegment_43 (fun H locs Y => ?_)
  refine lv_aload_n hx hb dX1_beginSegment_46 rfl (lv_at hl 0 rfl) ?_
  refine lv_aload_n hx hb dX1_beginSegment_47 rfl (lv_at hl 0 rfl) ?_
  refine x_geti X Y cl_1 rfl (by decide) 11 (by decide) rfl wf_X1_50 dX1_beginSegment_48 ?_
  refine lv_aload_n hx hb dX1_beginSegment_51 rfl (lv_at hl 0 rfl) ?_
  refine x_geti X Y cl_1 rfl (by decide) 12 (by decide) rfl wf_X1_53 dX1_beginSegment_52 ?_
  refine lv_isub hx hb dX1_beginSegment_55 ?_
  refine lv_iconst (v := 1) hx hb dX1_beginSegment_56 (by decide) ?_
  refine lv_isub hx hb dX1_beginSegment_57 ?_
  refine x_put X Y cl_1 rfl (by decide) 14 (by decide) rfl wf_X1_59 rfl rfl rfl dX1_beginSegment_58 (fun H locs Y => ?_)
  exact x_vret X Y hr hlk hf dX1_beginSegment_61
def f_X1_takeSample_J124 (I : HI) : Option (Int32 × HI) :=
  if (I 1 14) = (0 : Int32) then
    some ((1 : Int32), I)
  else
    some ((0 : Int32), I)
def f_X1_takeSample_J83 (v1 : Int32) (v3 : Int32) (v4 : Int32) (I : HI) : Option (Int32 × HI) :=
  (f_X5_writeAt 3 (I 1 3) v1 I).bind fun q9 =>
  let I10 := upI q9.2 1 3 ((q9.2 1 3) + (1 : Int32))
  let I11 := upI I10 1 9 ((I10 1 9) + (1 : Int32))
  if v3 = (0 : Int32) then
    if v4 = (0 : Int32) then
      some ((0 : Int32), I11)
    else
      f_X1_takeSample_J124 I11
  else
    f_X1_takeSample_J124 I11
def f_X1_takeSample_J64 (v1 : Int32) (v2 : Int32) (v3 : Int32) (v4 : Int32) (I : HI) : Option (Int32 × HI) :=
  if v2 = (0 : Int32) then
    f_X1_takeSample_J83 v1 v3 v4 I
  else
    if v4 = (0 : Int32) then
      let I12 := upI I 1 7 ((I 1 7) + (1 : Int32))
      f_X1_takeSample_J83 v1 v3 v4 I12
    else
      f_X1_takeSample_J83 v1 v3 v4 I
def f_X1_takeSample_J36 (v1 : Int32) (v2 : Int32) (v3 : Int32) (w0 : Int32) (I : HI) : Option (Int32 × HI) :=
  if v3 = (0 : Int32) then
    if w0 = (0 : Int32) then
      f_X1_takeSample_J64 v1 v2 v3 w0 I
    else
      (f_X1_beginSegment I).bind fun q13 =>
      f_X1_takeSample_J64 v1 v2 v3 w0 q13.2
  else
    let I14 := upI I 1 14 ((I 1 14) - (1 : Int32))
    f_X1_takeSample_J64 v1 v2 v3 w0 I14
def f_X1_takeSample_J18 (v1 : Int32) (v2 : Int32) (w0 : Int32) (I : HI) : Option (Int32 × HI) :=
  if v2 = (0 : Int32) then
    f_X1_takeSample_J36 v1 v2 w0 (0 : Int32) I
  else
    (f_X1_phase I).bind fun q15 =>
    if q15.1 = (1 : Int32) then
      f_X1_takeSample_J36 v1 v2 w0 (1 : Int32) q15.2
    else
      f_X1_takeSample_J36 v1 v2 w0 (0 : Int32) q15.2
def f_X1_takeSample (v1 : Int32) (I : HI) : Option (Int32 × HI) :=
  (f_X1_detect v1 I).bind fun q16 =>
  if (q16.2 1 14) ≤ (0 : Int32) then
    f_X1_takeSample_J18 v1 q16.1 (0 : Int32) q16.2
  else
    f_X1_takeSample_J18 v1 q16.1 (1 : Int32) q16.2
abbrev rm_X1_takeSample : Room := { frames := 3, cells := 0, slots := 0, locals := 67 }
set_option maxHeartbeats 4000000 in
set_option maxRecDepth 100000 in
theorem c_X1_takeSample {l : Launch} {g : GX} (hg : gOk g) {v1 : Int32} {I : HI} {r : Int32 × HI} (hf : f_X1_takeSample v1 I = some r) : Met l yX1_takeSample (Cond.code yX1_takeSample cX1_takeSample 5 (some .boolean) :: WL) rm_X1_takeSample (xP g [.ref (gR g 1), .int v1] I) (xQi g r.1 r.2) 0 0 (gA g) := by
  refine x_met (by decide) hg (Nat.le_of_ble_eq_true rfl) (fun p e s m args below meth c X hr hlk Y ls hl => ?_)
  have hx := X.hx
  have hb := X.hb
  have hl : lv_has ls 5 [(0, .ref (gR g 1)), (1, .int v1)] := hl
  have hJ124 : ∀ (I : HI) (H : Heap) (locs : List Loc) (ls : Array Slot), f_X1_takeSample_J124 I = some r → XD g I s H locs → lv_has ls 5 [(0, .ref (gR g 1))] → W p l e rm_X1_takeSample s m args below meth c H locs 0 0 (MQ below (xQi g r.1 r.2) args s 0 0 (gA g)) (F0 m 124 ls []) := by
    intro I H locs ls hf Y hl
    unfold f_X1_takeSample_J124 at hf
    refine lv_aload_n hx hb dX1_takeSample_124 rfl (lv_at hl 0 rfl) ?_
    refine x_geti X Y cl_1 rfl (by decide) 14 (by decide) rfl wf_X1_59 dX1_takeSample_125 ?_
    refine lv_if_ne (tgt := 135) hx hb dX1_takeSample_128 (by decide) (fun c => ?_) (fun c => ?_)
    · have hf := ite_f c hf
      refine lv_iconst (v := 0) hx hb dX1_takeSample_135 (by decide) ?_
      exact x_zret X Y hr hlk rfl hf dX1_takeSample_136
    · have hf := ite_t c hf
      refine lv_iconst (v := 1) hx hb dX1_takeSample_131 (by decide) ?_
      refine lv_goto (tgt := 136) hx hb dX1_takeSample_132 (by decide) ?_
      exact x_zret X Y hr hlk rfl hf dX1_takeSample_136
  have hJ83 : ∀ (v1 : Int32) (v3 : Int32) (v4 : Int32) (I : HI) (H : Heap) (locs : List Loc) (ls : Array Slot), f_X1_takeSample_J83 v1 v3 v4 I = some r → XD g I s H locs → lv_has ls 5 [(0, .ref (gR g 1)), (1, .int v1), (3, .int v3), (4, .int v4)] → W p l e rm_X1_takeSample s m args below meth c H locs 0 0 (MQ below (xQi g r.1 r.2) args s 0 0 (gA g)) (F0 m 83 ls []) := by
    intro v1 v3 v4 I H locs ls hf Y hl
    unfold f_X1_takeSample_J83 at hf
    refine lv_aload_n hx hb dX1_takeSample_83 rfl (lv_at hl 0 rfl) ?_
    refine x_get (v := .ref (gR g 3)) X Y cl_1 rfl (by decide) 1 (by decide) wf_X1_15 rfl dX1_takeSample_84 ?_
    refine lv_aload_n hx hb dX1_takeSample_87 rfl (lv_at hl 0 rfl) ?_
    refine x_geti X Y cl_1 rfl (by decide) 3 (by decide) rfl wf_X1_25 dX1_takeSample_88 ?_
    refine lv_iload_n hx hb dX1_takeSample_91 rfl (lv_at hl 1 rfl) ?_
    obtain ⟨q9, hq, hf⟩ := bnd_t hf
    refine x_cv Y (x_rSN (rest := []) X Y k_X1_91 (c_X5_writeAt X.hg hq) rfl ⟨rfl, rfl⟩ ⟨by decide, by decide⟩ hl.1 rfl (Nat.le_of_ble_eq_true rfl) dX1_takeSample_92 ⟨Nat.zero_le _, Nat.zero_le _⟩) (fun H locs Y => ?_)
    refine lv_aload_n hx hb dX1_takeSample_95 rfl (lv_at hl 0 rfl) ?_
    refine lv_dup hx hb dX1_takeSample_96 rfl ?_
    refine x_geti X Y cl_1 rfl (by decide) 3 (by decide) rfl wf_X1_25 dX1_takeSample_97 ?_
    refine lv_iconst (v := 1) hx hb dX1_takeSample_100 (by decide) ?_
    refine lv_iadd hx hb dX1_takeSample_101 ?_
    refine x_put X Y cl_1 rfl (by decide) 3 (by decide) rfl wf_X1_25 rfl rfl rfl dX1_takeSample_102 (fun H locs Y => ?_)
    refine lv_aload_n hx hb dX1_takeSample_105 rfl (lv_at hl 0 rfl) ?_
    refine lv_dup hx hb dX1_takeSample_106 rfl ?_
    refine x_geti X Y cl_1 rfl (by decide) 9 (by decide) rfl wf_X1_44 dX1_takeSample_107 ?_
    refine lv_iconst (v := 1) hx hb dX1_takeSample_110 (by decide) ?_
    refine lv_iadd hx hb dX1_takeSample_111 ?_
    refine x_put X Y cl_1 rfl (by decide) 9 (by decide) rfl wf_X1_44 rfl rfl rfl dX1_takeSample_112 (fun H locs Y => ?_)
    refine lv_iload_n hx hb dX1_takeSample_115 rfl (lv_at hl 2 rfl) ?_
    refine lv_if_ne (tgt := 124) hx hb dX1_takeSample_116 (by decide) (fun c => ?_) (fun c => ?_)
    · have hf := ite_f c hf
      exact hJ124  _ _ _ _ hf Y (lv_sub hl [0] rfl)
    · have hf := ite_t c hf
      refine lv_iload hx hb dX1_takeSample_119 (lv_at hl 3 rfl) ?_
      refine lv_if_eq (tgt := 135) hx hb dX1_takeSample_121 (by decide) (fun c => ?_) (fun c => ?_)
      · have hf := ite_t c hf
        refine lv_iconst (v := 0) hx hb dX1_takeSample_135 (by decide) ?_
        exact x_zret X Y hr hlk rfl hf dX1_takeSample_136
      · have hf := ite_f c hf
        exact hJ124  _ _ _ _ hf Y (lv_sub hl [0] rfl)
  have hJ64 : ∀ (v1 : Int32) (v2 : Int32) (v3 : Int32) (v4 : Int32) (I : HI) (H : Heap) (locs : List Loc) (ls : Array Slot), f_X1_takeSample_J64 v1 v2 v3 v4 I = some r → XD g I s H locs → lv_has ls 5 [(0, .ref (gR g 1)), (1, .int v1), (2, .int v2), (3, .int v3), (4, .int v4)] → W p l e rm_X1_takeSample s m args below meth c H locs 0 0 (MQ below (xQi g r.1 r.2) args s 0 0 (gA g)) (F0 m 64 ls []) := by
    intro v1 v2 v3 v4 I H locs ls hf Y hl
    unfold f_X1_takeSample_J64 at hf
    refine lv_iload_n hx hb dX1_takeSample_64 rfl (lv_at hl 2 rfl) ?_
    refine lv_if_eq (tgt := 83) hx hb dX1_takeSample_65 (by decide) (fun c => ?_) (fun c => ?_)
    · have hf := ite_t c hf
      exact hJ83 _ _ _ _ _ _ _ hf Y (lv_sub hl [0, 1, 3, 4] rfl)
    · have hf := ite_f c hf
      refine lv_iload hx hb dX1_takeSample_68 (lv_at hl 4 rfl) ?_
      refine lv_if_ne (tgt := 83) hx hb dX1_takeSample_70 (by decide) (fun c => ?_) (fun c => ?_)
      · have hf := ite_f c hf
        exact hJ83 _ _ _ _ _ _ _ hf Y (lv_sub hl [0, 1, 3, 4] rfl)
      · have hf := ite_t c hf
        refine lv_aload_n hx hb dX1_takeSample_73 rfl (lv_at hl 0 rfl) ?_
        refine lv_dup hx hb dX1_takeSample_74 rfl ?_
        refine x_geti X Y cl_1 rfl (by decide) 7 (by decide) rfl wf_X1_38 dX1_takeSample_75 ?_
        refine lv_iconst (v := 1) hx hb dX1_takeSample_78 (by decide) ?_
        refine lv_iadd hx hb dX1_takeSample_79 ?_
        refine x_put X Y cl_1 rfl (by decide) 7 (by decide) rfl wf_X1_38 rfl rfl rfl dX1_takeSample_80 (fun H locs Y => ?_)
        exact hJ83 _ _ _ _ _ _ _ hf Y (lv_sub hl [0, 1, 3, 4] rfl)
  have hJ36 : ∀ (v1 : Int32) (v2 : Int32) (v3 : Int32) (w0 : Int32) (I : HI) (H : Heap) (locs : List Loc) (ls : Array Slot), f_X1_takeSample_J36 v1 v2 v3 w0 I = some r → XD g I s H locs → lv_has ls 5 [(0, .ref (gR g 1)), (1, .int v1), (2, .int v2), (3, .int v3)] → W p l e rm_X1_takeSample s m args below meth c H locs 0 0 (MQ below (xQi g r.1 r.2) args s 0 0 (gA g)) (F0 m 36 ls [.int w0]) := by
    intro v1 v2 v3 w0 I H locs ls hf Y hl
    unfold f_X1_takeSample_J36 at hf
    refine lv_istore (lv' := [(4, _), (0, _), (1, _), (2, _), (3, _)]) hx hb dX1_takeSample_36 hl (by decide) rfl (fun ls hl => ?_)
    refine lv_iload_n hx hb dX1_takeSample_38 rfl (lv_at hl 4 rfl) ?_
    refine lv_if_eq (tgt := 55) hx hb dX1_takeSample_39 (by decide) (fun c => ?_) (fun c => ?_)
    · have hf := ite_t c hf
      refine lv_iload hx hb dX1_takeSample_55 (lv_at hl 0 rfl) ?_
      refine lv_if_eq (tgt := 64) hx hb dX1_takeSample_57 (by decide) (fun c => ?_) (fun c => ?_)
      · have hf := ite_t c hf
        exact hJ64 _ _ _ _ _ _ _ _ hf Y (lv_sub hl [1, 2, 3, 4, 0] rfl)
      · have hf := ite_f c hf
        refine lv_aload_n hx hb dX1_takeSample_60 rfl (lv_at hl 1 rfl) ?_
        obtain ⟨q13, hq, hf⟩ := bnd_t hf
        refine x_cv Y (x_rV (rest := []) X Y k_X1_113 (c_X1_beginSegment X.hg hq) cl_1.1 rfl (by decide) rfl ⟨rfl, rfl⟩ ⟨by decide, by decide⟩ hl.1 rfl (Nat.le_of_ble_eq_true rfl) dX1_takeSample_61 ⟨Nat.zero_le _, Nat.zero_le _⟩) (fun H locs Y => ?_)
        exact hJ64 _ _ _ _ _ _ _ _ hf Y (lv_sub hl [1, 2, 3, 4, 0] rfl)
    · have hf := ite_f c hf
      refine lv_aload_n hx hb dX1_takeSample_42 rfl (lv_at hl 1 rfl) ?_
      refine lv_dup hx hb dX1_takeSample_43 rfl ?_
      refine x_geti X Y cl_1 rfl (by decide) 14 (by decide) rfl wf_X1_59 dX1_takeSample_44 ?_
      refine lv_iconst (v := 1) hx hb dX1_takeSample_47 (by decide) ?_
      refine lv_isub hx hb dX1_takeSample_48 ?_
      refine x_put X Y cl_1 rfl (by decide) 14 (by decide) rfl wf_X1_59 rfl rfl rfl dX1_takeSample_49 (fun H locs Y => ?_)
      refine lv_goto (tgt := 64) hx hb dX1_takeSample_52 (by decide) ?_
      exact hJ64 _ _ _ _ _ _ _ _ hf Y (lv_sub hl [1, 2, 3, 4, 0] rfl)
  have hJ18 : ∀ (v1 : Int32) (v2 : Int32) (w0 : Int32) (I : HI) (H : Heap) (locs : List Loc) (ls : Array Slot), f_X1_takeSample_J18 v1 v2 w0 I = some r → XD g I s H locs → lv_has ls 5 [(0, .ref (gR g 1)), (1, .int v1), (2, .int v2)] → W p l e rm_X1_takeSample s m args below meth c H locs 0 0 (MQ below (xQi g r.1 r.2) args s 0 0 (gA g)) (F0 m 18 ls [.int w0]) := by
    intro v1 v2 w0 I H locs ls hf Y hl
    unfold f_X1_takeSample_J18 at hf
    refine lv_istore_n (lv' := [(3, _), (0, _), (1, _), (2, _)]) hx hb dX1_takeSample_18 rfl hl (by decide) rfl (fun ls hl => ?_)
    refine lv_iload_n hx hb dX1_takeSample_19 rfl (lv_at hl 3 rfl) ?_
    refine lv_if_eq (tgt := 35) hx hb dX1_takeSample_20 (by decide) (fun c => ?_) (fun c => ?_)
    · have hf := ite_t c hf
      refine lv_iconst (v := 0) hx hb dX1_takeSample_35 (by decide) ?_
      exact hJ36 _ _ _ _ _ _ _ _ hf Y (lv_sub hl [1, 2, 3, 0] rfl)
    · have hf := ite_f c hf
      refine lv_aload_n hx hb dX1_takeSample_23 rfl (lv_at hl 1 rfl) ?_
      obtain ⟨q15, hq, hf⟩ := bnd_t hf
      refine x_ci Y (x_rV (rest := []) X Y k_X1_109 (c_X1_phase X.hg hq) cl_1.1 rfl (by decide) rfl ⟨rfl, rfl⟩ ⟨by decide, by decide⟩ hl.1 rfl (Nat.le_of_ble_eq_true rfl) dX1_takeSample_24 ⟨Nat.zero_le _, Nat.zero_le _⟩) (fun H locs Y => ?_)
      refine lv_iconst (v := 1) hx hb dX1_takeSample_27 (by decide) ?_
      refine lv_icmp_ne (tgt := 35) hx hb dX1_takeSample_28 (by decide) (fun c => ?_) (fun c => ?_)
      · have hf := ite_f c hf
        refine lv_iconst (v := 0) hx hb dX1_takeSample_35 (by decide) ?_
        exact hJ36 _ _ _ _ _ _ _ _ hf Y (lv_sub hl [1, 2, 3, 0] rfl)
      · have hf := ite_t c hf
        refine lv_iconst (v := 1) hx hb dX1_takeSample_31 (by decide) ?_
        refine lv_goto (tgt := 36) hx hb dX1_takeSample_32 (by decide) ?_
        exact hJ36 _ _ _ _ _ _ _ _ hf Y (lv_sub hl [1, 2, 3, 0] rfl)
  unfold f_X1_takeSample at hf
  refine lv_aload_n hx hb dX1_takeSample_0 rfl (lv_at hl 0 rfl) ?_
  refine lv_iload_n hx hb dX1_takeSample_1 rfl (lv_at hl 1 rfl) ?_
  obtain ⟨q16, hq, hf⟩ := bnd_t hf
  refine x_ci Y (x_rV (rest := []) X Y k_X1_106 (c_X1_detect X.hg hq) cl_1.1 rfl (by decide) rfl ⟨rfl, rfl⟩ ⟨by decide, by decide⟩ hl.1 rfl (Nat.le_of_ble_eq_true rfl) dX1_takeSample_2 ⟨Nat.zero_le _, Nat.zero_le _⟩) (fun H locs Y => ?_)
  refine lv_istore_n (lv' := [(2, _), (0, _), (1, _)]) hx hb dX1_takeSample_5 rfl hl (by decide) rfl (fun ls hl => ?_)
  refine lv_aload_n hx hb dX1_takeSample_6 rfl (lv_at hl 1 rfl) ?_
  refine x_geti X Y cl_1 rfl (by decide) 14 (by decide) rfl wf_X1_59 dX1_takeSample_7 ?_
  refine lv_if_le (tgt := 17) hx hb dX1_takeSample_10 (by decide) (fun c => ?_) (fun c => ?_)
  · have hf := ite_t c hf
    refine lv_iconst (v := 0) hx hb dX1_takeSample_17 (by decide) ?_
    exact hJ18 _ _ _ _ _ _ _ hf Y (lv_sub hl [1, 2, 0] rfl)
  · have hf := ite_f c hf
    refine lv_iconst (v := 1) hx hb dX1_takeSample_13 (by decide) ?_
    refine lv_goto (tgt := 18) hx hb dX1_takeSample_14 (by decide) ?_
    exact hJ18 _ _ _ _ _ _ _ hf Y (lv_sub hl [1, 2, 0] rfl)
def f_X1_completeSegment (I : HI) : Option (Int32 × HI) :=
  (f_X1_settingOf (8 : Int32) I).bind fun q6 =>
  (f_X3_keepLatest (q6.1 - (1 : Int32)) q6.2).bind fun q7 =>
  (f_X3_append (q7.2 1 10) (q7.2 1 11) (q7.2 1 12) (q7.2 1 13) q7.2).bind fun q8 =>
  let I9 := upI q8.2 1 8 ((q8.2 1 8) + (1 : Int32))
  let I10 := upI I9 1 9 (0 : Int32)
  some (0, I10)
abbrev rm_X1_completeSegment : Room := { frames := 3, cells := 0, slots := 0, locals := 66 }
set_option maxHeartbeats 4000000 in
set_option maxRecDepth 100000 in
theorem c_X1_completeSegment {l : Launch} {g : GX} (hg : gOk g) {I : HI} {r : Int32 × HI} (hf : f_X1_completeSegment I = some r) : Met l yX1_completeSegment (Cond.code yX1_completeSegment cX1_completeSegment 1 none :: WL) rm_X1_completeSegment (xP g [.ref (gR g 1)] I) (xQv g r.2) 0 0 (gA g) := by
  refine x_met (by decide) hg (Nat.le_of_ble_eq_true rfl) (fun p e s m args below meth c X hr hlk Y ls hl => ?_)
  have hx := X.hx
  have hb := X.hb
  have hl : lv_has ls 1 [(0, .ref (gR g 1))] := hl
  unfold f_X1_completeSegment at hf
  refine lv_aload_n hx hb dX1_completeSegment_0 rfl (lv_at hl 0 rfl) ?_
  refine x_get (v := .ref (gR g 4)) X Y cl_1 rfl (by decide) 2 (by decide) wf_X1_21 rfl dX1_completeSegment_1 ?_
  refine lv_aload_n hx hb dX1_completeSegment_4 rfl (lv_at hl 0 rfl) ?_
  refine lv_bipush (v := 8) hx hb dX1_completeSegment_5 (by decide) ?_
  obtain ⟨q6, hq, hf⟩ := bnd_t hf
  refine x_ci Y (x_rV (rest := [_]) X Y k_X1_87 (c_X1_settingOf X.hg hq) cl_1.1 rfl (by decide) rfl ⟨rfl, rfl⟩ ⟨by decide, by decide⟩ hl.1 rfl (Nat.le_of_ble_eq_true rfl) dX1_completeSegment_7 ⟨Nat.zero_le _, Nat.zero_le _⟩) (fun H locs Y => ?_)
  refine lv_iconst (v := 1) hx hb dX1_completeSegment_10 (by decide) ?_
  refine lv_isub hx hb dX1_completeSegment_11 ?_
  obtain ⟨q7, hq, hf⟩ := bnd_t hf
  refine x_cv Y (x_rV (rest := []) X Y k_X1_95 (c_X3_keepLatest X.hg hq) cl_3.1 rfl (by decide) rfl ⟨rfl, rfl⟩ ⟨by decide, by decide⟩ hl.1 rfl (Nat.le_of_ble_eq_true rfl) dX1_completeSegment_12 ⟨Nat.zero_le _, Nat.zero_le _⟩) (fun H locs Y => ?_)
  refine lv_aload_n hx hb dX1_completeSegment_15 rfl (lv_at hl 0 rfl) ?_
  refine x_get (v := .ref (gR g 4)) X Y cl_1 rfl (by decide) 2 (by decide) wf_X1_21 rfl dX1_completeSegment_16 ?_
  refine lv_aload_n hx hb dX1_completeSegment_19 rfl (lv_at hl 0 rfl) ?_
  refine x_geti X Y cl_1 rfl (by decide) 10 (by decide) rfl wf_X1_47 dX1_completeSegment_20 ?_
  refine lv_aload_n hx hb dX1_completeSegment_23 rfl (lv_at hl 0 rfl) ?_
  refine x_geti X Y cl_1 rfl (by decide) 11 (by decide) rfl wf_X1_50 dX1_completeSegment_24 ?_
  refine lv_aload_n hx hb dX1_completeSegment_27 rfl (lv_at hl 0 rfl) ?_
  refine x_geti X Y cl_1 rfl (by decide) 12 (by decide) rfl wf_X1_53 dX1_completeSegment_28 ?_
  refine lv_aload_n hx hb dX1_completeSegment_31 rfl (lv_at hl 0 rfl) ?_
  refine x_geti X Y cl_1 rfl (by decide) 13 (by decide) rfl wf_X1_56 dX1_completeSegment_32 ?_
  obtain ⟨q8, hq, hf⟩ := bnd_t hf
  refine x_cv Y (x_rV (rest := []) X Y k_X1_120 (c_X3_append X.hg hq) cl_3.1 rfl (by decide) rfl ⟨rfl, rfl⟩ ⟨by decide, by decide⟩ hl.1 rfl (Nat.le_of_ble_eq_true rfl) dX1_completeSegment_35 ⟨Nat.zero_le _, Nat.zero_le _⟩) (fun H locs Y => ?_)
  refine lv_aload_n hx hb dX1_completeSegment_38 rfl (lv_at hl 0 rfl) ?_
  refine lv_dup hx hb dX1_completeSegment_39 rfl ?_
  refine x_geti X Y cl_1 rfl (by decide) 8 (by decide) rfl wf_X1_41 dX1_completeSegment_40 ?_
  refine lv_iconst (v := 1) hx hb dX1_completeSegment_43 (by decide) ?_
  refine lv_iadd hx hb dX1_completeSegment_44 ?_
  refine x_put X Y cl_1 rfl (by decide) 8 (by decide) rfl wf_X1_41 rfl rfl rfl dX1_completeSegment_45 (fun H locs Y => ?_)
  refine lv_aload_n hx hb dX1_completeSegment_48 rfl (lv_at hl 0 rfl) ?_
  refine lv_iconst (v := 0) hx hb dX1_completeSegment_49 (by decide) ?_
  refine x_put X Y cl_1 rfl (by decide) 9 (by decide) rfl wf_X1_44 rfl rfl rfl dX1_completeSegment_50 (fun H locs Y => ?_)
  exact x_vret X Y hr hlk hf dX1_completeSegment_53
def f_X1_takeSamples_L5_b (v1 : Int32) (v2 : Int32) (k : Int32 → Int32 → HI → Option (Int32 × HI)) (v3 : Int32) (v4 : Int32) (I : HI) : Option (Int32 × HI) :=
  if v2 ≤ v4 then
    some (v3, I)
  else
    (f_X1_takeSample v1 I).bind fun q3 =>
    if q3.1 = (0 : Int32) then
      k v3 (v4 + (1 : Int32)) q3.2
    else
      (f_X1_completeSegment q3.2).bind fun q4 =>
      k (v3 + (1 : Int32)) (v4 + (1 : Int32)) q4.2
def f_X1_takeSamples_L5 (v1 : Int32) (v2 : Int32) : Nat → Int32 → Int32 → HI → Option (Int32 × HI)
  | 0, _, _, _ => none
  | n + 1, v3, v4, I => f_X1_takeSamples_L5_b v1 v2 (f_X1_takeSamples_L5 v1 v2 n) v3 v4 I
def f_X1_takeSamples (v1 : Int32) (v2 : Int32) (I : HI) : Option (Int32 × HI) :=
  f_X1_takeSamples_L5 v1 v2 4000 (0 : Int32) (0 : Int32) I
abbrev rm_X1_takeSamples : Room := { frames := 4, cells := 0, slots := 0, locals := 91 }
set_option maxHeartbeats 4000000 in
set_option maxRecDepth 100000 in
theorem c_X1_takeSamples {l : Launch} {g : GX} (hg : gOk g) {v1 : Int32} {v2 : Int32} {I : HI} {r : Int32 × HI} (hf : f_X1_takeSamples v1 v2 I = some r) : Met l yX1_takeSamples (Cond.code yX1_takeSamples cX1_takeSamples 5 (some .int) :: WL) rm_X1_takeSamples (xP g [.ref (gR g 1), .int v1, .int v2] I) (xQi g r.1 r.2) 0 0 (gA g) := by
  refine x_met (by decide) hg (Nat.le_of_ble_eq_true rfl) (fun p e s m args below meth c X hr hlk Y ls hl => ?_)
  have hx := X.hx
  have hb := X.hb
  have hl : lv_has ls 5 [(0, .ref (gR g 1)), (1, .int v1), (2, .int v2)] := hl
  have hL5 : ∀ (v1 : Int32) (v2 : Int32) (n : Nat) (v3 : Int32) (v4 : Int32) (I : HI) (H : Heap) (locs : List Loc) (ls : Array Slot), f_X1_takeSamples_L5 v1 v2 n v3 v4 I = some r → XD g I s H locs → lv_has ls 5 [(0, .ref (gR g 1)), (1, .int v1), (2, .int v2), (3, .int v3), (4, .int v4)] → W p l e rm_X1_takeSamples s m args below meth c H locs 0 0 (MQ below (xQi g r.1 r.2) args s 0 0 (gA g)) (F0 m 5 ls []) := by
    intro v1 v2 n
    induction n with
    | zero => intro v3 v4 I H locs ls hf Y hl; exact nn_t hf
    | succ n ih =>
      intro v3 v4 I H locs ls hf Y hl
      have hf : f_X1_takeSamples_L5_b v1 v2 (f_X1_takeSamples_L5 v1 v2 n) v3 v4 I = some r := hf
      unfold f_X1_takeSamples_L5_b at hf
      refine lv_iload hx hb dX1_takeSamples_5 (lv_at hl 4 rfl) ?_
      refine lv_iload_n hx hb dX1_takeSamples_7 rfl (lv_at hl 2 rfl) ?_
      refine lv_icmp_ge (tgt := 32) hx hb dX1_takeSamples_8 (by decide) (fun c => ?_) (fun c => ?_)
      · have hf := ite_t c hf
        refine lv_iload_n hx hb dX1_takeSamples_32 rfl (lv_at hl 3 rfl) ?_
        exact x_iret X Y hr hlk hf dX1_takeSamples_33
      · have hf := ite_f c hf
        refine lv_aload_n hx hb dX1_takeSamples_11 rfl (lv_at hl 0 rfl) ?_
        refine lv_iload_n hx hb dX1_takeSamples_12 rfl (lv_at hl 1 rfl) ?_
        obtain ⟨q3, hq, hf⟩ := bnd_t hf
        refine x_ci Y (x_rV (rest := []) X Y k_X1_99 (c_X1_takeSample X.hg hq) cl_1.1 rfl (by decide) rfl ⟨rfl, rfl⟩ ⟨by decide, by decide⟩ hl.1 rfl (Nat.le_of_ble_eq_true rfl) dX1_takeSamples_13 ⟨Nat.zero_le _, Nat.zero_le _⟩) (fun H locs Y => ?_)
        refine lv_if_eq (tgt := 26) hx hb dX1_takeSamples_16 (by decide) (fun c => ?_) (fun c => ?_)
        · have hf := ite_t c hf
          refine lv_iinc (v := _ + (1 : Int32)) (lv' := [(4, _), (0, _), (1, _), (2, _), (3, _)]) hx hb dX1_takeSamples_26 hl (k := 4) rfl rfl (by decide) rfl (fun ls hl => ?_)
          refine lv_goto (tgt := 5) hx hb dX1_takeSamples_29 (by decide) ?_
          exact ih _ _ _ _ _ _ hf Y (lv_sub hl [1, 2, 3, 4, 0] rfl)
        · have hf := ite_f c hf
          refine lv_aload_n hx hb dX1_takeSamples_19 rfl (lv_at hl 0 rfl) ?_
          obtain ⟨q4, hq, hf⟩ := bnd_t hf
          refine x_cv Y (x_rV (rest := []) X Y k_X1_103 (c_X1_completeSegment X.hg hq) cl_1.1 rfl (by decide) rfl ⟨rfl, rfl⟩ ⟨by decide, by decide⟩ hl.1 rfl (Nat.le_of_ble_eq_true rfl) dX1_takeSamples_20 ⟨Nat.zero_le _, Nat.zero_le _⟩) (fun H locs Y => ?_)
          refine lv_iinc (v := _ + (1 : Int32)) (lv' := [(3, _), (0, _), (1, _), (2, _), (4, _)]) hx hb dX1_takeSamples_23 hl (k := 3) rfl rfl (by decide) rfl (fun ls hl => ?_)
          refine lv_iinc (v := _ + (1 : Int32)) (lv' := [(4, _), (3, _), (0, _), (1, _), (2, _)]) hx hb dX1_takeSamples_26 hl (k := 4) rfl rfl (by decide) rfl (fun ls hl => ?_)
          refine lv_goto (tgt := 5) hx hb dX1_takeSamples_29 (by decide) ?_
          exact ih _ _ _ _ _ _ hf Y (lv_sub hl [2, 3, 4, 1, 0] rfl)
  unfold f_X1_takeSamples at hf
  refine lv_iconst (v := 0) hx hb dX1_takeSamples_0 (by decide) ?_
  refine lv_istore_n (lv' := [(3, _), (0, _), (1, _), (2, _)]) hx hb dX1_takeSamples_1 rfl hl (by decide) rfl (fun ls hl => ?_)
  refine lv_iconst (v := 0) hx hb dX1_takeSamples_2 (by decide) ?_
  refine lv_istore (lv' := [(4, _), (3, _), (0, _), (1, _), (2, _)]) hx hb dX1_takeSamples_3 hl (by decide) rfl (fun ls hl => ?_)
  exact hL5 _ _ _ _ _ _ _ _ _ hf Y (lv_sub hl [2, 3, 4, 1, 0] rfl)
def f_X1_forget (I : HI) : Option (Int32 × HI) :=
  let x6 := I 4 1
  let I7 := upI I 4 1 (0 : Int32)
  let I8 := upI I7 1 3 (0 : Int32)
  let I9 := upI I8 1 9 (0 : Int32)
  let I10 := upI I9 1 14 (0 : Int32)
  let I11 := upI I10 1 4 (0 : Int32)
  some (x6, I11)
abbrev rm_X1_forget : Room := { frames := 0, cells := 0, slots := 0, locals := 0 }
set_option maxHeartbeats 4000000 in
set_option maxRecDepth 100000 in
theorem c_X1_forget {l : Launch} {g : GX} (hg : gOk g) {I : HI} {r : Int32 × HI} (hf : f_X1_forget I = some r) : Met l yX1_forget (Cond.code yX1_forget cX1_forget 2 (some .int) :: WL) rm_X1_forget (xP g [.ref (gR g 1)] I) (xQi g r.1 r.2) 0 0 (gA g) := by
  refine x_met (by decide) hg (Nat.le_of_ble_eq_true rfl) (fun p e s m args below meth c X hr hlk Y ls hl => ?_)
  have hx := X.hx
  have hb := X.hb
  have hl : lv_has ls 2 [(0, .ref (gR g 1))] := hl
  unfold f_X1_forget at hf
  refine lv_aload_n hx hb dX1_forget_0 rfl (lv_at hl 0 rfl) ?_
  refine x_get (v := .ref (gR g 4)) X Y cl_1 rfl (by decide) 2 (by decide) wf_X1_21 rfl dX1_forget_1 ?_
  refine x_getiN X Y cl_3 rfl (by decide) 1 (by decide) rfl wg_X1_124 dX1_forget_4 ?_
  refine lv_istore_n (lv' := [(1, _), (0, _)]) hx hb dX1_forget_7 rfl hl (by decide) rfl (fun ls hl => ?_)
  refine lv_aload_n hx hb dX1_forget_8 rfl (lv_at hl 1 rfl) ?_
  refine x_get (v := .ref (gR g 4)) X Y cl_1 rfl (by decide) 2 (by decide) wf_X1_21 rfl dX1_forget_9 ?_
  refine lv_iconst (v := 0) hx hb dX1_forget_12 (by decide) ?_
  refine x_putN X Y cl_3 rfl (by decide) 1 (by decide) rfl wg_X1_124 rfl rfl rfl dX1_forget_13 (fun H locs Y => ?_)
  refine lv_aload_n hx hb dX1_forget_16 rfl (lv_at hl 1 rfl) ?_
  refine lv_iconst (v := 0) hx hb dX1_forget_17 (by decide) ?_
  refine x_put X Y cl_1 rfl (by decide) 3 (by decide) rfl wf_X1_25 rfl rfl rfl dX1_forget_18 (fun H locs Y => ?_)
  refine lv_aload_n hx hb dX1_forget_21 rfl (lv_at hl 1 rfl) ?_
  refine lv_iconst (v := 0) hx hb dX1_forget_22 (by decide) ?_
  refine x_put X Y cl_1 rfl (by decide) 9 (by decide) rfl wf_X1_44 rfl rfl rfl dX1_forget_23 (fun H locs Y => ?_)
  refine lv_aload_n hx hb dX1_forget_26 rfl (lv_at hl 1 rfl) ?_
  refine lv_iconst (v := 0) hx hb dX1_forget_27 (by decide) ?_
  refine x_put X Y cl_1 rfl (by decide) 14 (by decide) rfl wf_X1_59 rfl rfl rfl dX1_forget_28 (fun H locs Y => ?_)
  refine lv_aload_n hx hb dX1_forget_31 rfl (lv_at hl 1 rfl) ?_
  refine lv_iconst (v := 0) hx hb dX1_forget_32 (by decide) ?_
  refine x_put X Y cl_1 rfl (by decide) 4 (by decide) rfl wf_X1_29 rfl rfl rfl dX1_forget_33 (fun H locs Y => ?_)
  refine lv_iload_n hx hb dX1_forget_36 rfl (lv_at hl 0 rfl) ?_
  exact x_iret X Y hr hlk hf dX1_forget_37
def f_X1_sampleAt (v1 : Int32) (I : HI) : Option (Int32 × HI) :=
  (f_X5_at 3 v1 I).bind fun q2 =>
  some (q2.1, q2.2)
abbrev rm_X1_sampleAt : Room := { frames := 1, cells := 0, slots := 0, locals := 21 }
set_option maxHeartbeats 4000000 in
set_option maxRecDepth 100000 in
theorem c_X1_sampleAt {l : Launch} {g : GX} (hg : gOk g) {v1 : Int32} {I : HI} {r : Int32 × HI} (hf : f_X1_sampleAt v1 I = some r) : Met l yX1_sampleAt (Cond.code yX1_sampleAt cX1_sampleAt 2 (some .int) :: WL) rm_X1_sampleAt (xP g [.ref (gR g 1), .int v1] I) (xQi g r.1 r.2) 0 0 (gA g) := by
  refine x_met (by decide) hg (Nat.le_of_ble_eq_true rfl) (fun p e s m args below meth c X hr hlk Y ls hl => ?_)
  have hx := X.hx
  have hb := X.hb
  have hl : lv_has ls 2 [(0, .ref (gR g 1)), (1, .int v1)] := hl
  unfold f_X1_sampleAt at hf
  refine lv_aload_n hx hb dX1_sampleAt_0 rfl (lv_at hl 0 rfl) ?_
  refine x_get (v := .ref (gR g 3)) X Y cl_1 rfl (by decide) 1 (by decide) wf_X1_15 rfl dX1_sampleAt_1 ?_
  refine lv_iload_n hx hb dX1_sampleAt_4 rfl (lv_at hl 1 rfl) ?_
  obtain ⟨q2, hq, hf⟩ := bnd_t hf
  refine x_ci Y (x_rSN (rest := []) X Y k_X1_76 (c_X5_at X.hg hq) rfl ⟨rfl, rfl⟩ ⟨by decide, by decide⟩ hl.1 rfl (Nat.le_of_ble_eq_true rfl) dX1_sampleAt_5 ⟨Nat.zero_le _, Nat.zero_le _⟩) (fun H locs Y => ?_)
  exact x_iret X Y hr hlk hf dX1_sampleAt_8
def f_X1_leastOf_L29_b (v2 : Int32) (v3 : Int32) (k : Int32 → Int32 → HI → Option (Int32 × HI)) (v4 : Int32) (v5 : Int32) (I : HI) : Option (Int32 × HI) :=
  if v3 ≤ v5 then
    some (v4, I)
  else
    (f_X1_sampleAt (v2 + v5) I).bind fun q5 =>
    let x6 := if q5.1 < v4 then q5.1 else v4
    k x6 (v5 + (1 : Int32)) q5.2
def f_X1_leastOf_L29 (v2 : Int32) (v3 : Int32) : Nat → Int32 → Int32 → HI → Option (Int32 × HI)
  | 0, _, _, _ => none
  | n + 1, v4, v5, I => f_X1_leastOf_L29_b v2 v3 (f_X1_leastOf_L29 v2 v3 n) v4 v5 I
def f_X1_leastOf (v1 : Int32) (I : HI) : Option (Int32 × HI) :=
  (f_X3_firstOf v1 I).bind fun q7 =>
  (f_X3_numberOf v1 (1 : Int32) q7.2).bind fun q8 =>
  (f_X1_sampleAt q7.1 q8.2).bind fun q9 =>
  f_X1_leastOf_L29 q7.1 q8.1 4000 q9.1 (1 : Int32) q9.2
abbrev rm_X1_leastOf : Room := { frames := 3, cells := 0, slots := 0, locals := 64 }
set_option maxHeartbeats 4000000 in
set_option maxRecDepth 100000 in
theorem c_X1_leastOf {l : Launch} {g : GX} (hg : gOk g) {v1 : Int32} {I : HI} {r : Int32 × HI} (hf : f_X1_leastOf v1 I = some r) : Met l yX1_leastOf (Cond.code yX1_leastOf cX1_leastOf 6 (some .int) :: WL) rm_X1_leastOf (xP g [.ref (gR g 1), .int v1] I) (xQi g r.1 r.2) 0 0 (gA g) := by
  refine x_met (by decide) hg (Nat.le_of_ble_eq_true rfl) (fun p e s m args below meth c X hr hlk Y ls hl => ?_)
  have hx := X.hx
  have hb := X.hb
  have hl : lv_has ls 6 [(0, .ref (gR g 1)), (1, .int v1)] := hl
  have hL29 : ∀ (v2 : Int32) (v3 : Int32) (n : Nat) (v4 : Int32) (v5 : Int32) (I : HI) (H : Heap) (locs : List Loc) (ls : Array Slot), f_X1_leastOf_L29 v2 v3 n v4 v5 I = some r → XD g I s H locs → lv_has ls 6 [(0, .ref (gR g 1)), (2, .int v2), (3, .int v3), (4, .int v4), (5, .int v5)] → W p l e rm_X1_leastOf s m args below meth c H locs 0 0 (MQ below (xQi g r.1 r.2) args s 0 0 (gA g)) (F0 m 29 ls []) := by
    intro v2 v3 n
    induction n with
    | zero => intro v4 v5 I H locs ls hf Y hl; exact nn_t hf
    | succ n ih =>
      intro v4 v5 I H locs ls hf Y hl
      have hf : f_X1_leastOf_L29_b v2 v3 (f_X1_leastOf_L29 v2 v3 n) v4 v5 I = some r := hf
      unfold f_X1_leastOf_L29_b at hf
      refine lv_iload hx hb dX1_leastOf_29 (lv_at hl 4 rfl) ?_
      refine lv_iload_n hx hb dX1_leastOf_31 rfl (lv_at hl 2 rfl) ?_
      refine lv_icmp_ge (tgt := 56) hx hb dX1_leastOf_32 (by decide) (fun c => ?_) (fun c => ?_)
      · have hf := ite_t c hf
        refine lv_iload hx hb dX1_leastOf_56 (lv_at hl 3 rfl) ?_
        exact x_iret X Y hr hlk hf dX1_leastOf_58
      · have hf := ite_f c hf
        refine lv_iload hx hb dX1_leastOf_35 (lv_at hl 3 rfl) ?_
        refine lv_aload_n hx hb dX1_leastOf_37 rfl (lv_at hl 0 rfl) ?_
        refine lv_iload_n hx hb dX1_leastOf_38 rfl (lv_at hl 1 rfl) ?_
        refine lv_iload hx hb dX1_leastOf_39 (lv_at hl 4 rfl) ?_
        refine lv_iadd hx hb dX1_leastOf_41 ?_
        obtain ⟨q5, hq, hf⟩ := bnd_t hf
        refine x_ci Y (x_rV (rest := [_]) X Y k_X1_134 (c_X1_sampleAt X.hg hq) cl_1.1 rfl (by decide) rfl ⟨rfl, rfl⟩ ⟨by decide, by decide⟩ hl.1 rfl (Nat.le_of_ble_eq_true rfl) dX1_leastOf_42 ⟨Nat.zero_le _, Nat.zero_le _⟩) (fun H locs Y => ?_)
        refine x_min X hl.1 wm_X1_137 ⟨by decide, (by first | decide | exact Nat.le_of_ble_eq_true rfl)⟩ ⟨Nat.zero_le _, Nat.zero_le _⟩ dX1_leastOf_45 ?_
        refine lv_istore (lv' := [(4, _), (0, _), (2, _), (3, _), (5, _)]) hx hb dX1_leastOf_48 hl (by decide) rfl (fun ls hl => ?_)
        refine lv_iinc (v := _ + (1 : Int32)) (lv' := [(5, _), (4, _), (0, _), (2, _), (3, _)]) hx hb dX1_leastOf_50 hl (k := 4) rfl rfl (by decide) rfl (fun ls hl => ?_)
        refine lv_goto (tgt := 29) hx hb dX1_leastOf_53 (by decide) ?_
        exact ih _ _ _ _ _ _ hf Y (lv_sub hl [2, 3, 4, 1, 0] rfl)
  unfold f_X1_leastOf at hf
  refine lv_aload_n hx hb dX1_leastOf_0 rfl (lv_at hl 0 rfl) ?_
  refine x_get (v := .ref (gR g 4)) X Y cl_1 rfl (by decide) 2 (by decide) wf_X1_21 rfl dX1_leastOf_1 ?_
  refine lv_iload_n hx hb dX1_leastOf_4 rfl (lv_at hl 1 rfl) ?_
  obtain ⟨q7, hq, hf⟩ := bnd_t hf
  refine x_ci Y (x_rV (rest := []) X Y k_X1_127 (c_X3_firstOf X.hg hq) cl_3.1 rfl (by decide) rfl ⟨rfl, rfl⟩ ⟨by decide, by decide⟩ hl.1 rfl (Nat.le_of_ble_eq_true rfl) dX1_leastOf_5 ⟨Nat.zero_le _, Nat.zero_le _⟩) (fun H locs Y => ?_)
  refine lv_istore_n (lv' := [(2, _), (0, _), (1, _)]) hx hb dX1_leastOf_8 rfl hl (by decide) rfl (fun ls hl => ?_)
  refine lv_aload_n hx hb dX1_leastOf_9 rfl (lv_at hl 1 rfl) ?_
  refine x_get (v := .ref (gR g 4)) X Y cl_1 rfl (by decide) 2 (by decide) wf_X1_21 rfl dX1_leastOf_10 ?_
  refine lv_iload_n hx hb dX1_leastOf_13 rfl (lv_at hl 2 rfl) ?_
  refine lv_iconst (v := 1) hx hb dX1_leastOf_14 (by decide) ?_
  obtain ⟨q8, hq, hf⟩ := bnd_t hf
  refine x_ci Y (x_rV (rest := []) X Y k_X1_130 (c_X3_numberOf X.hg hq) cl_3.1 rfl (by decide) rfl ⟨rfl, rfl⟩ ⟨by decide, by decide⟩ hl.1 rfl (Nat.le_of_ble_eq_true rfl) dX1_leastOf_15 ⟨Nat.zero_le _, Nat.zero_le _⟩) (fun H locs Y => ?_)
  refine lv_istore_n (lv' := [(3, _), (2, _), (0, _), (1, _)]) hx hb dX1_leastOf_18 rfl hl (by decide) rfl (fun ls hl => ?_)
  refine lv_aload_n hx hb dX1_leastOf_19 rfl (lv_at hl 2 rfl) ?_
  refine lv_iload_n hx hb dX1_leastOf_20 rfl (lv_at hl 1 rfl) ?_
  obtain ⟨q9, hq, hf⟩ := bnd_t hf
  refine x_ci Y (x_rV (rest := []) X Y k_X1_134 (c_X1_sampleAt X.hg hq) cl_1.1 rfl (by decide) rfl ⟨rfl, rfl⟩ ⟨by decide, by decide⟩ hl.1 rfl (Nat.le_of_ble_eq_true rfl) dX1_leastOf_21 ⟨Nat.zero_le _, Nat.zero_le _⟩) (fun H locs Y => ?_)
  refine lv_istore (lv' := [(4, _), (3, _), (2, _), (0, _), (1, _)]) hx hb dX1_leastOf_24 hl (by decide) rfl (fun ls hl => ?_)
  refine lv_iconst (v := 1) hx hb dX1_leastOf_26 (by decide) ?_
  refine lv_istore (lv' := [(5, _), (4, _), (3, _), (2, _), (0, _), (1, _)]) hx hb dX1_leastOf_27 hl (by decide) rfl (fun ls hl => ?_)
  exact hL29 _ _ _ _ _ _ _ _ _ hf Y (lv_sub hl [4, 3, 2, 1, 0] rfl)
def f_X1_greatestOf_L29_b (v2 : Int32) (v3 : Int32) (k : Int32 → Int32 → HI → Option (Int32 × HI)) (v4 : Int32) (v5 : Int32) (I : HI) : Option (Int32 × HI) :=
  if v3 ≤ v5 then
    some (v4, I)
  else
    (f_X1_sampleAt (v2 + v5) I).bind fun q5 =>
    let x6 := if v4 < q5.1 then q5.1 else v4
    k x6 (v5 + (1 : Int32)) q5.2
def f_X1_greatestOf_L29 (v2 : Int32) (v3 : Int32) : Nat → Int32 → Int32 → HI → Option (Int32 × HI)
  | 0, _, _, _ => none
  | n + 1, v4, v5, I => f_X1_greatestOf_L29_b v2 v3 (f_X1_greatestOf_L29 v2 v3 n) v4 v5 I
def f_X1_greatestOf (v1 : Int32) (I : HI) : Option (Int32 × HI) :=
  (f_X3_firstOf v1 I).bind fun q7 =>
  (f_X3_numberOf v1 (1 : Int32) q7.2).bind fun q8 =>
  (f_X1_sampleAt q7.1 q8.2).bind fun q9 =>
  f_X1_greatestOf_L29 q7.1 q8.1 4000 q9.1 (1 : Int32) q9.2
abbrev rm_X1_greatestOf : Room := { frames := 3, cells := 0, slots := 0, locals := 64 }
set_option maxHeartbeats 4000000 in
set_option maxRecDepth 100000 in
theorem c_X1_greatestOf {l : Launch} {g : GX} (hg : gOk g) {v1 : Int32} {I : HI} {r : Int32 × HI} (hf : f_X1_greatestOf v1 I = some r) : Met l yX1_greatestOf (Cond.code yX1_greatestOf cX1_greatestOf 6 (some .int) :: WL) rm_X1_greatestOf (xP g [.ref (gR g 1), .int v1] I) (xQi g r.1 r.2) 0 0 (gA g) := by
  refine x_met (by decide) hg (Nat.le_of_ble_eq_true rfl) (fun p e s m args below meth c X hr hlk Y ls hl => ?_)
  have hx := X.hx
  have hb := X.hb
  have hl : lv_has ls 6 [(0, .ref (gR g 1)), (1, .int v1)] := hl
  have hL29 : ∀ (v2 : Int32) (v3 : Int32) (n : Nat) (v4 : Int32) (v5 : Int32) (I : HI) (H : Heap) (locs : List Loc) (ls : Array Slot), f_X1_greatestOf_L29 v2 v3 n v4 v5 I = some r → XD g I s H locs → lv_has ls 6 [(0, .ref (gR g 1)), (2, .int v2), (3, .int v3), (4, .int v4), (5, .int v5)] → W p l e rm_X1_greatestOf s m args below meth c H locs 0 0 (MQ below (xQi g r.1 r.2) args s 0 0 (gA g)) (F0 m 29 ls []) := by
    intro v2 v3 n
    induction n with
    | zero => intro v4 v5 I H locs ls hf Y hl; exact nn_t hf
    | succ n ih =>
      intro v4 v5 I H locs ls hf Y hl
      have hf : f_X1_greatestOf_L29_b v2 v3 (f_X1_greatestOf_L29 v2 v3 n) v4 v5 I = some r := hf
      unfold f_X1_greatestOf_L29_b at hf
      refine lv_iload hx hb dX1_greatestOf_29 (lv_at hl 4 rfl) ?_
      refine lv_iload_n hx hb dX1_greatestOf_31 rfl (lv_at hl 2 rfl) ?_
      refine lv_icmp_ge (tgt := 56) hx hb dX1_greatestOf_32 (by decide) (fun c => ?_) (fun c => ?_)
      · have hf := ite_t c hf
        refine lv_iload hx hb dX1_greatestOf_56 (lv_at hl 3 rfl) ?_
        exact x_iret X Y hr hlk hf dX1_greatestOf_58
      · have hf := ite_f c hf
        refine lv_iload hx hb dX1_greatestOf_35 (lv_at hl 3 rfl) ?_
        refine lv_aload_n hx hb dX1_greatestOf_37 rfl (lv_at hl 0 rfl) ?_
        refine lv_iload_n hx hb dX1_greatestOf_38 rfl (lv_at hl 1 rfl) ?_
        refine lv_iload hx hb dX1_greatestOf_39 (lv_at hl 4 rfl) ?_
        refine lv_iadd hx hb dX1_greatestOf_41 ?_
        obtain ⟨q5, hq, hf⟩ := bnd_t hf
        refine x_ci Y (x_rV (rest := [_]) X Y k_X1_134 (c_X1_sampleAt X.hg hq) cl_1.1 rfl (by decide) rfl ⟨rfl, rfl⟩ ⟨by decide, by decide⟩ hl.1 rfl (Nat.le_of_ble_eq_true rfl) dX1_greatestOf_42 ⟨Nat.zero_le _, Nat.zero_le _⟩) (fun H locs Y => ?_)
        refine x_max X hl.1 wm_X1_142 ⟨by decide, (by first | decide | exact Nat.le_of_ble_eq_true rfl)⟩ ⟨Nat.zero_le _, Nat.zero_le _⟩ dX1_greatestOf_45 ?_
        refine lv_istore (lv' := [(4, _), (0, _), (2, _), (3, _), (5, _)]) hx hb dX1_greatestOf_48 hl (by decide) rfl (fun ls hl => ?_)
        refine lv_iinc (v := _ + (1 : Int32)) (lv' := [(5, _), (4, _), (0, _), (2, _), (3, _)]) hx hb dX1_greatestOf_50 hl (k := 4) rfl rfl (by decide) rfl (fun ls hl => ?_)
        refine lv_goto (tgt := 29) hx hb dX1_greatestOf_53 (by decide) ?_
        exact ih _ _ _ _ _ _ hf Y (lv_sub hl [2, 3, 4, 1, 0] rfl)
  unfold f_X1_greatestOf at hf
  refine lv_aload_n hx hb dX1_greatestOf_0 rfl (lv_at hl 0 rfl) ?_
  refine x_get (v := .ref (gR g 4)) X Y cl_1 rfl (by decide) 2 (by decide) wf_X1_21 rfl dX1_greatestOf_1 ?_
  refine lv_iload_n hx hb dX1_greatestOf_4 rfl (lv_at hl 1 rfl) ?_
  obtain ⟨q7, hq, hf⟩ := bnd_t hf
  refine x_ci Y (x_rV (rest := []) X Y k_X1_127 (c_X3_firstOf X.hg hq) cl_3.1 rfl (by decide) rfl ⟨rfl, rfl⟩ ⟨by decide, by decide⟩ hl.1 rfl (Nat.le_of_ble_eq_true rfl) dX1_greatestOf_5 ⟨Nat.zero_le _, Nat.zero_le _⟩) (fun H locs Y => ?_)
  refine lv_istore_n (lv' := [(2, _), (0, _), (1, _)]) hx hb dX1_greatestOf_8 rfl hl (by decide) rfl (fun ls hl => ?_)
  refine lv_aload_n hx hb dX1_greatestOf_9 rfl (lv_at hl 1 rfl) ?_
  refine x_get (v := .ref (gR g 4)) X Y cl_1 rfl (by decide) 2 (by decide) wf_X1_21 rfl dX1_greatestOf_10 ?_
  refine lv_iload_n hx hb dX1_greatestOf_13 rfl (lv_at hl 2 rfl) ?_
  refine lv_iconst (v := 1) hx hb dX1_greatestOf_14 (by decide) ?_
  obtain ⟨q8, hq, hf⟩ := bnd_t hf
  refine x_ci Y (x_rV (rest := []) X Y k_X1_130 (c_X3_numberOf X.hg hq) cl_3.1 rfl (by decide) rfl ⟨rfl, rfl⟩ ⟨by decide, by decide⟩ hl.1 rfl (Nat.le_of_ble_eq_true rfl) dX1_greatestOf_15 ⟨Nat.zero_le _, Nat.zero_le _⟩) (fun H locs Y => ?_)
  refine lv_istore_n (lv' := [(3, _), (2, _), (0, _), (1, _)]) hx hb dX1_greatestOf_18 rfl hl (by decide) rfl (fun ls hl => ?_)
  refine lv_aload_n hx hb dX1_greatestOf_19 rfl (lv_at hl 2 rfl) ?_
  refine lv_iload_n hx hb dX1_greatestOf_20 rfl (lv_at hl 1 rfl) ?_
  obtain ⟨q9, hq, hf⟩ := bnd_t hf
  refine x_ci Y (x_rV (rest := []) X Y k_X1_134 (c_X1_sampleAt X.hg hq) cl_1.1 rfl (by decide) rfl ⟨rfl, rfl⟩ ⟨by decide, by decide⟩ hl.1 rfl (Nat.le_of_ble_eq_true rfl) dX1_greatestOf_21 ⟨Nat.zero_le _, Nat.zero_le _⟩) (fun H locs Y => ?_)
  refine lv_istore (lv' := [(4, _), (3, _), (2, _), (0, _), (1, _)]) hx hb dX1_greatestOf_24 hl (by decide) rfl (fun ls hl => ?_)
  refine lv_iconst (v := 1) hx hb dX1_greatestOf_26 (by decide) ?_
  refine lv_istore (lv' := [(5, _), (4, _), (3, _), (2, _), (0, _), (1, _)]) hx hb dX1_greatestOf_27 hl (by decide) rfl (fun ls hl => ?_)
  exact hL29 _ _ _ _ _ _ _ _ _ hf Y (lv_sub hl [4, 3, 2, 1, 0] rfl)
def f_X1_sumOf_L25_b (v2 : Int32) (v3 : Int32) (k : Int32 → Int32 → HI → Option (Int32 × HI)) (v4 : Int32) (v5 : Int32) (I : HI) : Option (Int32 × HI) :=
  if v3 ≤ v5 then
    some (v4, I)
  else
    (f_X1_sampleAt (v2 + v5) I).bind fun q4 =>
    let x5 := v4 + q4.1
    k x5 (v5 + (1 : Int32)) q4.2
def f_X1_sumOf_L25 (v2 : Int32) (v3 : Int32) : Nat → Int32 → Int32 → HI → Option (Int32 × HI)
  | 0, _, _, _ => none
  | n + 1, v4, v5, I => f_X1_sumOf_L25_b v2 v3 (f_X1_sumOf_L25 v2 v3 n) v4 v5 I
def f_X1_sumOf (v1 : Int32) (I : HI) : Option (Int32 × HI) :=
  (f_X3_firstOf v1 I).bind fun q6 =>
  (f_X3_numberOf v1 (1 : Int32) q6.2).bind fun q7 =>
  f_X1_sumOf_L25 q6.1 q7.1 4000 (0 : Int32) (0 : Int32) q7.2
abbrev rm_X1_sumOf : Room := { frames := 3, cells := 0, slots := 0, locals := 64 }
set_option maxHeartbeats 4000000 in
set_option maxRecDepth 100000 in
theorem c_X1_sumOf {l : Launch} {g : GX} (hg : gOk g) {v1 : Int32} {I : HI} {r : Int32 × HI} (hf : f_X1_sumOf v1 I = some r) : Met l yX1_sumOf (Cond.code yX1_sumOf cX1_sumOf 6 (some .int) :: WL) rm_X1_sumOf (xP g [.ref (gR g 1), .int v1] I) (xQi g r.1 r.2) 0 0 (gA g) := by
  refine x_met (by decide) hg (Nat.le_of_ble_eq_true rfl) (fun p e s m args below meth c X hr hlk Y ls hl => ?_)
  have hx := X.hx
  have hb := X.hb
  have hl : lv_has ls 6 [(0, .ref (gR g 1)), (1, .int v1)] := hl
  have hL25 : ∀ (v2 : Int32) (v3 : Int32) (n : Nat) (v4 : Int32) (v5 : Int32) (I : HI) (H : Heap) (locs : List Loc) (ls : Array Slot), f_X1_sumOf_L25 v2 v3 n v4 v5 I = some r → XD g I s H locs → lv_has ls 6 [(0, .ref (gR g 1)), (2, .int v2), (3, .int v3), (4, .int v4), (5, .int v5)] → W p l e rm_X1_sumOf s m args below meth c H locs 0 0 (MQ below (xQi g r.1 r.2) args s 0 0 (gA g)) (F0 m 25 ls []) := by
    intro v2 v3 n
    induction n with
    | zero => intro v4 v5 I H locs ls hf Y hl; exact nn_t hf
    | succ n ih =>
      intro v4 v5 I H locs ls hf Y hl
      have hf : f_X1_sumOf_L25_b v2 v3 (f_X1_sumOf_L25 v2 v3 n) v4 v5 I = some r := hf
      unfold f_X1_sumOf_L25_b at hf
      refine lv_iload hx hb dX1_sumOf_25 (lv_at hl 4 rfl) ?_
      refine lv_iload_n hx hb dX1_sumOf_27 rfl (lv_at hl 2 rfl) ?_
      refine lv_icmp_ge (tgt := 50) hx hb dX1_sumOf_28 (by decide) (fun c => ?_) (fun c => ?_)
      · have hf := ite_t c hf
        refine lv_iload hx hb dX1_sumOf_50 (lv_at hl 3 rfl) ?_
        exact x_iret X Y hr hlk hf dX1_sumOf_52
      · have hf := ite_f c hf
        refine lv_iload hx hb dX1_sumOf_31 (lv_at hl 3 rfl) ?_
        refine lv_aload_n hx hb dX1_sumOf_33 rfl (lv_at hl 0 rfl) ?_
        refine lv_iload_n hx hb dX1_sumOf_34 rfl (lv_at hl 1 rfl) ?_
        refine lv_iload hx hb dX1_sumOf_35 (lv_at hl 4 rfl) ?_
        refine lv_iadd hx hb dX1_sumOf_37 ?_
        obtain ⟨q4, hq, hf⟩ := bnd_t hf
        refine x_ci Y (x_rV (rest := [_]) X Y k_X1_134 (c_X1_sampleAt X.hg hq) cl_1.1 rfl (by decide) rfl ⟨rfl, rfl⟩ ⟨by decide, by decide⟩ hl.1 rfl (Nat.le_of_ble_eq_true rfl) dX1_sumOf_38 ⟨Nat.zero_le _, Nat.zero_le _⟩) (fun H locs Y => ?_)
        refine lv_iadd hx hb dX1_sumOf_41 ?_
        refine lv_istore (lv' := [(4, _), (0, _), (2, _), (3, _), (5, _)]) hx hb dX1_sumOf_42 hl (by decide) rfl (fun ls hl => ?_)
        refine lv_iinc (v := _ + (1 : Int32)) (lv' := [(5, _), (4, _), (0, _), (2, _), (3, _)]) hx hb dX1_sumOf_44 hl (k := 4) rfl rfl (by decide) rfl (fun ls hl => ?_)
        refine lv_goto (tgt := 25) hx hb dX1_sumOf_47 (by decide) ?_
        exact ih _ _ _ _ _ _ hf Y (lv_sub hl [2, 3, 4, 1, 0] rfl)
  unfold f_X1_sumOf at hf
  refine lv_aload_n hx hb dX1_sumOf_0 rfl (lv_at hl 0 rfl) ?_
  refine x_get (v := .ref (gR g 4)) X Y cl_1 rfl (by decide) 2 (by decide) wf_X1_21 rfl dX1_sumOf_1 ?_
  refine lv_iload_n hx hb dX1_sumOf_4 rfl (lv_at hl 1 rfl) ?_
  obtain ⟨q6, hq, hf⟩ := bnd_t hf
  refine x_ci Y (x_rV (rest := []) X Y k_X1_127 (c_X3_firstOf X.hg hq) cl_3.1 rfl (by decide) rfl ⟨rfl, rfl⟩ ⟨by decide, by decide⟩ hl.1 rfl (Nat.le_of_ble_eq_true rfl) dX1_sumOf_5 ⟨Nat.zero_le _, Nat.zero_le _⟩) (fun H locs Y => ?_)
  refine lv_istore_n (lv' := [(2, _), (0, _), (1, _)]) hx hb dX1_sumOf_8 rfl hl (by decide) rfl (fun ls hl => ?_)
  refine lv_aload_n hx hb dX1_sumOf_9 rfl (lv_at hl 1 rfl) ?_
  refine x_get (v := .ref (gR g 4)) X Y cl_1 rfl (by decide) 2 (by decide) wf_X1_21 rfl dX1_sumOf_10 ?_
  refine lv_iload_n hx hb dX1_sumOf_13 rfl (lv_at hl 2 rfl) ?_
  refine lv_iconst (v := 1) hx hb dX1_sumOf_14 (by decide) ?_
  obtain ⟨q7, hq, hf⟩ := bnd_t hf
  refine x_ci Y (x_rV (rest := []) X Y k_X1_130 (c_X3_numberOf X.hg hq) cl_3.1 rfl (by decide) rfl ⟨rfl, rfl⟩ ⟨by decide, by decide⟩ hl.1 rfl (Nat.le_of_ble_eq_true rfl) dX1_sumOf_15 ⟨Nat.zero_le _, Nat.zero_le _⟩) (fun H locs Y => ?_)
  refine lv_istore_n (lv' := [(3, _), (2, _), (0, _), (1, _)]) hx hb dX1_sumOf_18 rfl hl (by decide) rfl (fun ls hl => ?_)
  refine lv_iconst (v := 0) hx hb dX1_sumOf_19 (by decide) ?_
  refine lv_istore (lv' := [(4, _), (3, _), (2, _), (0, _), (1, _)]) hx hb dX1_sumOf_20 hl (by decide) rfl (fun ls hl => ?_)
  refine lv_iconst (v := 0) hx hb dX1_sumOf_22 (by decide) ?_
  refine lv_istore (lv' := [(5, _), (4, _), (3, _), (2, _), (0, _), (1, _)]) hx hb dX1_sumOf_23 hl (by decide) rfl (fun ls hl => ?_)
  exact hL25 _ _ _ _ _ _ _ _ _ hf Y (lv_sub hl [4, 3, 2, 1, 0] rfl)
def f_X1_upsOf_L25_b (v2 : Int32) (v3 : Int32) (k : Int32 → Int32 → HI → Option (Int32 × HI)) (v4 : Int32) (v5 : Int32) (I : HI) : Option (Int32 × HI) :=
  if v3 ≤ v5 then
    some (v4, I)
  else
    (f_X1_sampleAt (v2 + v5) I).bind fun q5 =>
    (f_X1_sampleAt ((v2 + v5) - (1 : Int32)) q5.2).bind fun q6 =>
    if q5.1 ≤ q6.1 then
      k v4 (v5 + (1 : Int32)) q6.2
    else
      k (v4 + (1 : Int32)) (v5 + (1 : Int32)) q6.2
def f_X1_upsOf_L25 (v2 : Int32) (v3 : Int32) : Nat → Int32 → Int32 → HI → Option (Int32 × HI)
  | 0, _, _, _ => none
  | n + 1, v4, v5, I => f_X1_upsOf_L25_b v2 v3 (f_X1_upsOf_L25 v2 v3 n) v4 v5 I
def f_X1_upsOf (v1 : Int32) (I : HI) : Option (Int32 × HI) :=
  (f_X3_firstOf v1 I).bind fun q7 =>
  (f_X3_numberOf v1 (1 : Int32) q7.2).bind fun q8 =>
  f_X1_upsOf_L25 q7.1 q8.1 4000 (0 : Int32) (1 : Int32) q8.2
abbrev rm_X1_upsOf : Room := { frames := 3, cells := 0, slots := 0, locals := 64 }
set_option maxHeartbeats 4000000 in
set_option maxRecDepth 100000 in
theorem c_X1_upsOf {l : Launch} {g : GX} (hg : gOk g) {v1 : Int32} {I : HI} {r : Int32 × HI} (hf : f_X1_upsOf v1 I = some r) : Met l yX1_upsOf (Cond.code yX1_upsOf cX1_upsOf 6 (some .int) :: WL) rm_X1_upsOf (xP g [.ref (gR g 1), .int v1] I) (xQi g r.1 r.2) 0 0 (gA g) := by
  refine x_met (by decide) hg (Nat.le_of_ble_eq_true rfl) (fun p e s m args below meth c X hr hlk Y ls hl => ?_)
  have hx := X.hx
  have hb := X.hb
  have hl : lv_has ls 6 [(0, .ref (gR g 1)), (1, .int v1)] := hl
  have hL25 : ∀ (v2 : Int32) (v3 : Int32) (n : Nat) (v4 : Int32) (v5 : Int32) (I : HI) (H : Heap) (locs : List Loc) (ls : Array Slot), f_X1_upsOf_L25 v2 v3 n v4 v5 I = some r → XD g I s H locs → lv_has ls 6 [(0, .ref (gR g 1)), (2, .int v2), (3, .int v3), (4, .int v4), (5, .int v5)] → W p l e rm_X1_upsOf s m args below meth c H locs 0 0 (MQ below (xQi g r.1 r.2) args s 0 0 (gA g)) (F0 m 25 ls []) := by
    intro v2 v3 n
    induction n with
    | zero => intro v4 v5 I H locs ls hf Y hl; exact nn_t hf
    | succ n ih =>
      intro v4 v5 I H locs ls hf Y hl
      have hf : f_X1_upsOf_L25_b v2 v3 (f_X1_upsOf_L25 v2 v3 n) v4 v5 I = some r := hf
      unfold f_X1_upsOf_L25_b at hf
      refine lv_iload hx hb dX1_upsOf_25 (lv_at hl 4 rfl) ?_
      refine lv_iload_n hx hb dX1_upsOf_27 rfl (lv_at hl 2 rfl) ?_
      refine lv_icmp_ge (tgt := 61) hx hb dX1_upsOf_28 (by decide) (fun c => ?_) (fun c => ?_)
      · have hf := ite_t c hf
        refine lv_iload hx hb dX1_upsOf_61 (lv_at hl 3 rfl) ?_
        exact x_iret X Y hr hlk hf dX1_upsOf_63
      · have hf := ite_f c hf
        refine lv_aload_n hx hb dX1_upsOf_31 rfl (lv_at hl 0 rfl) ?_
        refine lv_iload_n hx hb dX1_upsOf_32 rfl (lv_at hl 1 rfl) ?_
        refine lv_iload hx hb dX1_upsOf_33 (lv_at hl 4 rfl) ?_
        refine lv_iadd hx hb dX1_upsOf_35 ?_
        obtain ⟨q5, hq, hf⟩ := bnd_t hf
        refine x_ci Y (x_rV (rest := []) X Y k_X1_134 (c_X1_sampleAt X.hg hq) cl_1.1 rfl (by decide) rfl ⟨rfl, rfl⟩ ⟨by decide, by decide⟩ hl.1 rfl (Nat.le_of_ble_eq_true rfl) dX1_upsOf_36 ⟨Nat.zero_le _, Nat.zero_le _⟩) (fun H locs Y => ?_)
        refine lv_aload_n hx hb dX1_upsOf_39 rfl (lv_at hl 0 rfl) ?_
        refine lv_iload_n hx hb dX1_upsOf_40 rfl (lv_at hl 1 rfl) ?_
        refine lv_iload hx hb dX1_upsOf_41 (lv_at hl 4 rfl) ?_
        refine lv_iadd hx hb dX1_upsOf_43 ?_
        refine lv_iconst (v := 1) hx hb dX1_upsOf_44 (by decide) ?_
        refine lv_isub hx hb dX1_upsOf_45 ?_
        obtain ⟨q6, hq, hf⟩ := bnd_t hf
        refine x_ci Y (x_rV (rest := [_]) X Y k_X1_134 (c_X1_sampleAt X.hg hq) cl_1.1 rfl (by decide) rfl ⟨rfl, rfl⟩ ⟨by decide, by decide⟩ hl.1 rfl (Nat.le_of_ble_eq_true rfl) dX1_upsOf_46 ⟨Nat.zero_le _, Nat.zero_le _⟩) (fun H locs Y => ?_)
        refine lv_icmp_le (tgt := 55) hx hb dX1_upsOf_49 (by decide) (fun c => ?_) (fun c => ?_)
        · have hf := ite_t c hf
          refine lv_iinc (v := _ + (1 : Int32)) (lv' := [(5, _), (0, _), (2, _), (3, _), (4, _)]) hx hb dX1_upsOf_55 hl (k := 4) rfl rfl (by decide) rfl (fun ls hl => ?_)
          refine lv_goto (tgt := 25) hx hb dX1_upsOf_58 (by decide) ?_
          exact ih _ _ _ _ _ _ hf Y (lv_sub hl [1, 2, 3, 4, 0] rfl)
        · have hf := ite_f c hf
          refine lv_iinc (v := _ + (1 : Int32)) (lv' := [(4, _), (0, _), (2, _), (3, _), (5, _)]) hx hb dX1_upsOf_52 hl (k := 3) rfl rfl (by decide) rfl (fun ls hl => ?_)
          refine lv_iinc (v := _ + (1 : Int32)) (lv' := [(5, _), (4, _), (0, _), (2, _), (3, _)]) hx hb dX1_upsOf_55 hl (k := 4) rfl rfl (by decide) rfl (fun ls hl => ?_)
          refine lv_goto (tgt := 25) hx hb dX1_upsOf_58 (by decide) ?_
          exact ih _ _ _ _ _ _ hf Y (lv_sub hl [2, 3, 4, 1, 0] rfl)
  unfold f_X1_upsOf at hf
  refine lv_aload_n hx hb dX1_upsOf_0 rfl (lv_at hl 0 rfl) ?_
  refine x_get (v := .ref (gR g 4)) X Y cl_1 rfl (by decide) 2 (by decide) wf_X1_21 rfl dX1_upsOf_1 ?_
  refine lv_iload_n hx hb dX1_upsOf_4 rfl (lv_at hl 1 rfl) ?_
  obtain ⟨q7, hq, hf⟩ := bnd_t hf
  refine x_ci Y (x_rV (rest := []) X Y k_X1_127 (c_X3_firstOf X.hg hq) cl_3.1 rfl (by decide) rfl ⟨rfl, rfl⟩ ⟨by decide, by decide⟩ hl.1 rfl (Nat.le_of_ble_eq_true rfl) dX1_upsOf_5 ⟨Nat.zero_le _, Nat.zero_le _⟩) (fun H locs Y => ?_)
  refine lv_istore_n (lv' := [(2, _), (0, _), (1, _)]) hx hb dX1_upsOf_8 rfl hl (by decide) rfl (fun ls hl => ?_)
  refine lv_aload_n hx hb dX1_upsOf_9 rfl (lv_at hl 1 rfl) ?_
  refine x_get (v := .ref (gR g 4)) X Y cl_1 rfl (by decide) 2 (by decide) wf_X1_21 rfl dX1_upsOf_10 ?_
  refine lv_iload_n hx hb dX1_upsOf_13 rfl (lv_at hl 2 rfl) ?_
  refine lv_iconst (v := 1) hx hb dX1_upsOf_14 (by decide) ?_
  obtain ⟨q8, hq, hf⟩ := bnd_t hf
  refine x_ci Y (x_rV (rest := []) X Y k_X1_130 (c_X3_numberOf X.hg hq) cl_3.1 rfl (by decide) rfl ⟨rfl, rfl⟩ ⟨by decide, by decide⟩ hl.1 rfl (Nat.le_of_ble_eq_true rfl) dX1_upsOf_15 ⟨Nat.zero_le _, Nat.zero_le _⟩) (fun H locs Y => ?_)
  refine lv_istore_n (lv' := [(3, _), (2, _), (0, _), (1, _)]) hx hb dX1_upsOf_18 rfl hl (by decide) rfl (fun ls hl => ?_)
  refine lv_iconst (v := 0) hx hb dX1_upsOf_19 (by decide) ?_
  refine lv_istore (lv' := [(4, _), (3, _), (2, _), (0, _), (1, _)]) hx hb dX1_upsOf_20 hl (by decide) rfl (fun ls hl => ?_)
  refine lv_iconst (v := 1) hx hb dX1_upsOf_22 (by decide) ?_
  refine lv_istore (lv' := [(5, _), (4, _), (3, _), (2, _), (0, _), (1, _)]) hx hb dX1_upsOf_23 hl (by decide) rfl (fun ls hl => ?_)
  exact hL25 _ _ _ _ _ _ _ _ _ hf Y (lv_sub hl [4, 3, 2, 1, 0] rfl)
def f_X1_numberOf (v1 : Int32) (I : HI) : Option (Int32 × HI) :=
  if v1 = (0 : Int32) then
    some (I 1 3, I)
  else
  if v1 = (1 : Int32) then
    some (I 4 1, I)
  else
  if v1 = (2 : Int32) then
    (f_X1_phase I).bind fun q5 =>
    some (q5.1, q5.2)
  else
  if v1 = (3 : Int32) then
    some (I 1 4, I)
  else
  if v1 = (4 : Int32) then
    some (I 1 5, I)
  else
  if v1 = (5 : Int32) then
    some (I 1 6, I)
  else
  if v1 = (6 : Int32) then
    some (I 1 7, I)
  else
  if v1 = (7 : Int32) then
    some (I 1 8, I)
  else
  if v1 = (8 : Int32) then
    some (I 1 9, I)
  else
  some (I 1 14, I)
abbrev rm_X1_numberOf : Room := { frames := 2, cells := 0, slots := 0, locals := 41 }
set_option maxHeartbeats 4000000 in
set_option maxRecDepth 100000 in
theorem c_X1_numberOf {l : Launch} {g : GX} (hg : gOk g) {v1 : Int32} {I : HI} {r : Int32 × HI} (hf : f_X1_numberOf v1 I = some r) : Met l yX1_numberOf (Cond.code yX1_numberOf cX1_numberOf 2 (some .int) :: WL) rm_X1_numberOf (xP g [.ref (gR g 1), .int v1] I) (xQi g r.1 r.2) 0 0 (gA g) := by
  refine x_met (by decide) hg (Nat.le_of_ble_eq_true rfl) (fun p e s m args below meth c X hr hlk Y ls hl => ?_)
  have hx := X.hx
  have hb := X.hb
  have hl : lv_has ls 2 [(0, .ref (gR g 1)), (1, .int v1)] := hl
  unfold f_X1_numberOf at hf
  refine lv_iload_n hx hb dX1_numberOf_0 rfl (lv_at hl 1 rfl) ?_
  by_cases c2 : v1 = (0 : Int32)
  · have hf := ite_t c2 hf
    refine x_tab (off := 51) (tgt := 52) hx hb c2 dX1_numberOf_1 (by decide) (by decide) ?_
    refine lv_aload_n hx hb dX1_numberOf_52 rfl (lv_at hl 0 rfl) ?_
    refine x_geti X Y cl_1 rfl (by decide) 3 (by decide) rfl wf_X1_25 dX1_numberOf_53 ?_
    exact x_iret X Y hr hlk hf dX1_numberOf_56
  have hf := ite_f c2 hf
  by_cases c3 : v1 = (1 : Int32)
  · have hf := ite_t c3 hf
    refine x_tab (off := 56) (tgt := 57) hx hb c3 dX1_numberOf_1 (by decide) (by decide) ?_
    refine lv_aload_n hx hb dX1_numberOf_57 rfl (lv_at hl 0 rfl) ?_
    refine x_get (v := .ref (gR g 4)) X Y cl_1 rfl (by decide) 2 (by decide) wf_X1_21 rfl dX1_numberOf_58 ?_
    refine x_getiN X Y cl_3 rfl (by decide) 1 (by decide) rfl wg_X1_124 dX1_numberOf_61 ?_
    exact x_iret X Y hr hlk hf dX1_numberOf_64
  have hf := ite_f c3 hf
  by_cases c4 : v1 = (2 : Int32)
  · have hf := ite_t c4 hf
    refine x_tab (off := 64) (tgt := 65) hx hb c4 dX1_numberOf_1 (by decide) (by decide) ?_
    refine lv_aload_n hx hb dX1_numberOf_65 rfl (lv_at hl 0 rfl) ?_
    obtain ⟨q5, hq, hf⟩ := bnd_t hf
    refine x_ci Y (x_rV (rest := []) X Y k_X1_109 (c_X1_phase X.hg hq) cl_1.1 rfl (by decide) rfl ⟨rfl, rfl⟩ ⟨by decide, by decide⟩ hl.1 rfl (Nat.le_of_ble_eq_true rfl) dX1_numberOf_66 ⟨Nat.zero_le _, Nat.zero_le _⟩) (fun H locs Y => ?_)
    exact x_iret X Y hr hlk hf dX1_numberOf_69
  have hf := ite_f c4 hf
  by_cases c6 : v1 = (3 : Int32)
  · have hf := ite_t c6 hf
    refine x_tab (off := 69) (tgt := 70) hx hb c6 dX1_numberOf_1 (by decide) (by decide) ?_
    refine lv_aload_n hx hb dX1_numberOf_70 rfl (lv_at hl 0 rfl) ?_
    refine x_geti X Y cl_1 rfl (by decide) 4 (by decide) rfl wf_X1_29 dX1_numberOf_71 ?_
    exact x_iret X Y hr hlk hf dX1_numberOf_74
  have hf := ite_f c6 hf
  by_cases c7 : v1 = (4 : Int32)
  · have hf := ite_t c7 hf
    refine x_tab (off := 74) (tgt := 75) hx hb c7 dX1_numberOf_1 (by decide) (by decide) ?_
    refine lv_aload_n hx hb dX1_numberOf_75 rfl (lv_at hl 0 rfl) ?_
    refine x_geti X Y cl_1 rfl (by decide) 5 (by decide) rfl wf_X1_32 dX1_numberOf_76 ?_
    exact x_iret X Y hr hlk hf dX1_numberOf_79
  have hf := ite_f c7 hf
  by_cases c8 : v1 = (5 : Int32)
  · have hf := ite_t c8 hf
    refine x_tab (off := 79) (tgt := 80) hx hb c8 dX1_numberOf_1 (by decide) (by decide) ?_
    refine lv_aload_n hx hb dX1_numberOf_80 rfl (lv_at hl 0 rfl) ?_
    refine x_geti X Y cl_1 rfl (by decide) 6 (by decide) rfl wf_X1_35 dX1_numberOf_81 ?_
    exact x_iret X Y hr hlk hf dX1_numberOf_84
  have hf := ite_f c8 hf
  by_cases c9 : v1 = (6 : Int32)
  · have hf := ite_t c9 hf
    refine x_tab (off := 84) (tgt := 85) hx hb c9 dX1_numberOf_1 (by decide) (by decide) ?_
    refine lv_aload_n hx hb dX1_numberOf_85 rfl (lv_at hl 0 rfl) ?_
    refine x_geti X Y cl_1 rfl (by decide) 7 (by decide) rfl wf_X1_38 dX1_numberOf_86 ?_
    exact x_iret X Y hr hlk hf dX1_numberOf_89
  have hf := ite_f c9 hf
  by_cases c10 : v1 = (7 : Int32)
  · have hf := ite_t c10 hf
    refine x_tab (off := 89) (tgt := 90) hx hb c10 dX1_numberOf_1 (by decide) (by decide) ?_
    refine lv_aload_n hx hb dX1_numberOf_90 rfl (lv_at hl 0 rfl) ?_
    refine x_geti X Y cl_1 rfl (by decide) 8 (by decide) rfl wf_X1_41 dX1_numberOf_91 ?_
    exact x_iret X Y hr hlk hf dX1_numberOf_94
  have hf := ite_f c10 hf
  by_cases c11 : v1 = (8 : Int32)
  · have hf := ite_t c11 hf
    refine x_tab (off := 94) (tgt := 95) hx hb c11 dX1_numberOf_1 (by decide) (by decide) ?_
    refine lv_aload_n hx hb dX1_numberOf_95 rfl (lv_at hl 0 rfl) ?_
    refine x_geti X Y cl_1 rfl (by decide) 9 (by decide) rfl wf_X1_44 dX1_numberOf_96 ?_
    exact x_iret X Y hr hlk hf dX1_numberOf_99
  have hf := ite_f c11 hf
  refine lv_tableOut (tgt := 100) hx hb dX1_numberOf_1 (by have := lv_neT c2 (a := 0) (by decide); have := lv_neT c3 (a := 1) (by decide); have := lv_neT c4 (a := 2) (by decide); have := lv_neT c6 (a := 3) (by decide); have := lv_neT c7 (a := 4) (by decide); have := lv_neT c8 (a := 5) (by decide); have := lv_neT c9 (a := 6) (by decide); have := lv_neT c10 (a := 7) (by decide); have := lv_neT c11 (a := 8) (by decide); omega) (by decide) ?_
  refine lv_aload_n hx hb dX1_numberOf_100 rfl (lv_at hl 0 rfl) ?_
  refine x_geti X Y cl_1 rfl (by decide) 14 (by decide) rfl wf_X1_59 dX1_numberOf_101 ?_
  exact x_iret X Y hr hlk hf dX1_numberOf_104
def f_X1_greatestLevel (I : HI) : Option (Int32 × HI) :=
  (f_X1_settingOf (0 : Int32) I).bind fun q3 =>
  if q3.1 = (2 : Int32) then
    (f_X1_settingOf (4 : Int32) q3.2).bind fun q4 =>
    some (q4.1 - (1 : Int32), q4.2)
  else
    some ((100 : Int32), q3.2)
abbrev rm_X1_greatestLevel : Room := { frames := 1, cells := 0, slots := 0, locals := 21 }
set_option maxHeartbeats 4000000 in
set_option maxRecDepth 100000 in
theorem c_X1_greatestLevel {l : Launch} {g : GX} (hg : gOk g) {I : HI} {r : Int32 × HI} (hf : f_X1_greatestLevel I = some r) : Met l yX1_greatestLevel (Cond.code yX1_greatestLevel cX1_greatestLevel 1 (some .int) :: WL) rm_X1_greatestLevel (xP g [.ref (gR g 1)] I) (xQi g r.1 r.2) 0 0 (gA g) := by
  refine x_met (by decide) hg (Nat.le_of_ble_eq_true rfl) (fun p e s m args below meth c X hr hlk Y ls hl => ?_)
  have hx := X.hx
  have hb := X.hb
  have hl : lv_has ls 1 [(0, .ref (gR g 1))] := hl
  unfold f_X1_greatestLevel at hf
  refine lv_aload_n hx hb dX1_greatestLevel_0 rfl (lv_at hl 0 rfl) ?_
  refine lv_iconst (v := 0) hx hb dX1_greatestLevel_1 (by decide) ?_
  obtain ⟨q3, hq, hf⟩ := bnd_t hf
  refine x_ci Y (x_rV (rest := []) X Y k_X1_87 (c_X1_settingOf X.hg hq) cl_1.1 rfl (by decide) rfl ⟨rfl, rfl⟩ ⟨by decide, by decide⟩ hl.1 rfl (Nat.le_of_ble_eq_true rfl) dX1_greatestLevel_2 ⟨Nat.zero_le _, Nat.zero_le _⟩) (fun H locs Y => ?_)
  refine lv_iconst (v := 2) hx hb dX1_greatestLevel_5 (by decide) ?_
  refine lv_icmp_ne (tgt := 19) hx hb dX1_greatestLevel_6 (by decide) (fun c => ?_) (fun c => ?_)
  · have hf := ite_f c hf
    refine lv_bipush (v := 100) hx hb dX1_greatestLevel_19 (by decide) ?_
    exact x_iret X Y hr hlk hf dX1_greatestLevel_21
  · have hf := ite_t c hf
    refine lv_aload_n hx hb dX1_greatestLevel_9 rfl (lv_at hl 0 rfl) ?_
    refine lv_iconst (v := 4) hx hb dX1_greatestLevel_10 (by decide) ?_
    obtain ⟨q4, hq, hf⟩ := bnd_t hf
    refine x_ci Y (x_rV (rest := []) X Y k_X1_87 (c_X1_settingOf X.hg hq) cl_1.1 rfl (by decide) rfl ⟨rfl, rfl⟩ ⟨by decide, by decide⟩ hl.1 rfl (Nat.le_of_ble_eq_true rfl) dX1_greatestLevel_11 ⟨Nat.zero_le _, Nat.zero_le _⟩) (fun H locs Y => ?_)
    refine lv_iconst (v := 1) hx hb dX1_greatestLevel_14 (by decide) ?_
    refine lv_isub hx hb dX1_greatestLevel_15 ?_
    refine lv_goto (tgt := 21) hx hb dX1_greatestLevel_16 (by decide) ?_
    exact x_iret X Y hr hlk hf dX1_greatestLevel_21
def f_X1_firingsWith_L7_b (v1 : Int32) (k : Int32 → Int32 → Int32 → HI → Option (Int32 × HI)) (v2 : Int32) (v3 : Int32) (v4 : Int32) (I : HI) : Option (Int32 × HI) :=
  if (I 1 3) ≤ v4 then
    some (v2, I)
  else
    (f_X1_sampleAt v4 I).bind fun q3 =>
    (f_X1_detectorAfter q3.1 v3 v1 q3.2).bind fun q4 =>
    if (q4.1 &&& (4 : Int32)) = (0 : Int32) then
      let x5 := q4.1 &&& (-5 : Int32)
      k v2 x5 (v4 + (1 : Int32)) q4.2
    else
      let x6 := q4.1 &&& (-5 : Int32)
      k (v2 + (1 : Int32)) x6 (v4 + (1 : Int32)) q4.2
def f_X1_firingsWith_L7 (v1 : Int32) : Nat → Int32 → Int32 → Int32 → HI → Option (Int32 × HI)
  | 0, _, _, _, _ => none
  | n + 1, v2, v3, v4, I => f_X1_firingsWith_L7_b v1 (f_X1_firingsWith_L7 v1 n) v2 v3 v4 I
def f_X1_firingsWith (v1 : Int32) (I : HI) : Option (Int32 × HI) :=
  f_X1_firingsWith_L7 v1 4000 (0 : Int32) (0 : Int32) (0 : Int32) I
abbrev rm_X1_firingsWith : Room := { frames := 2, cells := 0, slots := 0, locals := 44 }
set_option maxHeartbeats 4000000 in
set_option maxRecDepth 100000 in
theorem c_X1_firingsWith {l : Launch} {g : GX} (hg : gOk g) {v1 : Int32} {I : HI} {r : Int32 × HI} (hf : f_X1_firingsWith v1 I = some r) : Met l yX1_firingsWith (Cond.code yX1_firingsWith cX1_firingsWith 6 (some .int) :: WL) rm_X1_firingsWith (xP g [.ref (gR g 1), .int v1] I) (xQi g r.1 r.2) 0 0 (gA g) := by
  refine x_met (by decide) hg (Nat.le_of_ble_eq_true rfl) (fun p e s m args below meth c X hr hlk Y ls hl => ?_)
  have hx := X.hx
  have hb := X.hb
  have hl : lv_has ls 6 [(0, .ref (gR g 1)), (1, .int v1)] := hl
  have hL7 : ∀ (v1 : Int32) (n : Nat) (v2 : Int32) (v3 : Int32) (v4 : Int32) (I : HI) (H : Heap) (locs : List Loc) (ls : Array Slot), f_X1_firingsWith_L7 v1 n v2 v3 v4 I = some r → XD g I s H locs → lv_has ls 6 [(0, .ref (gR g 1)), (1, .int v1), (2, .int v2), (3, .int v3), (4, .int v4)] → W p l e rm_X1_firingsWith s m args below meth c H locs 0 0 (MQ below (xQi g r.1 r.2) args s 0 0 (gA g)) (F0 m 7 ls []) := by
    intro v1 n
    induction n with
    | zero => intro v2 v3 v4 I H locs ls hf Y hl; exact nn_t hf
    | succ n ih =>
      intro v2 v3 v4 I H locs ls hf Y hl
      have hf : f_X1_firingsWith_L7_b v1 (f_X1_firingsWith_L7 v1 n) v2 v3 v4 I = some r := hf
      unfold f_X1_firingsWith_L7_b at hf
      refine lv_iload hx hb dX1_firingsWith_7 (lv_at hl 4 rfl) ?_
      refine lv_aload_n hx hb dX1_firingsWith_9 rfl (lv_at hl 0 rfl) ?_
      refine x_geti X Y cl_1 rfl (by decide) 3 (by decide) rfl wf_X1_25 dX1_firingsWith_10 ?_
      refine lv_icmp_ge (tgt := 52) hx hb dX1_firingsWith_13 (by decide) (fun c => ?_) (fun c => ?_)
      · have hf := ite_t c hf
        refine lv_iload_n hx hb dX1_firingsWith_52 rfl (lv_at hl 2 rfl) ?_
        exact x_iret X Y hr hlk hf dX1_firingsWith_53
      · have hf := ite_f c hf
        refine lv_aload_n hx hb dX1_firingsWith_16 rfl (lv_at hl 0 rfl) ?_
        refine lv_aload_n hx hb dX1_firingsWith_17 rfl (lv_at hl 0 rfl) ?_
        refine lv_iload hx hb dX1_firingsWith_18 (lv_at hl 4 rfl) ?_
        obtain ⟨q3, hq, hf⟩ := bnd_t hf
        refine x_ci Y (x_rV (rest := [_]) X Y k_X1_134 (c_X1_sampleAt X.hg hq) cl_1.1 rfl (by decide) rfl ⟨rfl, rfl⟩ ⟨by decide, by decide⟩ hl.1 rfl (Nat.le_of_ble_eq_true rfl) dX1_firingsWith_20 ⟨Nat.zero_le _, Nat.zero_le _⟩) (fun H locs Y => ?_)
        refine lv_iload_n hx hb dX1_firingsWith_23 rfl (lv_at hl 3 rfl) ?_
        refine lv_iload_n hx hb dX1_firingsWith_24 rfl (lv_at hl 1 rfl) ?_
        obtain ⟨q4, hq, hf⟩ := bnd_t hf
        refine x_ci Y (x_rV (rest := []) X Y k_X1_116 (c_X1_detectorAfter X.hg hq) cl_1.1 rfl (by decide) rfl ⟨rfl, rfl⟩ ⟨by decide, by decide⟩ hl.1 rfl (Nat.le_of_ble_eq_true rfl) dX1_firingsWith_25 ⟨Nat.zero_le _, Nat.zero_le _⟩) (fun H locs Y => ?_)
        refine lv_istore (lv' := [(5, _), (0, _), (1, _), (2, _), (3, _), (4, _)]) hx hb dX1_firingsWith_28 hl (by decide) rfl (fun ls hl => ?_)
        refine lv_iload hx hb dX1_firingsWith_30 (lv_at hl 0 rfl) ?_
        refine lv_iconst (v := 4) hx hb dX1_firingsWith_32 (by decide) ?_
        refine lv_iand hx hb dX1_firingsWith_33 ?_
        refine lv_if_eq (tgt := 40) hx hb dX1_firingsWith_34 (by decide) (fun c => ?_) (fun c => ?_)
        · have hf := ite_t c hf
          refine lv_iload hx hb dX1_firingsWith_40 (lv_at hl 0 rfl) ?_
          refine lv_bipush (v := -5) hx hb dX1_firingsWith_42 (by decide) ?_
          refine lv_iand hx hb dX1_firingsWith_44 ?_
          refine lv_istore_n (lv' := [(3, _), (5, _), (0, _), (1, _), (2, _), (4, _)]) hx hb dX1_firingsWith_45 rfl hl (by decide) rfl (fun ls hl => ?_)
          refine lv_iinc (v := _ + (1 : Int32)) (lv' := [(4, _), (3, _), (5, _), (0, _), (1, _), (2, _)]) hx hb dX1_firingsWith_46 hl (k := 5) rfl rfl (by decide) rfl (fun ls hl => ?_)
          refine lv_goto (tgt := 7) hx hb dX1_firingsWith_49 (by decide) ?_
          exact ih _ _ _ _ _ _ _ hf Y (lv_sub hl [3, 4, 5, 1, 0] rfl)
        · have hf := ite_f c hf
          refine lv_iinc (v := _ + (1 : Int32)) (lv' := [(2, _), (5, _), (0, _), (1, _), (3, _), (4, _)]) hx hb dX1_firingsWith_37 hl (k := 3) rfl rfl (by decide) rfl (fun ls hl => ?_)
          refine lv_iload hx hb dX1_firingsWith_40 (lv_at hl 1 rfl) ?_
          refine lv_bipush (v := -5) hx hb dX1_firingsWith_42 (by decide) ?_
          refine lv_iand hx hb dX1_firingsWith_44 ?_
          refine lv_istore_n (lv' := [(3, _), (2, _), (5, _), (0, _), (1, _), (4, _)]) hx hb dX1_firingsWith_45 rfl hl (by decide) rfl (fun ls hl => ?_)
          refine lv_iinc (v := _ + (1 : Int32)) (lv' := [(4, _), (3, _), (2, _), (5, _), (0, _), (1, _)]) hx hb dX1_firingsWith_46 hl (k := 5) rfl rfl (by decide) rfl (fun ls hl => ?_)
          refine lv_goto (tgt := 7) hx hb dX1_firingsWith_49 (by decide) ?_
          exact ih _ _ _ _ _ _ _ hf Y (lv_sub hl [4, 5, 2, 1, 0] rfl)
  unfold f_X1_firingsWith at hf
  refine lv_iconst (v := 0) hx hb dX1_firingsWith_0 (by decide) ?_
  refine lv_istore_n (lv' := [(2, _), (0, _), (1, _)]) hx hb dX1_firingsWith_1 rfl hl (by decide) rfl (fun ls hl => ?_)
  refine lv_iconst (v := 0) hx hb dX1_firingsWith_2 (by decide) ?_
  refine lv_istore_n (lv' := [(3, _), (2, _), (0, _), (1, _)]) hx hb dX1_firingsWith_3 rfl hl (by decide) rfl (fun ls hl => ?_)
  refine lv_iconst (v := 0) hx hb dX1_firingsWith_4 (by decide) ?_
  refine lv_istore (lv' := [(4, _), (3, _), (2, _), (0, _), (1, _)]) hx hb dX1_firingsWith_5 hl (by decide) rfl (fun ls hl => ?_)
  exact hL7 _ _ _ _ _ _ _ _ _ hf Y (lv_sub hl [3, 4, 2, 1, 0] rfl)
def f_X1_differenceOf_L72_b (v4 : Int32) (v5 : Int32) (v6 : Int32) (k : Int32 → Int32 → HI → Option (Int32 × HI)) (v7 : Int32) (v8 : Int32) (I : HI) : Option (Int32 × HI) :=
  if v4 < v8 then
    some (v7, I)
  else
    (f_X1_sampleAt (v5 + v8) I).bind fun q9 =>
    (f_X1_sampleAt (v6 + v8) q9.2).bind fun q10 =>
    let x11 := v7 + (if 0 ≤ (q9.1 - q10.1) then (q9.1 - q10.1) else 0 - (q9.1 - q10.1))
    k x11 (v8 + (1 : Int32)) q10.2
def f_X1_differenceOf_L72 (v4 : Int32) (v5 : Int32) (v6 : Int32) : Nat → Int32 → Int32 → HI → Option (Int32 × HI)
  | 0, _, _, _ => none
  | n + 1, v7, v8, I => f_X1_differenceOf_L72_b v4 v5 v6 (f_X1_differenceOf_L72 v4 v5 v6 n) v7 v8 I
def f_X1_differenceOf (v1 : Int32) (v2 : Int32) (I : HI) : Option (Int32 × HI) :=
  (f_X3_numberOf v1 (2 : Int32) I).bind fun q12 =>
  (f_X3_numberOf v2 (2 : Int32) q12.2).bind fun q13 =>
  let x14 := if q13.1 < q12.1 then q13.1 else q12.1
  (f_X3_behindOf v1 q13.2).bind fun q15 =>
  (f_X3_behindOf v2 q15.2).bind fun q16 =>
  let x17 := if q16.1 < q15.1 then q16.1 else q15.1
  (f_X3_numberOf v1 (0 : Int32) q16.2).bind fun q18 =>
  (f_X3_numberOf v2 (0 : Int32) q18.2).bind fun q19 =>
  let x20 := -x14
  f_X1_differenceOf_L72 x17 q18.1 q19.1 4000 (0 : Int32) x20 q19.2
abbrev rm_X1_differenceOf : Room := { frames := 3, cells := 0, slots := 0, locals := 64 }
set_option maxHeartbeats 4000000 in
set_option maxRecDepth 100000 in
theorem c_X1_differenceOf {l : Launch} {g : GX} (hg : gOk g) {v1 : Int32} {v2 : Int32} {I : HI} {r : Int32 × HI} (hf : f_X1_differenceOf v1 v2 I = some r) : Met l yX1_differenceOf (Cond.code yX1_differenceOf cX1_differenceOf 9 (some .int) :: WL) rm_X1_differenceOf (xP g [.ref (gR g 1), .int v1, .int v2] I) (xQi g r.1 r.2) 0 0 (gA g) := by
  refine x_met (by decide) hg (Nat.le_of_ble_eq_true rfl) (fun p e s m args below meth c X hr hlk Y ls hl => ?_)
  have hx := X.hx
  have hb := X.hb
  have hl : lv_has ls 9 [(0, .ref (gR g 1)), (1, .int v1), (2, .int v2)] := hl
  have hL72 : ∀ (v4 : Int32) (v5 : Int32) (v6 : Int32) (n : Nat) (v7 : Int32) (v8 : Int32) (I : HI) (H : Heap) (locs : List Loc) (ls : Array Slot), f_X1_differenceOf_L72 v4 v5 v6 n v7 v8 I = some r → XD g I s H locs → lv_has ls 9 [(0, .ref (gR g 1)), (4, .int v4), (5, .int v5), (6, .int v6), (7, .int v7), (8, .int v8)] → W p l e rm_X1_differenceOf s m args below meth c H locs 0 0 (MQ below (xQi g r.1 r.2) args s 0 0 (gA g)) (F0 m 72 ls []) := by
    intro v4 v5 v6 n
    induction n with
    | zero => intro v7 v8 I H locs ls hf Y hl; exact nn_t hf
    | succ n ih =>
      intro v7 v8 I H locs ls hf Y hl
      have hf : f_X1_differenceOf_L72_b v4 v5 v6 (f_X1_differenceOf_L72 v4 v5 v6 n) v7 v8 I = some r := hf
      unfold f_X1_differenceOf_L72_b at hf
      refine lv_iload hx hb dX1_differenceOf_72 (lv_at hl 5 rfl) ?_
      refine lv_iload hx hb dX1_differenceOf_74 (lv_at hl 1 rfl) ?_
      refine lv_icmp_gt (tgt := 112) hx hb dX1_differenceOf_76 (by decide) (fun c => ?_) (fun c => ?_)
      · have hf := ite_t c hf
        refine lv_iload hx hb dX1_differenceOf_112 (lv_at hl 4 rfl) ?_
        exact x_iret X Y hr hlk hf dX1_differenceOf_114
      · have hf := ite_f c hf
        refine lv_iload hx hb dX1_differenceOf_79 (lv_at hl 4 rfl) ?_
        refine lv_aload_n hx hb dX1_differenceOf_81 rfl (lv_at hl 0 rfl) ?_
        refine lv_iload hx hb dX1_differenceOf_82 (lv_at hl 2 rfl) ?_
        refine lv_iload hx hb dX1_differenceOf_84 (lv_at hl 5 rfl) ?_
        refine lv_iadd hx hb dX1_differenceOf_86 ?_
        obtain ⟨q9, hq, hf⟩ := bnd_t hf
        refine x_ci Y (x_rV (rest := [_]) X Y k_X1_134 (c_X1_sampleAt X.hg hq) cl_1.1 rfl (by decide) rfl ⟨rfl, rfl⟩ ⟨by decide, by decide⟩ hl.1 rfl (Nat.le_of_ble_eq_true rfl) dX1_differenceOf_87 ⟨Nat.zero_le _, Nat.zero_le _⟩) (fun H locs Y => ?_)
        refine lv_aload_n hx hb dX1_differenceOf_90 rfl (lv_at hl 0 rfl) ?_
        refine lv_iload hx hb dX1_differenceOf_91 (lv_at hl 3 rfl) ?_
        refine lv_iload hx hb dX1_differenceOf_93 (lv_at hl 5 rfl) ?_
        refine lv_iadd hx hb dX1_differenceOf_95 ?_
        obtain ⟨q10, hq, hf⟩ := bnd_t hf
        refine x_ci Y (x_rV (rest := [_, _]) X Y k_X1_134 (c_X1_sampleAt X.hg hq) cl_1.1 rfl (by decide) rfl ⟨rfl, rfl⟩ ⟨by decide, by decide⟩ hl.1 rfl (Nat.le_of_ble_eq_true rfl) dX1_differenceOf_96 ⟨Nat.zero_le _, Nat.zero_le _⟩) (fun H locs Y => ?_)
        refine lv_isub hx hb dX1_differenceOf_99 ?_
        refine x_abs X hl.1 wm_X1_148 ⟨by decide, (by first | decide | exact Nat.le_of_ble_eq_true rfl)⟩ ⟨Nat.zero_le _, Nat.zero_le _⟩ dX1_differenceOf_100 ?_
        refine lv_iadd hx hb dX1_differenceOf_103 ?_
        refine lv_istore (lv' := [(7, _), (0, _), (4, _), (5, _), (6, _), (8, _)]) hx hb dX1_differenceOf_104 hl (by decide) rfl (fun ls hl => ?_)
        refine lv_iinc (v := _ + (1 : Int32)) (lv' := [(8, _), (7, _), (0, _), (4, _), (5, _), (6, _)]) hx hb dX1_differenceOf_106 hl (k := 5) rfl rfl (by decide) rfl (fun ls hl => ?_)
        refine lv_goto (tgt := 72) hx hb dX1_differenceOf_109 (by decide) ?_
        exact ih _ _ _ _ _ _ hf Y (lv_sub hl [2, 3, 4, 5, 1, 0] rfl)
  unfold f_X1_differenceOf at hf
  refine lv_aload_n hx hb dX1_differenceOf_0 rfl (lv_at hl 0 rfl) ?_
  refine x_get (v := .ref (gR g 4)) X Y cl_1 rfl (by decide) 2 (by decide) wf_X1_21 rfl dX1_differenceOf_1 ?_
  refine lv_iload_n hx hb dX1_differenceOf_4 rfl (lv_at hl 1 rfl) ?_
  refine lv_iconst (v := 2) hx hb dX1_differenceOf_5 (by decide) ?_
  obtain ⟨q12, hq, hf⟩ := bnd_t hf
  refine x_ci Y (x_rV (rest := []) X Y k_X1_130 (c_X3_numberOf X.hg hq) cl_3.1 rfl (by decide) rfl ⟨rfl, rfl⟩ ⟨by decide, by decide⟩ hl.1 rfl (Nat.le_of_ble_eq_true rfl) dX1_differenceOf_6 ⟨Nat.zero_le _, Nat.zero_le _⟩) (fun H locs Y => ?_)
  refine lv_aload_n hx hb dX1_differenceOf_9 rfl (lv_at hl 0 rfl) ?_
  refine x_get (v := .ref (gR g 4)) X Y cl_1 rfl (by decide) 2 (by decide) wf_X1_21 rfl dX1_differenceOf_10 ?_
  refine lv_iload_n hx hb dX1_differenceOf_13 rfl (lv_at hl 2 rfl) ?_
  refine lv_iconst (v := 2) hx hb dX1_differenceOf_14 (by decide) ?_
  obtain ⟨q13, hq, hf⟩ := bnd_t hf
  refine x_ci Y (x_rV (rest := [_]) X Y k_X1_130 (c_X3_numberOf X.hg hq) cl_3.1 rfl (by decide) rfl ⟨rfl, rfl⟩ ⟨by decide, by decide⟩ hl.1 rfl (Nat.le_of_ble_eq_true rfl) dX1_differenceOf_15 ⟨Nat.zero_le _, Nat.zero_le _⟩) (fun H locs Y => ?_)
  refine x_min X hl.1 wm_X1_137 ⟨by decide, (by first | decide | exact Nat.le_of_ble_eq_true rfl)⟩ ⟨Nat.zero_le _, Nat.zero_le _⟩ dX1_differenceOf_18 ?_
  refine lv_istore_n (lv' := [(3, _), (0, _), (1, _), (2, _)]) hx hb dX1_differenceOf_21 rfl hl (by decide) rfl (fun ls hl => ?_)
  refine lv_aload_n hx hb dX1_differenceOf_22 rfl (lv_at hl 1 rfl) ?_
  refine x_get (v := .ref (gR g 4)) X Y cl_1 rfl (by decide) 2 (by decide) wf_X1_21 rfl dX1_differenceOf_23 ?_
  refine lv_iload_n hx hb dX1_differenceOf_26 rfl (lv_at hl 2 rfl) ?_
  obtain ⟨q15, hq, hf⟩ := bnd_t hf
  refine x_ci Y (x_rV (rest := []) X Y k_X1_145 (c_X3_behindOf X.hg hq) cl_3.1 rfl (by decide) rfl ⟨rfl, rfl⟩ ⟨by decide, by decide⟩ hl.1 rfl (Nat.le_of_ble_eq_true rfl) dX1_differenceOf_27 ⟨Nat.zero_le _, Nat.zero_le _⟩) (fun H locs Y => ?_)
  refine lv_aload_n hx hb dX1_differenceOf_30 rfl (lv_at hl 1 rfl) ?_
  refine x_get (v := .ref (gR g 4)) X Y cl_1 rfl (by decide) 2 (by decide) wf_X1_21 rfl dX1_differenceOf_31 ?_
  refine lv_iload_n hx hb dX1_differenceOf_34 rfl (lv_at hl 3 rfl) ?_
  obtain ⟨q16, hq, hf⟩ := bnd_t hf
  refine x_ci Y (x_rV (rest := [_]) X Y k_X1_145 (c_X3_behindOf X.hg hq) cl_3.1 rfl (by decide) rfl ⟨rfl, rfl⟩ ⟨by decide, by decide⟩ hl.1 rfl (Nat.le_of_ble_eq_true rfl) dX1_differenceOf_35 ⟨Nat.zero_le _, Nat.zero_le _⟩) (fun H locs Y => ?_)
  refine x_min X hl.1 wm_X1_137 ⟨by decide, (by first | decide | exact Nat.le_of_ble_eq_true rfl)⟩ ⟨Nat.zero_le _, Nat.zero_le _⟩ dX1_differenceOf_38 ?_
  refine lv_istore (lv' := [(4, _), (3, _), (0, _), (1, _), (2, _)]) hx hb dX1_differenceOf_41 hl (by decide) rfl (fun ls hl => ?_)
  refine lv_aload_n hx hb dX1_differenceOf_43 rfl (lv_at hl 2 rfl) ?_
  refine x_get (v := .ref (gR g 4)) X Y cl_1 rfl (by decide) 2 (by decide) wf_X1_21 rfl dX1_differenceOf_44 ?_
  refine lv_iload_n hx hb dX1_differenceOf_47 rfl (lv_at hl 3 rfl) ?_
  refine lv_iconst (v := 0) hx hb dX1_differenceOf_48 (by decide) ?_
  obtain ⟨q18, hq, hf⟩ := bnd_t hf
  refine x_ci Y (x_rV (rest := []) X Y k_X1_130 (c_X3_numberOf X.hg hq) cl_3.1 rfl (by decide) rfl ⟨rfl, rfl⟩ ⟨by decide, by decide⟩ hl.1 rfl (Nat.le_of_ble_eq_true rfl) dX1_differenceOf_49 ⟨Nat.zero_le _, Nat.zero_le _⟩) (fun H locs Y => ?_)
  refine lv_istore (lv' := [(5, _), (4, _), (3, _), (0, _), (1, _), (2, _)]) hx hb dX1_differenceOf_52 hl (by decide) rfl (fun ls hl => ?_)
  refine lv_aload_n hx hb dX1_differenceOf_54 rfl (lv_at hl 3 rfl) ?_
  refine x_get (v := .ref (gR g 4)) X Y cl_1 rfl (by decide) 2 (by decide) wf_X1_21 rfl dX1_differenceOf_55 ?_
  refine lv_iload_n hx hb dX1_differenceOf_58 rfl (lv_at hl 5 rfl) ?_
  refine lv_iconst (v := 0) hx hb dX1_differenceOf_59 (by decide) ?_
  obtain ⟨q19, hq, hf⟩ := bnd_t hf
  refine x_ci Y (x_rV (rest := []) X Y k_X1_130 (c_X3_numberOf X.hg hq) cl_3.1 rfl (by decide) rfl ⟨rfl, rfl⟩ ⟨by decide, by decide⟩ hl.1 rfl (Nat.le_of_ble_eq_true rfl) dX1_differenceOf_60 ⟨Nat.zero_le _, Nat.zero_le _⟩) (fun H locs Y => ?_)
  refine lv_istore (lv' := [(6, _), (5, _), (4, _), (3, _), (0, _), (1, _), (2, _)]) hx hb dX1_differenceOf_63 hl (by decide) rfl (fun ls hl => ?_)
  refine lv_iconst (v := 0) hx hb dX1_differenceOf_65 (by decide) ?_
  refine lv_istore (lv' := [(7, _), (6, _), (5, _), (4, _), (3, _), (0, _), (1, _), (2, _)]) hx hb dX1_differenceOf_66 hl (by decide) rfl (fun ls hl => ?_)
  refine lv_iload_n hx hb dX1_differenceOf_68 rfl (lv_at hl 4 rfl) ?_
  refine lv_ineg hx hb dX1_differenceOf_69 ?_
  refine lv_istore (lv' := [(8, _), (7, _), (6, _), (5, _), (4, _), (3, _), (0, _), (1, _), (2, _)]) hx hb dX1_differenceOf_70 hl (by decide) rfl (fun ls hl => ?_)
  exact hL72 _ _ _ _ _ _ _ _ _ _ hf Y (lv_sub hl [6, 4, 3, 2, 1, 0] rfl)
