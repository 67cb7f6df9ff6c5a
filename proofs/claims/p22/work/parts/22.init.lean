set_option maxHeartbeats 4000000 in
set_option maxRecDepth 100000 in
theorem c_X5_copyRowN {l : Launch} {g : GX} (hg : gOk g) (hC : gC g) {b n : Nat} (hk : kd b = 7) (hln : ln b = 10) (hb : b < n) {I : HI} : Met l yX5_copyRow (Cond.code yX5_copyRow cX5_copyRow 2 none :: WL) rm_X5_copyRow (xPN g n [.ref (gR g 64), .ref (gR g b)] I) (xQN g n (upR I b (va_cpy (cS 64) (I b) 0 0 10))) 0 0 (gA g) := by
  refine n_met (by decide) hg (Nat.le_of_ble_eq_true rfl) (fun p e s m args below meth c X hAO hin hr hlk Y ls hl => ?_)
  have hx := X.hx
  have hbb := X.hb
  have hl : lv_has ls 2 [(0, .ref (gR g 64)), (1, .ref (gR g b))] := hl
  refine lv_aload_n hx hbb dX5_copyRow_0 rfl (lv_at hl 0 rfl) ?_
  refine lv_iconst (v := 0) hx hbb dX5_copyRow_1 (by decide) ?_
  refine lv_aload_n hx hbb dX5_copyRow_2 rfl (lv_at hl 1 rfl) ?_
  refine lv_iconst (v := 0) hx hbb dX5_copyRow_3 (by decide) ?_
  refine lv_aload_n hx hbb dX5_copyRow_4 rfl (lv_at hl 0 rfl) ?_
  refine va_tlen hx hbb (X.2.2.2.1.2 64 (by decide) (by decide)) Y.2.1 (v := 10) (by decide) dX5_copyRow_5 ?_
  refine lv_aload_n hx hbb dX5_copyRow_6 rfl (lv_at hl 1 rfl) ?_
  refine n_lenI (v := 10) X Y hk hb (by rw [hln]; decide) dX5_copyRow_7 ?_
  refine x_min X hl.1 wm_X5_165 ⟨by decide, (by first | decide | exact Nat.le_of_ble_eq_true rfl)⟩ ⟨Nat.zero_le _, Nat.zero_le _⟩ dX5_copyRow_8 ?_
  rw [show (if (10 : Int32) < 10 then (10 : Int32) else 10) = 10 by decide]
  refine n_copyS (k := 10) X Y (by decide) (by decide) hk hb (by decide) (by decide) (by rw [hln]; decide) hl.1 wm_X5_170 ⟨by decide, (by first | decide | exact Nat.le_of_ble_eq_true rfl)⟩ dX5_copyRow_11 (fun H locs Y => ?_)
  rw [show (10 : Int32).toNatClampNeg = 10 by decide] at Y
  exact n_vret X hC Y hr hlk dX5_copyRow_14
theorem g_f {a : Nat} (h : kd a = 3 ∧ a < 57) : kd (a + 1) = 7 ∧ ln (a + 1) = 24 ∧ a + 1 < 57 := (show ∀ a : Nat, a < 57 → kd a = 3 → kd (a + 1) = 7 ∧ ln (a + 1) = 24 ∧ a + 1 < 57 by decide +kernel) a h.2 h.1
theorem m_f {a : Nat} (h : kd a = 1 ∧ a < 57) : (kd (a + 1) = 7 ∧ ln (a + 1) = 10) ∧ (kd (a + 2) = 7 ∧ ln (a + 2) = 400) ∧ kd (a + 3) = 3 ∧ (kd (a + 4) = 7 ∧ ln (a + 4) = 24) ∧ a + 4 < 57 := (show ∀ a : Nat, a < 57 → kd a = 1 → (kd (a + 1) = 7 ∧ ln (a + 1) = 10) ∧ (kd (a + 2) = 7 ∧ ln (a + 2) = 400) ∧ kd (a + 3) = 3 ∧ (kd (a + 4) = 7 ∧ ln (a + 4) = 24) ∧ a + 4 < 57 by decide +kernel) a h.2 h.1
def i_X3_init (a : Nat) (I : HI) : HI :=
  let I1 := upR I (a + 1) (fun _ => 0)
  let I2 := upI I1 (a) 0 1
  let I3 := upI I2 (a) 1 (0 : Int32)
  I3
abbrev rm_X3_init : Room := { frames := 1, cells := 1, slots := 24, locals := 20 }
set_option maxHeartbeats 8000000 in
set_option maxRecDepth 100000 in
theorem c_X3_init {l : Launch} {g : GX} (hg : gOk g) (hC : gC g) {a : Nat} (hm : kd a = 3 ∧ a < 57) {I : HI} : Met l yX3_init (Cond.code yX3_init cX3_init 1 none :: WL) rm_X3_init (xPN g (a + 1) [.ref (gR g a)] I) (xQN g (a + 2) (i_X3_init a I)) 1 24 (gA g) := by
  have hg1 := g_f hm
  refine n_met (by decide) hg (Nat.le_of_ble_eq_true rfl) (fun p e s m args below meth c X hAO hin hr hlk Y ls hl => ?_)
  have hx := X.hx
  have hb := X.hb
  have hl : lv_has ls 1 [(0, .ref (gR g a))] := hl
  refine lv_aload_n hx hb dX3_init_0 rfl (lv_at hl 0 rfl) ?_
  refine W.objInit hx hb X.1.2.2.2.1 (X.w wm_X3_3) (X.w wi_jobj) (X.w wc_jobj) rfl (by rw [X.1.2.2.1]; exact hl.1) rfl dX3_init_1 (Nat.le_of_ble_eq_true rfl) (Nat.le_of_ble_eq_true rfl) ?_
  refine W.eq (g2 := F0 m 4 ls []) rfl ?_
  refine lv_aload_n hx hb dX3_init_4 rfl (lv_at hl 0 rfl) ?_
  refine lv_bipush (v := 24) hx hb dX3_init_5 (by decide) ?_
  refine n_newi (N := 24) X hC Y hg1.1 hg1.2.2 hg1.2.1 (by decide) (by decide) (by decide) wa_int (Nat.le_of_ble_eq_true rfl) (Nat.le_of_ble_eq_true rfl) dX3_init_7 (fun H Y => ?_)
  refine n_putF (off := 1) X Y hin cl_3 hm.1 (by omega) 0 (by decide) rfl rfl wf_X3_9 rfl rfl (fun _ => rfl) (fun _ => rfl) dX3_init_9 (fun H locs Y => ?_)
  refine lv_aload_n hx hb dX3_init_12 rfl (lv_at hl 0 rfl) ?_
  refine lv_iconst (v := 0) hx hb dX3_init_13 (by decide) ?_
  refine n_put X Y cl_3 hm.1 (by omega) 1 (by decide) rfl rfl wf_X3_15 rfl rfl rfl dX3_init_14 (fun H locs Y => ?_)
  exact n_vret X hC Y hr hlk dX3_init_17
theorem i_X3_lo {a b : Nat} {I : HI} (h : b < a) : i_X3_init a I b = I b := by
  simp [i_X3_init, upI, upR, show b ≠ a by omega, show b ≠ a + 1 by omega]
def i_X1_init (a : Nat) (I : HI) : HI :=
  let I1 := upR I (a + 1) (fun _ => 0)
  let I2 := upI I1 (a) 0 1
  let I3 := upR I2 (a + 2) (fun _ => 0)
  let I4 := upI I3 (a) 1 1
  let I5 := upR I4 (a + 3) (fun _ => 0)
  let I6 := i_X3_init (a + 3) I5
  let I7 := upI I6 (a) 2 1
  let I8 := upI I7 (a) 3 (0 : Int32)
  let I9 := upI I8 (a) 4 (0 : Int32)
  let I10 := upI I9 (a) 5 (0 : Int32)
  let I11 := upI I10 (a) 6 (0 : Int32)
  let I12 := upI I11 (a) 7 (0 : Int32)
  let I13 := upI I12 (a) 8 (0 : Int32)
  let I14 := upI I13 (a) 9 (0 : Int32)
  let I15 := upI I14 (a) 10 (0 : Int32)
  let I16 := upI I15 (a) 11 (0 : Int32)
  let I17 := upI I16 (a) 12 (0 : Int32)
  let I18 := upI I17 (a) 13 (0 : Int32)
  let I19 := upI I18 (a) 14 (0 : Int32)
  let I20 := upR I19 (a + 1) (va_cpy (cS 64) (I19 (a + 1)) 0 0 10)
  I20
theorem i_X1_lo {a b : Nat} {I : HI} (h : b < a) : i_X1_init a I b = I b := by
  simp [i_X1_init, i_X3_init, upI, upR, show b ≠ a by omega, show b ≠ a + 1 by omega, show b ≠ a + 1 + 1 by omega, show b ≠ a + 2 by omega, show b ≠ a + 3 by omega, show b ≠ a + 1 + 1 + 1 by omega, show b ≠ a + 3 + 1 by omega, show b ≠ a + 4 by omega]
abbrev rm_X1_init : Room := { frames := 2, cells := 4, slots := 436, locals := 61 }
set_option maxHeartbeats 8000000 in
set_option maxRecDepth 100000 in
theorem c_X1_init {l : Launch} {g : GX} (hg : gOk g) (hC : gC g) {a : Nat} (hm : kd a = 1 ∧ a < 57) {I : HI} : Met l yX1_init (Cond.code yX1_init cX1_init 1 none :: WL) rm_X1_init (xPN g (a + 1) [.ref (gR g a)] I) (xQN g (a + 5) (i_X1_init a I)) 4 436 (gA g) := by
  have hm1 := m_f hm
  refine n_met (by decide) hg (Nat.le_of_ble_eq_true rfl) (fun p e s m args below meth c X hAO hin hr hlk Y ls hl => ?_)
  have hx := X.hx
  have hb := X.hb
  have hl : lv_has ls 1 [(0, .ref (gR g a))] := hl
  refine lv_aload_n hx hb dX1_init_0 rfl (lv_at hl 0 rfl) ?_
  refine W.objInit hx hb X.1.2.2.2.1 (X.w wm_X1_3) (X.w wi_jobj) (X.w wc_jobj) rfl (by rw [X.1.2.2.1]; exact hl.1) rfl dX1_init_1 (Nat.le_of_ble_eq_true rfl) (Nat.le_of_ble_eq_true rfl) ?_
  refine W.eq (g2 := F0 m 4 ls []) rfl ?_
  refine lv_aload_n hx hb dX1_init_4 rfl (lv_at hl 0 rfl) ?_
  refine lv_bipush (v := 10) hx hb dX1_init_5 (by decide) ?_
  refine n_newi (N := 10) X hC Y hm1.1.1 (by omega) hm1.1.2 (by decide) (by decide) (by decide) wa_int (Nat.le_of_ble_eq_true rfl) (Nat.le_of_ble_eq_true rfl) dX1_init_7 (fun H Y => ?_)
  refine n_putF (off := 1) X Y hin cl_1 hm.1 (by omega) 0 (by decide) rfl rfl wf_X1_9 rfl rfl (fun _ => rfl) (fun _ => rfl) dX1_init_9 (fun H locs Y => ?_)
  refine lv_aload_n hx hb dX1_init_12 rfl (lv_at hl 0 rfl) ?_
  refine lv_sipush (v := 400) hx hb dX1_init_13 (by decide) ?_
  refine n_newi (N := 400) X hC Y hm1.2.1.1 (by omega) hm1.2.1.2 (by decide) (by decide) (by decide) wa_int (Nat.le_of_ble_eq_true rfl) (Nat.le_of_ble_eq_true rfl) dX1_init_16 (fun H Y => ?_)
  refine n_putF (off := 2) X Y hin cl_1 hm.1 (by omega) 1 (by decide) rfl rfl wf_X1_15 rfl rfl (fun _ => rfl) (fun _ => rfl) dX1_init_18 (fun H locs Y => ?_)
  refine lv_aload_n hx hb dX1_init_21 rfl (lv_at hl 0 rfl) ?_
  refine n_new (ty := tyX3) X hC Y cl_3 hm1.2.2.1 (by omega) (fun j hj => by rcases (show j = 0 ∨ j = 1 by omega) with rfl | rfl <;> (simp [fln, nF, rfO, flg, vp_V, upR, defaultValue, tyX3])) wl_X1_18 wo_X3 wz_X3 (Nat.le_of_ble_eq_true rfl) (Nat.le_of_ble_eq_true rfl) dX1_init_22 (fun H Y => ?_)
  refine lv_dup hx hb dX1_init_25 rfl ?_
  refine n_sized hC X.2.2.2.2.1 Y fun hsz => ?_
  refine n_c Y (n1 := a + 5) rfl (n_rIN (rest := [_, _]) X hAO Y hsz k_X1_20 (c_X3_init X.hg hC ⟨hm1.2.2.1, by omega⟩) rfl ⟨rfl, rfl⟩ ⟨by decide, by decide⟩ hl.1 rfl (Nat.le_of_ble_eq_true rfl) dX1_init_26 ⟨Nat.le_of_ble_eq_true rfl, Nat.le_of_ble_eq_true rfl⟩) (fun H locs Y => ?_)
  refine n_putF (off := 3) X Y hin cl_1 hm.1 (by omega) 2 (by decide) rfl rfl wf_X1_21 rfl rfl (fun _ => rfl) (fun _ => rfl) dX1_init_29 (fun H locs Y => ?_)
  refine lv_aload_n hx hb dX1_init_32 rfl (lv_at hl 0 rfl) ?_
  refine lv_iconst (v := 0) hx hb dX1_init_33 (by decide) ?_
  refine n_put X Y cl_1 hm.1 (by omega) 3 (by decide) rfl rfl wf_X1_25 rfl rfl rfl dX1_init_34 (fun H locs Y => ?_)
  refine lv_aload_n hx hb dX1_init_37 rfl (lv_at hl 0 rfl) ?_
  refine lv_iconst (v := 0) hx hb dX1_init_38 (by decide) ?_
  refine n_put X Y cl_1 hm.1 (by omega) 4 (by decide) rfl rfl wf_X1_29 rfl rfl rfl dX1_init_39 (fun H locs Y => ?_)
  refine lv_aload_n hx hb dX1_init_42 rfl (lv_at hl 0 rfl) ?_
  refine lv_iconst (v := 0) hx hb dX1_init_43 (by decide) ?_
  refine n_put X Y cl_1 hm.1 (by omega) 5 (by decide) rfl rfl wf_X1_32 rfl rfl rfl dX1_init_44 (fun H locs Y => ?_)
  refine lv_aload_n hx hb dX1_init_47 rfl (lv_at hl 0 rfl) ?_
  refine lv_iconst (v := 0) hx hb dX1_init_48 (by decide) ?_
  refine n_put X Y cl_1 hm.1 (by omega) 6 (by decide) rfl rfl wf_X1_35 rfl rfl rfl dX1_init_49 (fun H locs Y => ?_)
  refine lv_aload_n hx hb dX1_init_52 rfl (lv_at hl 0 rfl) ?_
  refine lv_iconst (v := 0) hx hb dX1_init_53 (by decide) ?_
  refine n_put X Y cl_1 hm.1 (by omega) 7 (by decide) rfl rfl wf_X1_38 rfl rfl rfl dX1_init_54 (fun H locs Y => ?_)
  refine lv_aload_n hx hb dX1_init_57 rfl (lv_at hl 0 rfl) ?_
  refine lv_iconst (v := 0) hx hb dX1_init_58 (by decide) ?_
  refine n_put X Y cl_1 hm.1 (by omega) 8 (by decide) rfl rfl wf_X1_41 rfl rfl rfl dX1_init_59 (fun H locs Y => ?_)
  refine lv_aload_n hx hb dX1_init_62 rfl (lv_at hl 0 rfl) ?_
  refine lv_iconst (v := 0) hx hb dX1_init_63 (by decide) ?_
  refine n_put X Y cl_1 hm.1 (by omega) 9 (by decide) rfl rfl wf_X1_44 rfl rfl rfl dX1_init_64 (fun H locs Y => ?_)
  refine lv_aload_n hx hb dX1_init_67 rfl (lv_at hl 0 rfl) ?_
  refine lv_iconst (v := 0) hx hb dX1_init_68 (by decide) ?_
  refine n_put X Y cl_1 hm.1 (by omega) 10 (by decide) rfl rfl wf_X1_47 rfl rfl rfl dX1_init_69 (fun H locs Y => ?_)
  refine lv_aload_n hx hb dX1_init_72 rfl (lv_at hl 0 rfl) ?_
  refine lv_iconst (v := 0) hx hb dX1_init_73 (by decide) ?_
  refine n_put X Y cl_1 hm.1 (by omega) 11 (by decide) rfl rfl wf_X1_50 rfl rfl rfl dX1_init_74 (fun H locs Y => ?_)
  refine lv_aload_n hx hb dX1_init_77 rfl (lv_at hl 0 rfl) ?_
  refine lv_iconst (v := 0) hx hb dX1_init_78 (by decide) ?_
  refine n_put X Y cl_1 hm.1 (by omega) 12 (by decide) rfl rfl wf_X1_53 rfl rfl rfl dX1_init_79 (fun H locs Y => ?_)
  refine lv_aload_n hx hb dX1_init_82 rfl (lv_at hl 0 rfl) ?_
  refine lv_iconst (v := 0) hx hb dX1_init_83 (by decide) ?_
  refine n_put X Y cl_1 hm.1 (by omega) 13 (by decide) rfl rfl wf_X1_56 rfl rfl rfl dX1_init_84 (fun H locs Y => ?_)
  refine lv_aload_n hx hb dX1_init_87 rfl (lv_at hl 0 rfl) ?_
  refine lv_iconst (v := 0) hx hb dX1_init_88 (by decide) ?_
  refine n_put X Y cl_1 hm.1 (by omega) 14 (by decide) rfl rfl wf_X1_59 rfl rfl rfl dX1_init_89 (fun H locs Y => ?_)
  refine n_gstN (a := 64) X Y X.2.2.2.1.1.1 wg_X1_62 dX1_init_92 ?_
  refine lv_aload_n hx hb dX1_init_95 rfl (lv_at hl 0 rfl) ?_
  refine n_get (off := 1) X Y cl_1 hm.1 (by omega) 0 (by decide) rfl rfl (by simp [upI, upR, upd, i_X3_lo, i_X1_lo, show ¬ a = a + 1 by omega, show ¬ a = a + 1 + 1 by omega, show ¬ a = a + 1 + 1 + 1 by omega]) wf_X1_9 dX1_init_96 ?_
  refine n_sized hC X.2.2.2.2.1 Y fun hsz => ?_
  refine n_c Y (n1 := a + 5) rfl (n_rSN (rest := []) X hAO Y hsz k_X1_65 (c_X5_copyRowN X.hg hC hm1.1.1 hm1.1.2 (by omega)) rfl ⟨rfl, rfl⟩ ⟨by decide, by decide⟩ hl.1 rfl (Nat.le_of_ble_eq_true rfl) dX1_init_99 ⟨Nat.le_of_ble_eq_true rfl, Nat.le_of_ble_eq_true rfl⟩) (fun H locs Y => ?_)
  exact n_vret X hC Y hr hlk dX1_init_102
def i_X0_init (I : HI) : HI :=
  let I1 := upR I 7 (fun _ => 0)
  let I2 := upI I1 6 0 1
  let I3 := upI I2 6 1 (0 : Int32)
  let I4 := upI I3 6 2 (0 : Int32)
  let I5 := upR I4 8 (fun _ => 0)
  let I6 := i_X1_init 8 I5
  let I7 := upI I6 7 0 1
  let I8 := upR I7 13 (fun _ => 0)
  let I9 := i_X1_init 13 I8
  let I10 := upI I9 7 1 1
  let I11 := upR I10 18 (fun _ => 0)
  let I12 := i_X1_init 18 I11
  let I13 := upI I12 7 2 1
  let I14 := upR I13 23 (fun _ => 0)
  let I15 := i_X1_init 23 I14
  let I16 := upI I15 7 3 1
  let I17 := upR I16 28 (fun _ => 0)
  let I18 := i_X1_init 28 I17
  let I19 := upI I18 7 4 1
  let I20 := upR I19 33 (fun _ => 0)
  let I21 := i_X1_init 33 I20
  let I22 := upI I21 7 5 1
  I22
abbrev rm_X0_init : Room := { frames := 3, cells := 31, slots := 2712, locals := 81 }
set_option maxHeartbeats 8000000 in
set_option maxRecDepth 100000 in
theorem c_X0_init {l : Launch} {g : GX} (hg : gOk g) (hC : gC g) {I : HI} : Met l yX0_init (Cond.code yX0_init cX0_init 2 none :: WL) rm_X0_init (xPN g (7) [.ref (gR g 6)] I) (xQN g (38) (i_X0_init I)) 31 2712 (gA g) := by
  refine n_met (by decide) hg (Nat.le_of_ble_eq_true rfl) (fun p e s m args below meth c X hAO hin hr hlk Y ls hl => ?_)
  have hx := X.hx
  have hb := X.hb
  have hl : lv_has ls 2 [(0, .ref (gR g 6))] := hl
  refine lv_aload_n hx hb dX0_init_0 rfl (lv_at hl 0 rfl) ?_
  refine W.objInit hx hb X.1.2.2.2.1 (X.w wm_X0_3) (X.w wi_jobj) (X.w wc_jobj) rfl (by rw [X.1.2.2.1]; exact hl.1) rfl dX0_init_1 (Nat.le_of_ble_eq_true rfl) (Nat.le_of_ble_eq_true rfl) ?_
  refine W.eq (g2 := F0 m 4 ls []) rfl ?_
  refine lv_aload_n hx hb dX0_init_4 rfl (lv_at hl 0 rfl) ?_
  refine lv_bipush (v := 6) hx hb dX0_init_5 (by decide) ?_
  refine n_newq (N := 6) X hAO hC Y rfl (by decide) rfl (by decide) (by decide) (by decide) wl_X0_9 (Nat.le_of_ble_eq_true rfl) (Nat.le_of_ble_eq_true rfl) dX0_init_7 (fun H Y => ?_)
  refine n_putF (off := 1) X Y hin cl_0 rfl (by omega) 0 (by decide) rfl rfl wf_X0_11 rfl rfl (fun _ => rfl) (fun _ => rfl) dX0_init_10 (fun H locs Y => ?_)
  refine lv_aload_n hx hb dX0_init_13 rfl (lv_at hl 0 rfl) ?_
  refine lv_iconst (v := 0) hx hb dX0_init_14 (by decide) ?_
  refine n_put X Y cl_0 rfl (by omega) 1 (by decide) rfl rfl wf_X0_17 rfl rfl rfl dX0_init_15 (fun H locs Y => ?_)
  refine lv_aload_n hx hb dX0_init_18 rfl (lv_at hl 0 rfl) ?_
  refine lv_iconst (v := 0) hx hb dX0_init_19 (by decide) ?_
  refine n_put X Y cl_0 rfl (by omega) 2 (by decide) rfl rfl wf_X0_21 rfl rfl rfl dX0_init_20 (fun H locs Y => ?_)
  refine lv_iconst (v := 0) hx hb dX0_init_23 (by decide) ?_
  refine lv_istore_n (lv' := [(1, .int 0), (0, _)]) hx hb dX0_init_24 rfl hl (by decide) rfl (fun ls hl => ?_)
  refine lv_iload_n hx hb dX0_init_25 rfl (lv_at hl 0 rfl) ?_
  refine lv_aload_n hx hb dX0_init_26 rfl (lv_at hl 1 rfl) ?_
  refine n_get (off := 1) X Y cl_0 rfl (by omega) 0 (by decide) rfl rfl (by simp [upI, upR, upd, i_X3_lo, i_X1_lo]) wf_X0_11 dX0_init_27 ?_
  refine n_lenO (a := 7) (v := 6) X Y rfl (by decide) (by decide) dX0_init_30 ?_
  refine lv_icmp_ge (tgt := 53) hx hb dX0_init_31 (by decide) (fun c => absurd c (by decide)) (fun c => ?_)
  refine lv_aload_n hx hb dX0_init_34 rfl (lv_at hl 1 rfl) ?_
  refine n_get (off := 1) X Y cl_0 rfl (by omega) 0 (by decide) rfl rfl (by simp [upI, upR, upd, i_X3_lo, i_X1_lo]) wf_X0_11 dX0_init_35 ?_
  refine lv_iload_n hx hb dX0_init_38 rfl (lv_at hl 0 rfl) ?_
  refine n_new (ty := tyX1) X hC Y cl_1 rfl (by decide) (fun j hj => by rcases (show j = 0 ∨ j = 1 ∨ j = 2 ∨ j = 3 ∨ j = 4 ∨ j = 5 ∨ j = 6 ∨ j = 7 ∨ j = 8 ∨ j = 9 ∨ j = 10 ∨ j = 11 ∨ j = 12 ∨ j = 13 ∨ j = 14 by omega) with rfl | rfl | rfl | rfl | rfl | rfl | rfl | rfl | rfl | rfl | rfl | rfl | rfl | rfl | rfl <;> (simp [fln, nF, rfO, flg, vp_V, upR, defaultValue, tyX1])) wl_X0_9 wo_X1 wz_X1 (Nat.le_of_ble_eq_true rfl) (Nat.le_of_ble_eq_true rfl) dX0_init_39 (fun H Y => ?_)
  refine lv_dup hx hb dX0_init_42 rfl ?_
  refine n_sized hC X.2.2.2.2.1 Y fun hsz => ?_
  refine n_c Y (n1 := 13) rfl (n_rI (rest := [_, _, _]) X hAO Y hsz k_X0_24 (c_X1_init X.hg hC ⟨rfl, by decide⟩) rfl ⟨rfl, rfl⟩ ⟨by decide, by decide⟩ hl.1 rfl (Nat.le_of_ble_eq_true rfl) dX0_init_43 ⟨Nat.le_of_ble_eq_true rfl, Nat.le_of_ble_eq_true rfl⟩) (fun H locs Y => ?_)
  refine n_aast (a := 7) (b := 8) (k := 0) X Y rfl (by decide) (by decide) rfl (by decide) rfl (vin (by decide)) dX0_init_46 (fun H locs Y => ?_)
  refine lv_iinc (v := 1) (lv' := [(1, .int 1), (0, _)]) hx hb dX0_init_47 hl (k := 0) rfl (by decide) (by decide) rfl (fun ls hl => ?_)
  refine lv_goto (tgt := 25) hx hb dX0_init_50 (by decide) ?_
  refine lv_iload_n hx hb dX0_init_25 rfl (lv_at hl 0 rfl) ?_
  refine lv_aload_n hx hb dX0_init_26 rfl (lv_at hl 1 rfl) ?_
  refine n_get (off := 1) X Y cl_0 rfl (by omega) 0 (by decide) rfl rfl (by simp [upI, upR, upd, i_X3_lo, i_X1_lo]) wf_X0_11 dX0_init_27 ?_
  refine n_lenO (a := 7) (v := 6) X Y rfl (by decide) (by decide) dX0_init_30 ?_
  refine lv_icmp_ge (tgt := 53) hx hb dX0_init_31 (by decide) (fun c => absurd c (by decide)) (fun c => ?_)
  refine lv_aload_n hx hb dX0_init_34 rfl (lv_at hl 1 rfl) ?_
  refine n_get (off := 1) X Y cl_0 rfl (by omega) 0 (by decide) rfl rfl (by simp [upI, upR, upd, i_X3_lo, i_X1_lo]) wf_X0_11 dX0_init_35 ?_
  refine lv_iload_n hx hb dX0_init_38 rfl (lv_at hl 0 rfl) ?_
  refine n_new (ty := tyX1) X hC Y cl_1 rfl (by decide) (fun j hj => by rcases (show j = 0 ∨ j = 1 ∨ j = 2 ∨ j = 3 ∨ j = 4 ∨ j = 5 ∨ j = 6 ∨ j = 7 ∨ j = 8 ∨ j = 9 ∨ j = 10 ∨ j = 11 ∨ j = 12 ∨ j = 13 ∨ j = 14 by omega) with rfl | rfl | rfl | rfl | rfl | rfl | rfl | rfl | rfl | rfl | rfl | rfl | rfl | rfl | rfl <;> (simp [fln, nF, rfO, flg, vp_V, upR, defaultValue, tyX1])) wl_X0_9 wo_X1 wz_X1 (Nat.le_of_ble_eq_true rfl) (Nat.le_of_ble_eq_true rfl) dX0_init_39 (fun H Y => ?_)
  refine lv_dup hx hb dX0_init_42 rfl ?_
  refine n_sized hC X.2.2.2.2.1 Y fun hsz => ?_
  refine n_c Y (n1 := 18) rfl (n_rI (rest := [_, _, _]) X hAO Y hsz k_X0_24 (c_X1_init X.hg hC ⟨rfl, by decide⟩) rfl ⟨rfl, rfl⟩ ⟨by decide, by decide⟩ hl.1 rfl (Nat.le_of_ble_eq_true rfl) dX0_init_43 ⟨Nat.le_of_ble_eq_true rfl, Nat.le_of_ble_eq_true rfl⟩) (fun H locs Y => ?_)
  refine n_aast (a := 7) (b := 13) (k := 1) X Y rfl (by decide) (by decide) rfl (by decide) rfl (vin (by decide)) dX0_init_46 (fun H locs Y => ?_)
  refine lv_iinc (v := 2) (lv' := [(1, .int 2), (0, _)]) hx hb dX0_init_47 hl (k := 0) rfl (by decide) (by decide) rfl (fun ls hl => ?_)
  refine lv_goto (tgt := 25) hx hb dX0_init_50 (by decide) ?_
  refine lv_iload_n hx hb dX0_init_25 rfl (lv_at hl 0 rfl) ?_
  refine lv_aload_n hx hb dX0_init_26 rfl (lv_at hl 1 rfl) ?_
  refine n_get (off := 1) X Y cl_0 rfl (by omega) 0 (by decide) rfl rfl (by simp [upI, upR, upd, i_X3_lo, i_X1_lo]) wf_X0_11 dX0_init_27 ?_
  refine n_lenO (a := 7) (v := 6) X Y rfl (by decide) (by decide) dX0_init_30 ?_
  refine lv_icmp_ge (tgt := 53) hx hb dX0_init_31 (by decide) (fun c => absurd c (by decide)) (fun c => ?_)
  refine lv_aload_n hx hb dX0_init_34 rfl (lv_at hl 1 rfl) ?_
  refine n_get (off := 1) X Y cl_0 rfl (by omega) 0 (by decide) rfl rfl (by simp [upI, upR, upd, i_X3_lo, i_X1_lo]) wf_X0_11 dX0_init_35 ?_
  refine lv_iload_n hx hb dX0_init_38 rfl (lv_at hl 0 rfl) ?_
  refine n_new (ty := tyX1) X hC Y cl_1 rfl (by decide) (fun j hj => by rcases (show j = 0 ∨ j = 1 ∨ j = 2 ∨ j = 3 ∨ j = 4 ∨ j = 5 ∨ j = 6 ∨ j = 7 ∨ j = 8 ∨ j = 9 ∨ j = 10 ∨ j = 11 ∨ j = 12 ∨ j = 13 ∨ j = 14 by omega) with rfl | rfl | rfl | rfl | rfl | rfl | rfl | rfl | rfl | rfl | rfl | rfl | rfl | rfl | rfl <;> (simp [fln, nF, rfO, flg, vp_V, upR, defaultValue, tyX1])) wl_X0_9 wo_X1 wz_X1 (Nat.le_of_ble_eq_true rfl) (Nat.le_of_ble_eq_true rfl) dX0_init_39 (fun H Y => ?_)
  refine lv_dup hx hb dX0_init_42 rfl ?_
  refine n_sized hC X.2.2.2.2.1 Y fun hsz => ?_
  refine n_c Y (n1 := 23) rfl (n_rI (rest := [_, _, _]) X hAO Y hsz k_X0_24 (c_X1_init X.hg hC ⟨rfl, by decide⟩) rfl ⟨rfl, rfl⟩ ⟨by decide, by decide⟩ hl.1 rfl (Nat.le_of_ble_eq_true rfl) dX0_init_43 ⟨Nat.le_of_ble_eq_true rfl, Nat.le_of_ble_eq_true rfl⟩) (fun H locs Y => ?_)
  refine n_aast (a := 7) (b := 18) (k := 2) X Y rfl (by decide) (by decide) rfl (by decide) rfl (vin (by decide)) dX0_init_46 (fun H locs Y => ?_)
  refine lv_iinc (v := 3) (lv' := [(1, .int 3), (0, _)]) hx hb dX0_init_47 hl (k := 0) rfl (by decide) (by decide) rfl (fun ls hl => ?_)
  refine lv_goto (tgt := 25) hx hb dX0_init_50 (by decide) ?_
  refine lv_iload_n hx hb dX0_init_25 rfl (lv_at hl 0 rfl) ?_
  refine lv_aload_n hx hb dX0_init_26 rfl (lv_at hl 1 rfl) ?_
  refine n_get (off := 1) X Y cl_0 rfl (by omega) 0 (by decide) rfl rfl (by simp [upI, upR, upd, i_X3_lo, i_X1_lo]) wf_X0_11 dX0_init_27 ?_
  refine n_lenO (a := 7) (v := 6) X Y rfl (by decide) (by decide) dX0_init_30 ?_
  refine lv_icmp_ge (tgt := 53) hx hb dX0_init_31 (by decide) (fun c => absurd c (by decide)) (fun c => ?_)
  refine lv_aload_n hx hb dX0_init_34 rfl (lv_at hl 1 rfl) ?_
  refine n_get (off := 1) X Y cl_0 rfl (by omega) 0 (by decide) rfl rfl (by simp [upI, upR, upd, i_X3_lo, i_X1_lo]) wf_X0_11 dX0_init_35 ?_
  refine lv_iload_n hx hb dX0_init_38 rfl (lv_at hl 0 rfl) ?_
  refine n_new (ty := tyX1) X hC Y cl_1 rfl (by decide) (fun j hj => by rcases (show j = 0 ∨ j = 1 ∨ j = 2 ∨ j = 3 ∨ j = 4 ∨ j = 5 ∨ j = 6 ∨ j = 7 ∨ j = 8 ∨ j = 9 ∨ j = 10 ∨ j = 11 ∨ j = 12 ∨ j = 13 ∨ j = 14 by omega) with rfl | rfl | rfl | rfl | rfl | rfl | rfl | rfl | rfl | rfl | rfl | rfl | rfl | rfl | rfl <;> (simp [fln, nF, rfO, flg, vp_V, upR, defaultValue, tyX1])) wl_X0_9 wo_X1 wz_X1 (Nat.le_of_ble_eq_true rfl) (Nat.le_of_ble_eq_true rfl) dX0_init_39 (fun H Y => ?_)
  refine lv_dup hx hb dX0_init_42 rfl ?_
  refine n_sized hC X.2.2.2.2.1 Y fun hsz => ?_
  refine n_c Y (n1 := 28) rfl (n_rI (rest := [_, _, _]) X hAO Y hsz k_X0_24 (c_X1_init X.hg hC ⟨rfl, by decide⟩) rfl ⟨rfl, rfl⟩ ⟨by decide, by decide⟩ hl.1 rfl (Nat.le_of_ble_eq_true rfl) dX0_init_43 ⟨Nat.le_of_ble_eq_true rfl, Nat.le_of_ble_eq_true rfl⟩) (fun H locs Y => ?_)
  refine n_aast (a := 7) (b := 23) (k := 3) X Y rfl (by decide) (by decide) rfl (by decide) rfl (vin (by decide)) dX0_init_46 (fun H locs Y => ?_)
  refine lv_iinc (v := 4) (lv' := [(1, .int 4), (0, _)]) hx hb dX0_init_47 hl (k := 0) rfl (by decide) (by decide) rfl (fun ls hl => ?_)
  refine lv_goto (tgt := 25) hx hb dX0_init_50 (by decide) ?_
  refine lv_iload_n hx hb dX0_init_25 rfl (lv_at hl 0 rfl) ?_
  refine lv_aload_n hx hb dX0_init_26 rfl (lv_at hl 1 rfl) ?_
  refine n_get (off := 1) X Y cl_0 rfl (by omega) 0 (by decide) rfl rfl (by simp [upI, upR, upd, i_X3_lo, i_X1_lo]) wf_X0_11 dX0_init_27 ?_
  refine n_lenO (a := 7) (v := 6) X Y rfl (by decide) (by decide) dX0_init_30 ?_
  refine lv_icmp_ge (tgt := 53) hx hb dX0_init_31 (by decide) (fun c => absurd c (by decide)) (fun c => ?_)
  refine lv_aload_n hx hb dX0_init_34 rfl (lv_at hl 1 rfl) ?_
  refine n_get (off := 1) X Y cl_0 rfl (by omega) 0 (by decide) rfl rfl (by simp [upI, upR, upd, i_X3_lo, i_X1_lo]) wf_X0_11 dX0_init_35 ?_
  refine lv_iload_n hx hb dX0_init_38 rfl (lv_at hl 0 rfl) ?_
  refine n_new (ty := tyX1) X hC Y cl_1 rfl (by decide) (fun j hj => by rcases (show j = 0 ∨ j = 1 ∨ j = 2 ∨ j = 3 ∨ j = 4 ∨ j = 5 ∨ j = 6 ∨ j = 7 ∨ j = 8 ∨ j = 9 ∨ j = 10 ∨ j = 11 ∨ j = 12 ∨ j = 13 ∨ j = 14 by omega) with rfl | rfl | rfl | rfl | rfl | rfl | rfl | rfl | rfl | rfl | rfl | rfl | rfl | rfl | rfl <;> (simp [fln, nF, rfO, flg, vp_V, upR, defaultValue, tyX1])) wl_X0_9 wo_X1 wz_X1 (Nat.le_of_ble_eq_true rfl) (Nat.le_of_ble_eq_true rfl) dX0_init_39 (fun H Y => ?_)
  refine lv_dup hx hb dX0_init_42 rfl ?_
  refine n_sized hC X.2.2.2.2.1 Y fun hsz => ?_
  refine n_c Y (n1 := 33) rfl (n_rI (rest := [_, _, _]) X hAO Y hsz k_X0_24 (c_X1_init X.hg hC ⟨rfl, by decide⟩) rfl ⟨rfl, rfl⟩ ⟨by decide, by decide⟩ hl.1 rfl (Nat.le_of_ble_eq_true rfl) dX0_init_43 ⟨Nat.le_of_ble_eq_true rfl, Nat.le_of_ble_eq_true rfl⟩) (fun H locs Y => ?_)
  refine n_aast (a := 7) (b := 28) (k := 4) X Y rfl (by decide) (by decide) rfl (by decide) rfl (vin (by decide)) dX0_init_46 (fun H locs Y => ?_)
  refine lv_iinc (v := 5) (lv' := [(1, .int 5), (0, _)]) hx hb dX0_init_47 hl (k := 0) rfl (by decide) (by decide) rfl (fun ls hl => ?_)
  refine lv_goto (tgt := 25) hx hb dX0_init_50 (by decide) ?_
  refine lv_iload_n hx hb dX0_init_25 rfl (lv_at hl 0 rfl) ?_
  refine lv_aload_n hx hb dX0_init_26 rfl (lv_at hl 1 rfl) ?_
  refine n_get (off := 1) X Y cl_0 rfl (by omega) 0 (by decide) rfl rfl (by simp [upI, upR, upd, i_X3_lo, i_X1_lo]) wf_X0_11 dX0_init_27 ?_
  refine n_lenO (a := 7) (v := 6) X Y rfl (by decide) (by decide) dX0_init_30 ?_
  refine lv_icmp_ge (tgt := 53) hx hb dX0_init_31 (by decide) (fun c => absurd c (by decide)) (fun c => ?_)
  refine lv_aload_n hx hb dX0_init_34 rfl (lv_at hl 1 rfl) ?_
  refine n_get (off := 1) X Y cl_0 rfl (by omega) 0 (by decide) rfl rfl (by simp [upI, upR, upd, i_X3_lo, i_X1_lo]) wf_X0_11 dX0_init_35 ?_
  refine lv_iload_n hx hb dX0_init_38 rfl (lv_at hl 0 rfl) ?_
  refine n_new (ty := tyX1) X hC Y cl_1 rfl (by decide) (fun j hj => by rcases (show j = 0 ∨ j = 1 ∨ j = 2 ∨ j = 3 ∨ j = 4 ∨ j = 5 ∨ j = 6 ∨ j = 7 ∨ j = 8 ∨ j = 9 ∨ j = 10 ∨ j = 11 ∨ j = 12 ∨ j = 13 ∨ j = 14 by omega) with rfl | rfl | rfl | rfl | rfl | rfl | rfl | rfl | rfl | rfl | rfl | rfl | rfl | rfl | rfl <;> (simp [fln, nF, rfO, flg, vp_V, upR, defaultValue, tyX1])) wl_X0_9 wo_X1 wz_X1 (Nat.le_of_ble_eq_true rfl) (Nat.le_of_ble_eq_true rfl) dX0_init_39 (fun H Y => ?_)
  refine lv_dup hx hb dX0_init_42 rfl ?_
  refine n_sized hC X.2.2.2.2.1 Y fun hsz => ?_
  refine n_c Y (n1 := 38) rfl (n_rI (rest := [_, _, _]) X hAO Y hsz k_X0_24 (c_X1_init X.hg hC ⟨rfl, by decide⟩) rfl ⟨rfl, rfl⟩ ⟨by decide, by decide⟩ hl.1 rfl (Nat.le_of_ble_eq_true rfl) dX0_init_43 ⟨Nat.le_of_ble_eq_true rfl, Nat.le_of_ble_eq_true rfl⟩) (fun H locs Y => ?_)
  refine n_aast (a := 7) (b := 33) (k := 5) X Y rfl (by decide) (by decide) rfl (by decide) rfl (vin (by decide)) dX0_init_46 (fun H locs Y => ?_)
  refine lv_iinc (v := 6) (lv' := [(1, .int 6), (0, _)]) hx hb dX0_init_47 hl (k := 0) rfl (by decide) (by decide) rfl (fun ls hl => ?_)
  refine lv_goto (tgt := 25) hx hb dX0_init_50 (by decide) ?_
  refine lv_iload_n hx hb dX0_init_25 rfl (lv_at hl 0 rfl) ?_
  refine lv_aload_n hx hb dX0_init_26 rfl (lv_at hl 1 rfl) ?_
  refine n_get (off := 1) X Y cl_0 rfl (by omega) 0 (by decide) rfl rfl (by simp [upI, upR, upd, i_X3_lo, i_X1_lo]) wf_X0_11 dX0_init_27 ?_
  refine n_lenO (a := 7) (v := 6) X Y rfl (by decide) (by decide) dX0_init_30 ?_
  refine lv_icmp_ge (tgt := 53) hx hb dX0_init_31 (by decide) (fun c => ?_) (fun c => absurd (by decide) c)
  exact n_vret X hC Y hr hlk dX0_init_53
def i_X4_init (I : HI) : HI :=
  let I1 := upR I 39 (fun _ => 0)
  let I2 := upI I1 38 0 1
  let I3 := upR I2 40 (fun _ => 0)
  let I4 := upI I3 38 1 1
  let I5 := upR I4 41 (fun _ => 0)
  let I6 := i_X1_init 41 I5
  let I7 := upI I6 39 0 1
  let I8 := upR I7 46 (fun _ => 0)
  let I9 := i_X1_init 46 I8
  let I10 := upI I9 39 1 1
  I10
abbrev rm_X4_init : Room := { frames := 3, cells := 12, slots := 906, locals := 81 }
set_option maxHeartbeats 8000000 in
set_option maxRecDepth 100000 in
theorem c_X4_init {l : Launch} {g : GX} (hg : gOk g) (hC : gC g) {I : HI} : Met l yX4_init (Cond.code yX4_init cX4_init 2 none :: WL) rm_X4_init (xPN g (39) [.ref (gR g 38)] I) (xQN g (51) (i_X4_init I)) 12 906 (gA g) := by
  refine n_met (by decide) hg (Nat.le_of_ble_eq_true rfl) (fun p e s m args below meth c X hAO hin hr hlk Y ls hl => ?_)
  have hx := X.hx
  have hb := X.hb
  have hl : lv_has ls 2 [(0, .ref (gR g 38))] := hl
  refine lv_aload_n hx hb dX4_init_0 rfl (lv_at hl 0 rfl) ?_
  refine W.objInit hx hb X.1.2.2.2.1 (X.w wm_X4_3) (X.w wi_jobj) (X.w wc_jobj) rfl (by rw [X.1.2.2.1]; exact hl.1) rfl dX4_init_1 (Nat.le_of_ble_eq_true rfl) (Nat.le_of_ble_eq_true rfl) ?_
  refine W.eq (g2 := F0 m 4 ls []) rfl ?_
  refine lv_aload_n hx hb dX4_init_4 rfl (lv_at hl 0 rfl) ?_
  refine lv_iconst (v := 2) hx hb dX4_init_5 (by decide) ?_
  refine n_newq (N := 2) X hAO hC Y rfl (by decide) rfl (by decide) (by decide) (by decide) wl_X4_9 (Nat.le_of_ble_eq_true rfl) (Nat.le_of_ble_eq_true rfl) dX4_init_6 (fun H Y => ?_)
  refine n_putF (off := 1) X Y hin cl_4 rfl (by omega) 0 (by decide) rfl rfl wf_X4_11 rfl rfl (fun _ => rfl) (fun _ => rfl) dX4_init_9 (fun H locs Y => ?_)
  refine lv_aload_n hx hb dX4_init_12 rfl (lv_at hl 0 rfl) ?_
  refine lv_iconst (v := 2) hx hb dX4_init_13 (by decide) ?_
  refine n_newz (N := 2) X hC Y rfl (by decide) rfl (by decide) (by decide) (by decide) wa_boolean (Nat.le_of_ble_eq_true rfl) (Nat.le_of_ble_eq_true rfl) dX4_init_14 (fun H Y => ?_)
  refine n_putF (off := 2) X Y hin cl_4 rfl (by omega) 1 (by decide) rfl rfl wf_X4_17 rfl rfl (fun _ => rfl) (fun _ => rfl) dX4_init_16 (fun H locs Y => ?_)
  refine lv_iconst (v := 0) hx hb dX4_init_19 (by decide) ?_
  refine lv_istore_n (lv' := [(1, .int 0), (0, _)]) hx hb dX4_init_20 rfl hl (by decide) rfl (fun ls hl => ?_)
  refine lv_iload_n hx hb dX4_init_21 rfl (lv_at hl 0 rfl) ?_
  refine lv_aload_n hx hb dX4_init_22 rfl (lv_at hl 1 rfl) ?_
  refine n_get (off := 1) X Y cl_4 rfl (by omega) 0 (by decide) rfl rfl (by simp [upI, upR, upd, i_X3_lo, i_X1_lo]) wf_X4_11 dX4_init_23 ?_
  refine n_lenO (a := 39) (v := 2) X Y rfl (by decide) (by decide) dX4_init_26 ?_
  refine lv_icmp_ge (tgt := 49) hx hb dX4_init_27 (by decide) (fun c => absurd c (by decide)) (fun c => ?_)
  refine lv_aload_n hx hb dX4_init_30 rfl (lv_at hl 1 rfl) ?_
  refine n_get (off := 1) X Y cl_4 rfl (by omega) 0 (by decide) rfl rfl (by simp [upI, upR, upd, i_X3_lo, i_X1_lo]) wf_X4_11 dX4_init_31 ?_
  refine lv_iload_n hx hb dX4_init_34 rfl (lv_at hl 0 rfl) ?_
  refine n_new (ty := tyX1) X hC Y cl_1 rfl (by decide) (fun j hj => by rcases (show j = 0 ∨ j = 1 ∨ j = 2 ∨ j = 3 ∨ j = 4 ∨ j = 5 ∨ j = 6 ∨ j = 7 ∨ j = 8 ∨ j = 9 ∨ j = 10 ∨ j = 11 ∨ j = 12 ∨ j = 13 ∨ j = 14 by omega) with rfl | rfl | rfl | rfl | rfl | rfl | rfl | rfl | rfl | rfl | rfl | rfl | rfl | rfl | rfl <;> (simp [fln, nF, rfO, flg, vp_V, upR, defaultValue, tyX1])) wl_X4_9 wo_X1 wz_X1 (Nat.le_of_ble_eq_true rfl) (Nat.le_of_ble_eq_true rfl) dX4_init_35 (fun H Y => ?_)
  refine lv_dup hx hb dX4_init_38 rfl ?_
  refine n_sized hC X.2.2.2.2.1 Y fun hsz => ?_
  refine n_c Y (n1 := 46) rfl (n_rI (rest := [_, _, _]) X hAO Y hsz k_X4_21 (c_X1_init X.hg hC ⟨rfl, by decide⟩) rfl ⟨rfl, rfl⟩ ⟨by decide, by decide⟩ hl.1 rfl (Nat.le_of_ble_eq_true rfl) dX4_init_39 ⟨Nat.le_of_ble_eq_true rfl, Nat.le_of_ble_eq_true rfl⟩) (fun H locs Y => ?_)
  refine n_aast (a := 39) (b := 41) (k := 0) X Y rfl (by decide) (by decide) rfl (by decide) rfl (vin (by decide)) dX4_init_42 (fun H locs Y => ?_)
  refine lv_iinc (v := 1) (lv' := [(1, .int 1), (0, _)]) hx hb dX4_init_43 hl (k := 0) rfl (by decide) (by decide) rfl (fun ls hl => ?_)
  refine lv_goto (tgt := 21) hx hb dX4_init_46 (by decide) ?_
  refine lv_iload_n hx hb dX4_init_21 rfl (lv_at hl 0 rfl) ?_
  refine lv_aload_n hx hb dX4_init_22 rfl (lv_at hl 1 rfl) ?_
  refine n_get (off := 1) X Y cl_4 rfl (by omega) 0 (by decide) rfl rfl (by simp [upI, upR, upd, i_X3_lo, i_X1_lo]) wf_X4_11 dX4_init_23 ?_
  refine n_lenO (a := 39) (v := 2) X Y rfl (by decide) (by decide) dX4_init_26 ?_
  refine lv_icmp_ge (tgt := 49) hx hb dX4_init_27 (by decide) (fun c => absurd c (by decide)) (fun c => ?_)
  refine lv_aload_n hx hb dX4_init_30 rfl (lv_at hl 1 rfl) ?_
  refine n_get (off := 1) X Y cl_4 rfl (by omega) 0 (by decide) rfl rfl (by simp [upI, upR, upd, i_X3_lo, i_X1_lo]) wf_X4_11 dX4_init_31 ?_
  refine lv_iload_n hx hb dX4_init_34 rfl (lv_at hl 0 rfl) ?_
  refine n_new (ty := tyX1) X hC Y cl_1 rfl (by decide) (fun j hj => by rcases (show j = 0 ∨ j = 1 ∨ j = 2 ∨ j = 3 ∨ j = 4 ∨ j = 5 ∨ j = 6 ∨ j = 7 ∨ j = 8 ∨ j = 9 ∨ j = 10 ∨ j = 11 ∨ j = 12 ∨ j = 13 ∨ j = 14 by omega) with rfl | rfl | rfl | rfl | rfl | rfl | rfl | rfl | rfl | rfl | rfl | rfl | rfl | rfl | rfl <;> (simp [fln, nF, rfO, flg, vp_V, upR, defaultValue, tyX1])) wl_X4_9 wo_X1 wz_X1 (Nat.le_of_ble_eq_true rfl) (Nat.le_of_ble_eq_true rfl) dX4_init_35 (fun H Y => ?_)
  refine lv_dup hx hb dX4_init_38 rfl ?_
  refine n_sized hC X.2.2.2.2.1 Y fun hsz => ?_
  refine n_c Y (n1 := 51) rfl (n_rI (rest := [_, _, _]) X hAO Y hsz k_X4_21 (c_X1_init X.hg hC ⟨rfl, by decide⟩) rfl ⟨rfl, rfl⟩ ⟨by decide, by decide⟩ hl.1 rfl (Nat.le_of_ble_eq_true rfl) dX4_init_39 ⟨Nat.le_of_ble_eq_true rfl, Nat.le_of_ble_eq_true rfl⟩) (fun H locs Y => ?_)
  refine n_aast (a := 39) (b := 46) (k := 1) X Y rfl (by decide) (by decide) rfl (by decide) rfl (vin (by decide)) dX4_init_42 (fun H locs Y => ?_)
  refine lv_iinc (v := 2) (lv' := [(1, .int 2), (0, _)]) hx hb dX4_init_43 hl (k := 0) rfl (by decide) (by decide) rfl (fun ls hl => ?_)
  refine lv_goto (tgt := 21) hx hb dX4_init_46 (by decide) ?_
  refine lv_iload_n hx hb dX4_init_21 rfl (lv_at hl 0 rfl) ?_
  refine lv_aload_n hx hb dX4_init_22 rfl (lv_at hl 1 rfl) ?_
  refine n_get (off := 1) X Y cl_4 rfl (by omega) 0 (by decide) rfl rfl (by simp [upI, upR, upd, i_X3_lo, i_X1_lo]) wf_X4_11 dX4_init_23 ?_
  refine n_lenO (a := 39) (v := 2) X Y rfl (by decide) (by decide) dX4_init_26 ?_
  refine lv_icmp_ge (tgt := 49) hx hb dX4_init_27 (by decide) (fun c => ?_) (fun c => absurd (by decide) c)
  exact n_vret X hC Y hr hlk dX4_init_49
def i_X2_init (I : HI) : HI :=
  let I1 := upR I 52 (fun _ => 0)
  let I2 := upI I1 51 0 1
  let I3 := upI I2 51 1 (0 : Int32)
  let I4 := upR I3 53 (fun _ => 0)
  let I5 := upI I4 51 2 1
  let I6 := upR I5 54 (fun _ => 0)
  let I7 := upI I6 51 3 1
  let I8 := upR I7 55 (fun _ => 0)
  let I9 := upI I8 51 4 1
  let I10 := upR I9 56 (fun _ => 0)
  let I11 := upI I10 51 5 1
  let I12 := upI I11 51 6 (0 : Int32)
  let I13 := upI I12 51 7 (0 : Int32)
  let I14 := upI I13 51 8 (0 : Int32)
  I14
abbrev rm_X2_init : Room := { frames := 1, cells := 5, slots := 400, locals := 20 }
set_option maxHeartbeats 8000000 in
set_option maxRecDepth 100000 in
theorem c_X2_init {l : Launch} {g : GX} (hg : gOk g) (hC : gC g) {I : HI} : Met l yX2_init (Cond.code yX2_init cX2_init 1 none :: WL) rm_X2_init (xPN g (52) [.ref (gR g 51)] I) (xQN g (57) (i_X2_init I)) 5 400 (gA g) := by
  refine n_met (by decide) hg (Nat.le_of_ble_eq_true rfl) (fun p e s m args below meth c X hAO hin hr hlk Y ls hl => ?_)
  have hx := X.hx
  have hb := X.hb
  have hl : lv_has ls 1 [(0, .ref (gR g 51))] := hl
  refine lv_aload_n hx hb dX2_init_0 rfl (lv_at hl 0 rfl) ?_
  refine W.objInit hx hb X.1.2.2.2.1 (X.w wm_X2_3) (X.w wi_jobj) (X.w wc_jobj) rfl (by rw [X.1.2.2.1]; exact hl.1) rfl dX2_init_1 (Nat.le_of_ble_eq_true rfl) (Nat.le_of_ble_eq_true rfl) ?_
  refine W.eq (g2 := F0 m 4 ls []) rfl ?_
  refine lv_aload_n hx hb dX2_init_4 rfl (lv_at hl 0 rfl) ?_
  refine lv_bipush (v := 80) hx hb dX2_init_5 (by decide) ?_
  refine n_newi (N := 80) X hC Y rfl (by decide) rfl (by decide) (by decide) (by decide) wa_int (Nat.le_of_ble_eq_true rfl) (Nat.le_of_ble_eq_true rfl) dX2_init_7 (fun H Y => ?_)
  refine n_putF (off := 1) X Y hin cl_2 rfl (by omega) 0 (by decide) rfl rfl wf_X2_9 rfl rfl (fun _ => rfl) (fun _ => rfl) dX2_init_9 (fun H locs Y => ?_)
  refine lv_aload_n hx hb dX2_init_12 rfl (lv_at hl 0 rfl) ?_
  refine lv_iconst (v := 0) hx hb dX2_init_13 (by decide) ?_
  refine n_put X Y cl_2 rfl (by omega) 1 (by decide) rfl rfl wf_X2_15 rfl rfl rfl dX2_init_14 (fun H locs Y => ?_)
  refine lv_aload_n hx hb dX2_init_17 rfl (lv_at hl 0 rfl) ?_
  refine lv_bipush (v := 80) hx hb dX2_init_18 (by decide) ?_
  refine n_newi (N := 80) X hC Y rfl (by decide) rfl (by decide) (by decide) (by decide) wa_int (Nat.le_of_ble_eq_true rfl) (Nat.le_of_ble_eq_true rfl) dX2_init_20 (fun H Y => ?_)
  refine n_putF (off := 2) X Y hin cl_2 rfl (by omega) 2 (by decide) rfl rfl wf_X2_19 rfl rfl (fun _ => rfl) (fun _ => rfl) dX2_init_22 (fun H locs Y => ?_)
  refine lv_aload_n hx hb dX2_init_25 rfl (lv_at hl 0 rfl) ?_
  refine lv_bipush (v := 80) hx hb dX2_init_26 (by decide) ?_
  refine n_newi (N := 80) X hC Y rfl (by decide) rfl (by decide) (by decide) (by decide) wa_int (Nat.le_of_ble_eq_true rfl) (Nat.le_of_ble_eq_true rfl) dX2_init_28 (fun H Y => ?_)
  refine n_putF (off := 3) X Y hin cl_2 rfl (by omega) 3 (by decide) rfl rfl wf_X2_22 rfl rfl (fun _ => rfl) (fun _ => rfl) dX2_init_30 (fun H locs Y => ?_)
  refine lv_aload_n hx hb dX2_init_33 rfl (lv_at hl 0 rfl) ?_
  refine lv_bipush (v := 80) hx hb dX2_init_34 (by decide) ?_
  refine n_newi (N := 80) X hC Y rfl (by decide) rfl (by decide) (by decide) (by decide) wa_int (Nat.le_of_ble_eq_true rfl) (Nat.le_of_ble_eq_true rfl) dX2_init_36 (fun H Y => ?_)
  refine n_putF (off := 4) X Y hin cl_2 rfl (by omega) 4 (by decide) rfl rfl wf_X2_25 rfl rfl (fun _ => rfl) (fun _ => rfl) dX2_init_38 (fun H locs Y => ?_)
  refine lv_aload_n hx hb dX2_init_41 rfl (lv_at hl 0 rfl) ?_
  refine lv_bipush (v := 80) hx hb dX2_init_42 (by decide) ?_
  refine n_newi (N := 80) X hC Y rfl (by decide) rfl (by decide) (by decide) (by decide) wa_int (Nat.le_of_ble_eq_true rfl) (Nat.le_of_ble_eq_true rfl) dX2_init_44 (fun H Y => ?_)
  refine n_putF (off := 5) X Y hin cl_2 rfl (by omega) 5 (by decide) rfl rfl wf_X2_28 rfl rfl (fun _ => rfl) (fun _ => rfl) dX2_init_46 (fun H locs Y => ?_)
  refine lv_aload_n hx hb dX2_init_49 rfl (lv_at hl 0 rfl) ?_
  refine lv_iconst (v := 0) hx hb dX2_init_50 (by decide) ?_
  refine n_put X Y cl_2 rfl (by omega) 6 (by decide) rfl rfl wf_X2_31 rfl rfl rfl dX2_init_51 (fun H locs Y => ?_)
  refine lv_aload_n hx hb dX2_init_54 rfl (lv_at hl 0 rfl) ?_
  refine lv_iconst (v := 0) hx hb dX2_init_55 (by decide) ?_
  refine n_put X Y cl_2 rfl (by omega) 7 (by decide) rfl rfl wf_X2_34 rfl rfl rfl dX2_init_56 (fun H locs Y => ?_)
  refine lv_aload_n hx hb dX2_init_59 rfl (lv_at hl 0 rfl) ?_
  refine lv_iconst (v := 0) hx hb dX2_init_60 (by decide) ?_
  refine n_put X Y cl_2 rfl (by omega) 8 (by decide) rfl rfl wf_X2_37 rfl rfl rfl dX2_init_61 (fun H locs Y => ?_)
  exact n_vret X hC Y hr hlk dX2_init_64
def i_X5_init (I : HI) : HI :=
  let I1 := upR I 1 (fun _ => 0)
  let I2 := i_X1_init 1 I1
  let I3 := upI I2 0 0 1
  let I4 := upR I3 6 (fun _ => 0)
  let I5 := i_X0_init I4
  let I6 := upI I5 0 1 1
  let I7 := upR I6 38 (fun _ => 0)
  let I8 := i_X4_init I7
  let I9 := upI I8 0 2 1
  let I10 := upR I9 51 (fun _ => 0)
  let I11 := i_X2_init I10
  let I12 := upI I11 0 3 1
  I12
abbrev rm_X5_init : Room := { frames := 4, cells := 56, slots := 4483, locals := 102 }
set_option maxHeartbeats 8000000 in
set_option maxRecDepth 100000 in
theorem c_X5_init {l : Launch} {g : GX} (hg : gOk g) (hC : gC g) {I : HI} : Met l yX5_init (Cond.code yX5_init cX5_init 1 none :: WL) rm_X5_init (xPN g (1) [.ref (gR g 0)] I) (xQN g (57) (i_X5_init I)) 56 4483 (gA g) := by
  refine n_met (by decide) hg (Nat.le_of_ble_eq_true rfl) (fun p e s m args below meth c X hAO hin hr hlk Y ls hl => ?_)
  have hx := X.hx
  have hb := X.hb
  have hl : lv_has ls 1 [(0, .ref (gR g 0))] := hl
  refine lv_aload_n hx hb dX5_init_0 rfl (lv_at hl 0 rfl) ?_
  refine W.objInit hx hb X.1.2.2.2.1 (X.w wm_X5_1) (X.w wi_jobj) (X.w wc_jobj) rfl (by rw [X.1.2.2.1]; exact hl.1) rfl dX5_init_1 (Nat.le_of_ble_eq_true rfl) (Nat.le_of_ble_eq_true rfl) ?_
  refine W.eq (g2 := F0 m 4 ls []) rfl ?_
  refine lv_aload_n hx hb dX5_init_4 rfl (lv_at hl 0 rfl) ?_
  refine n_new (ty := tyX1) X hC Y cl_1 rfl (by decide) (fun j hj => by rcases (show j = 0 ∨ j = 1 ∨ j = 2 ∨ j = 3 ∨ j = 4 ∨ j = 5 ∨ j = 6 ∨ j = 7 ∨ j = 8 ∨ j = 9 ∨ j = 10 ∨ j = 11 ∨ j = 12 ∨ j = 13 ∨ j = 14 by omega) with rfl | rfl | rfl | rfl | rfl | rfl | rfl | rfl | rfl | rfl | rfl | rfl | rfl | rfl | rfl <;> (simp [fln, nF, rfO, flg, vp_V, upR, defaultValue, tyX1])) wl_X5_7 wo_X1 wz_X1 (Nat.le_of_ble_eq_true rfl) (Nat.le_of_ble_eq_true rfl) dX5_init_5 (fun H Y => ?_)
  refine lv_dup hx hb dX5_init_8 rfl ?_
  refine n_sized hC X.2.2.2.2.1 Y fun hsz => ?_
  refine n_c Y (n1 := 6) rfl (n_rI (rest := [_, _]) X hAO Y hsz k_X5_9 (c_X1_init X.hg hC ⟨rfl, by decide⟩) rfl ⟨rfl, rfl⟩ ⟨by decide, by decide⟩ hl.1 rfl (Nat.le_of_ble_eq_true rfl) dX5_init_9 ⟨Nat.le_of_ble_eq_true rfl, Nat.le_of_ble_eq_true rfl⟩) (fun H locs Y => ?_)
  refine n_putF (off := 1) X Y hin cl_5 rfl (by omega) 0 (by decide) rfl rfl wf_X5_10 rfl rfl (fun _ => rfl) (fun _ => rfl) dX5_init_12 (fun H locs Y => ?_)
  refine lv_aload_n hx hb dX5_init_15 rfl (lv_at hl 0 rfl) ?_
  refine n_new (ty := tyX0) X hC Y cl_0 rfl (by decide) (fun j hj => by rcases (show j = 0 ∨ j = 1 ∨ j = 2 by omega) with rfl | rfl | rfl <;> (simp [fln, nF, rfO, flg, vp_V, upR, defaultValue, tyX0])) wl_X5_16 wo_X0 wz_X0 (Nat.le_of_ble_eq_true rfl) (Nat.le_of_ble_eq_true rfl) dX5_init_16 (fun H Y => ?_)
  refine lv_dup hx hb dX5_init_19 rfl ?_
  refine n_sized hC X.2.2.2.2.1 Y fun hsz => ?_
  refine n_c Y (n1 := 38) rfl (n_rI (rest := [_, _]) X hAO Y hsz k_X5_18 (c_X0_init X.hg hC) rfl ⟨rfl, rfl⟩ ⟨by decide, by decide⟩ hl.1 rfl (Nat.le_of_ble_eq_true rfl) dX5_init_20 ⟨Nat.le_of_ble_eq_true rfl, Nat.le_of_ble_eq_true rfl⟩) (fun H locs Y => ?_)
  refine n_putF (off := 6) X Y hin cl_5 rfl (by omega) 1 (by decide) rfl rfl wf_X5_19 rfl rfl (fun _ => rfl) (fun _ => rfl) dX5_init_23 (fun H locs Y => ?_)
  refine lv_aload_n hx hb dX5_init_26 rfl (lv_at hl 0 rfl) ?_
  refine n_new (ty := tyX4) X hC Y cl_4 rfl (by decide) (fun j hj => by rcases (show j = 0 ∨ j = 1 by omega) with rfl | rfl <;> (simp [fln, nF, rfO, flg, vp_V, upR, defaultValue, tyX4])) wl_X5_23 wo_X4 wz_X4 (Nat.le_of_ble_eq_true rfl) (Nat.le_of_ble_eq_true rfl) dX5_init_27 (fun H Y => ?_)
  refine lv_dup hx hb dX5_init_30 rfl ?_
  refine n_sized hC X.2.2.2.2.1 Y fun hsz => ?_
  refine n_c Y (n1 := 51) rfl (n_rI (rest := [_, _]) X hAO Y hsz k_X5_25 (c_X4_init X.hg hC) rfl ⟨rfl, rfl⟩ ⟨by decide, by decide⟩ hl.1 rfl (Nat.le_of_ble_eq_true rfl) dX5_init_31 ⟨Nat.le_of_ble_eq_true rfl, Nat.le_of_ble_eq_true rfl⟩) (fun H locs Y => ?_)
  refine n_putF (off := 38) X Y hin cl_5 rfl (by omega) 2 (by decide) rfl rfl wf_X5_26 rfl rfl (fun _ => rfl) (fun _ => rfl) dX5_init_34 (fun H locs Y => ?_)
  refine lv_aload_n hx hb dX5_init_37 rfl (lv_at hl 0 rfl) ?_
  refine n_new (ty := tyX2) X hC Y cl_2 rfl (by decide) (fun j hj => by rcases (show j = 0 ∨ j = 1 ∨ j = 2 ∨ j = 3 ∨ j = 4 ∨ j = 5 ∨ j = 6 ∨ j = 7 ∨ j = 8 by omega) with rfl | rfl | rfl | rfl | rfl | rfl | rfl | rfl | rfl <;> (simp [fln, nF, rfO, flg, vp_V, upR, defaultValue, tyX2])) wl_X5_30 wo_X2 wz_X2 (Nat.le_of_ble_eq_true rfl) (Nat.le_of_ble_eq_true rfl) dX5_init_38 (fun H Y => ?_)
  refine lv_dup hx hb dX5_init_41 rfl ?_
  refine n_sized hC X.2.2.2.2.1 Y fun hsz => ?_
  refine n_c Y (n1 := 57) rfl (n_rIN (rest := [_, _]) X hAO Y hsz k_X5_32 (c_X2_init X.hg hC) rfl ⟨rfl, rfl⟩ ⟨by decide, by decide⟩ hl.1 rfl (Nat.le_of_ble_eq_true rfl) dX5_init_42 ⟨Nat.le_of_ble_eq_true rfl, Nat.le_of_ble_eq_true rfl⟩) (fun H locs Y => ?_)
  refine n_putF (off := 51) X Y hin cl_5 rfl (by omega) 3 (by decide) rfl rfl wf_X5_33 rfl rfl (fun _ => rfl) (fun _ => rfl) dX5_init_45 (fun H locs Y => ?_)
  exact n_vret X hC Y hr hlk dX5_init_48
