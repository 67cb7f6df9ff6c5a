def f_L_up (v0 : Int32) (v1 : Int32) (I : HJ) : Option (Int32 × HJ) :=
  if v1 = 0 then none else
  some ((v0 &&& (2147483647 : Int32)) - (v0 &&& (2147483647 : Int32)) / v1 * v1, I)
abbrev rm_L_up : Room := { frames := 0, cells := 0, slots := 0, locals := 0 }
set_option maxHeartbeats 8000000 in
set_option maxRecDepth 100000 in
theorem c_L_up {l : Launch} {g : GX} (hg : gOk g) (hh : gOk (gH g)) {v0 : Int32} {v1 : Int32} {I : HJ} {r : Int32 × HJ} (hf : f_L_up v0 v1 I = some r) : Met l yL_up (Cond.code yL_up cL_up 2 (some .int) :: WL) rm_L_up (twP g [.int v0, .int v1] I) (twQ g r.1 r.2) 0 0 (gB g) := by
  refine tw_met (by decide) hg hh (Nat.le_of_ble_eq_true rfl) (fun p e s m args below meth c X hr hlk Y ls hl => ?_)
  have hx := X.hx
  have hb := X.hb
  have hl : lv_has ls 2 [(0, .int v0), (1, .int v1)] := hl
  unfold f_L_up at hf
  refine lv_iload_n hx hb dL_up_0 rfl (lv_at hl 0 rfl) ?_
  refine lv_ldc (v := 2147483647) hx hb X.1.2.2.2.1 (X.w wk_L_8) dL_up_1 ?_
  refine lv_iand hx hb dL_up_3 ?_
  refine lv_iload_n hx hb dL_up_4 rfl (lv_at hl 1 rfl) ?_
  obtain ⟨hne, hf⟩ := oob_t hf
  refine lv_irem hx hb dL_up_5 hne ?_
  exact tw_iret X Y hr hlk hf dL_up_6
