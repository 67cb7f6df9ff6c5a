/-! ===== the law's script beside the two objects ===== -/
def twS (g : GX) (b L : Nat) (xs : Nat → Int32) (I : HJ) (U : State) : Prop := twW g I U ∧ va_X b L xs U U.heap ∧ b < gS g
theorem twS_blind {g : GX} {b L : Nat} {xs : Nat → Int32} {av : List Value} {I : HJ} : FrameBlind (va_Pc av (twS g b L xs I)) := fun a U f mk q => by
  obtain ⟨q0, ⟨q1, q2, q3, q4, q5, q6, q7, q8⟩, q9, q10⟩ := q
  exact ⟨q0, ⟨q1, q2, q3.moved (Vm.Alike.refl U.vm), xN_same q4 rfl, q5.moved (Vm.Alike.refl U.vm), q6, q7, q8⟩, va_X.moved (Vm.Alike.refl U.vm) q9, q10⟩
section TS
variable {g : GX} {I : HJ} {p : Program} {l : Launch} {e : Env} {R : Room} {s : State} {m : MethodId} {args : Array Value} {below : List Frame} {meth : Method} {c : Code} {H : Heap} {locs : List Loc} {cells slots : Nat} {Q : State → Prop}
variable {cc : ByteArray} {nL : Nat} {own : String} {pc : Nat} {ls : Array Slot} {rest st : List Value} {b L : Nat} {xs : Nat → Int32}
theorem tw_metS {y : MethodName} {maxL : Nat} {ret : Option FieldType} {rm : Room} {av : List Value} {Qc : Array Value → State → Outcome → State → Prop} (hy : plainName y.cls = true) (hg : gOk g) (hh : gOk (gH g)) (hlen : (lg_sl av).length ≤ maxL)
    (body : ∀ (p : Program) (e : Env) (s : State) (m : MethodId) (args : Array Value) (below : List Frame) (meth : Method) (c : Code), twC g p s m args c cc maxL y.cls → meth.sig.returnType = ret → meth.locks = false → twD g I s s.heap [] → va_X b L xs s s.heap → b < gS g → ∀ ls : Array Slot, lv_has ls maxL (lv_args 0 av) → W p l e rm s m args below meth c s.heap [] 0 0 (MQ below Qc args s 0 0 (gB g)) (F0 m 0 ls [])) :
    Met l y (Cond.code y cc maxL ret :: WL) rm (va_Pc av (twS g b L xs I)) Qc 0 0 (gB g) := by
  refine Met.ofW (cc := cc) (maxL := maxL) (ret := ret) hy rfl ?_
  intro p e s m args below meth c s₁ B hml hv
  obtain ⟨rfl, ⟨hP, hP2, hK, hN, hT, hC, hC2, hz⟩, hX, hbS⟩ := hv
  have hts := atoms_spec (ws := Cond.code y cc maxL ret :: WL) B.pre
  rw [lg_entry_eq]
  exact body p e s m _ below meth c ⟨⟨B.exec, B.bytes, hml, findClass_of_methodNamed B.named, fun w h => hts w (List.mem_cons_of_mem _ h)⟩, hK, hN, hT, hg, hh⟩ B.returns B.notSynchronized ⟨hP, hP2, va_S.rf, hC, hC2, hz⟩ hX hbS _ (lv_entry av hlen)
theorem tw_noB (h : b < gS g) : ¬ gB g b := fun z => by
  have := z.1
  omega
variable {y : MethodName} {bytes : ByteArray} {maxL n idx : Nat} {ret : Option FieldType} {rm : Room} {As : List Value}
theorem tw_rC {Qc : Array Value → State → Outcome → State → Prop} (X : twC g p s m args c cc nL own) (Y : twD g I s H locs) (k : xLS own idx y bytes maxL ret n) (hM : Met l y (Cond.code y bytes maxL ret :: WL) rm (va_Pc As (twS g b L xs I)) Qc 0 0 (gB g)) (hX : va_X b L xs s s.heap) (hbs : b < s.heap.size) (hgS : gS g = s.heap.size) (hn : As.length = n) (hrm : rm.cells = 0 ∧ rm.slots = 0) (hR : rm.frames + 1 ≤ R.frames ∧ 8 + (maxL + 11) + rm.locals ≤ R.locals) (hl : ls.size = nL) (hst : st = As.reverse ++ rest) (hW : (rest.map fun v => v.category).sum ≤ 8) (hdg : decode cc pc = .ok (.invokestatic idx, 3)) (hcs : cells + 0 ≤ R.cells ∧ slots + 0 ≤ R.slots) :
    va_Run p l e R s m args below meth c H locs cells slots 0 0 (F0 m pc ls st) rest (Qc As.toArray) (gB g) :=
  va_runS (As := As) (rest := rest) X.1 hM (va_cwS n X.1.2.2.2.2 k.1 rfl hrm.1 hrm.2 k.2 hR) ⟨twS_blind, fun U hU hW => ⟨rfl, (twD.pre X Y (av := As) U hU hW).2, by
    rw [hU]
    refine va_X.moved hW.alike ?_
    obtain ⟨scr, h1, h2⟩ := hX
    exact ⟨scr, by rw [Y.2.2.1.2.1 b hbs (tw_noB (by rw [hgS]; exact hbs))]; exact h1, h2⟩, by rw [hgS]; exact hbs⟩⟩ rfl hn hl hst (lv_room hW) hdg hcs
theorem tw_cC {av : Array Value} {v : Int32} (Y : twD g I s H locs) (hr : va_Run p l e R s m args below meth c H locs cells slots 0 0 (F0 m pc ls st) rest (twQ g v I av) (gB g)) (kk : ∀ (H1 : Heap) (locs1 : List Loc), twD g I s H1 locs1 → W p l e R s m args below meth c H1 locs1 cells slots Q (F0 m (pc + 3) ls (.int v :: rest))) : W p l e R s m args below meth c H locs cells slots Q (F0 m pc ls st) :=
  tw_cS (q := (v, I)) Y hr kk
end TS
def f_L_cell (L : Nat) (xs : Nat → Int32) (v1 : Int32) : Option Int32 :=
  if (Int32.ofNat L) ≤ v1 then some ((1991373733 : Int32) * (v1 + (971 : Int32))) else
  if v1 < 0 ∨ L ≤ v1.toNatClampNeg then none else
  some (xs v1.toNatClampNeg)
abbrev rm_L_cell : Room := { frames := 0, cells := 0, slots := 0, locals := 0 }
theorem c_L_cell {l : Launch} {g : GX} (hg : gOk g) (hh : gOk (gH g)) {b L : Nat} {xs : Nat → Int32} {v1 v : Int32} {I : HJ} (hf : f_L_cell L xs v1 = some v) : Met l yL_cell (Cond.code yL_cell cL_cell 2 (some .int) :: WL) rm_L_cell (va_Pc [.ref b, .int v1] (twS g b L xs I)) (twQ g v I) 0 0 (gB g) := by
  refine tw_metS (by decide) hg hh (Nat.le_of_ble_eq_true rfl) (fun p e s m args below meth c X hr hlk Y hX hbS ls hl => ?_)
  have hx := X.hx
  have hb := X.hb
  have hbB := tw_noB hbS
  have hbs : b < s.heap.size := by
    have := Y.2.2.2.2.2
    omega
  have hl : lv_has ls 2 [(0, .ref b), (1, .int v1)] := hl
  unfold f_L_cell at hf
  have hf2 : ∀ w : Int32, some w = some v → some (w, I) = some (v, I) := fun w h => by cases h; rfl
  refine lv_iload_n hx hb dL_cell_0 rfl (lv_at hl 1 rfl) ?_
  refine lv_aload_n hx hb dL_cell_1 rfl (lv_at hl 0 rfl) ?_
  refine va_slen hx hb hX hbs hbB Y.2.2.1 dL_cell_2 ?_
  refine lv_icmp_ge (tgt := 12) hx hb dL_cell_3 (by decide) (fun c => ?_) (fun c => ?_)
  · have hf := ite_t c hf
    refine lv_ldc (v := 1991373733) hx hb X.1.2.2.2.1 (X.w wk_L_7) dL_cell_12 ?_
    refine lv_iload_n hx hb dL_cell_14 rfl (lv_at hl 1 rfl) ?_
    refine lv_sipush (v := 971) hx hb dL_cell_15 (by decide) ?_
    refine lv_iadd hx hb dL_cell_18 ?_
    refine lv_imul hx hb dL_cell_19 ?_
    exact tw_iret X Y hr hlk (hf2 _ hf) dL_cell_20
  · have hf := ite_f c hf
    obtain ⟨hin, hf⟩ := oob_t hf
    refine lv_aload_n hx hb dL_cell_6 rfl (lv_at hl 0 rfl) ?_
    refine lv_iload_n hx hb dL_cell_7 rfl (lv_at hl 1 rfl) ?_
    refine va_sld hx hb hX hbs hbB Y.2.2.1 hin dL_cell_8 ?_
    refine lv_goto (tgt := 20) hx hb dL_cell_9 (by decide) ?_
    exact tw_iret X Y hr hlk (hf2 _ hf) dL_cell_20
theorem tw_end {p : Program} {l : Launch} {e : Env} {s : State} {m : MethodId} {below : List Frame} {meth : Method} {c : Code} {b : Nat} {g : GX} {I : HJ} (hx : p.tables.exec = Jvm.exec) (hb : c.code = code) (hr : meth.sig.returnType = ret) (hlk : meth.locks = false) (hgS : gS g = s.heap.size) {pc : Nat} {H : Heap} {locs : List Loc} {ls : Array Slot} (Y : twD g I s H locs) (hdg : decode code pc = .ok (.ireturn, 1)) : W p l e room_1 s m #[Value.ref b] below meth c H locs 600000 7302250 (lw_Z below #[Value.ref b] s) (F0 m pc ls [.int 1]) := by
  refine va_forget (fun q hq => ?_) ?_
  · have h1 : gS g ≤ q.base := (Y.2.2.1.2.2 q hq).1
    rw [← hgS]; exact h1
  · exact lw_ret hx hb hr hlk hdg
