/-! ===== two objects: the second one's cells stand behind the first one's ===== -/
abbrev HJ : Type := HI × HI
def gH (g : GX) : GX := (g.1, g.2.1, g.2.2.1, g.2.2.2.1, g.2.2.2.2.1, fun a => if a < 57 then gS g + 57 + a else gR g a, gS g + 57)
def gB (g : GX) : Nat → Prop := fun q => gS g ≤ q ∧ q < gS g + 114
theorem gA_B {g : GX} : ∀ q : Nat, gA g q → gB g q := fun q h => ⟨h.1, by
  have h2 : q < gS g + 57 := h.2
  omega⟩
theorem gH_B {g : GX} : ∀ q : Nat, gA (gH g) q → gB g q := fun q h => by
  have h1 : gS g + 57 ≤ q := h.1
  have h2 : q < gS g + 57 + 57 := h.2
  exact ⟨by omega, by omega⟩
theorem gA_H {g : GX} {q : Nat} (h : gA g q) (h2 : gA (gH g) q) : False := by
  have h1 : q < gS g + 57 := h.2
  have h3 : gS g + 57 ≤ q := h2.1
  omega
theorem gH_s {g : GX} {a : Nat} (h : 57 ≤ a) : gR (gH g) a = gR g a := if_neg (by omega)
theorem gH_c {g : GX} {a : Nat} (h : a < 57) : gR (gH g) a = gS g + 57 + a := if_pos h
def twT (g : GX) (U : State) (H : Heap) : Prop := (va_Z RX5 "FIRST_OF_SETTING" "[I" (.ref (gR g 64)) (gB g) U H ∧ va_Z RX5 "LEAST_OF_SETTING" "[I" (.ref (gR g 65)) (gB g) U H ∧ va_Z RX5 "GREATEST_OF_SETTING" "[I" (.ref (gR g 66)) (gB g) U H) ∧ ∀ a : Nat, 64 ≤ a → a < 67 → va_T .int (gR g a) 10 (fun j => .int (cS a j)) (gB g) U H
theorem twT.moved {g : GX} {u U : State} {H : Heap} (h : twT g u H) (hvm : u.vm.Alike U.vm) : twT g U H := ⟨⟨va_Z.moved hvm h.1.1, va_Z.moved hvm h.1.2.1, va_Z.moved hvm h.1.2.2⟩, fun a h1 h2 => va_T.moved hvm (h.2 a h1 h2)⟩
theorem twT.kept {g : GX} {U : State} {H H1 : Heap} (h : twT g U H) (hq : ∀ a : Nat, a < H.size → ¬ gB g a → H1[a]? = H[a]?) : twT g U H1 := ⟨⟨h.1.1.kept hq, h.1.2.1.kept hq, h.1.2.2.kept hq⟩, fun a h1 h2 => (h.2 a h1 h2).kept hq⟩
theorem tw_nar {ty : FieldType} {t N : Nat} {f : Nat → Value} {A B : Nat → Prop} {U : State} {H : Heap} (h : va_T ty t N f A U H) (hAB : ∀ q, B q → A q) : va_T ty t N f B U H := by
  obtain ⟨cell, h1, h2, h3, h4, h5, h6, h7⟩ := h
  exact ⟨cell, h1, h2, h3, h4, h5, h6, fun z => h7 (hAB t z)⟩
theorem twT.o {g : GX} {U : State} {H : Heap} (h : twT g U H) : xT g U H := ⟨⟨h.1.1.narrow gA_B, h.1.2.1.narrow gA_B, h.1.2.2.narrow gA_B⟩, fun a h1 h2 => tw_nar (h.2 a h1 h2) gA_B⟩
theorem twT.p {g : GX} {U : State} {H : Heap} (h : twT g U H) : xT (gH g) U H := by
  refine ⟨⟨?_, ?_, ?_⟩, fun a h1 h2 => ?_⟩
  · rw [gH_s (by decide)]; exact h.1.1.narrow gH_B
  · rw [gH_s (by decide)]; exact h.1.2.1.narrow gH_B
  · rw [gH_s (by decide)]; exact h.1.2.2.narrow gH_B
  · rw [gH_s (by omega)]; exact tw_nar (h.2 a h1 h2) gH_B
def twW (g : GX) (I : HJ) (U : State) : Prop := va_P (gD g) vwCl (Wd g I.1) U.heap ∧ va_P (gD g) vwCl (Wd (gH g) I.2) U.heap ∧ xK g U ∧ xN U ∧ twT g U U.heap ∧ stC I.1 ∧ stC I.2 ∧ gS g + 114 ≤ U.heap.size
def twP (g : GX) (av : List Value) (I : HJ) : Array Value → State → Prop := va_Pc av (twW g I)
theorem twP_blind {g : GX} {av : List Value} {I : HJ} : FrameBlind (twP g av I) := fun a U f mk q => by
  obtain ⟨q0, q1, q2, q3, q4, q5, q6, q7, q8⟩ := q
  exact ⟨q0, q1, q2, q3.moved (Vm.Alike.refl U.vm), xN_same q4 rfl, q5.moved (Vm.Alike.refl U.vm), q6, q7, q8⟩
def twB (g : GX) (I1 : HJ) (u : HJ) (t : State) : Prop := u = I1 ∧ va_P (gD g) vwCl (Wd g u.1) t.heap ∧ va_P (gD g) vwCl (Wd (gH g) u.2) t.heap ∧ stC u.1 ∧ stC u.2
def twQ (g : GX) (r : Int32) (I1 : HJ) : Array Value → State → Outcome → State → Prop := va_Qi (fun r1 (_ : HJ) => r1 = r) (twB g I1) (gB g)
def twC (g : GX) (p : Program) (s : State) (m : MethodId) (args : Array Value) (c : Code) (cc : ByteArray) (nL : Nat) (own : String) : Prop := CallFix p m c cc nL s args WL own ∧ xK g s ∧ xN s ∧ twT g s s.heap ∧ gOk g ∧ gOk (gH g)
def twD (g : GX) (I : HJ) (s : State) (H : Heap) (locs : List Loc) : Prop := va_P (gD g) vwCl (Wd g I.1) H ∧ va_P (gD g) vwCl (Wd (gH g) I.2) H ∧ va_S (gB g) s.heap H locs ∧ stC I.1 ∧ stC I.2 ∧ gS g + 114 ≤ H.size
theorem sm_j {x y : Int32 × HJ} (e : some x = some y) : x.1 = y.1 ∧ x.2 = y.2 := by cases e; exact ⟨rfl, rfl⟩
section TW
variable {g : GX} {I I1 : HJ} {p : Program} {l : Launch} {e : Env} {R : Room} {s : State} {m : MethodId} {args : Array Value} {below : List Frame} {meth : Method} {c : Code} {H : Heap} {locs : List Loc} {cells slots : Nat} {Q : State → Prop}
variable {cc : ByteArray} {nL : Nat} {own : String} {pc : Nat} {ls : Array Slot} {rest st : List Value}
theorem twC.hx (X : twC g p s m args c cc nL own) : p.tables.exec = Jvm.exec := X.1.1
theorem twC.hb (X : twC g p s m args c cc nL own) : c.code = cc := X.1.2.1
theorem twC.w (X : twC g p s m args c cc nL own) {w : Cond} (h : w ∈ WL) : w.before args s = true := X.1.2.2.2.2 w h
theorem twC.hg (X : twC g p s m args c cc nL own) : gOk g := X.2.2.2.2.1
theorem twC.hh (X : twC g p s m args c cc nL own) : gOk (gH g) := X.2.2.2.2.2
theorem tw_met {y : MethodName} {maxL : Nat} {ret : Option FieldType} {rm : Room} {av : List Value} {Qc : Array Value → State → Outcome → State → Prop} (hy : plainName y.cls = true) (hg : gOk g) (hh : gOk (gH g)) (hlen : (lg_sl av).length ≤ maxL)
    (body : ∀ (p : Program) (e : Env) (s : State) (m : MethodId) (args : Array Value) (below : List Frame) (meth : Method) (c : Code), twC g p s m args c cc maxL y.cls → meth.sig.returnType = ret → meth.locks = false → twD g I s s.heap [] → ∀ ls : Array Slot, lv_has ls maxL (lv_args 0 av) → W p l e rm s m args below meth c s.heap [] 0 0 (MQ below Qc args s 0 0 (gB g)) (F0 m 0 ls [])) :
    Met l y (Cond.code y cc maxL ret :: WL) rm (twP g av I) Qc 0 0 (gB g) := by
  refine Met.ofW (cc := cc) (maxL := maxL) (ret := ret) hy rfl ?_
  intro p e s m args below meth c s₁ B hml hv
  obtain ⟨rfl, hP, hP2, hK, hN, hT, hC, hC2, hz⟩ := hv
  have hts := atoms_spec (ws := Cond.code y cc maxL ret :: WL) B.pre
  rw [lg_entry_eq]
  exact body p e s m _ below meth c ⟨⟨B.exec, B.bytes, hml, findClass_of_methodNamed B.named, fun w h => hts w (List.mem_cons_of_mem _ h)⟩, hK, hN, hT, hg, hh⟩ B.returns B.notSynchronized ⟨hP, hP2, va_S.rf, hC, hC2, hz⟩ _ (lv_entry av hlen)
theorem twD.pre (X : twC g p s m args c cc nL own) (Y : twD g I s H locs) {av : List Value} : ∀ U : State, U.heap = H → s.WarmedH U.vm → twP g av I av.toArray U := fun U hU hW => ⟨rfl, by rw [hU]; exact Y.1, by rw [hU]; exact Y.2.1, X.2.1.moved hW.alike, xN_warm X.2.2.1 hW, by
    rw [hU]
    exact (X.2.2.2.1.kept fun a h1 h2 => Y.2.2.1.2.1 a h1 h2).moved hW.alike, Y.2.2.2.1, Y.2.2.2.2.1, by rw [hU]; exact Y.2.2.2.2.2⟩
theorem twD.preO (X : twC g p s m args c cc nL own) (Y : twD g I s H locs) {av : List Value} : ∀ U : State, U.heap = H → s.WarmedH U.vm → xP g av I.1 av.toArray U := fun U hU hW => ⟨rfl, by rw [hU]; exact Y.1, X.2.1.moved hW.alike, xN_warm X.2.2.1 hW, by
    rw [hU]
    exact ((X.2.2.2.1.kept fun a h1 h2 => Y.2.2.1.2.1 a h1 h2).moved hW.alike).o, by
    rw [hU]
    have := Y.2.2.2.2.2
    omega, Y.2.2.2.1⟩
theorem twD.preP (X : twC g p s m args c cc nL own) (Y : twD g I s H locs) {av : List Value} : ∀ U : State, U.heap = H → s.WarmedH U.vm → xP (gH g) av I.2 av.toArray U := fun U hU hW => ⟨rfl, by rw [hU]; exact Y.2.1, X.2.1.moved hW.alike, xN_warm X.2.2.1 hW, by
    rw [hU]
    exact ((X.2.2.2.1.kept fun a h1 h2 => Y.2.2.1.2.1 a h1 h2).moved hW.alike).p, by
    rw [hU]
    have := Y.2.2.2.2.2
    show gS g + 57 ≤ H.size
    omega, Y.2.2.2.2.1⟩
/-! ends -/
theorem tw_iret {v : Int32} {r : Int32 × HJ} (X : twC g p s m args c cc nL own) (Y : twD g I s H locs) (hr : meth.sig.returnType = some .int) (hlk : meth.locks = false) (hf : some (v, I) = some r) (hdg : decode cc pc = .ok (.ireturn, 1)) :
    W p l e R s m args below meth c H locs cells slots (MQ below (twQ g r.1 r.2) args s cells slots (gB g)) (F0 m pc ls [.int v]) := by
  cases hf
  exact W.iret X.hx X.hb hr (fun t ht hW => ⟨⟨v, I, rfl, rfl, rfl, by rw [ht]; exact Y.1, by rw [ht]; exact Y.2.1, Y.2.2.2.1, Y.2.2.2.2.1⟩, Y.2.2.1.F ht⟩) Y.2.2.1.2.2 hdg hlk
theorem tw_zret {v : Int32} {r : Int32 × HJ} (X : twC g p s m args c cc nL own) (Y : twD g I s H locs) (hr : meth.sig.returnType = some .boolean) (hlk : meth.locks = false) (hn : narrow .boolean (.int v) = .int v) (hf : some (v, I) = some r) (hdg : decode cc pc = .ok (.ireturn, 1)) :
    W p l e R s m args below meth c H locs cells slots (MQ below (twQ g r.1 r.2) args s cells slots (gB g)) (F0 m pc ls [.int v]) := by
  cases hf
  exact W.zret X.hx X.hb hr hn (fun t ht hW => ⟨⟨v, I, rfl, rfl, rfl, by rw [ht]; exact Y.1, by rw [ht]; exact Y.2.1, Y.2.2.2.1, Y.2.2.2.2.1⟩, Y.2.2.1.F ht⟩) Y.2.2.1.2.2 hdg hlk
/-! calls -/
variable {y : MethodName} {bytes : ByteArray} {maxL n idx : Nat} {ret : Option FieldType} {rm : Room} {As : List Value}
theorem tw_rO {Qc : Array Value → State → Outcome → State → Prop} (X : twC g p s m args c cc nL own) (Y : twD g I s H locs) (k : xLV own idx RX5 y bytes maxL ret n) (hM : Met l y (Cond.code y bytes maxL ret :: WL) rm (xP g (.ref (gR g 0) :: As) I.1) Qc 0 0 (gA g)) (hn : As.length = n) (hrm : rm.cells = 0 ∧ rm.slots = 0) (hR : rm.frames + 1 ≤ R.frames ∧ 8 + (maxL + 11) + rm.locals ≤ R.locals) (hl : ls.size = nL) (hst : st = As.reverse ++ .ref (gR g 0) :: rest) (hW : (rest.map fun v => v.category).sum ≤ 8) (hdg : decode cc pc = .ok (.invokevirtual idx, 3)) (hcs : cells + 0 ≤ R.cells ∧ slots + 0 ≤ R.slots) :
    va_Run p l e R s m args below meth c H locs cells slots 0 0 (F0 m pc ls st) rest (Qc (Value.ref (gR g 0) :: As).toArray) (gA g) :=
  va_runV (As := As) (rest := rest) X.1 hM (cwV n X.1.2.2.2.2 k.1 rfl hrm.1 hrm.2 k.2 hR) ⟨xP_blind, va_recv X.2.1 Y.1 (ci := 5) (q0 := 0) cl_5.1 (by rw [Wd_at (by decide), cel_c (ci := 5) rfl (by decide)]), Y.preO X⟩ rfl hn hl hst (lv_room hW) hdg hcs
theorem tw_rP {Qc : Array Value → State → Outcome → State → Prop} (X : twC g p s m args c cc nL own) (Y : twD g I s H locs) (k : xLV own idx RX5 y bytes maxL ret n) (hM : Met l y (Cond.code y bytes maxL ret :: WL) rm (xP (gH g) (.ref (gR (gH g) 0) :: As) I.2) Qc 0 0 (gA (gH g))) (hn : As.length = n) (hrm : rm.cells = 0 ∧ rm.slots = 0) (hR : rm.frames + 1 ≤ R.frames ∧ 8 + (maxL + 11) + rm.locals ≤ R.locals) (hl : ls.size = nL) (hst : st = As.reverse ++ .ref (gR (gH g) 0) :: rest) (hW : (rest.map fun v => v.category).sum ≤ 8) (hdg : decode cc pc = .ok (.invokevirtual idx, 3)) (hcs : cells + 0 ≤ R.cells ∧ slots + 0 ≤ R.slots) :
    va_Run p l e R s m args below meth c H locs cells slots 0 0 (F0 m pc ls st) rest (Qc (Value.ref (gR (gH g) 0) :: As).toArray) (gA (gH g)) :=
  va_runV (As := As) (rest := rest) X.1 hM (cwV n X.1.2.2.2.2 k.1 rfl hrm.1 hrm.2 k.2 hR) ⟨xP_blind, va_recv (D := gD (gH g)) X.2.1 Y.2.1 (ci := 5) (q0 := 0) cl_5.1 (by rw [Wd_at (by decide), cel_c (ci := 5) rfl (by decide)]), Y.preP X⟩ rfl hn hl hst (lv_room hW) hdg hcs
theorem tw_rS {Qc : Array Value → State → Outcome → State → Prop} (X : twC g p s m args c cc nL own) (Y : twD g I s H locs) (k : xLS own idx y bytes maxL ret n) (hM : Met l y (Cond.code y bytes maxL ret :: WL) rm (twP g As I) Qc 0 0 (gB g)) (hn : As.length = n) (hrm : rm.cells = 0 ∧ rm.slots = 0) (hR : rm.frames + 1 ≤ R.frames ∧ 8 + (maxL + 11) + rm.locals ≤ R.locals) (hl : ls.size = nL) (hst : st = As.reverse ++ rest) (hW : (rest.map fun v => v.category).sum ≤ 8) (hdg : decode cc pc = .ok (.invokestatic idx, 3)) (hcs : cells + 0 ≤ R.cells ∧ slots + 0 ≤ R.slots) :
    va_Run p l e R s m args below meth c H locs cells slots 0 0 (F0 m pc ls st) rest (Qc As.toArray) (gB g) :=
  va_runS (As := As) (rest := rest) X.1 hM (va_cwS n X.1.2.2.2.2 k.1 rfl hrm.1 hrm.2 k.2 hR) ⟨twP_blind, Y.pre X⟩ rfl hn hl hst (lv_room hW) hdg hcs
theorem tw_cO {av : Array Value} {q : Int32 × HI} (X : twC g p s m args c cc nL own) (Y : twD g I s H locs) (hr : va_Run p l e R s m args below meth c H locs cells slots 0 0 (F0 m pc ls st) rest (xQi g q.1 q.2 av) (gA g)) (kk : ∀ (H1 : Heap) (locs1 : List Loc), twD g (q.2, I.2) s H1 locs1 → W p l e R s m args below meth c H1 locs1 cells slots Q (F0 m (pc + 3) ls (.int q.1 :: rest))) : W p l e R s m args below meth c H locs cells slots Q (F0 m pc ls st) :=
  va_calli hr Y.2.2.1 (fun q _ h => gA_B q h) (fun q h => gA_B q h) (fun r u t H1 locs1 ht hvm hp hB hz hk hS => by
    subst hp
    obtain ⟨rfl, h1, h2⟩ := hB
    refine kk H1 locs1 ⟨by rw [← ht]; exact h1, Y.2.1.kept (fun k x hx => ?_), hS, h2, Y.2.2.2.2.1, Nat.le_trans Y.2.2.2.2.2 hz⟩
    have hlt := (Y.2.1 k x hx).lt
    obtain ⟨hk', rfl⟩ := Wd_at' hx
    exact hk _ hlt (fun z => gA_H z (X.hh.2 k hk')))
theorem tw_cP {av : Array Value} {q : Int32 × HI} (X : twC g p s m args c cc nL own) (Y : twD g I s H locs) (hr : va_Run p l e R s m args below meth c H locs cells slots 0 0 (F0 m pc ls st) rest (xQi (gH g) q.1 q.2 av) (gA (gH g))) (kk : ∀ (H1 : Heap) (locs1 : List Loc), twD g (I.1, q.2) s H1 locs1 → W p l e R s m args below meth c H1 locs1 cells slots Q (F0 m (pc + 3) ls (.int q.1 :: rest))) : W p l e R s m args below meth c H locs cells slots Q (F0 m pc ls st) :=
  va_calli hr Y.2.2.1 (fun q _ h => gH_B q h) (fun q h => gH_B q h) (fun r u t H1 locs1 ht hvm hp hB hz hk hS => by
    subst hp
    obtain ⟨rfl, h1, h2⟩ := hB
    refine kk H1 locs1 ⟨Y.1.kept (fun k x hx => ?_), by rw [← ht]; exact h1, hS, Y.2.2.2.1, h2, Nat.le_trans Y.2.2.2.2.2 hz⟩
    have hlt := (Y.1 k x hx).lt
    obtain ⟨hk', rfl⟩ := Wd_at' hx
    exact hk _ hlt (fun z => gA_H (X.hg.2 k hk') z))
theorem tw_cS {av : Array Value} {q : Int32 × HJ} (Y : twD g I s H locs) (hr : va_Run p l e R s m args below meth c H locs cells slots 0 0 (F0 m pc ls st) rest (twQ g q.1 q.2 av) (gB g)) (kk : ∀ (H1 : Heap) (locs1 : List Loc), twD g q.2 s H1 locs1 → W p l e R s m args below meth c H1 locs1 cells slots Q (F0 m (pc + 3) ls (.int q.1 :: rest))) : W p l e R s m args below meth c H locs cells slots Q (F0 m pc ls st) :=
  va_calli hr Y.2.2.1 (fun _ _ h => h) (fun _ h => h) (fun r u t H1 locs1 ht hvm hp hB hz hk hS => by
    subst hp
    obtain ⟨rfl, h1, h2, h3, h4⟩ := hB
    exact kk H1 locs1 ⟨by rw [← ht]; exact h1, by rw [← ht]; exact h2, hS, h3, h4, Nat.le_trans Y.2.2.2.2.2 hz⟩)
end TW
