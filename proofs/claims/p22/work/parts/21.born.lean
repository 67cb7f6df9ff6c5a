/-! ===== the birth of the system: cells come one behind another, in the order of their numbers; a reference is null until it is set (I tells so) ===== -/
def flg (g : GX) (I : HI) (a k off : Nat) : Value := if I a k = 0 then .null else .ref (gR g (a + off))
def rfO : Nat → Nat → Option Nat
  | 0, 0 => some 1
  | 1, 0 => some 1
  | 1, 1 => some 2
  | 1, 2 => some 3
  | 2, 0 => some 1
  | 2, 2 => some 2
  | 2, 3 => some 3
  | 2, 4 => some 4
  | 2, 5 => some 5
  | 3, 0 => some 1
  | 4, 0 => some 1
  | 4, 1 => some 2
  | 5, 0 => some 1
  | 5, 1 => some 6
  | 5, 2 => some 38
  | 5, 3 => some 51
  | _, _ => none
def nF : Nat → Nat
  | 0 => 3
  | 1 => 15
  | 2 => 9
  | 3 => 2
  | 4 => 2
  | 5 => 4
  | _ => 0
def fln (g : GX) (I : HI) (a ci : Nat) : List Value := (List.range (nF ci)).map (fun k => match rfO ci k with | some off => flg g I a k off | none => .int (I a k))
def cln (g : GX) (I : HI) (a : Nat) : va_E :=
  if kd a < 7 then .inr (kd a, fln g I a (kd a)) else if kd a = 7 then .inl (gI g, ln a, .inl (I a)) else if kd a = 8 then .inl (gZ g, ln a, .inl (I a)) else .inl (gO g, ln a, .inr (.inr (.inr (.inr (fun j => if I a j = 0 then none else some (gR g (el a j)))))))
def Wn (g : GX) (n : Nat) (I : HI) : va_W := (List.range n).map (fun a => (gR g a, cln g I a))
theorem Wn_at {g : GX} {I : HI} {n a : Nat} (h : a < n) : (Wn g n I)[a]? = some (gR g a, cln g I a) := by simp [Wn, h]
theorem Wn_at' {g : GX} {I : HI} {n k : Nat} {q : Nat × va_E} (h : (Wn g n I)[k]? = some q) : k < n ∧ q = (gR g k, cln g I k) := by
  have hk : k < n := by
    have := (List.getElem?_eq_some_iff.mp h).1
    simpa [Wn] using this
  rw [Wn_at hk] at h
  exact ⟨hk, (Option.some.inj h).symm⟩
theorem fln_row {g : GX} {I J : HI} {a : Nat} (h : I a = J a) (ci : Nat) : fln g I a ci = fln g J a ci := by
  unfold fln flg
  rw [h]
theorem cln_row {g : GX} {I J : HI} {a : Nat} (h : I a = J a) : cln g I a = cln g J a := by
  unfold cln
  rw [fln_row h, h]
theorem cln_c {g : GX} {I : HI} {a ci : Nat} (h : kd a = ci) (h7 : ci < 7) : cln g I a = .inr (ci, fln g I a ci) := by
  subst h
  simp [cln, h7]
theorem cln_i {g : GX} {I : HI} {a : Nat} (h : kd a = 7) : cln g I a = .inl (gI g, ln a, .inl (I a)) := by simp [cln, h]
theorem cln_z {g : GX} {I : HI} {a : Nat} (h : kd a = 8) : cln g I a = .inl (gZ g, ln a, .inl (I a)) := by simp [cln, h]
theorem cln_o {g : GX} {I : HI} {a : Nat} (h : kd a = 9) : cln g I a = .inl (gO g, ln a, .inr (.inr (.inr (.inr (fun j => if I a j = 0 then none else some (gR g (el a j))))))) := by simp [cln, h]
theorem Wn_set {g : GX} {I J : HI} {n a : Nat} {e : va_E} (ha : a < n) (h1 : cln g J a = e) (h2 : ∀ b : Nat, b ≠ a → J b = I b) : (Wn g n I).set a (gR g a, e) = Wn g n J := by
  apply List.ext_getElem?
  intro k
  rw [List.getElem?_set]
  by_cases hk : a = k
  · subst hk
    rw [show (Wn g n J)[a]? = _ from Wn_at ha, h1]
    simp [Wn, ha]
  · rw [if_neg hk]
    by_cases h64 : k < n
    · rw [Wn_at h64, Wn_at h64, cln_row (h2 k (fun e => hk e.symm))]
    · rw [List.getElem?_eq_none (by simp [Wn]; omega), List.getElem?_eq_none (by simp [Wn]; omega)]
theorem Wn_succ {g : GX} {I J : HI} {n : Nat} (h : ∀ b : Nat, b ≠ n → J b = I b) : Wn g (n + 1) J = Wn g n I ++ [(gR g n, cln g J n)] := by
  unfold Wn
  rw [List.range_succ, List.map_append]
  congr 1
  apply List.map_congr_left
  intro b hb
  rw [cln_row (h b (by have := List.mem_range.mp hb; omega))]
theorem Wn_D {g : GX} (hg : gOk g) {n : Nat} (hn : n ≤ 57) (I : HI) : va_D (gA g) (Wn g n I) := by
  refine ⟨fun i j p q hi hj e => ?_, fun k q hk => ?_⟩
  · obtain ⟨h1, rfl⟩ := Wn_at' hi
    obtain ⟨h2, rfl⟩ := Wn_at' hj
    exact hg.1 i j (by omega) (by omega) e
  · obtain ⟨h1, rfl⟩ := Wn_at' hk
    exact hg.2 k (by omega)
theorem fln_len {g : GX} {I : HI} {a ci : Nat} : (fln g I a ci).length = nF ci := by simp [fln]
theorem fln_get {g : GX} {I : HI} {a ci k : Nat} (h : k < nF ci) : (fln g I a ci)[k]? = some (match rfO ci k with | some off => flg g I a k off | none => .int (I a k)) := by simp [fln, h]
theorem fln_upR {g : GX} {I : HI} {a ci k off : Nat} (h : rfO ci k = some off) : fln g (upI I a k 1) a ci = (fln g I a ci).set k (.ref (gR g (a + off))) := by
  apply List.ext_getElem?
  intro j
  rw [List.getElem?_set]
  by_cases hj : j < nF ci
  · rw [fln_get hj, fln_get hj]
    by_cases e : k = j
    · subst e
      rw [if_pos rfl, if_pos (by rw [fln_len]; exact hj), h]
      simp [flg, upI, upd]
    · rw [if_neg e]
      have e1 : upI I a k 1 a j = I a j := by simp [upI, upd, Ne.symm e]
      unfold flg
      rw [e1]
  · rw [List.getElem?_eq_none (by rw [fln_len]; omega), List.getElem?_eq_none (by rw [fln_len]; omega)]
    by_cases e : k = j
    · subst e
      rw [if_pos rfl, if_neg (by rw [fln_len]; exact hj)]
    · rw [if_neg e]
theorem fln_upI {g : GX} {I : HI} {a ci k : Nat} (h : rfO ci k = none) (v : Int32) : fln g (upI I a k v) a ci = (fln g I a ci).set k (.int v) := by
  apply List.ext_getElem?
  intro j
  rw [List.getElem?_set]
  by_cases hj : j < nF ci
  · rw [fln_get hj, fln_get hj]
    by_cases e : k = j
    · subst e
      rw [if_pos rfl, if_pos (by rw [fln_len]; exact hj), h]
      simp [upI, upd]
    · rw [if_neg e]
      have e1 : upI I a k v a j = I a j := by simp [upI, upd, Ne.symm e]
      unfold flg
      rw [e1]
  · rw [List.getElem?_eq_none (by rw [fln_len]; omega), List.getElem?_eq_none (by rw [fln_len]; omega)]
    by_cases e : k = j
    · subst e
      rw [if_pos rfl, if_neg (by rw [fln_len]; exact hj)]
    · rw [if_neg e]
def gC (g : GX) : Prop := ∀ a : Nat, a < 57 → gR g a = gS g + a
def XN (g : GX) (n : Nat) (I : HI) (s : State) (H : Heap) (locs : List Loc) (cells : Nat) : Prop := va_P (gD g) vwCl (Wn g n I) H ∧ va_S (gA g) s.heap H locs ∧ stC I ∧ s.heap.size + cells = gS g + n ∧ n ≤ 57
def xWN (g : GX) (n : Nat) (I : HI) (U : State) : Prop := va_P (gD g) vwCl (Wn g n I) U.heap ∧ xK g U ∧ xN U ∧ xT g U U.heap ∧ gS g ≤ U.heap.size ∧ stC I ∧ (U.heap.size = gS g + n ∧ n ≤ 57) ∧ va_AO RX1 U
def xPN (g : GX) (n : Nat) (av : List Value) (I : HI) : Array Value → State → Prop := va_Pc av (xWN g n I)
theorem xPN_blind {g : GX} {n : Nat} {av : List Value} {I : HI} : FrameBlind (xPN g n av I) := fun a U f mk q => by
  obtain ⟨q0, q1, q2, q3, q4, q5, q6, q7, q8⟩ := q
  exact ⟨q0, q1, q2.moved (Vm.Alike.refl U.vm), xN_same q3 rfl, q4.moved (Vm.Alike.refl U.vm), q5, q6, q7, va_AO.moved (Vm.Alike.refl U.vm) q8⟩
def xBN (g : GX) (n1 : Nat) (I1 : HI) (u : HI) (t : State) : Prop := u = I1 ∧ va_P (gD g) vwCl (Wn g n1 u) t.heap ∧ stC u ∧ t.heap.size = gS g + n1 ∧ n1 ≤ 57
def xQN (g : GX) (n1 : Nat) (I1 : HI) : Array Value → State → Outcome → State → Prop := va_Qv (fun _ : HI => True) (xBN g n1 I1) (gA g)
section XM
variable {g : GX} {I : HI} {p : Program} {l : Launch} {e : Env} {R : Room} {s : State} {m : MethodId} {args : Array Value} {below : List Frame} {meth : Method} {c : Code} {H : Heap} {locs : List Loc} {cells slots : Nat} {Q : State → Prop}
variable {cc : ByteArray} {nL n : Nat} {own : String} {pc : Nat} {ls : Array Slot} {rest st : List Value}
theorem n_met {y : MethodName} {maxL mc ms : Nat} {ret : Option FieldType} {rm : Room} {av : List Value} {Qc : Array Value → State → Outcome → State → Prop} (hy : plainName y.cls = true) (hg : gOk g) (hlen : (lg_sl av).length ≤ maxL)
    (body : ∀ (p : Program) (e : Env) (s : State) (m : MethodId) (args : Array Value) (below : List Frame) (meth : Method) (c : Code), XC g p s m args c cc maxL y.cls → va_AO RX1 s → meth.name = y.name → meth.sig.returnType = ret → meth.locks = false → XN g n I s s.heap [] 0 → ∀ ls : Array Slot, lv_has ls maxL (lv_args 0 av) → W p l e rm s m args below meth c s.heap [] 0 0 (MQ below Qc args s mc ms (gA g)) (F0 m 0 ls [])) :
    Met l y (Cond.code y cc maxL ret :: WL) rm (xPN g n av I) Qc mc ms (gA g) := by
  refine Met.ofW (cc := cc) (maxL := maxL) (ret := ret) hy rfl ?_
  intro p e s m args below meth c s₁ B hml hv
  obtain ⟨rfl, hP, hK, hN, hT, hs, hC, hz, hAO⟩ := hv
  have hts := atoms_spec (ws := Cond.code y cc maxL ret :: WL) B.pre
  rw [lg_entry_eq]
  exact body p e s m _ below meth c ⟨⟨B.exec, B.bytes, hml, findClass_of_methodNamed B.named, fun w h => hts w (List.mem_cons_of_mem _ h)⟩, hK, hN, hT, hs, hg⟩ hAO (name_of_methodNamed B.named B.method).1 B.returns B.notSynchronized ⟨hP, va_S.rf, hC, hz⟩ _ (lv_entry av hlen)
theorem XN.pre (X : XC g p s m args c cc nL own) (hAO : va_AO RX1 s) (Y : XN g n I s H locs cells) (hsz : H.size = gS g + n) {av : List Value} : ∀ U : State, U.heap = H → s.WarmedH U.vm → xPN g n av I av.toArray U := fun U hU hW => ⟨rfl, by rw [hU]; exact Y.1, X.2.1.moved hW.alike, xN_warm X.2.2.1 hW, by
    rw [hU]
    exact (X.2.2.2.1.kept fun a h1 h2 => Y.2.1.2.1 a h1 h2).moved hW.alike, by rw [hU]; exact Nat.le_trans X.2.2.2.2.1 Y.2.1.1, Y.2.2.1, by rw [hU]; exact ⟨hsz, Y.2.2.2.2⟩, va_AO.moved hW.alike hAO⟩
theorem XN.upd (Y : XN g n I s H locs cells) {a : Nat} {f : Nat → Int32} (ha : a < n) {ws : va_W} {H1 : Heap} {locs1 : List Loc} (hw : ws = Wn g n (upR I a f)) (hP : va_P (gD g) vwCl ws H1) (hS : va_S (gA g) s.heap H1 locs1) : XN g n (upR I a f) s H1 locs1 cells := ⟨by rw [← hw]; exact hP, hS, stC_up Y.2.2.1 (Nat.lt_of_lt_of_le ha Y.2.2.2.2), Y.2.2.2.1, Y.2.2.2.2⟩
/-- the heap is as large as its cells are many -/
theorem n_sized (hC : gC g) (hs : gS g ≤ s.heap.size) (Y : XN g n I s H locs cells) (k : H.size = gS g + n → W p l e R s m args below meth c H locs cells slots Q (F0 m pc ls st)) : W p l e R s m args below meth c H locs cells slots Q (F0 m pc ls st) := by
  intro T hT X
  refine k ?_ T hT X
  have h1 : H.size ≤ s.heap.size + cells := by rw [← hT]; exact X.heapSize
  have h2 := Y.2.2.2.1
  have h3 := Y.2.1.1
  by_cases hn : n = 0
  · subst hn
    omega
  · have h4 := (Y.1 (n - 1) _ (Wn_at (by omega))).lt
    have h5 := hC (n - 1) (by have := Y.2.2.2.2; omega)
    have h6 : gR g (n - 1) < H.size := h4
    omega
theorem n_S (Y : XN g n I s H locs cells) {H1 : Heap} (hz : H1.size = H.size + 1) (o1 : ∀ q : Nat, q < H.size → H1[q]? = H[q]?) : va_S (gA g) s.heap H1 locs := ⟨Nat.le_trans Y.2.1.1 (by omega), fun x h1 h2 => (o1 x (Nat.lt_of_lt_of_le h1 Y.2.1.1)).trans (Y.2.1.2.1 x h1 h2), Y.2.1.2.2⟩
/-- a cell comes -/
theorem n_push (X : XC g p s m args c cc nL own) (hC : gC g) (Y : XN g n I s H locs cells) (hsz : H.size = gS g + n) (hn : n < 57) {H1 : Heap} (hz : H1.size = H.size + 1) (o1 : ∀ q : Nat, q < H.size → H1[q]? = H[q]?) (hat : va_at (gD g) vwCl (gR g n, cln g (upR I n (fun _ => 0)) n) H1) : XN g (n + 1) (upR I n (fun _ => 0)) s H1 locs (cells + 1) := by
  have hk : ∀ (k : Nat) (x : Nat × va_E), (Wn g n I)[k]? = some x → H1[x.1]? = H[x.1]? := fun k x hx => o1 x.1 ((Y.1 k x hx).lt)
  refine ⟨?_, n_S Y hz o1, stC_up Y.2.2.1 hn, by have := Y.2.2.2.1; omega, hn⟩
  rw [Wn_succ (I := I) (fun b hb => upR_n hb)]
  refine (Y.1.kept hk).app (fun k x hx => ?_)
  have hz : k < 1 := (List.getElem?_eq_some_iff.mp hx).1
  rw [show k = 0 by omega] at hx
  cases hx
  exact hat
theorem n_new {C : String} {T : u_T} {N ci idx : Nat} {ty : Nat → FieldType} (X : XC g p s m args c cc nL own) (hC : gC g) (Y : XN g n I s H locs cells) (hcl : xCl ci C T N ty) (hk : kd n = ci) (hn : n < 57) (hdf : ∀ j, j < N → defaultValue (ty j) = vp_V (fln g (upR I n (fun _ => 0)) n ci) j) (hw : Cond.classLink own idx C ∈ WL) (hw2 : Cond.instantiable C N ∈ WL) (hw3 : Cond.initialized C ∈ WL) (hcells : cells + 1 ≤ R.cells) (hslots : slots + N ≤ R.slots) (hdg : decode cc pc = .ok (.new idx, 3))
    (kk : ∀ H1 : Heap, XN g (n + 1) (upR I n (fun _ => 0)) s H1 locs (cells + 1) → W p l e R s m args below meth c H1 locs (cells + 1) (slots + N) Q (F0 m (pc + 3) ls (.ref (gR g n) :: rest))) : W p l e R s m args below meth c H locs cells slots Q (F0 m pc ls rest) := by
  have hKn := X.2.1.1 ci _ hcl.1
  refine n_sized hC X.2.2.2.2.1 Y fun hsz => ?_
  have ha : gR g n = H.size := by rw [hC n hn, hsz]
  refine W.newcK X.hx X.hb X.1.2.2.2.1 (X.w hw) (X.w hw2) (X.w hw3) rfl hdg hcells hslots hKn.2.1 rfl fun H1 kC hkC e1 z1 o1 => ?_
  rw [← ha]
  refine kk H1 (n_push X hC Y hsz hn z1 o1 ?_)
  rw [cln_c hk hcl.2.2.2.2.1, ha]
  exact ⟨_, hcl.1, (u_born ty X.1.2.2.2.2 hcl.2.1 hKn hkC e1 hcl.2.2.1).to hdf⟩
theorem n_cls {g : GX} {s : State} (h : xK g s) : s.vm.findClass "[I" = some (gI g) ∧ s.vm.findClass "[Z" = some (gZ g) ∧ s.vm.findClass ("[" ++ (FieldType.object RX1).toString) = some (gO g) := by
  refine ⟨(h.2 0 _ rfl).2, (h.2 1 _ rfl).2, ?_⟩
  obtain ⟨kA, comp, h1, h2, h3, h4⟩ := (h.2 2 _ rfl).2
  exact h4
theorem n_newi {k : Int32} {N : Nat} (X : XC g p s m args c cc nL own) (hC : gC g) (Y : XN g n I s H locs cells) (hk : kd n = 7) (hn : n < 57) (hln : ln n = N) (h0 : ¬ k < 0) (hN : k.toNatClampNeg = N) (hby : N * 4 ≤ 536870912) (hw : Cond.arrayClass .int ∈ WL) (hcells : cells + 1 ≤ R.cells) (hslots : slots + N ≤ R.slots) (hdg : decode cc pc = .ok (.newarray .int, 2))
    (kk : ∀ H1 : Heap, XN g (n + 1) (upR I n (fun _ => 0)) s H1 locs (cells + 1) → W p l e R s m args below meth c H1 locs (cells + 1) (slots + N) Q (F0 m (pc + 2) ls (.ref (gR g n) :: rest))) : W p l e R s m args below meth c H locs cells slots Q (F0 m pc ls (.int k :: rest)) := by
  refine n_sized hC X.2.2.2.2.1 Y fun hsz => ?_
  have ha : gR g n = H.size := by rw [hC n hn, hsz]
  refine va_newaK (atype := .int) (N := N) X.hx X.hb (X.w hw) rfl hdg rfl h0 hN hby hcells hslots rfl fun H1 cA e1 z1 o1 hAr hNm => ?_
  have hcA : cA = gI g := Option.some.inj (hNm.symm.trans (n_cls X.2.1).1)
  subst hcA
  rw [← ha]
  refine kk H1 (n_push X hC Y hsz hn z1 o1 ?_)
  rw [cln_i hk, ha, hln, upR_s]
  show H1[H.size]? = some (vp_cell _ _)
  rw [vp_cell_i]
  exact e1
theorem n_newz {k : Int32} {N : Nat} (X : XC g p s m args c cc nL own) (hC : gC g) (Y : XN g n I s H locs cells) (hk : kd n = 8) (hn : n < 57) (hln : ln n = N) (h0 : ¬ k < 0) (hN : k.toNatClampNeg = N) (hby : N * 1 ≤ 536870912) (hw : Cond.arrayClass .boolean ∈ WL) (hcells : cells + 1 ≤ R.cells) (hslots : slots + N ≤ R.slots) (hdg : decode cc pc = .ok (.newarray .boolean, 2))
    (kk : ∀ H1 : Heap, XN g (n + 1) (upR I n (fun _ => 0)) s H1 locs (cells + 1) → W p l e R s m args below meth c H1 locs (cells + 1) (slots + N) Q (F0 m (pc + 2) ls (.ref (gR g n) :: rest))) : W p l e R s m args below meth c H locs cells slots Q (F0 m pc ls (.int k :: rest)) := by
  refine n_sized hC X.2.2.2.2.1 Y fun hsz => ?_
  have ha : gR g n = H.size := by rw [hC n hn, hsz]
  refine va_newaK (atype := .boolean) (N := N) X.hx X.hb (X.w hw) rfl hdg rfl h0 hN hby hcells hslots rfl fun H1 cA e1 z1 o1 hAr hNm => ?_
  have hcA : cA = gZ g := Option.some.inj (hNm.symm.trans (n_cls X.2.1).2.1)
  subst hcA
  rw [← ha]
  refine kk H1 (n_push X hC Y hsz hn z1 o1 ?_)
  rw [cln_z hk, ha, hln, upR_s]
  show H1[H.size]? = some (vp_cell _ _)
  rw [vp_cell_i]
  exact e1
theorem n_newq {k : Int32} {N idx : Nat} (X : XC g p s m args c cc nL own) (hAO : va_AO RX1 s) (hC : gC g) (Y : XN g n I s H locs cells) (hk : kd n = 9) (hn : n < 57) (hln : ln n = N) (h0 : ¬ k < 0) (hN : k.toNatClampNeg = N) (hby : N * 4 ≤ 536870912) (hw : Cond.classLink own idx RX1 ∈ WL) (hcells : cells + 1 ≤ R.cells) (hslots : slots + N ≤ R.slots) (hdg : decode cc pc = .ok (.anewarray idx, 3))
    (kk : ∀ H1 : Heap, XN g (n + 1) (upR I n (fun _ => 0)) s H1 locs (cells + 1) → W p l e R s m args below meth c H1 locs (cells + 1) (slots + N) Q (F0 m (pc + 3) ls (.ref (gR g n) :: rest))) : W p l e R s m args below meth c H locs cells slots Q (F0 m pc ls (.int k :: rest)) := by
  refine n_sized hC X.2.2.2.2.1 Y fun hsz => ?_
  have ha : gR g n = H.size := by rw [hC n hn, hsz]
  subst hN
  refine W.anew X.hx X.hb X.1.2.2.2.1 (X.w hw) (va_AO.use hAO) rfl hdg rfl h0 hby hcells hslots fun cA kA comp f1 f2 f3 f4 => ?_
  have hcA : cA = gO g := Option.some.inj (f1.symm.trans (n_cls X.2.1).2.2)
  subst hcA
  rw [← ha]
  generalize hH1 : H.push ({ cls := gO g, slots := Array.replicate k.toNatClampNeg .null, vm := .none } : Cell) = H1
  have z1 : H1.size = H.size + 1 := by rw [← hH1, Array.size_push]
  have o1 : ∀ q : Nat, q < H.size → H1[q]? = H[q]? := fun q hq => by rw [← hH1, Array.getElem?_push, if_neg (Nat.ne_of_lt hq)]
  refine kk H1 (n_push X hC Y hsz hn z1 o1 ?_)
  rw [cln_o hk, ha, hln, upR_s]
  show H1[H.size]? = some (vp_cell _ _)
  rw [vp_cell_q, ← hH1, Array.getElem?_push_size, arrV_new]
  rfl
end XM
section XM2
variable {g : GX} {I : HI} {p : Program} {l : Launch} {e : Env} {R : Room} {s : State} {m : MethodId} {args : Array Value} {below : List Frame} {meth : Method} {c : Code} {H : Heap} {locs : List Loc} {cells slots : Nat} {Q : State → Prop}
variable {cc : ByteArray} {nL n : Nat} {own : String} {pc : Nat} {ls : Array Slot} {rest st : List Value}
theorem n_putF {C : String} {T : u_T} {N ci a idx off : Nat} {ty : Nat → FieldType} (X : XC g p s m args c cc nL own) (Y : XN g n I s H locs cells) (hin2 : meth.name = "<init>") (hcl : xCl ci C T N ty) (hk : kd a = ci) (ha : a < n) (k : Nat) (hkN : k < N) (hN : N = nF ci) (hr : rfO ci k = some off) (hw : Cond.fieldLink own idx (T k).1 (T k).2.1 (T k).2.2.1 ∈ WL) (hfin : (T k).2.2.2 = true) (hdecl : (T k).1 = own) (hnr : ∀ q : Nat, narrow (ty k) (.ref q) = .ref q) (hfit : ∀ q : Nat, fits (ty k) (.ref q) = true) (hdg : decode cc pc = .ok (.putfield idx, 3))
    (kk : ∀ (H1 : Heap) (locs1 : List Loc), XN g n (upI I a k 1) s H1 locs1 cells → W p l e R s m args below meth c H1 locs1 cells slots Q (F0 m (pc + 3) ls rest)) : W p l e R s m args below meth c H locs cells slots Q (F0 m pc ls (.ref (gR g (a + off)) :: .ref (gR g a) :: rest)) :=
  va_putF (D := gD g) X.hx X.hb X.1.2.2.2.2 hcl.2.1 ty hcl.2.2.1 hcl.2.2.2.1 X.1.2.2.2.1 X.2.1 Y.1 (Wn_D X.hg Y.2.2.2.2 I) Y.2.1 a (by rw [Wn_at ha, cln_c hk hcl.2.2.2.2.1]) hcl.1 k hkN (X.w hw) (fun _ h => h) hfin hin2 hdecl (hcl.2.2.1 k hkN) (hnr _) (hfit _) (by rw [fln_len, ← hN]; exact hkN) hdg
    (fun H1 locs1 hP hD hS => kk H1 locs1 (Y.upd ha (Wn_set ha (by rw [cln_c hk hcl.2.2.2.2.1, ← upI_R, fln_upR hr]) (fun b hb => upR_n hb)) hP hS))
theorem n_put {C : String} {T : u_T} {N ci a idx : Nat} {ty : Nat → FieldType} {v : Int32} (X : XC g p s m args c cc nL own) (Y : XN g n I s H locs cells) (hcl : xCl ci C T N ty) (hk : kd a = ci) (ha : a < n) (k : Nat) (hkN : k < N) (hN : N = nF ci) (hr : rfO ci k = none) (hw : Cond.fieldLink own idx (T k).1 (T k).2.1 (T k).2.2.1 ∈ WL) (hfin : (T k).2.2.2 = false) (hn : narrow (ty k) (.int v) = .int v) (hfit : fits (ty k) (.int v) = true) (hdg : decode cc pc = .ok (.putfield idx, 3))
    (kk : ∀ (H1 : Heap) (locs1 : List Loc), XN g n (upI I a k v) s H1 locs1 cells → W p l e R s m args below meth c H1 locs1 cells slots Q (F0 m (pc + 3) ls rest)) : W p l e R s m args below meth c H locs cells slots Q (F0 m pc ls (.int v :: .ref (gR g a) :: rest)) :=
  va_put (D := gD g) X.hx X.hb X.1.2.2.2.2 hcl.2.1 ty hcl.2.2.1 hcl.2.2.2.1 X.1.2.2.2.1 X.2.1 Y.1 (Wn_D X.hg Y.2.2.2.2 I) Y.2.1 a (by rw [Wn_at ha, cln_c hk hcl.2.2.2.2.1]) hcl.1 k hkN (X.w hw) (fun _ h => h) hfin (hcl.2.2.1 k hkN) hn hfit (by rw [fln_len, ← hN]; exact hkN) hdg
    (fun H1 locs1 hP hD hS => kk H1 locs1 (Y.upd ha (Wn_set ha (by rw [cln_c hk hcl.2.2.2.2.1, ← upI_R, fln_upI hr]) (fun b hb => upR_n hb)) hP hS))
theorem n_get {C : String} {T : u_T} {N ci a idx off : Nat} {ty : Nat → FieldType} (X : XC g p s m args c cc nL own) (Y : XN g n I s H locs cells) (hcl : xCl ci C T N ty) (hk : kd a = ci) (ha : a < n) (k : Nat) (hkN : k < N) (hN : N = nF ci) (hr : rfO ci k = some off) (hf : ¬ I a k = 0) (hw : Cond.fieldLink own idx (T k).1 (T k).2.1 (T k).2.2.1 ∈ WL) (hdg : decode cc pc = .ok (.getfield idx, 3))
    (kk : W p l e R s m args below meth c H locs cells slots Q (F0 m (pc + 3) ls (.ref (gR g (a + off)) :: rest))) : W p l e R s m args below meth c H locs cells slots Q (F0 m pc ls (.ref (gR g a) :: rest)) :=
  va_get (D := gD g) X.hx X.hb X.1.2.2.2.2 hcl.2.1 X.1.2.2.2.1 X.2.1 Y.1 a (by rw [Wn_at ha, cln_c hk hcl.2.2.2.2.1]) hcl.1 k hkN (X.w hw) (fun _ h => h) (by rw [fln_get (by rw [← hN]; exact hkN), hr]; show some (flg g I a k off) = _; rw [flg, if_neg hf]) hdg kk
theorem n_iastL {a k : Nat} {i x : Int32} (X : XC g p s m args c cc nL own) (Y : XN g n I s H locs cells) (hk : kd a = 7) (ha : a < n) (hi : i.toNatClampNeg = k) (hin : vp_in i (ln a)) (hdg : decode cc pc = .ok (.iastore, 1))
    (kk : ∀ (H1 : Heap) (locs1 : List Loc), XN g n (upI I a k x) s H1 locs1 cells → W p l e R s m args below meth c H1 locs1 cells slots Q (F0 m (pc + 1) ls rest)) : W p l e R s m args below meth c H locs cells slots Q (F0 m pc ls (.int x :: .int i :: .ref (gR g a) :: rest)) := by
  subst hi
  exact va_iast (D := gD g) X.hx X.hb X.2.1 Y.1 (Wn_D X.hg Y.2.2.2.2 I) Y.2.1 a 0 (by rw [Wn_at ha, cln_i hk]) rfl hin hdg
    (fun H1 locs1 hP hD hS => kk H1 locs1 (Y.upd ha (Wn_set ha (by rw [cln_i hk, upR_s]) (fun b hb => upR_n hb)) hP hS))
theorem n_lenO {a : Nat} {v : Int32} (X : XC g p s m args c cc nL own) (Y : XN g n I s H locs cells) (hk : kd a = 9) (ha : a < n) (hv : Int32.ofNat (ln a) = v) (hdg : decode cc pc = .ok (.arraylength, 1))
    (kk : W p l e R s m args below meth c H locs cells slots Q (F0 m (pc + 1) ls (.int v :: rest))) : W p l e R s m args below meth c H locs cells slots Q (F0 m pc ls (.ref (gR g a) :: rest)) :=
  va_alen (D := gD g) X.hx X.hb X.2.1 Y.1 a 2 (by rw [Wn_at ha, cln_o hk]) rfl hv hdg kk
theorem n_lenI {a : Nat} {v : Int32} (X : XC g p s m args c cc nL own) (Y : XN g n I s H locs cells) (hk : kd a = 7) (ha : a < n) (hv : Int32.ofNat (ln a) = v) (hdg : decode cc pc = .ok (.arraylength, 1))
    (kk : W p l e R s m args below meth c H locs cells slots Q (F0 m (pc + 1) ls (.int v :: rest))) : W p l e R s m args below meth c H locs cells slots Q (F0 m pc ls (.ref (gR g a) :: rest)) :=
  va_alen (D := gD g) X.hx X.hb X.2.1 Y.1 a 0 (by rw [Wn_at ha, cln_i hk]) rfl hv hdg kk
theorem n_aast {a b k : Nat} {i : Int32} (X : XC g p s m args c cc nL own) (Y : XN g n I s H locs cells) (hk : kd a = 9) (ha : a < n) (hi : i.toNatClampNeg = k) (hb : b = el a k) (hbn : b < n) (hkb : kd b = 1) (hin : vp_in i (ln a)) (hdg : decode cc pc = .ok (.aastore, 1))
    (kk : ∀ (H1 : Heap) (locs1 : List Loc), XN g n (upI I a k 1) s H1 locs1 cells → W p l e R s m args below meth c H1 locs1 cells slots Q (F0 m (pc + 1) ls rest)) : W p l e R s m args below meth c H locs cells slots Q (F0 m pc ls (.ref (gR g b) :: .int i :: .ref (gR g a) :: rest)) := by
  subst hi
  refine va_astq (D := gD g) (r := (RX1, TX1, 15)) X.hx X.hb X.2.1 Y.1 (Wn_D X.hg Y.2.2.2.2 I) Y.2.1 a 2 b 1 (by rw [Wn_at ha, cln_o hk]) rfl (by rw [Wn_at hbn, cln_c hkb (by decide)]) rfl hin hdg
    (fun H1 locs1 hP hD hS => kk H1 locs1 (Y.upd ha (Wn_set ha ?_ (fun b hb => upR_n hb)) hP hS))
  rw [cln_o hk, upR_s]
  congr 7
  funext j
  by_cases hj : j = i.toNatClampNeg
  · subst hj
    simp [upd, va_up, hb]
  · simp [upd, va_up, hj]
theorem n_gstN {a idx : Nat} {nm host : String} (X : XC g p s m args c cc nL own) (Y : XN g n I s H locs cells) (hZ : va_Z RX5 nm "[I" (.ref (gR g a)) (gA g) s s.heap) (hw : Cond.fieldLinkNest own idx RX5 nm "[I" host ∈ NL) (hdg : decode cc pc = .ok (.getstatic idx, 3))
    (kk : W p l e R s m args below meth c H locs cells slots Q (F0 m (pc + 3) ls (.ref (gR g a) :: rest))) : W p l e R s m args below meth c H locs cells slots Q (F0 m pc ls rest) :=
  va_getsN X.hx X.hb hZ Y.2.1 X.1.2.2.2.1 (va_Nw.use rfl (X.2.2.1 _ hw)) (fun _ h => h) hdg kk
/-- arraycopy out of a table that nobody writes -/
theorem n_copyS {a b idx : Nat} {k : Int32} (X : XC g p s m args c cc nL own) (Y : XN g n I s H locs cells) (h1 : 64 ≤ a) (h2 : a < 67) (hkb : kd b = 7) (hb : b < n) (hn : ¬ k < 0) (h4 : k.toNatClampNeg ≤ 10) (h5 : k.toNatClampNeg ≤ ln b) (hl : ls.size = nL) (hw : Cond.methodLink own idx arraycopyName ∈ WL) (hR : 1 ≤ R.frames ∧ (rest.map fun v => v.category).sum + (nativeFrameWords "java/lang/System" "arraycopy" 5 + 11) ≤ R.locals) (hdg : decode cc pc = .ok (.invokestatic idx, 3))
    (kk : ∀ (H1 : Heap) (locs1 : List Loc), XN g n (upR I b (va_cpy (cS a) (I b) 0 0 k.toNatClampNeg)) s H1 locs1 cells → W p l e R s m args below meth c H1 locs1 cells slots Q (F0 m (pc + 3) ls rest)) : W p l e R s m args below meth c H locs cells slots Q (F0 m pc ls (.int k :: .int 0 :: .ref (gR g b) :: .int 0 :: .ref (gR g a) :: rest)) := by
  have z0 : (0 : Int32).toNatClampNeg = 0 := by decide
  have zI : (0 : Int32).toInt = 0 := by decide
  have kI : k.toInt = (k.toNatClampNeg : Int) := by
    have hk0 : (0 : Int) ≤ k.toInt := by
      have := Int32.le_iff_toInt_le.mp (Int32.not_lt.mp hn)
      simpa using this
    show k.toInt = ((k.toInt.toNat : Nat) : Int)
    omega
  obtain ⟨scr, hs1, ⟨hs6, k0, hk0, cm0, hkk0⟩, hs3, hs4, -, hs5, hs7⟩ := X.2.2.2.1.2 a h1 h2
  have hlt := (Array.getElem?_eq_some_iff.mp hs1).1
  have hat : (Wn g n I)[b]? = some (gR g b, .inl (gI g, ln b, .inl (I b))) := by rw [Wn_at hb, cln_i hkb]
  have hD := Wn_D X.hg Y.2.2.2.2 I
  have hc0 : H[gR g a]? = some scr := by rw [Y.2.1.2.1 _ hlt hs7]; exact hs1
  have hc1 : H[gR g b]? = some (vp_cell (gI g) (ln b, .inl (I b))) := Y.1 b _ hat
  obtain ⟨-, k1, hk1, cm1, hkk1⟩ := (X.2.1.2 0 _ rfl).1 (ln b) (fun j => .int (I b j))
  have hbl : gR g b < H.size := (Array.getElem?_eq_some_iff.mp hc1).1
  intro T hT Z
  obtain ⟨vm', Z', step⟩ := Z.arraycopy X.hx X.1.2.2.2.1 (X.w hw) (X.w wv_jcopy) (X.w wt_jcopy) (X.w wz_System) (src := gR g a) (dst := gR g b) (cs := scr) (cd := vp_cell (gI g) (ln b, .inl (I b))) (srcPos := 0) (destPos := 0) (n := k) (by rw [hT]; exact hc0) (by rw [hT]; exact hc1)
    hs6 (fun _ h => by cases h) hs3 (fun h => by cases h) hk0 hk1 hkk0 hkk1 (by simp [refKind]) (by decide) (by decide) hn
    (by rw [zI, kI]; omega)
    (by rw [zI, kI]; show ¬ _ > ((arrV (gI g) (ln b) (fun j => .int (I b j))).slots.size : Int); rw [arrV_size]; omega)
    (fun vm₁ _ i hi => by
      have e0 : scr.slots.getD ((0 : Int32).toNatClampNeg + i) .null = .int (cS a i) := by
        rw [z0, Nat.zero_add, Array.getD_eq_getD_getElem?, hs5 _ (by omega)]
        rfl
      exact ⟨by rw [e0]; rfl, by rw [e0]; exact trivial⟩)
    (g := F0 m pc ls (.int k :: .int 0 :: .ref (gR g b) :: .int 0 :: .ref (gR g a) :: rest)) rfl (by rw [X.1.2.2.1]; exact hl) (rest := rest) rfl (by rw [X.hb]; exact hdg) hR.1 (by have := hR.2; show 2 * 0 + _ + _ ≤ _; omega)
  have e1 : copied scr (vp_cell (gI g) (ln b, .inl (I b))) 0 0 k = vp_cell (gI g) (ln b, .inl (va_cpy (cS a) (I b) 0 0 k.toNatClampNeg)) := va_copiedX (fun z => .int z) scr (gI g) (cS a) (I b) hs5 (by rw [z0, Nat.zero_add]; exact h4)
  rw [e1] at Z' step
  have oq : ∀ q : Nat, q ≠ gR g b → (H.setIfInBounds (gR g b) (vp_cell (gI g) (ln b, .inl (va_cpy (cS a) (I b) 0 0 k.toNatClampNeg))))[q]? = H[q]? := fun q hq => by simp [Array.getElem?_setIfInBounds, Ne.symm hq]
  have hP := Y.1.set (e := .inl (gI g, ln b, .inl (va_cpy (cS a) (I b) 0 0 k.toNatClampNeg))) hD hat (show (H.setIfInBounds (gR g b) _)[gR g b]? = some _ by simp [Array.getElem?_setIfInBounds, hbl]) oq
  obtain ⟨t, a1, b1⟩ := kk _ _ (Y.upd hb (Wn_set hb (by rw [cln_i hkb, upR_s]) (fun q hq => upR_n hq)) hP ⟨by simp; exact Y.2.1.1, fun q g1 g2 => by
      rw [oq q (fun e => g2 (by rw [e]; exact hD.2 b _ hat))]
      exact Y.2.1.2.1 q g1 g2, fun q hq => by
      rcases List.mem_append.mp hq with h | h
      · exact Y.2.1.2.2 q h
      · obtain ⟨z, -, hz⟩ := List.mem_map.mp h
        rw [← hz]
        exact hD.2 b _ hat⟩) _ (by rw [← hT]; rfl) Z'
  exact ⟨t, step t a1, b1⟩
theorem n_vret (X : XC g p s m args c cc nL own) (hC : gC g) (Y : XN g n I s H locs cells) (hr : meth.sig.returnType = none) (hlk : meth.locks = false) (hdg : decode cc pc = .ok (.return_, 1)) :
    W p l e R s m args below meth c H locs cells slots (MQ below (xQN g n I) args s cells slots (gA g)) (F0 m pc ls []) :=
  n_sized hC X.2.2.2.2.1 Y fun hsz => W.vret X.hx X.hb hr (fun t ht hW => ⟨⟨I, rfl, trivial, rfl, by rw [ht]; exact Y.1, Y.2.2.1, by rw [ht]; exact hsz, Y.2.2.2.2⟩, Y.2.1.F ht⟩) Y.2.1.2.2 hdg hlk
variable {y : MethodName} {bytes : ByteArray} {maxL na idx n1 mc ms : Nat} {ret : Option FieldType} {rm : Room} {As : List Value} {I1 : HI}
theorem n_c {av : Array Value} (Y : XN g n I s H locs cells) (hn1 : n1 = n + mc) (hr : va_Run p l e R s m args below meth c H locs cells slots mc ms (F0 m pc ls st) rest (xQN g n1 I1 av) (gA g)) (kk : ∀ (H1 : Heap) (locs1 : List Loc), XN g n1 I1 s H1 locs1 (cells + mc) → W p l e R s m args below meth c H1 locs1 (cells + mc) (slots + ms) Q (F0 m (pc + 3) ls rest)) : W p l e R s m args below meth c H locs cells slots Q (F0 m pc ls st) :=
  va_callv hr Y.2.1 free_A (fun _ h => h) (fun u t H1 locs1 ht hvm hp hB hz hk hS => by
    obtain ⟨rfl, h1, h2, h3, h4⟩ := hB
    exact kk H1 locs1 ⟨by rw [← ht]; exact h1, hS, h2, by have := Y.2.2.2.1; omega, h4⟩)
theorem n_rI {b : Addr} (X : XC g p s m args c cc nL own) (hAO : va_AO RX1 s) (Y : XN g n I s H locs cells) (hsz : H.size = gS g + n) (k : xLI own idx y bytes maxL na) (hM : Met l y (Cond.code y bytes maxL none :: WL) rm (xPN g n (.ref b :: As) I) (xQN g n1 I1) mc ms (gA g)) (hn : As.length = na) (hrm : rm.cells = mc ∧ rm.slots = ms) (hR : rm.frames + 1 ≤ R.frames ∧ 8 + (maxL + 11) + rm.locals ≤ R.locals) (hl : ls.size = nL) (hst : st = As.reverse ++ .ref b :: rest) (hW : (rest.map fun v => v.category).sum ≤ 8) (hdg : decode cc pc = .ok (.invokespecial idx, 3)) (hcs : cells + mc ≤ R.cells ∧ slots + ms ≤ R.slots) :
    va_Run p l e R s m args below meth c H locs cells slots mc ms (F0 m pc ls st) rest (xQN g n1 I1 (Value.ref b :: As).toArray) (gA g) :=
  va_runI (As := As) (rest := rest) X.1 hM (cwI na X.1.2.2.2.2 (gi_c k.1.1) rfl hrm.1 hrm.2 (X.w k.1.2.1) (X.w k.1.2.2.1) (X.w k.1.2.2.2.1) k.1.2.2.2.2 k.2 hR) ⟨xPN_blind, Y.pre X hAO hsz⟩ rfl hn hl hst (lv_room hW) hdg hcs
theorem n_rIN {b : Addr} {host : String} (X : XC g p s m args c cc nL own) (hAO : va_AO RX1 s) (Y : XN g n I s H locs cells) (hsz : H.size = gS g + n) (k : xLIN own idx y host bytes maxL na) (hM : Met l y (Cond.code y bytes maxL none :: WL) rm (xPN g n (.ref b :: As) I) (xQN g n1 I1) mc ms (gA g)) (hn : As.length = na) (hrm : rm.cells = mc ∧ rm.slots = ms) (hR : rm.frames + 1 ≤ R.frames ∧ 8 + (maxL + 11) + rm.locals ≤ R.locals) (hl : ls.size = nL) (hst : st = As.reverse ++ .ref b :: rest) (hW : (rest.map fun v => v.category).sum ≤ 8) (hdg : decode cc pc = .ok (.invokespecial idx, 3)) (hcs : cells + mc ≤ R.cells ∧ slots + ms ≤ R.slots) :
    va_Run p l e R s m args below meth c H locs cells slots mc ms (F0 m pc ls st) rest (xQN g n1 I1 (Value.ref b :: As).toArray) (gA g) :=
  va_runIN (As := As) (rest := rest) X.1 hM ⟨va_cnB na X.1.2.2.2.2 (gi_c k.1.1) rfl hrm.1 hrm.2 (X.2.2.1 _ k.1.2.2.1) (X.w k.1.2.1) k.2 hR, k.1.2.2.2.2, X.w k.1.2.2.2.1⟩ ⟨xPN_blind, Y.pre X hAO hsz⟩ rfl hn hl hst (lv_room hW) hdg hcs
theorem n_rSN {host : String} (X : XC g p s m args c cc nL own) (hAO : va_AO RX1 s) (Y : XN g n I s H locs cells) (hsz : H.size = gS g + n) (k : xLSN own idx y host bytes maxL none na) (hM : Met l y (Cond.code y bytes maxL none :: WL) rm (xPN g n As I) (xQN g n1 I1) mc ms (gA g)) (hn : As.length = na) (hrm : rm.cells = mc ∧ rm.slots = ms) (hR : rm.frames + 1 ≤ R.frames ∧ 8 + (maxL + 11) + rm.locals ≤ R.locals) (hl : ls.size = nL) (hst : st = As.reverse ++ rest) (hW : (rest.map fun v => v.category).sum ≤ 8) (hdg : decode cc pc = .ok (.invokestatic idx, 3)) (hcs : cells + mc ≤ R.cells ∧ slots + ms ≤ R.slots) :
    va_Run p l e R s m args below meth c H locs cells slots mc ms (F0 m pc ls st) rest (xQN g n1 I1 As.toArray) (gA g) :=
  va_runSN (As := As) (rest := rest) X.1 hM ⟨va_cnB na X.1.2.2.2.2 (gi_c k.1.1) rfl hrm.1 hrm.2 (X.2.2.1 _ k.1.2.2.1) (X.w k.1.2.1) k.2 hR, X.w k.1.2.2.2, trivial⟩ ⟨xPN_blind, Y.pre X hAO hsz⟩ rfl hn hl hst (lv_room hW) hdg hcs
end XM2
