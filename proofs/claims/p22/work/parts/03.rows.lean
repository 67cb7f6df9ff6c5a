/-! ===== the layout: the cells of the whole system, by the order in which they are made; refs never change ===== -/
abbrev GX : Type := (Nat → ClassId) × (Nat → Nat → Nat) × ClassId × ClassId × ClassId × (Nat → Nat) × Nat
abbrev HI : Type := Nat → Nat → Int32
def gD (g : GX) : va_G := (g.1, g.2.1)
def gI (g : GX) : ClassId := g.2.2.1
def gZ (g : GX) : ClassId := g.2.2.2.1
def gO (g : GX) : ClassId := g.2.2.2.2.1
def gR (g : GX) : Nat → Nat := g.2.2.2.2.2.1
def gS (g : GX) : Nat := g.2.2.2.2.2.2
def gT (g : GX) : List (ClassId × FieldType) := [(gI g, .int), (gZ g, .boolean), (gO g, .object RX1)]
def gA (g : GX) : Nat → Prop := fun q => gS g ≤ q ∧ q < gS g + 57
def gOk (g : GX) : Prop := (∀ a b : Nat, a < 57 → b < 57 → gR g a = gR g b → a = b) ∧ ∀ a : Nat, a < 57 → gA g (gR g a)
def upI (I : HI) (a k : Nat) (v : Int32) : HI := fun b => if b = a then upd (I a) k v else I b
def upR (I : HI) (a : Nat) (f : Nat → Int32) : HI := fun b => if b = a then f else I b
theorem upR_s {I : HI} {a : Nat} {f : Nat → Int32} : upR I a f a = f := if_pos rfl
theorem upR_n {I : HI} {a b : Nat} {f : Nat → Int32} (h : b ≠ a) : upR I a f b = I b := if_neg h
theorem upI_s {I : HI} {a k : Nat} {v : Int32} : upI I a k v a = upd (I a) k v := if_pos rfl
theorem upI_n {I : HI} {a b k : Nat} {v : Int32} (h : b ≠ a) : upI I a k v b = I b := if_neg h
theorem upI_R (I : HI) (a k : Nat) (v : Int32) : upI I a k v = upR I a (upd (I a) k v) := rfl
/-- kinds: 0 to 6 the classes of vwCl, 7 int rows, 8 boolean rows, 9 rows of Memory -/
def kdL : List Nat := [5, 1, 7, 7, 3, 7, 0, 9, 1, 7, 7, 3, 7, 1, 7, 7, 3, 7, 1, 7, 7, 3, 7, 1, 7, 7, 3, 7, 1, 7, 7, 3, 7, 1, 7, 7, 3, 7, 4, 9, 8, 1, 7, 7, 3, 7, 1, 7, 7, 3, 7, 2, 7, 7, 7, 7, 7, 10, 10, 10, 10, 10, 10, 10]
def lnL : List Nat := [0, 0, 10, 400, 0, 24, 0, 6, 0, 10, 400, 0, 24, 0, 10, 400, 0, 24, 0, 10, 400, 0, 24, 0, 10, 400, 0, 24, 0, 10, 400, 0, 24, 0, 10, 400, 0, 24, 0, 2, 2, 0, 10, 400, 0, 24, 0, 10, 400, 0, 24, 0, 80, 80, 80, 80, 80, 0, 0, 0, 0, 0, 0, 0, 10, 10, 10]
def kd (a : Nat) : Nat := kdL.getD a 99
def ln (a : Nat) : Nat := lnL.getD a 0
def el (a j : Nat) : Nat := (if a = 7 then 8 else 41) + 5 * j
def fld (g : GX) (I : HI) (a : Nat) : Nat → List Value
  | 0 => [.ref (gR g (a + 1)), .int (I a 1), .int (I a 2)]
  | 1 => [.ref (gR g (a + 1)), .ref (gR g (a + 2)), .ref (gR g (a + 3)), .int (I a 3), .int (I a 4), .int (I a 5), .int (I a 6), .int (I a 7), .int (I a 8), .int (I a 9), .int (I a 10), .int (I a 11), .int (I a 12), .int (I a 13), .int (I a 14)]
  | 2 => [.ref (gR g (a + 1)), .int (I a 1), .ref (gR g (a + 2)), .ref (gR g (a + 3)), .ref (gR g (a + 4)), .ref (gR g (a + 5)), .int (I a 6), .int (I a 7), .int (I a 8)]
  | 3 => [.ref (gR g (a + 1)), .int (I a 1)]
  | 4 => [.ref (gR g (a + 1)), .ref (gR g (a + 2))]
  | 5 => [.ref (gR g (a + 1)), .ref (gR g (a + 6)), .ref (gR g (a + 38)), .ref (gR g (a + 51))]
  | _ => []
def cel (g : GX) (I : HI) (a : Nat) : va_E :=
  if kd a < 7 then .inr (kd a, fld g I a (kd a)) else if kd a = 7 then .inl (gI g, ln a, .inl (I a)) else if kd a = 8 then .inl (gZ g, ln a, .inl (I a)) else .inl (gO g, ln a, .inr (.inr (.inr (.inr (fun j => some (gR g (el a j)))))))
def Wd (g : GX) (I : HI) : va_W := (List.range 57).map (fun a => (gR g a, cel g I a))
theorem Wd_at {g : GX} {I : HI} {a : Nat} (h : a < 57) : (Wd g I)[a]? = some (gR g a, cel g I a) := by simp [Wd, h]
theorem Wd_at' {g : GX} {I : HI} {k : Nat} {q : Nat × va_E} (h : (Wd g I)[k]? = some q) : k < 57 ∧ q = (gR g k, cel g I k) := by
  have hk : k < 57 := by
    have := (List.getElem?_eq_some_iff.mp h).1
    simpa [Wd] using this
  rw [Wd_at hk] at h
  exact ⟨hk, (Option.some.inj h).symm⟩
theorem cel_c {g : GX} {I : HI} {a ci : Nat} (h : kd a = ci) (h7 : ci < 7) : cel g I a = .inr (ci, fld g I a ci) := by
  subst h
  simp [cel, h7]
theorem cel_i {g : GX} {I : HI} {a : Nat} (h : kd a = 7) : cel g I a = .inl (gI g, ln a, .inl (I a)) := by simp [cel, h]
theorem cel_z {g : GX} {I : HI} {a : Nat} (h : kd a = 8) : cel g I a = .inl (gZ g, ln a, .inl (I a)) := by simp [cel, h]
theorem cel_o {g : GX} {I : HI} {a : Nat} (h : kd a = 9) : cel g I a = .inl (gO g, ln a, .inr (.inr (.inr (.inr (fun j => some (gR g (el a j))))))) := by simp [cel, h]
theorem fld_row {g : GX} {I J : HI} {a : Nat} (h : I a = J a) (ci : Nat) : fld g I a ci = fld g J a ci := by
  match ci with
  | 0 => simp [fld, h]
  | 1 => simp [fld, h]
  | 2 => simp [fld, h]
  | 3 => simp [fld, h]
  | 4 => simp [fld]
  | 5 => simp [fld]
  | n + 6 => simp [fld]
theorem cel_row {g : GX} {I J : HI} {a : Nat} (h : I a = J a) : cel g I a = cel g J a := by
  unfold cel
  rw [fld_row h, h]
theorem Wd_set {g : GX} {I J : HI} {a : Nat} {e : va_E} (ha : a < 57) (h1 : cel g J a = e) (h2 : ∀ b : Nat, b ≠ a → J b = I b) : (Wd g I).set a (gR g a, e) = Wd g J := by
  apply List.ext_getElem?
  intro k
  rw [List.getElem?_set]
  by_cases hk : a = k
  · subst hk
    rw [show (Wd g J)[a]? = _ from Wd_at ha, h1]
    simp [Wd, ha]
  · rw [if_neg hk]
    by_cases h64 : k < 57
    · rw [Wd_at h64, Wd_at h64, cel_row (h2 k (fun e => hk e.symm))]
    · rw [List.getElem?_eq_none (by simp [Wd]; omega), List.getElem?_eq_none (by simp [Wd]; omega)]
theorem Wd_D {g : GX} (hg : gOk g) (I : HI) : va_D (gA g) (Wd g I) := by
  refine ⟨fun i j p q hi hj e => ?_, fun k q hk => ?_⟩
  · obtain ⟨h1, rfl⟩ := Wd_at' hi
    obtain ⟨h2, rfl⟩ := Wd_at' hj
    exact hg.1 i j h1 h2 e
  · obtain ⟨h1, rfl⟩ := Wd_at' hk
    exact hg.2 k h1
/-- the places of a class that hold numbers -/
def inF : Nat → Nat → Bool
  | 0, k => k == 1 || k == 2
  | 1, k => decide (3 ≤ k) && decide (k < 15)
  | 2, k => k == 1 || (decide (6 ≤ k) && decide (k < 9))
  | 3, k => k == 1
  | _, _ => false
theorem lt15 {P : Nat → Prop} (h : P 0 ∧ P 1 ∧ P 2 ∧ P 3 ∧ P 4 ∧ P 5 ∧ P 6 ∧ P 7 ∧ P 8 ∧ P 9 ∧ P 10 ∧ P 11 ∧ P 12 ∧ P 13 ∧ P 14) : ∀ k, k < 15 → P k := by
  intro k hk
  obtain ⟨h0, h1, h2, h3, h4, h5, h6, h7, h8, h9, h10, h11, h12, h13, h14⟩ := h
  match k, hk with
  | 0, _ => exact h0
  | 1, _ => exact h1
  | 2, _ => exact h2
  | 3, _ => exact h3
  | 4, _ => exact h4
  | 5, _ => exact h5
  | 6, _ => exact h6
  | 7, _ => exact h7
  | 8, _ => exact h8
  | 9, _ => exact h9
  | 10, _ => exact h10
  | 11, _ => exact h11
  | 12, _ => exact h12
  | 13, _ => exact h13
  | 14, _ => exact h14
  | k + 15, h => exact absurd h (by omega)
theorem inF_lt : ∀ ci k : Nat, inF ci k = true → ci < 7 ∧ k < 15 := by
  intro ci k h
  match ci, h with
  | 0, h => simp [inF] at h; omega
  | 1, h => simp [inF] at h; omega
  | 2, h => simp [inF] at h; omega
  | 3, h => simp [inF] at h; omega
  | 4, h => simp [inF] at h
  | 5, h => simp [inF] at h
  | n + 6, h => simp [inF] at h
theorem fld_up {g : GX} {I : HI} {a ci k : Nat} (h : inF ci k = true) (v : Int32) : fld g (upI I a k v) a ci = (fld g I a ci).set k (.int v) := by
  obtain ⟨h7, h15⟩ := inF_lt ci k h
  rcases (show ci = 0 ∨ ci = 1 ∨ ci = 2 ∨ ci = 3 ∨ ci = 4 ∨ ci = 5 ∨ ci = 6 by omega) with rfl | rfl | rfl | rfl | rfl | rfl | rfl <;>
    (revert h; refine lt15 (P := fun k => inF _ k = true → fld g (upI I a k v) a _ = (fld g I a _).set k (.int v)) ?_ k h15; refine ⟨?_, ?_, ?_, ?_, ?_, ?_, ?_, ?_, ?_, ?_, ?_, ?_, ?_, ?_, ?_⟩ <;> intro h <;> first | (exact absurd h (by decide)) | simp [fld, upI, upd])
theorem fld_get {g : GX} {I : HI} {a ci k : Nat} (h : inF ci k = true) : (fld g I a ci)[k]? = some (.int (I a k)) := by
  obtain ⟨h7, h15⟩ := inF_lt ci k h
  rcases (show ci = 0 ∨ ci = 1 ∨ ci = 2 ∨ ci = 3 ∨ ci = 4 ∨ ci = 5 ∨ ci = 6 by omega) with rfl | rfl | rfl | rfl | rfl | rfl | rfl <;>
    (revert h; refine lt15 (P := fun k => inF _ k = true → (fld g I a _)[k]? = some (.int (I a k))) ?_ k h15; refine ⟨?_, ?_, ?_, ?_, ?_, ?_, ?_, ?_, ?_, ?_, ?_, ?_, ?_, ?_, ?_⟩ <;> intro h <;> first | (exact absurd h (by decide)) | rfl)
/-! ===== what stands at every place of a method: the tables, the classes, the tables of numbers that nobody writes ===== -/
def cS (a j : Nat) : Int32 := if a = 64 then [0, 0, 2, -20, 20, 8, 2, 4, 4, 0].getD j 0 else if a = 65 then [0, -100, 0, -100, -100, 1, 0, 0, 1, 0].getD j 0 else [2, 100, 50, 100, 100, 32, 31, 60, 6, 1].getD j 0
def stC (I : HI) : Prop := ∀ a : Nat, 64 ≤ a → a < 67 → I a = cS a
theorem stC_up {I : HI} {a : Nat} {f : Nat → Int32} (h : stC I) (ha : a < 57) : stC (upR I a f) := fun b h1 h2 => (upR_n (by omega)).trans (h b h1 h2)
def xK (g : GX) (U : State) : Prop := va_K (gD g) vwCl (gT g) U
def xN (U : State) : Prop := ∀ w ∈ NL, va_Nw w U
def xT (g : GX) (U : State) (H : Heap) : Prop := (va_Z RX5 "FIRST_OF_SETTING" "[I" (.ref (gR g 64)) (gA g) U H ∧ va_Z RX5 "LEAST_OF_SETTING" "[I" (.ref (gR g 65)) (gA g) U H ∧ va_Z RX5 "GREATEST_OF_SETTING" "[I" (.ref (gR g 66)) (gA g) U H) ∧ ∀ a : Nat, 64 ≤ a → a < 67 → va_T .int (gR g a) 10 (fun j => .int (cS a j)) (gA g) U H
theorem xK.moved {g : GX} {u U : State} (h : xK g u) (hvm : u.vm.Alike U.vm) : xK g U := va_K.moved hvm h
theorem xT.moved {g : GX} {u U : State} {H : Heap} (h : xT g u H) (hvm : u.vm.Alike U.vm) : xT g U H := ⟨⟨va_Z.moved hvm h.1.1, va_Z.moved hvm h.1.2.1, va_Z.moved hvm h.1.2.2⟩, fun a h1 h2 => va_T.moved hvm (h.2 a h1 h2)⟩
theorem xT.kept {g : GX} {U : State} {H H1 : Heap} (h : xT g U H) (hq : ∀ a : Nat, a < H.size → ¬ gA g a → H1[a]? = H[a]?) : xT g U H1 := ⟨⟨h.1.1.kept hq, h.1.2.1.kept hq, h.1.2.2.kept hq⟩, fun a h1 h2 => (h.2 a h1 h2).kept hq⟩
theorem xN_warm {s U : State} (h : xN s) (hW : s.WarmedH U.vm) : xN U := by
  intro w hw
  have h1 := h w hw
  have hn := (List.mem_filter.mp hw).2
  match w, hn, h1 with
  | .fieldLinkNest _ _ _ _ _ _, _, h1 => exact va_Nw.warmF hW h1
  | .methodLinkNest _ _ _ _, _, h1 => exact va_Nw.warmM hW h1
theorem xN_same {s U : State} (h : xN s) (hvm : s.vm = U.vm) : xN U := by
  intro w hw
  have h1 := h w hw
  have hn := (List.mem_filter.mp hw).2
  match w, hn, h1 with
  | .fieldLinkNest _ _ _ _ _ _, _, h1 => exact va_Nw.same rfl hvm h1
  | .methodLinkNest _ _ _ _, _, h1 => exact va_Nw.same rfl hvm h1
def xW (g : GX) (I : HI) (U : State) : Prop := va_P (gD g) vwCl (Wd g I) U.heap ∧ xK g U ∧ xN U ∧ xT g U U.heap ∧ gS g ≤ U.heap.size ∧ stC I
def xP (g : GX) (av : List Value) (I : HI) : Array Value → State → Prop := va_Pc av (xW g I)
theorem xP_blind {g : GX} {av : List Value} {I : HI} : FrameBlind (xP g av I) := fun a U f mk q => by
  obtain ⟨q0, q1, q2, q3, q4, q5, q6⟩ := q
  exact ⟨q0, q1, q2.moved (Vm.Alike.refl U.vm), xN_same q3 rfl, q4.moved (Vm.Alike.refl U.vm), q5, q6⟩
def xB (g : GX) (I1 : HI) (u : HI) (t : State) : Prop := u = I1 ∧ va_P (gD g) vwCl (Wd g u) t.heap ∧ stC u
def xQi (g : GX) (r : Int32) (I1 : HI) : Array Value → State → Outcome → State → Prop := va_Qi (fun r1 (_ : HI) => r1 = r) (xB g I1) (gA g)
def xQv (g : GX) (I1 : HI) : Array Value → State → Outcome → State → Prop := va_Qv (fun _ : HI => True) (xB g I1) (gA g)
def xQr (g : GX) (a : Nat) (I1 : HI) : Array Value → State → Outcome → State → Prop := va_Qr (fun _ : HI => True) (fun u b t => b = gR g a ∧ xB g I1 u t) (gA g)
def XC (g : GX) (p : Program) (s : State) (m : MethodId) (args : Array Value) (c : Code) (cc : ByteArray) (nL : Nat) (own : String) : Prop := CallFix p m c cc nL s args WL own ∧ xK g s ∧ xN s ∧ xT g s s.heap ∧ gS g ≤ s.heap.size ∧ gOk g
def XD (g : GX) (I : HI) (s : State) (H : Heap) (locs : List Loc) : Prop := va_P (gD g) vwCl (Wd g I) H ∧ va_S (gA g) s.heap H locs ∧ stC I
theorem ite_t {c : Prop} [Decidable c] {α : Type} {a b x : α} (h : c) (e : (if c then a else b) = x) : a = x := by rw [if_pos h] at e; exact e
theorem ite_f {c : Prop} [Decidable c] {α : Type} {a b x : α} (h : ¬ c) (e : (if c then a else b) = x) : b = x := by rw [if_neg h] at e; exact e
theorem oob_t {c : Prop} [Decidable c] {α : Type} {b : Option α} {x : α} (e : (if c then none else b) = some x) : ¬ c ∧ b = some x := by
  by_cases h : c
  · rw [if_pos h] at e; cases e
  · rw [if_neg h] at e; exact ⟨h, e⟩
theorem bnd_t {α β : Type} {o : Option α} {k : α → Option β} {x : β} (e : o.bind k = some x) : ∃ q, o = some q ∧ k q = some x := by
  cases o with
  | none => cases e
  | some q => exact ⟨q, rfl, e⟩
theorem sm_t {x y : Int32 × HI} (e : some x = some y) : x.1 = y.1 ∧ x.2 = y.2 := by cases e; exact ⟨rfl, rfl⟩
section XR
variable {g : GX} {I I1 : HI} {p : Program} {l : Launch} {e : Env} {R : Room} {s : State} {m : MethodId} {args : Array Value} {below : List Frame} {meth : Method} {c : Code} {H : Heap} {locs : List Loc} {cells slots : Nat} {Q : State → Prop}
variable {cc : ByteArray} {nL : Nat} {own : String} {pc : Nat} {ls : Array Slot} {rest : List Value}
theorem XC.hx (X : XC g p s m args c cc nL own) : p.tables.exec = Jvm.exec := X.1.1
theorem XC.hb (X : XC g p s m args c cc nL own) : c.code = cc := X.1.2.1
theorem XC.w (X : XC g p s m args c cc nL own) {w : Cond} (h : w ∈ WL) : w.before args s = true := X.1.2.2.2.2 w h
theorem XC.hg (X : XC g p s m args c cc nL own) : gOk g := X.2.2.2.2.2
theorem x_met {y : MethodName} {maxL : Nat} {ret : Option FieldType} {rm : Room} {av : List Value} {Qc : Array Value → State → Outcome → State → Prop} (hy : plainName y.cls = true) (hg : gOk g) (hlen : (lg_sl av).length ≤ maxL)
    (body : ∀ (p : Program) (e : Env) (s : State) (m : MethodId) (args : Array Value) (below : List Frame) (meth : Method) (c : Code), XC g p s m args c cc maxL y.cls → meth.sig.returnType = ret → meth.locks = false → XD g I s s.heap [] → ∀ ls : Array Slot, lv_has ls maxL (lv_args 0 av) → W p l e rm s m args below meth c s.heap [] 0 0 (MQ below Qc args s 0 0 (gA g)) (F0 m 0 ls [])) :
    Met l y (Cond.code y cc maxL ret :: WL) rm (xP g av I) Qc 0 0 (gA g) := by
  refine Met.ofW (cc := cc) (maxL := maxL) (ret := ret) hy rfl ?_
  intro p e s m args below meth c s₁ B hml hv
  obtain ⟨rfl, hP, hK, hN, hT, hs, hC⟩ := hv
  have hts := atoms_spec (ws := Cond.code y cc maxL ret :: WL) B.pre
  rw [lg_entry_eq]
  exact body p e s m _ below meth c ⟨⟨B.exec, B.bytes, hml, findClass_of_methodNamed B.named, fun w h => hts w (List.mem_cons_of_mem _ h)⟩, hK, hN, hT, hs, hg⟩ B.returns B.notSynchronized ⟨hP, va_S.rf, hC⟩ _ (lv_entry av hlen)
theorem XD.pre (X : XC g p s m args c cc nL own) (Y : XD g I s H locs) {av : List Value} : ∀ U : State, U.heap = H → s.WarmedH U.vm → xP g av I av.toArray U := fun U hU hW => ⟨rfl, by rw [hU]; exact Y.1, X.2.1.moved hW.alike, xN_warm X.2.2.1 hW, by
    rw [hU]
    exact (X.2.2.2.1.kept fun a h1 h2 => Y.2.1.2.1 a h1 h2).moved hW.alike, by rw [hU]; exact Nat.le_trans X.2.2.2.2.1 Y.2.1.1, Y.2.2⟩
theorem XD.upd (Y : XD g I s H locs) {a : Nat} {f : Nat → Int32} (ha : a < 57) {ws : va_W} {H1 : Heap} {locs1 : List Loc} (hw : ws = Wd g (upR I a f)) (hP : va_P (gD g) vwCl ws H1) (hS : va_S (gA g) s.heap H1 locs1) : XD g (upR I a f) s H1 locs1 := ⟨by rw [← hw]; exact hP, hS, stC_up Y.2.2 ha⟩
/-! fields -/
abbrev xCl (ci : Nat) (C : String) (T : u_T) (N : Nat) (ty : Nat → FieldType) : Prop := vwCl[ci]? = some (C, T, N) ∧ (∀ w ∈ u_ws C T N, w ∈ WL) ∧ (∀ k, k < N → parseFieldDescriptor (T k).2.2.1 = some (ty k)) ∧ (∀ a, a < N → ∀ b, b < N → a ≠ b → (T a).2.1 ≠ (T b).2.1) ∧ ci < 7 ∧ N ≤ 15
theorem x_get {C : String} {T : u_T} {N ci a idx : Nat} {ty : Nat → FieldType} {v : Value} (X : XC g p s m args c cc nL own) (Y : XD g I s H locs) (hcl : xCl ci C T N ty) (hk : kd a = ci) (ha : a < 57) (k : Nat) (hkN : k < N) (hw : Cond.fieldLink own idx (T k).1 (T k).2.1 (T k).2.2.1 ∈ WL) (hv : (fld g I a ci)[k]? = some v) (hdg : decode cc pc = .ok (.getfield idx, 3))
    (kk : W p l e R s m args below meth c H locs cells slots Q (F0 m (pc + 3) ls (v :: rest))) : W p l e R s m args below meth c H locs cells slots Q (F0 m pc ls (.ref (gR g a) :: rest)) :=
  va_get (D := gD g) X.hx X.hb X.1.2.2.2.2 hcl.2.1 X.1.2.2.2.1 X.2.1 Y.1 a (by rw [Wd_at ha, cel_c hk hcl.2.2.2.2.1]) hcl.1 k hkN (X.w hw) (fun _ h => h) hv hdg kk
theorem x_getN {C : String} {T : u_T} {N ci a idx : Nat} {ty : Nat → FieldType} {v : Value} {host : String} (X : XC g p s m args c cc nL own) (Y : XD g I s H locs) (hcl : xCl ci C T N ty) (hk : kd a = ci) (ha : a < 57) (k : Nat) (hkN : k < N) (hw : Cond.fieldLinkNest own idx (T k).1 (T k).2.1 (T k).2.2.1 host ∈ NL) (hv : (fld g I a ci)[k]? = some v) (hdg : decode cc pc = .ok (.getfield idx, 3))
    (kk : W p l e R s m args below meth c H locs cells slots Q (F0 m (pc + 3) ls (v :: rest))) : W p l e R s m args below meth c H locs cells slots Q (F0 m pc ls (.ref (gR g a) :: rest)) :=
  va_getN (D := gD g) X.hx X.hb X.1.2.2.2.2 hcl.2.1 X.1.2.2.2.1 X.2.1 Y.1 a (by rw [Wd_at ha, cel_c hk hcl.2.2.2.2.1]) hcl.1 k hkN (va_Nw.use rfl (X.2.2.1 _ hw)) (fun _ h => h) hv hdg kk
theorem x_geti {C : String} {T : u_T} {N ci a idx : Nat} {ty : Nat → FieldType} (X : XC g p s m args c cc nL own) (Y : XD g I s H locs) (hcl : xCl ci C T N ty) (hk : kd a = ci) (ha : a < 57) (k : Nat) (hkN : k < N) (hin : inF ci k = true) (hw : Cond.fieldLink own idx (T k).1 (T k).2.1 (T k).2.2.1 ∈ WL) (hdg : decode cc pc = .ok (.getfield idx, 3))
    (kk : W p l e R s m args below meth c H locs cells slots Q (F0 m (pc + 3) ls (.int (I a k) :: rest))) : W p l e R s m args below meth c H locs cells slots Q (F0 m pc ls (.ref (gR g a) :: rest)) :=
  x_get X Y hcl hk ha k hkN hw (fld_get hin) hdg kk
theorem x_getiN {C : String} {T : u_T} {N ci a idx : Nat} {ty : Nat → FieldType} {host : String} (X : XC g p s m args c cc nL own) (Y : XD g I s H locs) (hcl : xCl ci C T N ty) (hk : kd a = ci) (ha : a < 57) (k : Nat) (hkN : k < N) (hin : inF ci k = true) (hw : Cond.fieldLinkNest own idx (T k).1 (T k).2.1 (T k).2.2.1 host ∈ NL) (hdg : decode cc pc = .ok (.getfield idx, 3))
    (kk : W p l e R s m args below meth c H locs cells slots Q (F0 m (pc + 3) ls (.int (I a k) :: rest))) : W p l e R s m args below meth c H locs cells slots Q (F0 m pc ls (.ref (gR g a) :: rest)) :=
  x_getN X Y hcl hk ha k hkN hw (fld_get hin) hdg kk
theorem fld_len {ci : Nat} {C : String} {T : u_T} {N a k : Nat} {ty : Nat → FieldType} (h : xCl ci C T N ty) (hin : inF ci k = true) : k < (fld g I a ci).length := by
  have := fld_get (g := g) (I := I) (a := a) hin
  exact (List.getElem?_eq_some_iff.mp this).1
theorem x_put {C : String} {T : u_T} {N ci a idx : Nat} {ty : Nat → FieldType} {v : Int32} (X : XC g p s m args c cc nL own) (Y : XD g I s H locs) (hcl : xCl ci C T N ty) (hk : kd a = ci) (ha : a < 57) (k : Nat) (hkN : k < N) (hin : inF ci k = true) (hw : Cond.fieldLink own idx (T k).1 (T k).2.1 (T k).2.2.1 ∈ WL) (hfin : (T k).2.2.2 = false) (hn : narrow (ty k) (.int v) = .int v) (hfit : fits (ty k) (.int v) = true) (hdg : decode cc pc = .ok (.putfield idx, 3))
    (kk : ∀ (H1 : Heap) (locs1 : List Loc), XD g (upI I a k v) s H1 locs1 → W p l e R s m args below meth c H1 locs1 cells slots Q (F0 m (pc + 3) ls rest)) : W p l e R s m args below meth c H locs cells slots Q (F0 m pc ls (.int v :: .ref (gR g a) :: rest)) :=
  va_put (D := gD g) X.hx X.hb X.1.2.2.2.2 hcl.2.1 ty hcl.2.2.1 hcl.2.2.2.1 X.1.2.2.2.1 X.2.1 Y.1 (Wd_D X.hg I) Y.2.1 a (by rw [Wd_at ha, cel_c hk hcl.2.2.2.2.1]) hcl.1 k hkN (X.w hw) (fun _ h => h) hfin (hcl.2.2.1 k hkN) hn hfit (fld_len hcl hin) hdg
    (fun H1 locs1 hP hD hS => kk H1 locs1 (Y.upd ha (Wd_set ha (by rw [cel_c hk hcl.2.2.2.2.1, ← upI_R, fld_up hin]) (fun b hb => upR_n hb)) hP hS))
theorem x_putN {C : String} {T : u_T} {N ci a idx : Nat} {ty : Nat → FieldType} {v : Int32} {host : String} (X : XC g p s m args c cc nL own) (Y : XD g I s H locs) (hcl : xCl ci C T N ty) (hk : kd a = ci) (ha : a < 57) (k : Nat) (hkN : k < N) (hin : inF ci k = true) (hw : Cond.fieldLinkNest own idx (T k).1 (T k).2.1 (T k).2.2.1 host ∈ NL) (hfin : (T k).2.2.2 = false) (hn : narrow (ty k) (.int v) = .int v) (hfit : fits (ty k) (.int v) = true) (hdg : decode cc pc = .ok (.putfield idx, 3))
    (kk : ∀ (H1 : Heap) (locs1 : List Loc), XD g (upI I a k v) s H1 locs1 → W p l e R s m args below meth c H1 locs1 cells slots Q (F0 m (pc + 3) ls rest)) : W p l e R s m args below meth c H locs cells slots Q (F0 m pc ls (.int v :: .ref (gR g a) :: rest)) :=
  va_putN (D := gD g) X.hx X.hb X.1.2.2.2.2 hcl.2.1 ty hcl.2.2.1 hcl.2.2.2.1 X.1.2.2.2.1 X.2.1 Y.1 (Wd_D X.hg I) Y.2.1 a (by rw [Wd_at ha, cel_c hk hcl.2.2.2.2.1]) hcl.1 k hkN (va_Nw.use rfl (X.2.2.1 _ hw)) (fun _ h => h) hfin (hcl.2.2.1 k hkN) hn hfit (fld_len hcl hin) hdg
    (fun H1 locs1 hP hD hS => kk H1 locs1 (Y.upd ha (Wd_set ha (by rw [cel_c hk hcl.2.2.2.2.1, ← upI_R, fld_up hin]) (fun b hb => upR_n hb)) hP hS))
/-! rows -/
theorem x_ildD {a : Nat} {i : Int32} (X : XC g p s m args c cc nL own) (Y : XD g I s H locs) (hk : kd a = 7) (ha : a < 57) (hin : vp_in i (ln a)) (hdg : decode cc pc = .ok (.iaload, 1))
    (kk : W p l e R s m args below meth c H locs cells slots Q (F0 m (pc + 1) ls (.int (I a i.toNatClampNeg) :: rest))) : W p l e R s m args below meth c H locs cells slots Q (F0 m pc ls (.int i :: .ref (gR g a) :: rest)) :=
  va_iald (D := gD g) X.hx X.hb X.2.1 Y.1 a 0 (by rw [Wd_at ha, cel_i hk]) rfl hin hdg kk
theorem x_ildS {a : Nat} {i : Int32} (X : XC g p s m args c cc nL own) (Y : XD g I s H locs) (h1 : 64 ≤ a) (h2 : a < 67) (hin : vp_in i 10) (hdg : decode cc pc = .ok (.iaload, 1))
    (kk : W p l e R s m args below meth c H locs cells slots Q (F0 m (pc + 1) ls (.int (I a i.toNatClampNeg) :: rest))) : W p l e R s m args below meth c H locs cells slots Q (F0 m pc ls (.int i :: .ref (gR g a) :: rest)) :=
  va_ti X.hx X.hb (X.2.2.2.1.2 a h1 h2) Y.2.1 hin (v := .int (I a i.toNatClampNeg)) (by rw [Y.2.2 a h1 h2]) hdg kk
def isI (a : Nat) : Bool := (kd a == 7 && decide (a < 57)) || (decide (64 ≤ a) && decide (a < 67))
def isD (a : Nat) : Bool := kd a == 7 && decide (a < 57)
theorem isI_s {a : Nat} (h : isI a = true) : (kd a = 7 ∧ a < 57) ∨ (64 ≤ a ∧ a < 67 ∧ ln a = 10) := by
  simp only [isI, Bool.or_eq_true, Bool.and_eq_true, beq_iff_eq, decide_eq_true_eq] at h
  rcases h with h | h
  · exact Or.inl h
  · refine Or.inr ⟨h.1, h.2, ?_⟩
    rcases (show a = 64 ∨ a = 65 ∨ a = 66 by omega) with rfl | rfl | rfl <;> rfl
theorem isD_s {a : Nat} (h : isD a = true) : kd a = 7 ∧ a < 57 := by
  simpa only [isD, Bool.and_eq_true, beq_iff_eq, decide_eq_true_eq] using h
theorem x_iald {a : Nat} {i : Int32} (X : XC g p s m args c cc nL own) (Y : XD g I s H locs) (h : isI a = true) (hin : ¬ (i < 0 ∨ ln a ≤ i.toNatClampNeg)) (hdg : decode cc pc = .ok (.iaload, 1))
    (kk : W p l e R s m args below meth c H locs cells slots Q (F0 m (pc + 1) ls (.int (I a i.toNatClampNeg) :: rest))) : W p l e R s m args below meth c H locs cells slots Q (F0 m pc ls (.int i :: .ref (gR g a) :: rest)) := by
  rcases isI_s h with ⟨h1, h2⟩ | ⟨h1, h2, h3⟩
  · exact x_ildD X Y h1 h2 hin hdg kk
  · exact x_ildS X Y h1 h2 (by rw [← h3]; exact hin) hdg kk
theorem x_ialdL {a k : Nat} {i : Int32} (X : XC g p s m args c cc nL own) (Y : XD g I s H locs) (hk : kd a = 7) (ha : a < 57) (hi : i.toNatClampNeg = k) (hin : vp_in i (ln a)) (hdg : decode cc pc = .ok (.iaload, 1))
    (kk : W p l e R s m args below meth c H locs cells slots Q (F0 m (pc + 1) ls (.int (I a k) :: rest))) : W p l e R s m args below meth c H locs cells slots Q (F0 m pc ls (.int i :: .ref (gR g a) :: rest)) :=
  x_ildD X Y hk ha hin hdg (by rw [hi]; exact kk)
theorem x_iast {a : Nat} {i x : Int32} (X : XC g p s m args c cc nL own) (Y : XD g I s H locs) (h : isD a = true) (hin : ¬ (i < 0 ∨ ln a ≤ i.toNatClampNeg)) (hdg : decode cc pc = .ok (.iastore, 1))
    (kk : ∀ (H1 : Heap) (locs1 : List Loc), XD g (upI I a i.toNatClampNeg x) s H1 locs1 → W p l e R s m args below meth c H1 locs1 cells slots Q (F0 m (pc + 1) ls rest)) : W p l e R s m args below meth c H locs cells slots Q (F0 m pc ls (.int x :: .int i :: .ref (gR g a) :: rest)) := by
  obtain ⟨hk, ha⟩ := isD_s h
  exact va_iast (D := gD g) X.hx X.hb X.2.1 Y.1 (Wd_D X.hg I) Y.2.1 a 0 (by rw [Wd_at ha, cel_i hk]) rfl hin hdg
    (fun H1 locs1 hP hD hS => kk H1 locs1 (Y.upd ha (Wd_set ha (by rw [cel_i hk, upR_s]) (fun b hb => upR_n hb)) hP hS))
theorem x_iastL {a k : Nat} {i x : Int32} (X : XC g p s m args c cc nL own) (Y : XD g I s H locs) (h : isD a = true) (hi : i.toNatClampNeg = k) (hin : vp_in i (ln a)) (hdg : decode cc pc = .ok (.iastore, 1))
    (kk : ∀ (H1 : Heap) (locs1 : List Loc), XD g (upI I a k x) s H1 locs1 → W p l e R s m args below meth c H1 locs1 cells slots Q (F0 m (pc + 1) ls rest)) : W p l e R s m args below meth c H locs cells slots Q (F0 m pc ls (.int x :: .int i :: .ref (gR g a) :: rest)) :=
  x_iast X Y h hin hdg (by rw [hi]; exact kk)
theorem x_zald {a : Nat} {i : Int32} (X : XC g p s m args c cc nL own) (Y : XD g I s H locs) (hk : kd a = 8) (ha : a < 57) (hin : ¬ (i < 0 ∨ ln a ≤ i.toNatClampNeg)) (hdg : decode cc pc = .ok (.baload, 1))
    (kk : W p l e R s m args below meth c H locs cells slots Q (F0 m (pc + 1) ls (.int (I a i.toNatClampNeg) :: rest))) : W p l e R s m args below meth c H locs cells slots Q (F0 m pc ls (.int i :: .ref (gR g a) :: rest)) :=
  va_zald (D := gD g) X.hx X.hb X.2.1 Y.1 a 1 (by rw [Wd_at ha, cel_z hk]) rfl hin hdg kk
theorem x_zast {a : Nat} {i x : Int32} (X : XC g p s m args c cc nL own) (Y : XD g I s H locs) (hk : kd a = 8) (ha : a < 57) (hx : vp_nar .boolean x = x) (hin : ¬ (i < 0 ∨ ln a ≤ i.toNatClampNeg)) (hdg : decode cc pc = .ok (.bastore, 1))
    (kk : ∀ (H1 : Heap) (locs1 : List Loc), XD g (upI I a i.toNatClampNeg x) s H1 locs1 → W p l e R s m args below meth c H1 locs1 cells slots Q (F0 m (pc + 1) ls rest)) : W p l e R s m args below meth c H locs cells slots Q (F0 m pc ls (.int x :: .int i :: .ref (gR g a) :: rest)) :=
  va_zast (D := gD g) X.hx X.hb X.2.1 Y.1 (Wd_D X.hg I) Y.2.1 a 1 (by rw [Wd_at ha, cel_z hk]) rfl hin hdg
    (fun H1 locs1 hP hD hS => kk H1 locs1 (Y.upd ha (Wd_set ha (by rw [cel_z hk, upR_s, hx]) (fun b hb => upR_n hb)) hP hS))
theorem x_aald {a : Nat} {i : Int32} (X : XC g p s m args c cc nL own) (Y : XD g I s H locs) (hk : kd a = 9) (ha : a < 57) (hin : ¬ (i < 0 ∨ ln a ≤ i.toNatClampNeg)) (hdg : decode cc pc = .ok (.aaload, 1))
    (kk : W p l e R s m args below meth c H locs cells slots Q (F0 m (pc + 1) ls (.ref (gR g (el a i.toNatClampNeg)) :: rest))) : W p l e R s m args below meth c H locs cells slots Q (F0 m pc ls (.int i :: .ref (gR g a) :: rest)) :=
  va_aldq (D := gD g) (f := fun j => some (gR g (el a j))) X.hx X.hb X.2.1 Y.1 a 2 (by rw [Wd_at ha, cel_o hk]) rfl hin hdg kk
theorem x_len {a : Nat} {v : Int32} (X : XC g p s m args c cc nL own) (Y : XD g I s H locs) (h : isI a = true) (hv : Int32.ofNat (ln a) = v) (hdg : decode cc pc = .ok (.arraylength, 1))
    (kk : W p l e R s m args below meth c H locs cells slots Q (F0 m (pc + 1) ls (.int v :: rest))) : W p l e R s m args below meth c H locs cells slots Q (F0 m pc ls (.ref (gR g a) :: rest)) := by
  rcases isI_s h with ⟨h1, h2⟩ | ⟨h1, h2, h3⟩
  · exact va_alen (D := gD g) X.hx X.hb X.2.1 Y.1 a 0 (by rw [Wd_at h2, cel_i h1]) rfl hv hdg kk
  · exact va_tlen X.hx X.hb (X.2.2.2.1.2 a h1 h2) Y.2.1 (by rw [← h3]; exact hv) hdg kk
theorem x_lenZ {a : Nat} {v : Int32} (X : XC g p s m args c cc nL own) (Y : XD g I s H locs) (hk : kd a = 8) (ha : a < 57) (hv : Int32.ofNat (ln a) = v) (hdg : decode cc pc = .ok (.arraylength, 1))
    (kk : W p l e R s m args below meth c H locs cells slots Q (F0 m (pc + 1) ls (.int v :: rest))) : W p l e R s m args below meth c H locs cells slots Q (F0 m pc ls (.ref (gR g a) :: rest)) :=
  va_alen (D := gD g) X.hx X.hb X.2.1 Y.1 a 1 (by rw [Wd_at ha, cel_z hk]) rfl hv hdg kk
theorem x_lenO {a : Nat} {v : Int32} (X : XC g p s m args c cc nL own) (Y : XD g I s H locs) (hk : kd a = 9) (ha : a < 57) (hv : Int32.ofNat (ln a) = v) (hdg : decode cc pc = .ok (.arraylength, 1))
    (kk : W p l e R s m args below meth c H locs cells slots Q (F0 m (pc + 1) ls (.int v :: rest))) : W p l e R s m args below meth c H locs cells slots Q (F0 m pc ls (.ref (gR g a) :: rest)) :=
  va_alen (D := gD g) X.hx X.hb X.2.1 Y.1 a 2 (by rw [Wd_at ha, cel_o hk]) rfl hv hdg kk
theorem x_gst {a idx : Nat} {n : String} (X : XC g p s m args c cc nL own) (Y : XD g I s H locs) (hZ : va_Z RX5 n "[I" (.ref (gR g a)) (gA g) s s.heap) (hw : Cond.fieldLink own idx RX5 n "[I" ∈ WL) (hdg : decode cc pc = .ok (.getstatic idx, 3))
    (kk : W p l e R s m args below meth c H locs cells slots Q (F0 m (pc + 3) ls (.ref (gR g a) :: rest))) : W p l e R s m args below meth c H locs cells slots Q (F0 m pc ls rest) :=
  va_gets X.hx X.hb hZ Y.2.1 X.1.2.2.2.1 (X.w hw) (fun _ h => h) hdg kk
theorem x_gstN {a idx : Nat} {n host : String} (X : XC g p s m args c cc nL own) (Y : XD g I s H locs) (hZ : va_Z RX5 n "[I" (.ref (gR g a)) (gA g) s s.heap) (hw : Cond.fieldLinkNest own idx RX5 n "[I" host ∈ NL) (hdg : decode cc pc = .ok (.getstatic idx, 3))
    (kk : W p l e R s m args below meth c H locs cells slots Q (F0 m (pc + 3) ls (.ref (gR g a) :: rest))) : W p l e R s m args below meth c H locs cells slots Q (F0 m pc ls rest) :=
  va_getsN X.hx X.hb hZ Y.2.1 X.1.2.2.2.1 (va_Nw.use rfl (X.2.2.1 _ hw)) (fun _ h => h) hdg kk
end XR
section XE
variable {g : GX} {I : HI} {p : Program} {l : Launch} {e : Env} {R : Room} {s : State} {m : MethodId} {args : Array Value} {below : List Frame} {meth : Method} {c : Code} {H : Heap} {locs : List Loc} {cells slots : Nat} {Q : State → Prop}
variable {cc : ByteArray} {nL : Nat} {own : String} {pc : Nat} {ls : Array Slot} {rest st : List Value}
/-! ends -/
theorem x_iret {v : Int32} {r : Int32 × HI} (X : XC g p s m args c cc nL own) (Y : XD g I s H locs) (hr : meth.sig.returnType = some .int) (hlk : meth.locks = false) (hf : some (v, I) = some r) (hdg : decode cc pc = .ok (.ireturn, 1)) :
    W p l e R s m args below meth c H locs cells slots (MQ below (xQi g r.1 r.2) args s cells slots (gA g)) (F0 m pc ls [.int v]) := by
  cases hf
  exact W.iret X.hx X.hb hr (fun t ht hW => ⟨⟨v, I, rfl, rfl, rfl, by rw [ht]; exact Y.1, Y.2.2⟩, Y.2.1.F ht⟩) Y.2.1.2.2 hdg hlk
theorem x_zret {v : Int32} {r : Int32 × HI} (X : XC g p s m args c cc nL own) (Y : XD g I s H locs) (hr : meth.sig.returnType = some .boolean) (hlk : meth.locks = false) (hn : narrow .boolean (.int v) = .int v) (hf : some (v, I) = some r) (hdg : decode cc pc = .ok (.ireturn, 1)) :
    W p l e R s m args below meth c H locs cells slots (MQ below (xQi g r.1 r.2) args s cells slots (gA g)) (F0 m pc ls [.int v]) := by
  cases hf
  exact W.zret X.hx X.hb hr hn (fun t ht hW => ⟨⟨v, I, rfl, rfl, rfl, by rw [ht]; exact Y.1, Y.2.2⟩, Y.2.1.F ht⟩) Y.2.1.2.2 hdg hlk
theorem bool_t {v : Int32} {α : Type} {x : α} {b : Option α} (e : (if v = 0 ∨ v = 1 then b else none) = some x) : narrow .boolean (.int v) = .int v ∧ b = some x := by
  by_cases h : v = 0 ∨ v = 1
  · rw [if_pos h] at e
    exact ⟨by rcases h with rfl | rfl <;> rfl, e⟩
  · rw [if_neg h] at e; cases e
theorem x_vret {r : Int32 × HI} (X : XC g p s m args c cc nL own) (Y : XD g I s H locs) (hr : meth.sig.returnType = none) (hlk : meth.locks = false) (hf : some ((0 : Int32), I) = some r) (hdg : decode cc pc = .ok (.return_, 1)) :
    W p l e R s m args below meth c H locs cells slots (MQ below (xQv g r.2) args s cells slots (gA g)) (F0 m pc ls []) := by
  cases hf
  exact W.vret X.hx X.hb hr (fun t ht hW => ⟨⟨I, rfl, trivial, rfl, by rw [ht]; exact Y.1, Y.2.2⟩, Y.2.1.F ht⟩) Y.2.1.2.2 hdg hlk
theorem x_aret {a : Nat} {r : Nat × HI} {n : String} (X : XC g p s m args c cc nL own) (Y : XD g I s H locs) (hr : meth.sig.returnType = some (.object n)) (hlk : meth.locks = false) (hf : some (a, I) = some r) (hdg : decode cc pc = .ok (.areturn, 1)) :
    W p l e R s m args below meth c H locs cells slots (MQ below (xQr g r.1 r.2) args s cells slots (gA g)) (F0 m pc ls [.ref (gR g a)]) := by
  cases hf
  exact W.aret X.hx X.hb hr (Or.inl ⟨n, rfl⟩) (Or.inr ⟨_, rfl⟩) (fun t ht hW => ⟨⟨I, gR g a, rfl, trivial, rfl, rfl, by rw [ht]; exact Y.1, Y.2.2⟩, Y.2.1.F ht⟩) Y.2.1.2.2 hdg hlk
/-! calls -/
theorem XD.call {I1 u : HI} {t : State} {H1 : Heap} {locs1 : List Loc} (ht : t.heap = H1) (hB : xB g I1 u t) (hS : va_S (gA g) s.heap H1 locs1) : XD g I1 s H1 locs1 := by
  obtain ⟨rfl, h1, h2⟩ := hB
  exact ⟨by rw [← ht]; exact h1, hS, h2⟩
theorem free_A {H : Heap} {A : Nat → Prop} : ∀ q : Nat, q < H.size → A q → A q := fun _ _ h => h
variable {y : MethodName} {bytes : ByteArray} {maxL n idx a ci N : Nat} {C : String} {T : u_T} {ret : Option FieldType} {rm : Room} {As : List Value} {q : Int32 × HI}
theorem x_rV {Qc : Array Value → State → Outcome → State → Prop} (X : XC g p s m args c cc nL own) (Y : XD g I s H locs) (k : xLV own idx C y bytes maxL ret n) (hM : Met l y (Cond.code y bytes maxL ret :: WL) rm (xP g (.ref (gR g a) :: As) I) Qc 0 0 (gA g)) (hcl : vwCl[ci]? = some (C, T, N)) (hk : kd a = ci) (ha : a < 57) (hn : As.length = n) (hrm : rm.cells = 0 ∧ rm.slots = 0) (hR : rm.frames + 1 ≤ R.frames ∧ 8 + (maxL + 11) + rm.locals ≤ R.locals) (hl : ls.size = nL) (hst : st = As.reverse ++ .ref (gR g a) :: rest) (hW : (rest.map fun v => v.category).sum ≤ 8) (hdg : decode cc pc = .ok (.invokevirtual idx, 3)) (hcs : cells + 0 ≤ R.cells ∧ slots + 0 ≤ R.slots) :
    va_Run p l e R s m args below meth c H locs cells slots 0 0 (F0 m pc ls st) rest (Qc (Value.ref (gR g a) :: As).toArray) (gA g) := by
  have h7 : ci < 7 := by
    exact Nat.lt_trans (List.getElem?_eq_some_iff.mp hcl).1 (by decide)
  exact va_runV (As := As) (rest := rest) X.1 hM (cwV n X.1.2.2.2.2 k.1 rfl hrm.1 hrm.2 k.2 hR) ⟨xP_blind, va_recv X.2.1 Y.1 (ci := ci) (q0 := a) hcl (by rw [Wd_at ha, cel_c hk h7]), Y.pre X⟩ rfl hn hl hst (lv_room hW) hdg hcs
theorem x_rS {Qc : Array Value → State → Outcome → State → Prop} (X : XC g p s m args c cc nL own) (Y : XD g I s H locs) (k : xLS own idx y bytes maxL ret n) (hM : Met l y (Cond.code y bytes maxL ret :: WL) rm (xP g As I) Qc 0 0 (gA g)) (hn : As.length = n) (hrm : rm.cells = 0 ∧ rm.slots = 0) (hR : rm.frames + 1 ≤ R.frames ∧ 8 + (maxL + 11) + rm.locals ≤ R.locals) (hl : ls.size = nL) (hst : st = As.reverse ++ rest) (hW : (rest.map fun v => v.category).sum ≤ 8) (hdg : decode cc pc = .ok (.invokestatic idx, 3)) (hcs : cells + 0 ≤ R.cells ∧ slots + 0 ≤ R.slots) :
    va_Run p l e R s m args below meth c H locs cells slots 0 0 (F0 m pc ls st) rest (Qc As.toArray) (gA g) :=
  va_runS (As := As) (rest := rest) X.1 hM (va_cwS n X.1.2.2.2.2 k.1 rfl hrm.1 hrm.2 k.2 hR) ⟨xP_blind, Y.pre X⟩ rfl hn hl hst (lv_room hW) hdg hcs
theorem x_rSN {host : String} {Qc : Array Value → State → Outcome → State → Prop} (X : XC g p s m args c cc nL own) (Y : XD g I s H locs) (k : xLSN own idx y host bytes maxL ret n) (hM : Met l y (Cond.code y bytes maxL ret :: WL) rm (xP g As I) Qc 0 0 (gA g)) (hn : As.length = n) (hrm : rm.cells = 0 ∧ rm.slots = 0) (hR : rm.frames + 1 ≤ R.frames ∧ 8 + (maxL + 11) + rm.locals ≤ R.locals) (hl : ls.size = nL) (hst : st = As.reverse ++ rest) (hW : (rest.map fun v => v.category).sum ≤ 8) (hdg : decode cc pc = .ok (.invokestatic idx, 3)) (hcs : cells + 0 ≤ R.cells ∧ slots + 0 ≤ R.slots) :
    va_Run p l e R s m args below meth c H locs cells slots 0 0 (F0 m pc ls st) rest (Qc As.toArray) (gA g) :=
  va_runSN (As := As) (rest := rest) X.1 hM ⟨va_cnB n X.1.2.2.2.2 (gi_c k.1.1) rfl hrm.1 hrm.2 (X.2.2.1 _ k.1.2.2.1) (X.w k.1.2.1) k.2 hR, X.w k.1.2.2.2, trivial⟩ ⟨xP_blind, Y.pre X⟩ rfl hn hl hst (lv_room hW) hdg hcs
theorem x_ci {av : Array Value} (Y : XD g I s H locs) (hr : va_Run p l e R s m args below meth c H locs cells slots 0 0 (F0 m pc ls st) rest (xQi g q.1 q.2 av) (gA g)) (kk : ∀ (H1 : Heap) (locs1 : List Loc), XD g q.2 s H1 locs1 → W p l e R s m args below meth c H1 locs1 cells slots Q (F0 m (pc + 3) ls (.int q.1 :: rest))) : W p l e R s m args below meth c H locs cells slots Q (F0 m pc ls st) :=
  va_calli hr Y.2.1 free_A (fun _ h => h) (fun r u t H1 locs1 ht hvm hp hB hz hk hS => by subst hp; exact kk H1 locs1 (XD.call ht hB hS))
theorem x_cv {av : Array Value} (Y : XD g I s H locs) (hr : va_Run p l e R s m args below meth c H locs cells slots 0 0 (F0 m pc ls st) rest (xQv g q.2 av) (gA g)) (kk : ∀ (H1 : Heap) (locs1 : List Loc), XD g q.2 s H1 locs1 → W p l e R s m args below meth c H1 locs1 cells slots Q (F0 m (pc + 3) ls rest)) : W p l e R s m args below meth c H locs cells slots Q (F0 m pc ls st) :=
  va_callv hr Y.2.1 free_A (fun _ h => h) (fun u t H1 locs1 ht hvm hp hB hz hk hS => kk H1 locs1 (XD.call ht hB hS))
theorem x_cr {av : Array Value} {q : Nat × HI} (Y : XD g I s H locs) (hr : va_Run p l e R s m args below meth c H locs cells slots 0 0 (F0 m pc ls st) rest (xQr g q.1 q.2 av) (gA g)) (kk : ∀ (H1 : Heap) (locs1 : List Loc), XD g q.2 s H1 locs1 → W p l e R s m args below meth c H1 locs1 cells slots Q (F0 m (pc + 3) ls (.ref (gR g q.1) :: rest))) : W p l e R s m args below meth c H locs cells slots Q (F0 m pc ls st) :=
  va_callr hr Y.2.1 free_A (fun _ h => h) (fun u ra t H1 locs1 ht hvm hp hB hz hk hS => by
    obtain ⟨rfl, hB⟩ := hB
    exact kk H1 locs1 (XD.call ht hB hS))
theorem x_min {x z : Int32} (X : XC g p s m args c cc nL own) (hl : ls.size = nL) (hw : Cond.methodLink own idx Lib.Math.min.name ∈ WL) (hR : 1 ≤ R.frames ∧ (rest.map fun v => v.category).sum + 13 ≤ R.locals) (hcs : cells + 0 ≤ R.cells ∧ slots + 0 ≤ R.slots) (hdg : decode cc pc = .ok (.invokestatic idx, 3))
    (kk : W p l e R s m args below meth c H locs cells slots Q (F0 m (pc + 3) ls (.int (if z < x then z else x) :: rest))) : W p l e R s m args below meth c H locs cells slots Q (F0 m pc ls (.int z :: .int x :: rest)) :=
  va_mmin X.hx X.hb (by rw [X.1.2.2.1, hl]) X.1.2.2.2.1 (X.w hw) (X.w wt_jmin) (X.w wz_Math) (X.w wc_jmin) hR.1 hR.2 hcs.1 hcs.2 hdg kk
theorem x_max {x z : Int32} (X : XC g p s m args c cc nL own) (hl : ls.size = nL) (hw : Cond.methodLink own idx Lib.Math.max.name ∈ WL) (hR : 1 ≤ R.frames ∧ (rest.map fun v => v.category).sum + 13 ≤ R.locals) (hcs : cells + 0 ≤ R.cells ∧ slots + 0 ≤ R.slots) (hdg : decode cc pc = .ok (.invokestatic idx, 3))
    (kk : W p l e R s m args below meth c H locs cells slots Q (F0 m (pc + 3) ls (.int (if x < z then z else x) :: rest))) : W p l e R s m args below meth c H locs cells slots Q (F0 m pc ls (.int z :: .int x :: rest)) :=
  va_mmax X.hx X.hb (by rw [X.1.2.2.1, hl]) X.1.2.2.2.1 (X.w hw) (X.w wt_jmax) (X.w wz_Math) (X.w wc_jmax) hR.1 hR.2 hcs.1 hcs.2 hdg kk
theorem x_abs {x : Int32} (X : XC g p s m args c cc nL own) (hl : ls.size = nL) (hw : Cond.methodLink own idx Lib.Math.abs.name ∈ WL) (hR : 1 ≤ R.frames ∧ (rest.map fun v => v.category).sum + 13 ≤ R.locals) (hcs : cells + 0 ≤ R.cells ∧ slots + 0 ≤ R.slots) (hdg : decode cc pc = .ok (.invokestatic idx, 3))
    (kk : W p l e R s m args below meth c H locs cells slots Q (F0 m (pc + 3) ls (.int (if 0 ≤ x then x else 0 - x) :: rest))) : W p l e R s m args below meth c H locs cells slots Q (F0 m pc ls (.int x :: rest)) :=
  va_mabs X.hx X.hb (by rw [X.1.2.2.1, hl]) X.1.2.2.2.1 (X.w hw) (X.w wt_jabs) (X.w wz_Math) (X.w wc_jabs) hR.1 hR.2 hcs.1 hcs.2 hdg kk
theorem x_copy {a b : Nat} {n : Int32} (X : XC g p s m args c cc nL own) (Y : XD g I s H locs) (ha : isD a = true) (hb : isD b = true) (hn : ¬ n < 0) (h4 : n.toNatClampNeg ≤ ln a) (h5 : n.toNatClampNeg ≤ ln b) (hl : ls.size = nL) (hw : Cond.methodLink own idx arraycopyName ∈ WL) (hR : 1 ≤ R.frames ∧ (rest.map fun v => v.category).sum + (nativeFrameWords "java/lang/System" "arraycopy" 5 + 11) ≤ R.locals) (hdg : decode cc pc = .ok (.invokestatic idx, 3))
    (kk : ∀ (H1 : Heap) (locs1 : List Loc), XD g (upR I b (va_cpy (I a) (I b) 0 0 n.toNatClampNeg)) s H1 locs1 → W p l e R s m args below meth c H1 locs1 cells slots Q (F0 m (pc + 3) ls rest)) : W p l e R s m args below meth c H locs cells slots Q (F0 m pc ls (.int n :: .int 0 :: .ref (gR g b) :: .int 0 :: .ref (gR g a) :: rest)) := by
  obtain ⟨hka, ha⟩ := isD_s ha
  obtain ⟨hkb, hb⟩ := isD_s hb
  have z0 : (0 : Int32).toNatClampNeg = 0 := by decide
  exact va_copyi (D := gD g) X.hx X.hb (by rw [X.1.2.2.1, hl]) X.1.2.2.2.1 (X.w hw) (X.w wv_jcopy) (X.w wt_jcopy) (X.w wz_System) X.2.1 Y.1 (Wd_D X.hg I) Y.2.1 a b 0 0 (by rw [Wd_at ha, cel_i hka]) (by rw [Wd_at hb, cel_i hkb]) rfl rfl rfl (by decide) (by decide) hn (by rw [z0, Nat.zero_add]; exact h4) (by rw [z0, Nat.zero_add]; exact h5) (fun i hi => rfl) hR.1 hR.2 hdg
    (fun H1 locs1 hP hD hS => kk H1 locs1 (Y.upd hb (Wd_set hb (by rw [cel_i hkb, upR_s, z0]) (fun b hb => upR_n hb)) hP hS))
end XE
theorem cl_0 : xCl 0 RX0 TX0 3 tyX0 := ⟨rfl, inX0, tyX0_ok, nmX0, by decide, by decide⟩
theorem cl_1 : xCl 1 RX1 TX1 15 tyX1 := ⟨rfl, inX1, tyX1_ok, nmX1, by decide, by decide⟩
theorem cl_2 : xCl 2 RX2 TX2 9 tyX2 := ⟨rfl, inX2, tyX2_ok, nmX2, by decide, by decide⟩
theorem cl_3 : xCl 3 RX3 TX3 2 tyX3 := ⟨rfl, inX3, tyX3_ok, nmX3, by decide, by decide⟩
theorem cl_4 : xCl 4 RX4 TX4 2 tyX4 := ⟨rfl, inX4, tyX4_ok, nmX4, by decide, by decide⟩
theorem cl_5 : xCl 5 RX5 TX5 4 tyX5 := ⟨rfl, inX5, tyX5_ok, nmX5, by decide, by decide⟩
