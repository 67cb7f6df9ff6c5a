-- ===== PART A: goes FIRST, ahead of the names: the tables' words, and 'selects' of the private methods out of them =====
/-- a private method of a class that the tables say can be made, by its rows of tables_1 -/
def lw_okq (q : MethodName × Nat) : Prop := (q.1.cls ≠ "java/lang/invoke/MethodHandle" ∧ q.1.cls ≠ "java/lang/invoke/VarHandle") ∧ Cond.instantiable q.1.cls q.2 ∈ tables_1 ∧ Cond.privateMethod q.1 ∈ tables_1 ∧ Cond.instanceMethod q.1 ∈ tables_1
theorem lw_p0 : lw_okq (⟨"CaptureSegments$Memory", "fits", "(II)Z"⟩, 15) := ⟨⟨by decide +kernel, by decide +kernel⟩, List.mem_of_getElem? (i := 18) (by decide +kernel), List.mem_of_getElem? (i := 198) (by decide +kernel), List.mem_of_getElem? (i := 199) (by decide +kernel)⟩
theorem lw_p1 : lw_okq (⟨"CaptureSegments$Memory", "takeSample", "(I)Z"⟩, 15) := ⟨⟨by decide +kernel, by decide +kernel⟩, List.mem_of_getElem? (i := 18) (by decide +kernel), List.mem_of_getElem? (i := 280) (by decide +kernel), List.mem_of_getElem? (i := 281) (by decide +kernel)⟩
theorem lw_p2 : lw_okq (⟨"CaptureSegments$Memory", "detect", "(I)Z"⟩, 15) := ⟨⟨by decide +kernel, by decide +kernel⟩, List.mem_of_getElem? (i := 18) (by decide +kernel), List.mem_of_getElem? (i := 284) (by decide +kernel), List.mem_of_getElem? (i := 285) (by decide +kernel)⟩
theorem lw_p3 : lw_okq (⟨"CaptureSegments$Memory", "detectorAfter", "(III)I"⟩, 15) := ⟨⟨by decide +kernel, by decide +kernel⟩, List.mem_of_getElem? (i := 18) (by decide +kernel), List.mem_of_getElem? (i := 288) (by decide +kernel), List.mem_of_getElem? (i := 289) (by decide +kernel)⟩
theorem lw_p4 : lw_okq (⟨"CaptureSegments$Memory", "beginSegment", "()V"⟩, 15) := ⟨⟨by decide +kernel, by decide +kernel⟩, List.mem_of_getElem? (i := 18) (by decide +kernel), List.mem_of_getElem? (i := 292) (by decide +kernel), List.mem_of_getElem? (i := 293) (by decide +kernel)⟩
theorem lw_p5 : lw_okq (⟨"CaptureSegments$Memory", "completeSegment", "()V"⟩, 15) := ⟨⟨by decide +kernel, by decide +kernel⟩, List.mem_of_getElem? (i := 18) (by decide +kernel), List.mem_of_getElem? (i := 296) (by decide +kernel), List.mem_of_getElem? (i := 297) (by decide +kernel)⟩
def lw_privs_1 : List (MethodName × Nat) := [(⟨"CaptureSegments$Memory", "fits", "(II)Z"⟩, 15), (⟨"CaptureSegments$Memory", "takeSample", "(I)Z"⟩, 15), (⟨"CaptureSegments$Memory", "detect", "(I)Z"⟩, 15), (⟨"CaptureSegments$Memory", "detectorAfter", "(III)I"⟩, 15), (⟨"CaptureSegments$Memory", "beginSegment", "()V"⟩, 15), (⟨"CaptureSegments$Memory", "completeSegment", "()V"⟩, 15)]
theorem lw_r1 : ∀ q ∈ lw_privs_1, lw_okq q := List.forall_mem_cons.mpr ⟨lw_p0, List.forall_mem_cons.mpr ⟨lw_p1, List.forall_mem_cons.mpr ⟨lw_p2, List.forall_mem_cons.mpr ⟨lw_p3, List.forall_mem_cons.mpr ⟨lw_p4, List.forall_mem_cons.mpr ⟨lw_p5, fun _ h => absurd h List.not_mem_nil⟩⟩⟩⟩⟩⟩
def lw_privs : List (MethodName × Nat) := lw_privs_1
def lw_tbl : List Cond := k2_sels lw_privs ++ tables_1
theorem lw_privs_ok : ∀ q ∈ lw_privs, lw_okq q := lw_r1

/-! ===== BEGIN words of one list among another's, by their places ===== -/
theorem goodIn_r {big : List Cond} (ws : List Cond) (ps : List Nat) (hp : ws = ps.filterMap (fun i => big[i]?)) (h : ws.all goodWord = true) : GoodIn big ws := by
  intro w hw
  have h1 := List.all_eq_true.mp h w hw
  rw [hp] at hw
  obtain ⟨i, -, hi⟩ := List.mem_filterMap.mp hw
  have hm : w ∈ big := by first | exact List.mem_of_getElem? hi | exact List.getElem?_mem hi
  exact ⟨hm, good_of_word h1⟩
theorem goodIn_app {big a b : List Cond} (ha : GoodIn big a) (hb : GoodIn big b) : GoodIn big (a ++ b) := fun w h => (List.mem_append.mp h).elim (ha w) (hb w)
theorem goodIn_ca {big a b : List Cond} {c : Cond} (ha : GoodIn big (c :: a)) (hb : GoodIn big b) : GoodIn big (c :: (a ++ b)) := fun w h => (List.mem_cons.mp h).elim (fun e => ha w (List.mem_cons.mpr (Or.inl e))) (fun h => (List.mem_append.mp h).elim (fun h => ha w (List.mem_cons.mpr (Or.inr h))) (hb w))
theorem goodIn_sub {big ws : List Cond} (hm : ∀ w ∈ ws, w ∈ big) (h : ws.all goodWord = true) : GoodIn big ws := fun w hw => ⟨hm w hw, good_of_word (List.all_eq_true.mp h w hw)⟩
/-! ===== END ===== -/

/-! ===== BEGIN printed: names, fields, word lists, decode rows ===== -/
def RX0 : String := "CaptureSegments$History"
def TX0 : u_T := fun k => match k with
  | 0 => ("CaptureSegments$History", "states", "[LCaptureSegments$Memory;", true)
  | 1 => ("CaptureSegments$History", "next", "I", false)
  | _ => ("CaptureSegments$History", "size", "I", false)
def tyX0 : Nat → FieldType := fun k => match k with
  | 0 => .array (.object "CaptureSegments$Memory")
  | 1 => .int
  | _ => .int
abbrev wsX00 : List Cond := u_ws RX0 TX0 3
theorem nmX0 : ∀ a, a < 3 → ∀ b, b < 3 → a ≠ b → (TX0 a).2.1 ≠ (TX0 b).2.1 := by decide +kernel
theorem tyX0_ok : ∀ k, k < 3 → parseFieldDescriptor (TX0 k).2.2.1 = some (tyX0 k) := by decide +kernel
abbrev cX0_init : ByteArray := prog_2_method_1_code
def yX0_init : MethodName := ⟨RX0, "<init>", "()V"⟩
abbrev cX0_record : ByteArray := prog_2_method_2_code
def yX0_record : MethodName := ⟨RX0, "record", "(LCaptureSegments$Memory;)V"⟩
abbrev cX0_bringBack : ByteArray := prog_2_method_3_code
def yX0_bringBack : MethodName := ⟨RX0, "bringBack", "(LCaptureSegments$Memory;)V"⟩
def RX1 : String := "CaptureSegments$Memory"
def TX1 : u_T := fun k => match k with
  | 0 => ("CaptureSegments$Memory", "settings", "[I", true)
  | 1 => ("CaptureSegments$Memory", "samples", "[I", true)
  | 2 => ("CaptureSegments$Memory", "segments", "LCaptureSegments$Segments;", true)
  | 3 => ("CaptureSegments$Memory", "samplesSoFar", "I", false)
  | 4 => ("CaptureSegments$Memory", "detector", "I", false)
  | 5 => ("CaptureSegments$Memory", "firings", "I", false)
  | 6 => ("CaptureSegments$Memory", "triggers", "I", false)
  | 7 => ("CaptureSegments$Memory", "ignored", "I", false)
  | 8 => ("CaptureSegments$Memory", "completed", "I", false)
  | 9 => ("CaptureSegments$Memory", "since", "I", false)
  | 10 => ("CaptureSegments$Memory", "capturedTrigger", "I", false)
  | 11 => ("CaptureSegments$Memory", "capturedDepth", "I", false)
  | 12 => ("CaptureSegments$Memory", "capturedPre", "I", false)
  | 13 => ("CaptureSegments$Memory", "capturedKind", "I", false)
  | _ => ("CaptureSegments$Memory", "yetToGet", "I", false)
def tyX1 : Nat → FieldType := fun k => match k with
  | 0 => .array .int
  | 1 => .array .int
  | 2 => .object "CaptureSegments$Segments"
  | 3 => .int
  | 4 => .int
  | 5 => .int
  | 6 => .int
  | 7 => .int
  | 8 => .int
  | 9 => .int
  | 10 => .int
  | 11 => .int
  | 12 => .int
  | 13 => .int
  | _ => .int
abbrev wsX10 : List Cond := u_ws RX1 TX1 15
theorem nmX1 : ∀ a, a < 15 → ∀ b, b < 15 → a ≠ b → (TX1 a).2.1 ≠ (TX1 b).2.1 := by decide +kernel
theorem tyX1_ok : ∀ k, k < 15 → parseFieldDescriptor (TX1 k).2.2.1 = some (tyX1 k) := by decide +kernel
abbrev cX1_init : ByteArray := prog_3_method_1_code
def yX1_init : MethodName := ⟨RX1, "<init>", "()V"⟩
abbrev cX1_takeOver : ByteArray := prog_3_method_2_code
def yX1_takeOver : MethodName := ⟨RX1, "takeOver", "(LCaptureSegments$Memory;)V"⟩
abbrev cX1_settingOf : ByteArray := prog_3_method_3_code
def yX1_settingOf : MethodName := ⟨RX1, "settingOf", "(I)I"⟩
abbrev cX1_errorOfSetting : ByteArray := prog_3_method_4_code
def yX1_errorOfSetting : MethodName := ⟨RX1, "errorOfSetting", "(II)I"⟩
abbrev cX1_fits : ByteArray := prog_3_method_5_code
def yX1_fits : MethodName := ⟨RX1, "fits", "(II)Z"⟩
abbrev cX1_changeSetting : ByteArray := prog_3_method_6_code
def yX1_changeSetting : MethodName := ⟨RX1, "changeSetting", "(II)I"⟩
abbrev cX1_errorOfSamples : ByteArray := prog_3_method_7_code
def yX1_errorOfSamples : MethodName := ⟨RX1, "errorOfSamples", "(II)I"⟩
abbrev cX1_takeSamples : ByteArray := prog_3_method_8_code
def yX1_takeSamples : MethodName := ⟨RX1, "takeSamples", "(II)I"⟩
abbrev cX1_takeSample : ByteArray := prog_3_method_9_code
def yX1_takeSample : MethodName := ⟨RX1, "takeSample", "(I)Z"⟩
abbrev cX1_detect : ByteArray := prog_3_method_10_code
def yX1_detect : MethodName := ⟨RX1, "detect", "(I)Z"⟩
abbrev cX1_detectorAfter : ByteArray := prog_3_method_11_code
def yX1_detectorAfter : MethodName := ⟨RX1, "detectorAfter", "(III)I"⟩
abbrev cX1_beginSegment : ByteArray := prog_3_method_12_code
def yX1_beginSegment : MethodName := ⟨RX1, "beginSegment", "()V"⟩
abbrev cX1_completeSegment : ByteArray := prog_3_method_13_code
def yX1_completeSegment : MethodName := ⟨RX1, "completeSegment", "()V"⟩
abbrev cX1_forget : ByteArray := prog_3_method_14_code
def yX1_forget : MethodName := ⟨RX1, "forget", "()I"⟩
abbrev cX1_phase : ByteArray := prog_3_method_15_code
def yX1_phase : MethodName := ⟨RX1, "phase", "()I"⟩
abbrev cX1_numberOf : ByteArray := prog_3_method_16_code
def yX1_numberOf : MethodName := ⟨RX1, "numberOf", "(I)I"⟩
abbrev cX1_sampleAt : ByteArray := prog_3_method_17_code
def yX1_sampleAt : MethodName := ⟨RX1, "sampleAt", "(I)I"⟩
abbrev cX1_leastOf : ByteArray := prog_3_method_18_code
def yX1_leastOf : MethodName := ⟨RX1, "leastOf", "(I)I"⟩
abbrev cX1_greatestOf : ByteArray := prog_3_method_19_code
def yX1_greatestOf : MethodName := ⟨RX1, "greatestOf", "(I)I"⟩
abbrev cX1_sumOf : ByteArray := prog_3_method_20_code
def yX1_sumOf : MethodName := ⟨RX1, "sumOf", "(I)I"⟩
abbrev cX1_upsOf : ByteArray := prog_3_method_21_code
def yX1_upsOf : MethodName := ⟨RX1, "upsOf", "(I)I"⟩
abbrev cX1_greatestLevel : ByteArray := prog_3_method_22_code
def yX1_greatestLevel : MethodName := ⟨RX1, "greatestLevel", "()I"⟩
abbrev cX1_firingsWith : ByteArray := prog_3_method_23_code
def yX1_firingsWith : MethodName := ⟨RX1, "firingsWith", "(I)I"⟩
abbrev cX1_differenceOf : ByteArray := prog_3_method_24_code
def yX1_differenceOf : MethodName := ⟨RX1, "differenceOf", "(II)I"⟩
def RX2 : String := "CaptureSegments$Pad"
def TX2 : u_T := fun k => match k with
  | 0 => ("CaptureSegments$Pad", "codes", "[I", true)
  | 1 => ("CaptureSegments$Pad", "length", "I", false)
  | 2 => ("CaptureSegments$Pad", "actions", "[I", true)
  | 3 => ("CaptureSegments$Pad", "values", "[I", true)
  | 4 => ("CaptureSegments$Pad", "times", "[I", true)
  | 5 => ("CaptureSegments$Pad", "ends", "[I", true)
  | 6 => ("CaptureSegments$Pad", "steps", "I", false)
  | 7 => ("CaptureSegments$Pad", "place", "I", false)
  | _ => ("CaptureSegments$Pad", "number", "I", false)
def tyX2 : Nat → FieldType := fun k => match k with
  | 0 => .array .int
  | 1 => .int
  | 2 => .array .int
  | 3 => .array .int
  | 4 => .array .int
  | 5 => .array .int
  | 6 => .int
  | 7 => .int
  | _ => .int
abbrev wsX20 : List Cond := u_ws RX2 TX2 9
theorem nmX2 : ∀ a, a < 9 → ∀ b, b < 9 → a ≠ b → (TX2 a).2.1 ≠ (TX2 b).2.1 := by decide +kernel
theorem tyX2_ok : ∀ k, k < 9 → parseFieldDescriptor (TX2 k).2.2.1 = some (tyX2 k) := by decide +kernel
abbrev cX2_init : ByteArray := prog_4_method_1_code
def yX2_init : MethodName := ⟨RX2, "<init>", "()V"⟩
def RX3 : String := "CaptureSegments$Segments"
def TX3 : u_T := fun k => match k with
  | 0 => ("CaptureSegments$Segments", "numbers", "[I", true)
  | _ => ("CaptureSegments$Segments", "size", "I", false)
def tyX3 : Nat → FieldType := fun k => match k with
  | 0 => .array .int
  | _ => .int
abbrev wsX30 : List Cond := u_ws RX3 TX3 2
theorem nmX3 : ∀ a, a < 2 → ∀ b, b < 2 → a ≠ b → (TX3 a).2.1 ≠ (TX3 b).2.1 := by decide +kernel
theorem tyX3_ok : ∀ k, k < 2 → parseFieldDescriptor (TX3 k).2.2.1 = some (tyX3 k) := by decide +kernel
abbrev cX3_init : ByteArray := prog_5_method_1_code
def yX3_init : MethodName := ⟨RX3, "<init>", "()V"⟩
abbrev cX3_has : ByteArray := prog_5_method_2_code
def yX3_has : MethodName := ⟨RX3, "has", "(I)Z"⟩
abbrev cX3_numberOf : ByteArray := prog_5_method_3_code
def yX3_numberOf : MethodName := ⟨RX3, "numberOf", "(II)I"⟩
abbrev cX3_firstOf : ByteArray := prog_5_method_4_code
def yX3_firstOf : MethodName := ⟨RX3, "firstOf", "(I)I"⟩
abbrev cX3_behindOf : ByteArray := prog_5_method_5_code
def yX3_behindOf : MethodName := ⟨RX3, "behindOf", "(I)I"⟩
abbrev cX3_append : ByteArray := prog_5_method_6_code
def yX3_append : MethodName := ⟨RX3, "append", "(IIII)V"⟩
abbrev cX3_removeAt : ByteArray := prog_5_method_7_code
def yX3_removeAt : MethodName := ⟨RX3, "removeAt", "(I)V"⟩
abbrev cX3_keepLatest : ByteArray := prog_5_method_8_code
def yX3_keepLatest : MethodName := ⟨RX3, "keepLatest", "(I)V"⟩
abbrev cX3_takeOver : ByteArray := prog_5_method_9_code
def yX3_takeOver : MethodName := ⟨RX3, "takeOver", "(LCaptureSegments$Segments;)V"⟩
def RX4 : String := "CaptureSegments$Slots"
def TX4 : u_T := fun k => match k with
  | 0 => ("CaptureSegments$Slots", "states", "[LCaptureSegments$Memory;", true)
  | _ => ("CaptureSegments$Slots", "saved", "[Z", true)
def tyX4 : Nat → FieldType := fun k => match k with
  | 0 => .array (.object "CaptureSegments$Memory")
  | _ => .array .boolean
abbrev wsX40 : List Cond := u_ws RX4 TX4 2
theorem nmX4 : ∀ a, a < 2 → ∀ b, b < 2 → a ≠ b → (TX4 a).2.1 ≠ (TX4 b).2.1 := by decide +kernel
theorem tyX4_ok : ∀ k, k < 2 → parseFieldDescriptor (TX4 k).2.2.1 = some (tyX4 k) := by decide +kernel
abbrev cX4_init : ByteArray := prog_6_method_1_code
def yX4_init : MethodName := ⟨RX4, "<init>", "()V"⟩
def RX5 : String := "CaptureSegments"
def TX5 : u_T := fun k => match k with
  | 0 => ("CaptureSegments", "memory", "LCaptureSegments$Memory;", true)
  | 1 => ("CaptureSegments", "history", "LCaptureSegments$History;", true)
  | 2 => ("CaptureSegments", "slots", "LCaptureSegments$Slots;", true)
  | _ => ("CaptureSegments", "pad", "LCaptureSegments$Pad;", true)
def tyX5 : Nat → FieldType := fun k => match k with
  | 0 => .object "CaptureSegments$Memory"
  | 1 => .object "CaptureSegments$History"
  | 2 => .object "CaptureSegments$Slots"
  | _ => .object "CaptureSegments$Pad"
abbrev wsX50 : List Cond := u_ws RX5 TX5 4
theorem nmX5 : ∀ a, a < 4 → ∀ b, b < 4 → a ≠ b → (TX5 a).2.1 ≠ (TX5 b).2.1 := by decide +kernel
theorem tyX5_ok : ∀ k, k < 4 → parseFieldDescriptor (TX5 k).2.2.1 = some (tyX5 k) := by decide +kernel
abbrev cX5_init : ByteArray := prog_1_method_1_code
def yX5_init : MethodName := ⟨RX5, "<init>", "()V"⟩
abbrev cX5_set : ByteArray := prog_1_method_2_code
def yX5_set : MethodName := ⟨RX5, "set", "(II)I"⟩
abbrev cX5_feed : ByteArray := prog_1_method_3_code
def yX5_feed : MethodName := ⟨RX5, "feed", "(II)I"⟩
abbrev cX5_clear : ByteArray := prog_1_method_4_code
def yX5_clear : MethodName := ⟨RX5, "clear", "()I"⟩
abbrev cX5_drop : ByteArray := prog_1_method_5_code
def yX5_drop : MethodName := ⟨RX5, "drop", "(I)I"⟩
abbrev cX5_segment : ByteArray := prog_1_method_6_code
def yX5_segment : MethodName := ⟨RX5, "segment", "(II)I"⟩
abbrev cX5_sampleOf : ByteArray := prog_1_method_7_code
def yX5_sampleOf : MethodName := ⟨RX5, "sampleOf", "(II)I"⟩
abbrev cX5_sample : ByteArray := prog_1_method_8_code
def yX5_sample : MethodName := ⟨RX5, "sample", "(I)I"⟩
abbrev cX5_count : ByteArray := prog_1_method_9_code
def yX5_count : MethodName := ⟨RX5, "count", "(I)I"⟩
abbrev cX5_fires : ByteArray := prog_1_method_10_code
def yX5_fires : MethodName := ⟨RX5, "fires", "(I)I"⟩
abbrev cX5_bestLevel : ByteArray := prog_1_method_11_code
def yX5_bestLevel : MethodName := ⟨RX5, "bestLevel", "(I)I"⟩
abbrev cX5_unlike : ByteArray := prog_1_method_12_code
def yX5_unlike : MethodName := ⟨RX5, "unlike", "(II)I"⟩
abbrev cX5_nearest : ByteArray := prog_1_method_13_code
def yX5_nearest : MethodName := ⟨RX5, "nearest", "(I)I"⟩
abbrev cX5_undo : ByteArray := prog_1_method_19_code
def yX5_undo : MethodName := ⟨RX5, "undo", "()I"⟩
abbrev cX5_at : ByteArray := prog_1_method_22_code
def yX5_at : MethodName := ⟨RX5, "at", "([II)I"⟩
abbrev cX5_writeAt : ByteArray := prog_1_method_23_code
def yX5_writeAt : MethodName := ⟨RX5, "writeAt", "([III)V"⟩
abbrev cX5_copyRow : ByteArray := prog_1_method_24_code
def yX5_copyRow : MethodName := ⟨RX5, "copyRow", "([I[I)V"⟩
abbrev cX5_memoryAt : ByteArray := prog_1_method_25_code
def yX5_memoryAt : MethodName := ⟨RX5, "memoryAt", "([LCaptureSegments$Memory;I)LCaptureSegments$Memory;"⟩
def RX6 : String := "CaptureSegmentsModel"
def TX6 : u_T := fun k => match k with
  | _ => ("", "", "", false)
def tyX6 : Nat → FieldType := fun k => match k with
  | _ => .int
abbrev wsX60 : List Cond := u_ws RX6 TX6 0
theorem nmX6 : ∀ a, a < 0 → ∀ b, b < 0 → a ≠ b → (TX6 a).2.1 ≠ (TX6 b).2.1 := by decide +kernel
theorem tyX6_ok : ∀ k, k < 0 → parseFieldDescriptor (TX6 k).2.2.1 = some (tyX6 k) := by decide +kernel
def RJ9 : String := "java/lang/Math"
def TJ9 : u_T := fun k => match k with
  | _ => ("", "", "", false)
def tyJ9 : Nat → FieldType := fun k => match k with
  | _ => .int
abbrev wsJ90 : List Cond := u_ws RJ9 TJ9 0
theorem nmJ9 : ∀ a, a < 0 → ∀ b, b < 0 → a ≠ b → (TJ9 a).2.1 ≠ (TJ9 b).2.1 := by decide +kernel
theorem tyJ9_ok : ∀ k, k < 0 → parseFieldDescriptor (TJ9 k).2.2.1 = some (tyJ9 k) := by decide +kernel
abbrev cJ9_abs_0f7a4 : ByteArray := prog_9_method_59_code
def yJ9_abs_0f7a4 : MethodName := ⟨RJ9, "abs", "(I)I"⟩
abbrev cJ9_max_7cf53 : ByteArray := prog_9_method_65_code
def yJ9_max_7cf53 : MethodName := ⟨RJ9, "max", "(II)I"⟩
abbrev cJ9_min_7cf53 : ByteArray := prog_9_method_69_code
def yJ9_min_7cf53 : MethodName := ⟨RJ9, "min", "(II)I"⟩
def RJ10 : String := "java/lang/System"
def TJ10 : u_T := fun k => match k with
  | _ => ("", "", "", false)
def tyJ10 : Nat → FieldType := fun k => match k with
  | _ => .int
abbrev wsJ100 : List Cond := u_ws RJ10 TJ10 0
theorem nmJ10 : ∀ a, a < 0 → ∀ b, b < 0 → a ≠ b → (TJ10 a).2.1 ≠ (TJ10 b).2.1 := by decide +kernel
theorem tyJ10_ok : ∀ k, k < 0 → parseFieldDescriptor (TJ10 k).2.2.1 = some (tyJ10 k) := by decide +kernel
def RL : String := "CaptureSegmentsLaw"
abbrev cL_cell : ByteArray := method_2_code
def yL_cell : MethodName := ⟨RL, "cell", "([II)I"⟩
abbrev cL_up : ByteArray := method_3_code
def yL_up : MethodName := ⟨RL, "up", "(II)I"⟩
abbrev cL_isStep : ByteArray := method_4_code
def yL_isStep : MethodName := ⟨RL, "isStep", "(LCaptureSegments;LCaptureSegments;I)Z"⟩
abbrev cL_areAlike : ByteArray := method_5_code
def yL_areAlike : MethodName := ⟨RL, "areAlike", "(LCaptureSegments;LCaptureSegments;I)Z"⟩
abbrev cL_isWell : ByteArray := method_6_code
def yL_isWell : MethodName := ⟨RL, "isWell", "(LCaptureSegments;)Z"⟩
abbrev cL_law : ByteArray := code
def yL_law : MethodName := ⟨RL, "law", "([I)Z"⟩
/-- the objects of CaptureSegments$History, kind 0: what each holds, by its address -/
abbrev vwCl : List vw_C := [(RX0, TX0, 3), (RX1, TX1, 15), (RX2, TX2, 9), (RX3, TX3, 2), (RX4, TX4, 2), (RX5, TX5, 4)]
