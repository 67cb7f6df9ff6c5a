section
-- ===== PART A: goes FIRST, ahead of the names: the tables' words, and 'selects' of the private methods out of them =====
/-- a private method of a class that the tables say can be made, by its rows of tables_1 -/
def lw_okq (q : MethodName × Nat) : Prop := (q.1.cls ≠ "java/lang/invoke/MethodHandle" ∧ q.1.cls ≠ "java/lang/invoke/VarHandle") ∧ Cond.instantiable q.1.cls q.2 ∈ tables_1 ∧ Cond.privateMethod q.1 ∈ tables_1 ∧ Cond.instanceMethod q.1 ∈ tables_1
theorem lw_p0 : lw_okq (⟨"CaptureSegments$Memory", "fits", "(II)Z"⟩, 15) := ⟨⟨by decide +kernel, by decide +kernel⟩, List.mem_of_getElem? (i := 18) (by decide +kernel), List.mem_of_getElem? (i := 198) (by decide +kernel), List.mem_of_getElem? (i := 199) (by decide +kernel)⟩
theorem lw_p1 : lw_okq (⟨"CaptureSegments$Memory", "takeSample", "(I)Z"⟩, 15) := ⟨⟨by decide +kernel, by decide +kernel⟩, List.mem_of_getElem? (i := 18) (by decide +kernel), List.mem_of_getElem? (i := 280) (by decide +kernel), List.mem_of_getElem? (i := 281) (by decide +kernel)⟩
theorem lw_p2 : lw_okq (⟨"CaptureSegments$Memory", "detect", "(I)Z"⟩, 15) := ⟨⟨by decide +kernel, by decide +kernel⟩, List.mem_of_getElem? (i := 18) (by decide +kernel), List.mem_of_getElem? (i := 284) (by decide +kernel), List.mem_of_getElem? (i := 285) (by decide +kernel)⟩
theorem lw_p3 : lw_okq (⟨"CaptureSegments$Memory", "detectorAfter", "(III)I"⟩, 15) := ⟨⟨by decide +kernel, by decide +kernel⟩, List.mem_of_getElem? (i := 18) (by decide +kernel), List.mem_of_getElem? (i := 288) (by decide +kernel), List.mem_of_getElem? (i := 289) (by decide +kernel)⟩
theorem lw_p4 : lw_okq (⟨"CaptureSegments$Memory", "beginSegment", "()V"⟩, 15) := ⟨⟨by decide +kernel, by decide +kernel⟩, List.mem_of_getElem? (i := 18) (by decide +kernel), List.mem_of_getElem? (i := 292) (by decide +kernel), List.mem_of_getElem? (i := 293) (by decide +kernel)⟩
theorem lw_p5 : lw_okq (⟨"CaptureSegments$Memory", "completeSegment", "()V"⟩, 15) := ⟨⟨by decide +kernel, by decide +kernel⟩, List.mem_of_getElem? (i := 18) (by decide +kernel), List.mem_of_getElem? (i := 296) (by decide +kernel), List.mem_of_getElem? (i := 297) (by decide +kernel)⟩
def lw_privs_1 : List (MethodName × Nat) := [(⟨"CaptureSegments$Memory", "fits", "(II)Z"⟩, 15), (⟨"CaptureSegments$Memory", "takeSample", "(I)Z"⟩, 15), (⟨"CaptureSegments$Memory", "detect", "(I)Z"⟩, 15), (⟨"CaptureSegments$Memory", "detectorAfter", "(III)I"⟩, 15), (⟨"CaptureSegments$Memory", "beginSegment", "()V"⟩, 15), (⟨"CaptureSegments$Memory", "completeSegment", "()V"⟩, 15)]
theorem lw_r1 : ∀ q ∈ lw_privs_1, lw_okq q := List.forall_mem_cons.mpr ⟨lw_p0, List.forall_mem_cons.mpr ⟨lw_p1, List.forall_mem_cons.mpr ⟨lw_p2, List.forall_mem_cons.mpr ⟨lw_p3, List.forall_mem_cons.mpr ⟨lw_p4, List.forall_mem_cons.mpr ⟨lw_p5, fun _ h => absurd h List.not_mem_nil⟩⟩⟩⟩⟩⟩
def lw_privs : List (MethodName × Nat) := lw_privs_1
def lw_tbl : List Cond := k2_sels lw_privs ++ tables_1
theorem lw_privs_ok : ∀ q ∈ lw_privs, lw_okq q := lw_r1

/-! ===== BEGIN words of one list among another's, by their places ===== -/
theorem goodIn_r {big : List Cond} (ws : List Cond) (ps : List Nat) (hp : ws = ps.filterMap (fun i => big[i]?)) (h : ws.all goodWord = true) : GoodIn big ws := by
  intro w hw
  have h1 := List.all_eq_true.mp h w hw
  rw [hp] at hw
  obtain ⟨i, -, hi⟩ := List.mem_filterMap.mp hw
  have hm : w ∈ big := by first | exact List.mem_of_getElem? hi | exact List.getElem?_mem hi
  exact ⟨hm, good_of_word h1⟩
theorem goodIn_app {big a b : List Cond} (ha : GoodIn big a) (hb : GoodIn big b) : GoodIn big (a ++ b) := fun w h => (List.mem_append.mp h).elim (ha w) (hb w)
theorem goodIn_ca {big a b : List Cond} {c : Cond} (ha : GoodIn big (c :: a)) (hb : GoodIn big b) : GoodIn big (c :: (a ++ b)) := fun w h => (List.mem_cons.mp h).elim (fun e => ha w (List.mem_cons.mpr (Or.inl e))) (fun h => (List.mem_append.mp h).elim (fun h => ha w (List.mem_cons.mpr (Or.inr h))) (hb w))
theorem goodIn_sub {big ws : List Cond} (hm : ∀ w ∈ ws, w ∈ big) (h : ws.all goodWord = true) : GoodIn big ws := fun w hw => ⟨hm w hw, good_of_word (List.all_eq_true.mp h w hw)⟩
/-! ===== END ===== -/

/-! ===== BEGIN printed: names, fields, word lists, decode rows ===== -/
def RX0 : String := "CaptureSegments$History"
def TX0 : u_T := fun k => match k with
  | 0 => ("CaptureSegments$History", "states", "[LCaptureSegments$Memory;", true)
  | 1 => ("CaptureSegments$History", "next", "I", false)
  | _ => ("CaptureSegments$History", "size", "I", false)
def tyX0 : Nat → FieldType := fun k => match k with
  | 0 => .array (.object "CaptureSegments$Memory")
  | 1 => .int
  | _ => .int
abbrev wsX00 : List Cond := u_ws RX0 TX0 3
theorem nmX0 : ∀ a, a < 3 → ∀ b, b < 3 → a ≠ b → (TX0 a).2.1 ≠ (TX0 b).2.1 := by decide +kernel
theorem tyX0_ok : ∀ k, k < 3 → parseFieldDescriptor (TX0 k).2.2.1 = some (tyX0 k) := by decide +kernel
abbrev cX0_init : ByteArray := prog_2_method_1_code
def yX0_init : MethodName := ⟨RX0, "<init>", "()V"⟩
abbrev cX0_record : ByteArray := prog_2_method_2_code
def yX0_record : MethodName := ⟨RX0, "record", "(LCaptureSegments$Memory;)V"⟩
abbrev cX0_bringBack : ByteArray := prog_2_method_3_code
def yX0_bringBack : MethodName := ⟨RX0, "bringBack", "(LCaptureSegments$Memory;)V"⟩
def RX1 : String := "CaptureSegments$Memory"
def TX1 : u_T := fun k => match k with
  | 0 => ("CaptureSegments$Memory", "settings", "[I", true)
  | 1 => ("CaptureSegments$Memory", "samples", "[I", true)
  | 2 => ("CaptureSegments$Memory", "segments", "LCaptureSegments$Segments;", true)
  | 3 => ("CaptureSegments$Memory", "samplesSoFar", "I", false)
  | 4 => ("CaptureSegments$Memory", "detector", "I", false)
  | 5 => ("CaptureSegments$Memory", "firings", "I", false)
  | 6 => ("CaptureSegments$Memory", "triggers", "I", false)
  | 7 => ("CaptureSegments$Memory", "ignored", "I", false)
  | 8 => ("CaptureSegments$Memory", "completed", "I", false)
  | 9 => ("CaptureSegments$Memory", "since", "I", false)
  | 10 => ("CaptureSegments$Memory", "capturedTrigger", "I", false)
  | 11 => ("CaptureSegments$Memory", "capturedDepth", "I", false)
  | 12 => ("CaptureSegments$Memory", "capturedPre", "I", false)
  | 13 => ("CaptureSegments$Memory", "capturedKind", "I", false)
  | _ => ("CaptureSegments$Memory", "yetToGet", "I", false)
def tyX1 : Nat → FieldType := fun k => match k with
  | 0 => .array .int
  | 1 => .array .int
  | 2 => .object "CaptureSegments$Segments"
  | 3 => .int
  | 4 => .int
  | 5 => .int
  | 6 => .int
  | 7 => .int
  | 8 => .int
  | 9 => .int
  | 10 => .int
  | 11 => .int
  | 12 => .int
  | 13 => .int
  | _ => .int
abbrev wsX10 : List Cond := u_ws RX1 TX1 15
theorem nmX1 : ∀ a, a < 15 → ∀ b, b < 15 → a ≠ b → (TX1 a).2.1 ≠ (TX1 b).2.1 := by decide +kernel
theorem tyX1_ok : ∀ k, k < 15 → parseFieldDescriptor (TX1 k).2.2.1 = some (tyX1 k) := by decide +kernel
abbrev cX1_init : ByteArray := prog_3_method_1_code
def yX1_init : MethodName := ⟨RX1, "<init>", "()V"⟩
abbrev cX1_takeOver : ByteArray := prog_3_method_2_code
def yX1_takeOver : MethodName := ⟨RX1, "takeOver", "(LCaptureSegments$Memory;)V"⟩
abbrev cX1_settingOf : ByteArray := prog_3_method_3_code
def yX1_settingOf : MethodName := ⟨RX1, "settingOf", "(I)I"⟩
abbrev cX1_errorOfSetting : ByteArray := prog_3_method_4_code
def yX1_errorOfSetting : MethodName := ⟨RX1, "errorOfSetting", "(II)I"⟩
abbrev cX1_fits : ByteArray := prog_3_method_5_code
def yX1_fits : MethodName := ⟨RX1, "fits", "(II)Z"⟩
abbrev cX1_changeSetting : ByteArray := prog_3_method_6_code
def yX1_changeSetting : MethodName := ⟨RX1, "changeSetting", "(II)I"⟩
abbrev cX1_errorOfSamples : ByteArray := prog_3_method_7_code
def yX1_errorOfSamples : MethodName := ⟨RX1, "errorOfSamples", "(II)I"⟩
abbrev cX1_takeSamples : ByteArray := prog_3_method_8_code
def yX1_takeSamples : MethodName := ⟨RX1, "takeSamples", "(II)I"⟩
abbrev cX1_takeSample : ByteArray := prog_3_method_9_code
def yX1_takeSample : MethodName := ⟨RX1, "takeSample", "(I)Z"⟩
abbrev cX1_detect : ByteArray := prog_3_method_10_code
def yX1_detect : MethodName := ⟨RX1, "detect", "(I)Z"⟩
abbrev cX1_detectorAfter : ByteArray := prog_3_method_11_code
def yX1_detectorAfter : MethodName := ⟨RX1, "detectorAfter", "(III)I"⟩
abbrev cX1_beginSegment : ByteArray := prog_3_method_12_code
def yX1_beginSegment : MethodName := ⟨RX1, "beginSegment", "()V"⟩
abbrev cX1_completeSegment : ByteArray := prog_3_method_13_code
def yX1_completeSegment : MethodName := ⟨RX1, "completeSegment", "()V"⟩
abbrev cX1_forget : ByteArray := prog_3_method_14_code
def yX1_forget : MethodName := ⟨RX1, "forget", "()I"⟩
abbrev cX1_phase : ByteArray := prog_3_method_15_code
def yX1_phase : MethodName := ⟨RX1, "phase", "()I"⟩
abbrev cX1_numberOf : ByteArray := prog_3_method_16_code
def yX1_numberOf : MethodName := ⟨RX1, "numberOf", "(I)I"⟩
abbrev cX1_sampleAt : ByteArray := prog_3_method_17_code
def yX1_sampleAt : MethodName := ⟨RX1, "sampleAt", "(I)I"⟩
abbrev cX1_leastOf : ByteArray := prog_3_method_18_code
def yX1_leastOf : MethodName := ⟨RX1, "leastOf", "(I)I"⟩
abbrev cX1_greatestOf : ByteArray := prog_3_method_19_code
def yX1_greatestOf : MethodName := ⟨RX1, "greatestOf", "(I)I"⟩
abbrev cX1_sumOf : ByteArray := prog_3_method_20_code
def yX1_sumOf : MethodName := ⟨RX1, "sumOf", "(I)I"⟩
abbrev cX1_upsOf : ByteArray := prog_3_method_21_code
def yX1_upsOf : MethodName := ⟨RX1, "upsOf", "(I)I"⟩
abbrev cX1_greatestLevel : ByteArray := prog_3_method_22_code
def yX1_greatestLevel : MethodName := ⟨RX1, "greatestLevel", "()I"⟩
abbrev cX1_firingsWith : ByteArray := prog_3_method_23_code
def yX1_firingsWith : MethodName := ⟨RX1, "firingsWith", "(I)I"⟩
abbrev cX1_differenceOf : ByteArray := prog_3_method_24_code
def yX1_differenceOf : MethodName := ⟨RX1, "differenceOf", "(II)I"⟩
def RX2 : String := "CaptureSegments$Pad"
def TX2 : u_T := fun k => match k with
  | 0 => ("CaptureSegments$Pad", "codes", "[I", true)
  | 1 => ("CaptureSegments$Pad", "length", "I", false)
  | 2 => ("CaptureSegments$Pad", "actions", "[I", true)
  | 3 => ("CaptureSegments$Pad", "values", "[I", true)
  | 4 => ("CaptureSegments$Pad", "times", "[I", true)
  | 5 => ("CaptureSegments$Pad", "ends", "[I", true)
  | 6 => ("CaptureSegments$Pad", "steps", "I", false)
  | 7 => ("CaptureSegments$Pad", "place", "I", false)
  | _ => ("CaptureSegments$Pad", "number", "I", false)
def tyX2 : Nat → FieldType := fun k => match k with
  | 0 => .array .int
  | 1 => .int
  | 2 => .array .int
  | 3 => .array .int
  | 4 => .array .int
  | 5 => .array .int
  | 6 => .int
  | 7 => .int
  | _ => .int
abbrev wsX20 : List Cond := u_ws RX2 TX2 9
theorem nmX2 : ∀ a, a < 9 → ∀ b, b < 9 → a ≠ b → (TX2 a).2.1 ≠ (TX2 b).2.1 := by decide +kernel
theorem tyX2_ok : ∀ k, k < 9 → parseFieldDescriptor (TX2 k).2.2.1 = some (tyX2 k) := by decide +kernel
abbrev cX2_init : ByteArray := prog_4_method_1_code
def yX2_init : MethodName := ⟨RX2, "<init>", "()V"⟩
def RX3 : String := "CaptureSegments$Segments"
def TX3 : u_T := fun k => match k with
  | 0 => ("CaptureSegments$Segments", "numbers", "[I", true)
  | _ => ("CaptureSegments$Segments", "size", "I", false)
def tyX3 : Nat → FieldType := fun k => match k with
  | 0 => .array .int
  | _ => .int
abbrev wsX30 : List Cond := u_ws RX3 TX3 2
theorem nmX3 : ∀ a, a < 2 → ∀ b, b < 2 → a ≠ b → (TX3 a).2.1 ≠ (TX3 b).2.1 := by decide +kernel
theorem tyX3_ok : ∀ k, k < 2 → parseFieldDescriptor (TX3 k).2.2.1 = some (tyX3 k) := by decide +kernel
abbrev cX3_init : ByteArray := prog_5_method_1_code
def yX3_init : MethodName := ⟨RX3, "<init>", "()V"⟩
abbrev cX3_has : ByteArray := prog_5_method_2_code
def yX3_has : MethodName := ⟨RX3, "has", "(I)Z"⟩
abbrev cX3_numberOf : ByteArray := prog_5_method_3_code
def yX3_numberOf : MethodName := ⟨RX3, "numberOf", "(II)I"⟩
abbrev cX3_firstOf : ByteArray := prog_5_method_4_code
def yX3_firstOf : MethodName := ⟨RX3, "firstOf", "(I)I"⟩
abbrev cX3_behindOf : ByteArray := prog_5_method_5_code
def yX3_behindOf : MethodName := ⟨RX3, "behindOf", "(I)I"⟩
abbrev cX3_append : ByteArray := prog_5_method_6_code
def yX3_append : MethodName := ⟨RX3, "append", "(IIII)V"⟩
abbrev cX3_removeAt : ByteArray := prog_5_method_7_code
def yX3_removeAt : MethodName := ⟨RX3, "removeAt", "(I)V"⟩
abbrev cX3_keepLatest : ByteArray := prog_5_method_8_code
def yX3_keepLatest : MethodName := ⟨RX3, "keepLatest", "(I)V"⟩
abbrev cX3_takeOver : ByteArray := prog_5_method_9_code
def yX3_takeOver : MethodName := ⟨RX3, "takeOver", "(LCaptureSegments$Segments;)V"⟩
def RX4 : String := "CaptureSegments$Slots"
def TX4 : u_T := fun k => match k with
  | 0 => ("CaptureSegments$Slots", "states", "[LCaptureSegments$Memory;", true)
  | _ => ("CaptureSegments$Slots", "saved", "[Z", true)
def tyX4 : Nat → FieldType := fun k => match k with
  | 0 => .array (.object "CaptureSegments$Memory")
  | _ => .array .boolean
abbrev wsX40 : List Cond := u_ws RX4 TX4 2
theorem nmX4 : ∀ a, a < 2 → ∀ b, b < 2 → a ≠ b → (TX4 a).2.1 ≠ (TX4 b).2.1 := by decide +kernel
theorem tyX4_ok : ∀ k, k < 2 → parseFieldDescriptor (TX4 k).2.2.1 = some (tyX4 k) := by decide +kernel
abbrev cX4_init : ByteArray := prog_6_method_1_code
def yX4_init : MethodName := ⟨RX4, "<init>", "()V"⟩
def RX5 : String := "CaptureSegments"
def TX5 : u_T := fun k => match k with
  | 0 => ("CaptureSegments", "memory", "LCaptureSegments$Memory;", true)
  | 1 => ("CaptureSegments", "history", "LCaptureSegments$History;", true)
  | 2 => ("CaptureSegments", "slots", "LCaptureSegments$Slots;", true)
  | _ => ("CaptureSegments", "pad", "LCaptureSegments$Pad;", true)
def tyX5 : Nat → FieldType := fun k => match k with
  | 0 => .object "CaptureSegments$Memory"
  | 1 => .object "CaptureSegments$History"
  | 2 => .object "CaptureSegments$Slots"
  | _ => .object "CaptureSegments$Pad"
abbrev wsX50 : List Cond := u_ws RX5 TX5 4
theorem nmX5 : ∀ a, a < 4 → ∀ b, b < 4 → a ≠ b → (TX5 a).2.1 ≠ (TX5 b).2.1 := by decide +kernel
theorem tyX5_ok : ∀ k, k < 4 → parseFieldDescriptor (TX5 k).2.2.1 = some (tyX5 k) := by decide +kernel
abbrev cX5_init : ByteArray := prog_1_method_1_code
def yX5_init : MethodName := ⟨RX5, "<init>", "()V"⟩
abbrev cX5_set : ByteArray := prog_1_method_2_code
def yX5_set : MethodName := ⟨RX5, "set", "(II)I"⟩
abbrev cX5_feed : ByteArray := prog_1_method_3_code
def yX5_feed : MethodName := ⟨RX5, "feed", "(II)I"⟩
abbrev cX5_clear : ByteArray := prog_1_method_4_code
def yX5_clear : MethodName := ⟨RX5, "clear", "()I"⟩
abbrev cX5_drop : ByteArray := prog_1_method_5_code
def yX5_drop : MethodName := ⟨RX5, "drop", "(I)I"⟩
abbrev cX5_segment : ByteArray := prog_1_method_6_code
def yX5_segment : MethodName := ⟨RX5, "segment", "(II)I"⟩
abbrev cX5_sampleOf : ByteArray := prog_1_method_7_code
def yX5_sampleOf : MethodName := ⟨RX5, "sampleOf", "(II)I"⟩
abbrev cX5_sample : ByteArray := prog_1_method_8_code
def yX5_sample : MethodName := ⟨RX5, "sample", "(I)I"⟩
abbrev cX5_count : ByteArray := prog_1_method_9_code
def yX5_count : MethodName := ⟨RX5, "count", "(I)I"⟩
abbrev cX5_fires : ByteArray := prog_1_method_10_code
def yX5_fires : MethodName := ⟨RX5, "fires", "(I)I"⟩
abbrev cX5_bestLevel : ByteArray := prog_1_method_11_code
def yX5_bestLevel : MethodName := ⟨RX5, "bestLevel", "(I)I"⟩
abbrev cX5_unlike : ByteArray := prog_1_method_12_code
def yX5_unlike : MethodName := ⟨RX5, "unlike", "(II)I"⟩
abbrev cX5_nearest : ByteArray := prog_1_method_13_code
def yX5_nearest : MethodName := ⟨RX5, "nearest", "(I)I"⟩
abbrev cX5_undo : ByteArray := prog_1_method_19_code
def yX5_undo : MethodName := ⟨RX5, "undo", "()I"⟩
abbrev cX5_at : ByteArray := prog_1_method_22_code
def yX5_at : MethodName := ⟨RX5, "at", "([II)I"⟩
abbrev cX5_writeAt : ByteArray := prog_1_method_23_code
def yX5_writeAt : MethodName := ⟨RX5, "writeAt", "([III)V"⟩
abbrev cX5_copyRow : ByteArray := prog_1_method_24_code
def yX5_copyRow : MethodName := ⟨RX5, "copyRow", "([I[I)V"⟩
abbrev cX5_memoryAt : ByteArray := prog_1_method_25_code
def yX5_memoryAt : MethodName := ⟨RX5, "memoryAt", "([LCaptureSegments$Memory;I)LCaptureSegments$Memory;"⟩
def RX6 : String := "CaptureSegmentsModel"
def TX6 : u_T := fun k => match k with
  | _ => ("", "", "", false)
def tyX6 : Nat → FieldType := fun k => match k with
  | _ => .int
abbrev wsX60 : List Cond := u_ws RX6 TX6 0
theorem nmX6 : ∀ a, a < 0 → ∀ b, b < 0 → a ≠ b → (TX6 a).2.1 ≠ (TX6 b).2.1 := by decide +kernel
theorem tyX6_ok : ∀ k, k < 0 → parseFieldDescriptor (TX6 k).2.2.1 = some (tyX6 k) := by decide +kernel
def RJ9 : String := "java/lang/Math"
def TJ9 : u_T := fun k => match k with
  | _ => ("", "", "", false)
def tyJ9 : Nat → FieldType := fun k => match k with
  | _ => .int
abbrev wsJ90 : List Cond := u_ws RJ9 TJ9 0
theorem nmJ9 : ∀ a, a < 0 → ∀ b, b < 0 → a ≠ b → (TJ9 a).2.1 ≠ (TJ9 b).2.1 := by decide +kernel
theorem tyJ9_ok : ∀ k, k < 0 → parseFieldDescriptor (TJ9 k).2.2.1 = some (tyJ9 k) := by decide +kernel
abbrev cJ9_abs_0f7a4 : ByteArray := prog_9_method_59_code
def yJ9_abs_0f7a4 : MethodName := ⟨RJ9, "abs", "(I)I"⟩
abbrev cJ9_max_7cf53 : ByteArray := prog_9_method_65_code
def yJ9_max_7cf53 : MethodName := ⟨RJ9, "max", "(II)I"⟩
abbrev cJ9_min_7cf53 : ByteArray := prog_9_method_69_code
def yJ9_min_7cf53 : MethodName := ⟨RJ9, "min", "(II)I"⟩
def RJ10 : String := "java/lang/System"
def TJ10 : u_T := fun k => match k with
  | _ => ("", "", "", false)
def tyJ10 : Nat → FieldType := fun k => match k with
  | _ => .int
abbrev wsJ100 : List Cond := u_ws RJ10 TJ10 0
theorem nmJ10 : ∀ a, a < 0 → ∀ b, b < 0 → a ≠ b → (TJ10 a).2.1 ≠ (TJ10 b).2.1 := by decide +kernel
theorem tyJ10_ok : ∀ k, k < 0 → parseFieldDescriptor (TJ10 k).2.2.1 = some (tyJ10 k) := by decide +kernel
def RL : String := "CaptureSegmentsLaw"
abbrev cL_cell : ByteArray := method_2_code
def yL_cell : MethodName := ⟨RL, "cell", "([II)I"⟩
abbrev cL_up : ByteArray := method_3_code
def yL_up : MethodName := ⟨RL, "up", "(II)I"⟩
abbrev cL_isStep : ByteArray := method_4_code
def yL_isStep : MethodName := ⟨RL, "isStep", "(LCaptureSegments;LCaptureSegments;I)Z"⟩
abbrev cL_areAlike : ByteArray := method_5_code
def yL_areAlike : MethodName := ⟨RL, "areAlike", "(LCaptureSegments;LCaptureSegments;I)Z"⟩
abbrev cL_isWell : ByteArray := method_6_code
def yL_isWell : MethodName := ⟨RL, "isWell", "(LCaptureSegments;)Z"⟩
abbrev cL_law : ByteArray := code
def yL_law : MethodName := ⟨RL, "law", "([I)Z"⟩
/-- the objects of CaptureSegments$History, kind 0: what each holds, by its address -/
abbrev vwCl : List vw_C := [(RX0, TX0, 3), (RX1, TX1, 15), (RX2, TX2, 9), (RX3, TX3, 2), (RX4, TX4, 2), (RX5, TX5, 4)]
end
section
/-! the words of the tables that a callee may be given: the good ones -/
def WL : List Cond := lw_tbl.filter goodWord
def isNest : Cond → Bool
  | .fieldLinkNest _ _ _ _ _ _ => true
  | .methodLinkNest _ _ _ _ => true
  | _ => false
def NL : List Cond := lw_tbl.filter isNest
theorem wl_mem {w : Cond} (i : Nat) (h : lw_tbl[i]? = some w) (g : goodWord w = true) : w ∈ WL := List.mem_filter.mpr ⟨List.mem_of_getElem? h, g⟩
theorem nl_mem {w : Cond} (i : Nat) (h : lw_tbl[i]? = some w) (g : isNest w = true) : w ∈ NL := List.mem_filter.mpr ⟨List.mem_of_getElem? h, g⟩
theorem wl_good : ∀ w ∈ WL, (w.onTables && w.keeps) = true ∨ ∃ ty, w = .arrayClass ty := fun w h => good_of_word (List.mem_filter.mp h).2
theorem gi_c {y : Cond} (hy : y ∈ WL) : GoodIn WL (y :: WL) := fun w h => by
  rcases List.mem_cons.mp h with rfl | h
  · exact ⟨hy, wl_good _ hy⟩
  · exact ⟨h, wl_good _ h⟩
theorem gi_c2 {y : Cond} {l : List Cond} (hy : y ∈ WL) (h : GoodIn WL l) : GoodIn WL (y :: l) := fun w h9 => by
  rcases List.mem_cons.mp h9 with rfl | h9
  · exact ⟨hy, wl_good _ hy⟩
  · exact h w h9
abbrev xLV (own : String) (idx : Nat) (C : String) (y : MethodName) (bytes : ByteArray) (maxL : Nat) (ret : Option FieldType) (n : Nat) : Prop := GoodIn WL (wsV own idx C y (Cond.code y bytes maxL ret :: WL)) ∧ (y.cls = C ∧ y.cls ≠ "java/lang/invoke/MethodHandle" ∧ y.cls ≠ "java/lang/invoke/VarHandle" ∧ (parseMethodDescriptor y.desc).map (fun d => d.parameters.length) = some n)
abbrev xLS (own : String) (idx : Nat) (y : MethodName) (bytes : ByteArray) (maxL : Nat) (ret : Option FieldType) (n : Nat) : Prop := GoodIn WL (va_wsS own idx y (Cond.code y bytes maxL ret :: WL)) ∧ (y.cls ≠ "java/lang/invoke/MethodHandle" ∧ y.cls ≠ "java/lang/invoke/VarHandle" ∧ (parseMethodDescriptor y.desc).map (fun d => d.parameters.length) = some n)
abbrev xLI (own : String) (idx : Nat) (y : MethodName) (bytes : ByteArray) (maxL : Nat) (n : Nat) : Prop := (Cond.code y bytes maxL none ∈ WL ∧ Cond.initialized y.cls ∈ WL ∧ Cond.methodLink own idx y ∈ WL ∧ Cond.instanceMethod y ∈ WL ∧ y.name = "<init>") ∧ (y.cls ≠ "java/lang/invoke/MethodHandle" ∧ y.cls ≠ "java/lang/invoke/VarHandle" ∧ (parseMethodDescriptor y.desc).map (fun d => d.parameters.length) = some n)
abbrev xLSN (own : String) (idx : Nat) (y : MethodName) (host : String) (bytes : ByteArray) (maxL : Nat) (ret : Option FieldType) (n : Nat) : Prop := (Cond.code y bytes maxL ret ∈ WL ∧ Cond.initialized y.cls ∈ WL ∧ Cond.methodLinkNest own idx y host ∈ NL ∧ Cond.static y ∈ WL) ∧ (y.cls ≠ "java/lang/invoke/MethodHandle" ∧ y.cls ≠ "java/lang/invoke/VarHandle" ∧ (parseMethodDescriptor y.desc).map (fun d => d.parameters.length) = some n)
abbrev xLIN (own : String) (idx : Nat) (y : MethodName) (host : String) (bytes : ByteArray) (maxL : Nat) (n : Nat) : Prop := (Cond.code y bytes maxL none ∈ WL ∧ Cond.initialized y.cls ∈ WL ∧ Cond.methodLinkNest own idx y host ∈ NL ∧ Cond.instanceMethod y ∈ WL ∧ y.name = "<init>") ∧ (y.cls ≠ "java/lang/invoke/MethodHandle" ∧ y.cls ≠ "java/lang/invoke/VarHandle" ∧ (parseMethodDescriptor y.desc).map (fun d => d.parameters.length) = some n)
theorem gi_V {own C : String} {idx : Nat} {y : MethodName} {bytes : ByteArray} {maxL : Nat} {ret : Option FieldType} (h1 : Cond.methodLink own idx y ∈ WL) (h2 : Cond.instanceMethod y ∈ WL) (h3 : Cond.selects C y y ∈ WL) (h4 : Cond.initialized C ∈ WL) (h5 : Cond.code y bytes maxL ret ∈ WL) : GoodIn WL (wsV own idx C y (Cond.code y bytes maxL ret :: WL)) := gi_c2 h1 (gi_c2 h2 (gi_c2 h3 (gi_c2 h4 (gi_c h5))))
theorem gi_S {own : String} {idx : Nat} {y : MethodName} {bytes : ByteArray} {maxL : Nat} {ret : Option FieldType} (h1 : Cond.methodLink own idx y ∈ WL) (h2 : Cond.static y ∈ WL) (h4 : Cond.initialized y.cls ∈ WL) (h5 : Cond.code y bytes maxL ret ∈ WL) : GoodIn WL (va_wsS own idx y (Cond.code y bytes maxL ret :: WL)) := gi_c2 h1 (gi_c2 h2 (gi_c2 h4 (gi_c h5)))
theorem ws_X1_fits : Cond.selects RX1 yX1_fits yX1_fits ∈ WL := wl_mem 0 (by decide +kernel) (by decide +kernel)
theorem ws_X1_takeSample : Cond.selects RX1 yX1_takeSample yX1_takeSample ∈ WL := wl_mem 1 (by decide +kernel) (by decide +kernel)
theorem ws_X1_detect : Cond.selects RX1 yX1_detect yX1_detect ∈ WL := wl_mem 2 (by decide +kernel) (by decide +kernel)
theorem ws_X1_detectorAfter : Cond.selects RX1 yX1_detectorAfter yX1_detectorAfter ∈ WL := wl_mem 3 (by decide +kernel) (by decide +kernel)
theorem ws_X1_beginSegment : Cond.selects RX1 yX1_beginSegment yX1_beginSegment ∈ WL := wl_mem 4 (by decide +kernel) (by decide +kernel)
theorem ws_X1_completeSegment : Cond.selects RX1 yX1_completeSegment yX1_completeSegment ∈ WL := wl_mem 5 (by decide +kernel) (by decide +kernel)
theorem wz_L : Cond.initialized RL ∈ WL := wl_mem 6 (by decide +kernel) (by decide +kernel)
theorem wz_X5 : Cond.initialized RX5 ∈ WL := wl_mem 7 (by decide +kernel) (by decide +kernel)
theorem wz_X1 : Cond.initialized RX1 ∈ WL := wl_mem 8 (by decide +kernel) (by decide +kernel)
theorem wz_X3 : Cond.initialized RX3 ∈ WL := wl_mem 9 (by decide +kernel) (by decide +kernel)
theorem wz_Math : Cond.initialized "java/lang/Math" ∈ WL := wl_mem 10 (by decide +kernel) (by decide +kernel)
theorem wz_System : Cond.initialized "java/lang/System" ∈ WL := wl_mem 11 (by decide +kernel) (by decide +kernel)
theorem wz_X0 : Cond.initialized RX0 ∈ WL := wl_mem 12 (by decide +kernel) (by decide +kernel)
theorem wz_X4 : Cond.initialized RX4 ∈ WL := wl_mem 13 (by decide +kernel) (by decide +kernel)
theorem wz_X2 : Cond.initialized RX2 ∈ WL := wl_mem 14 (by decide +kernel) (by decide +kernel)
theorem wl_L_10 : Cond.classLink RL 10 RX5 ∈ WL := wl_mem 15 (by decide +kernel) (by decide +kernel)
theorem wo_X5 : Cond.instantiable RX5 4 ∈ WL := wl_mem 16 (by decide +kernel) (by decide +kernel)
theorem wm_L_58 : Cond.methodLink RL 58 yX5_init ∈ WL := wl_mem 17 (by decide +kernel) (by decide +kernel)
theorem wi_X5_init : Cond.instanceMethod yX5_init ∈ WL := wl_mem 18 (by decide +kernel) (by decide +kernel)
theorem wc_X5_init : Cond.code yX5_init cX5_init 1 none ∈ WL := wl_mem 19 (by decide +kernel) (by decide +kernel)
theorem wm_X5_1 : Cond.methodLink RX5 1 objectInit ∈ WL := wl_mem 20 (by decide +kernel) (by decide +kernel)
theorem wi_jobj : Cond.instanceMethod objectInit ∈ WL := wl_mem 21 (by decide +kernel) (by decide +kernel)
theorem wc_jobj : Cond.code objectInit ⟨#[0xb1]⟩ 1 none ∈ WL := wl_mem 22 (by decide +kernel) (by decide +kernel)
theorem wl_X5_7 : Cond.classLink RX5 7 RX1 ∈ WL := wl_mem 23 (by decide +kernel) (by decide +kernel)
theorem wo_X1 : Cond.instantiable RX1 15 ∈ WL := wl_mem 24 (by decide +kernel) (by decide +kernel)
theorem wm_X5_9 : Cond.methodLink RX5 9 yX1_init ∈ WL := wl_mem 25 (by decide +kernel) (by decide +kernel)
theorem wi_X1_init : Cond.instanceMethod yX1_init ∈ WL := wl_mem 26 (by decide +kernel) (by decide +kernel)
theorem wc_X1_init : Cond.code yX1_init cX1_init 1 none ∈ WL := wl_mem 27 (by decide +kernel) (by decide +kernel)
theorem wm_X1_3 : Cond.methodLink RX1 3 objectInit ∈ WL := wl_mem 28 (by decide +kernel) (by decide +kernel)
theorem wl_X1_18 : Cond.classLink RX1 18 RX3 ∈ WL := wl_mem 29 (by decide +kernel) (by decide +kernel)
theorem wo_X3 : Cond.instantiable RX3 2 ∈ WL := wl_mem 30 (by decide +kernel) (by decide +kernel)
theorem wn_X1_20 : Cond.methodLinkNest RX1 20 yX3_init RX5 ∈ NL := nl_mem 31 (by decide +kernel) (by decide +kernel)
theorem wi_X3_init : Cond.instanceMethod yX3_init ∈ WL := wl_mem 32 (by decide +kernel) (by decide +kernel)
theorem wc_X3_init : Cond.code yX3_init cX3_init 1 none ∈ WL := wl_mem 33 (by decide +kernel) (by decide +kernel)
theorem wm_X3_3 : Cond.methodLink RX3 3 objectInit ∈ WL := wl_mem 34 (by decide +kernel) (by decide +kernel)
theorem wf_X3_9 : Cond.fieldLink RX3 9 "CaptureSegments$Segments" "numbers" "[I" ∈ WL := wl_mem 35 (by decide +kernel) (by decide +kernel)
theorem wf_X3_15 : Cond.fieldLink RX3 15 "CaptureSegments$Segments" "size" "I" ∈ WL := wl_mem 36 (by decide +kernel) (by decide +kernel)
theorem wg_X5_72 : Cond.fieldLinkNest RX5 72 "CaptureSegments$Segments" "size" "I" RX5 ∈ NL := nl_mem 37 (by decide +kernel) (by decide +kernel)
theorem wg_X1_124 : Cond.fieldLinkNest RX1 124 "CaptureSegments$Segments" "size" "I" RX5 ∈ NL := nl_mem 38 (by decide +kernel) (by decide +kernel)
theorem wa_int : Cond.arrayClass .int ∈ WL := wl_mem 44 (by decide +kernel) (by decide +kernel)
theorem wg_X1_62 : Cond.fieldLinkNest RX1 62 "CaptureSegments" "FIRST_OF_SETTING" "[I" RX5 ∈ NL := nl_mem 45 (by decide +kernel) (by decide +kernel)
theorem wn_X1_65 : Cond.methodLinkNest RX1 65 yX5_copyRow RX5 ∈ NL := nl_mem 47 (by decide +kernel) (by decide +kernel)
theorem wt_X5_copyRow : Cond.static yX5_copyRow ∈ WL := wl_mem 48 (by decide +kernel) (by decide +kernel)
theorem wc_X5_copyRow : Cond.code yX5_copyRow cX5_copyRow 2 none ∈ WL := wl_mem 49 (by decide +kernel) (by decide +kernel)
theorem wm_X5_165 : Cond.methodLink RX5 165 Lib.Math.min.name ∈ WL := wl_mem 50 (by decide +kernel) (by decide +kernel)
theorem wt_jmin : Cond.static Lib.Math.min.name ∈ WL := wl_mem 51 (by decide +kernel) (by decide +kernel)
theorem wc_jmin : Cond.code Lib.Math.min.name Lib.Math.min.code 2 (some .int) ∈ WL := wl_mem 52 (by decide +kernel) (by decide +kernel)
theorem wm_X5_170 : Cond.methodLink RX5 170 arraycopyName ∈ WL := wl_mem 53 (by decide +kernel) (by decide +kernel)
theorem wt_jcopy : Cond.static arraycopyName ∈ WL := wl_mem 54 (by decide +kernel) (by decide +kernel)
theorem wv_jcopy : Cond.native arraycopyName ∈ WL := wl_mem 55 (by decide +kernel) (by decide +kernel)
theorem wf_X1_9 : Cond.fieldLink RX1 9 "CaptureSegments$Memory" "settings" "[I" ∈ WL := wl_mem 56 (by decide +kernel) (by decide +kernel)
theorem wf_X1_15 : Cond.fieldLink RX1 15 "CaptureSegments$Memory" "samples" "[I" ∈ WL := wl_mem 57 (by decide +kernel) (by decide +kernel)
theorem wf_X1_21 : Cond.fieldLink RX1 21 "CaptureSegments$Memory" "segments" "LCaptureSegments$Segments;" ∈ WL := wl_mem 58 (by decide +kernel) (by decide +kernel)
theorem wg_X5_58 : Cond.fieldLinkNest RX5 58 "CaptureSegments$Memory" "segments" "LCaptureSegments$Segments;" RX5 ∈ NL := nl_mem 59 (by decide +kernel) (by decide +kernel)
theorem wf_X1_25 : Cond.fieldLink RX1 25 "CaptureSegments$Memory" "samplesSoFar" "I" ∈ WL := wl_mem 60 (by decide +kernel) (by decide +kernel)
theorem wg_X5_98 : Cond.fieldLinkNest RX5 98 "CaptureSegments$Memory" "samplesSoFar" "I" RX5 ∈ NL := nl_mem 61 (by decide +kernel) (by decide +kernel)
theorem wf_X1_29 : Cond.fieldLink RX1 29 "CaptureSegments$Memory" "detector" "I" ∈ WL := wl_mem 62 (by decide +kernel) (by decide +kernel)
theorem wf_X1_32 : Cond.fieldLink RX1 32 "CaptureSegments$Memory" "firings" "I" ∈ WL := wl_mem 63 (by decide +kernel) (by decide +kernel)
theorem wf_X1_35 : Cond.fieldLink RX1 35 "CaptureSegments$Memory" "triggers" "I" ∈ WL := wl_mem 64 (by decide +kernel) (by decide +kernel)
theorem wf_X1_38 : Cond.fieldLink RX1 38 "CaptureSegments$Memory" "ignored" "I" ∈ WL := wl_mem 65 (by decide +kernel) (by decide +kernel)
theorem wf_X1_41 : Cond.fieldLink RX1 41 "CaptureSegments$Memory" "completed" "I" ∈ WL := wl_mem 66 (by decide +kernel) (by decide +kernel)
theorem wf_X1_44 : Cond.fieldLink RX1 44 "CaptureSegments$Memory" "since" "I" ∈ WL := wl_mem 67 (by decide +kernel) (by decide +kernel)
theorem wf_X1_47 : Cond.fieldLink RX1 47 "CaptureSegments$Memory" "capturedTrigger" "I" ∈ WL := wl_mem 68 (by decide +kernel) (by decide +kernel)
theorem wf_X1_50 : Cond.fieldLink RX1 50 "CaptureSegments$Memory" "capturedDepth" "I" ∈ WL := wl_mem 69 (by decide +kernel) (by decide +kernel)
theorem wf_X1_53 : Cond.fieldLink RX1 53 "CaptureSegments$Memory" "capturedPre" "I" ∈ WL := wl_mem 70 (by decide +kernel) (by decide +kernel)
theorem wf_X1_56 : Cond.fieldLink RX1 56 "CaptureSegments$Memory" "capturedKind" "I" ∈ WL := wl_mem 71 (by decide +kernel) (by decide +kernel)
theorem wf_X1_59 : Cond.fieldLink RX1 59 "CaptureSegments$Memory" "yetToGet" "I" ∈ WL := wl_mem 72 (by decide +kernel) (by decide +kernel)
theorem wl_X5_16 : Cond.classLink RX5 16 RX0 ∈ WL := wl_mem 104 (by decide +kernel) (by decide +kernel)
theorem wo_X0 : Cond.instantiable RX0 3 ∈ WL := wl_mem 105 (by decide +kernel) (by decide +kernel)
theorem wm_X5_18 : Cond.methodLink RX5 18 yX0_init ∈ WL := wl_mem 106 (by decide +kernel) (by decide +kernel)
theorem wi_X0_init : Cond.instanceMethod yX0_init ∈ WL := wl_mem 107 (by decide +kernel) (by decide +kernel)
theorem wc_X0_init : Cond.code yX0_init cX0_init 2 none ∈ WL := wl_mem 108 (by decide +kernel) (by decide +kernel)
theorem wm_X0_3 : Cond.methodLink RX0 3 objectInit ∈ WL := wl_mem 109 (by decide +kernel) (by decide +kernel)
theorem wl_X0_9 : Cond.classLink RX0 9 RX1 ∈ WL := wl_mem 110 (by decide +kernel) (by decide +kernel)
theorem wm_X0_24 : Cond.methodLink RX0 24 yX1_init ∈ WL := wl_mem 112 (by decide +kernel) (by decide +kernel)
theorem wf_X0_11 : Cond.fieldLink RX0 11 "CaptureSegments$History" "states" "[LCaptureSegments$Memory;" ∈ WL := wl_mem 113 (by decide +kernel) (by decide +kernel)
theorem wf_X0_17 : Cond.fieldLink RX0 17 "CaptureSegments$History" "next" "I" ∈ WL := wl_mem 114 (by decide +kernel) (by decide +kernel)
theorem wf_X0_21 : Cond.fieldLink RX0 21 "CaptureSegments$History" "size" "I" ∈ WL := wl_mem 115 (by decide +kernel) (by decide +kernel)
theorem wg_X5_101 : Cond.fieldLinkNest RX5 101 "CaptureSegments$History" "size" "I" RX5 ∈ NL := nl_mem 116 (by decide +kernel) (by decide +kernel)
theorem wl_X5_23 : Cond.classLink RX5 23 RX4 ∈ WL := wl_mem 124 (by decide +kernel) (by decide +kernel)
theorem wo_X4 : Cond.instantiable RX4 2 ∈ WL := wl_mem 125 (by decide +kernel) (by decide +kernel)
theorem wm_X5_25 : Cond.methodLink RX5 25 yX4_init ∈ WL := wl_mem 126 (by decide +kernel) (by decide +kernel)
theorem wi_X4_init : Cond.instanceMethod yX4_init ∈ WL := wl_mem 127 (by decide +kernel) (by decide +kernel)
theorem wc_X4_init : Cond.code yX4_init cX4_init 2 none ∈ WL := wl_mem 128 (by decide +kernel) (by decide +kernel)
theorem wm_X4_3 : Cond.methodLink RX4 3 objectInit ∈ WL := wl_mem 129 (by decide +kernel) (by decide +kernel)
theorem wl_X4_9 : Cond.classLink RX4 9 RX1 ∈ WL := wl_mem 130 (by decide +kernel) (by decide +kernel)
theorem wm_X4_21 : Cond.methodLink RX4 21 yX1_init ∈ WL := wl_mem 131 (by decide +kernel) (by decide +kernel)
theorem wf_X4_11 : Cond.fieldLink RX4 11 "CaptureSegments$Slots" "states" "[LCaptureSegments$Memory;" ∈ WL := wl_mem 132 (by decide +kernel) (by decide +kernel)
theorem wf_X4_17 : Cond.fieldLink RX4 17 "CaptureSegments$Slots" "saved" "[Z" ∈ WL := wl_mem 133 (by decide +kernel) (by decide +kernel)
theorem wa_boolean : Cond.arrayClass .boolean ∈ WL := wl_mem 139 (by decide +kernel) (by decide +kernel)
theorem wl_X5_30 : Cond.classLink RX5 30 RX2 ∈ WL := wl_mem 140 (by decide +kernel) (by decide +kernel)
theorem wo_X2 : Cond.instantiable RX2 9 ∈ WL := wl_mem 141 (by decide +kernel) (by decide +kernel)
theorem wn_X5_32 : Cond.methodLinkNest RX5 32 yX2_init RX5 ∈ NL := nl_mem 142 (by decide +kernel) (by decide +kernel)
theorem wi_X2_init : Cond.instanceMethod yX2_init ∈ WL := wl_mem 143 (by decide +kernel) (by decide +kernel)
theorem wc_X2_init : Cond.code yX2_init cX2_init 1 none ∈ WL := wl_mem 144 (by decide +kernel) (by decide +kernel)
theorem wm_X2_3 : Cond.methodLink RX2 3 objectInit ∈ WL := wl_mem 145 (by decide +kernel) (by decide +kernel)
theorem wf_X2_9 : Cond.fieldLink RX2 9 "CaptureSegments$Pad" "codes" "[I" ∈ WL := wl_mem 146 (by decide +kernel) (by decide +kernel)
theorem wf_X2_15 : Cond.fieldLink RX2 15 "CaptureSegments$Pad" "length" "I" ∈ WL := wl_mem 147 (by decide +kernel) (by decide +kernel)
theorem wg_X5_102 : Cond.fieldLinkNest RX5 102 "CaptureSegments$Pad" "length" "I" RX5 ∈ NL := nl_mem 148 (by decide +kernel) (by decide +kernel)
theorem wf_X2_19 : Cond.fieldLink RX2 19 "CaptureSegments$Pad" "actions" "[I" ∈ WL := wl_mem 149 (by decide +kernel) (by decide +kernel)
theorem wf_X2_22 : Cond.fieldLink RX2 22 "CaptureSegments$Pad" "values" "[I" ∈ WL := wl_mem 150 (by decide +kernel) (by decide +kernel)
theorem wf_X2_25 : Cond.fieldLink RX2 25 "CaptureSegments$Pad" "times" "[I" ∈ WL := wl_mem 151 (by decide +kernel) (by decide +kernel)
theorem wf_X2_28 : Cond.fieldLink RX2 28 "CaptureSegments$Pad" "ends" "[I" ∈ WL := wl_mem 152 (by decide +kernel) (by decide +kernel)
theorem wf_X2_31 : Cond.fieldLink RX2 31 "CaptureSegments$Pad" "steps" "I" ∈ WL := wl_mem 153 (by decide +kernel) (by decide +kernel)
theorem wf_X2_34 : Cond.fieldLink RX2 34 "CaptureSegments$Pad" "place" "I" ∈ WL := wl_mem 154 (by decide +kernel) (by decide +kernel)
theorem wf_X2_37 : Cond.fieldLink RX2 37 "CaptureSegments$Pad" "number" "I" ∈ WL := wl_mem 155 (by decide +kernel) (by decide +kernel)
theorem wf_X5_10 : Cond.fieldLink RX5 10 "CaptureSegments" "memory" "LCaptureSegments$Memory;" ∈ WL := wl_mem 175 (by decide +kernel) (by decide +kernel)
theorem wf_X5_19 : Cond.fieldLink RX5 19 "CaptureSegments" "history" "LCaptureSegments$History;" ∈ WL := wl_mem 176 (by decide +kernel) (by decide +kernel)
theorem wf_X5_26 : Cond.fieldLink RX5 26 "CaptureSegments" "slots" "LCaptureSegments$Slots;" ∈ WL := wl_mem 177 (by decide +kernel) (by decide +kernel)
theorem wf_X5_33 : Cond.fieldLink RX5 33 "CaptureSegments" "pad" "LCaptureSegments$Pad;" ∈ WL := wl_mem 178 (by decide +kernel) (by decide +kernel)
theorem wm_L_37 : Cond.methodLink RL 37 yX5_set ∈ WL := wl_mem 188 (by decide +kernel) (by decide +kernel)
theorem wi_X5_set : Cond.instanceMethod yX5_set ∈ WL := wl_mem 189 (by decide +kernel) (by decide +kernel)
theorem ws_X5_set : Cond.selects RX5 yX5_set yX5_set ∈ WL := wl_mem 190 (by decide +kernel) (by decide +kernel)
theorem wc_X5_set : Cond.code yX5_set cX5_set 4 (some .int) ∈ WL := wl_mem 191 (by decide +kernel) (by decide +kernel)
theorem wm_X5_37 : Cond.methodLink RX5 37 yX1_errorOfSetting ∈ WL := wl_mem 192 (by decide +kernel) (by decide +kernel)
theorem wi_X1_errorOfSetting : Cond.instanceMethod yX1_errorOfSetting ∈ WL := wl_mem 193 (by decide +kernel) (by decide +kernel)
theorem ws_X1_errorOfSetting : Cond.selects RX1 yX1_errorOfSetting yX1_errorOfSetting ∈ WL := wl_mem 194 (by decide +kernel) (by decide +kernel)
theorem wc_X1_errorOfSetting : Cond.code yX1_errorOfSetting cX1_errorOfSetting 3 (some .int) ∈ WL := wl_mem 195 (by decide +kernel) (by decide +kernel)
theorem wg_X1_73 : Cond.fieldLinkNest RX1 73 "CaptureSegments" "LEAST_OF_SETTING" "[I" RX5 ∈ NL := nl_mem 196 (by decide +kernel) (by decide +kernel)
theorem wn_X1_76 : Cond.methodLinkNest RX1 76 yX5_at RX5 ∈ NL := nl_mem 198 (by decide +kernel) (by decide +kernel)
theorem wt_X5_at : Cond.static yX5_at ∈ WL := wl_mem 199 (by decide +kernel) (by decide +kernel)
theorem wc_X5_at : Cond.code yX5_at cX5_at 2 (some .int) ∈ WL := wl_mem 200 (by decide +kernel) (by decide +kernel)
theorem wg_X1_80 : Cond.fieldLinkNest RX1 80 "CaptureSegments" "GREATEST_OF_SETTING" "[I" RX5 ∈ NL := nl_mem 201 (by decide +kernel) (by decide +kernel)
theorem wm_X1_83 : Cond.methodLink RX1 83 yX1_fits ∈ WL := wl_mem 203 (by decide +kernel) (by decide +kernel)
theorem wi_X1_fits : Cond.instanceMethod yX1_fits ∈ WL := wl_mem 205 (by decide +kernel) (by decide +kernel)
theorem wc_X1_fits : Cond.code yX1_fits cX1_fits 3 (some .boolean) ∈ WL := wl_mem 206 (by decide +kernel) (by decide +kernel)
theorem wm_X1_87 : Cond.methodLink RX1 87 yX1_settingOf ∈ WL := wl_mem 207 (by decide +kernel) (by decide +kernel)
theorem wi_X1_settingOf : Cond.instanceMethod yX1_settingOf ∈ WL := wl_mem 208 (by decide +kernel) (by decide +kernel)
theorem ws_X1_settingOf : Cond.selects RX1 yX1_settingOf yX1_settingOf ∈ WL := wl_mem 209 (by decide +kernel) (by decide +kernel)
theorem wc_X1_settingOf : Cond.code yX1_settingOf cX1_settingOf 2 (some .int) ∈ WL := wl_mem 210 (by decide +kernel) (by decide +kernel)
theorem wm_X5_41 : Cond.methodLink RX5 41 yX0_record ∈ WL := wl_mem 211 (by decide +kernel) (by decide +kernel)
theorem wi_X0_record : Cond.instanceMethod yX0_record ∈ WL := wl_mem 212 (by decide +kernel) (by decide +kernel)
theorem ws_X0_record : Cond.selects RX0 yX0_record yX0_record ∈ WL := wl_mem 213 (by decide +kernel) (by decide +kernel)
theorem wc_X0_record : Cond.code yX0_record cX0_record 3 none ∈ WL := wl_mem 214 (by decide +kernel) (by decide +kernel)
theorem wn_X0_25 : Cond.methodLinkNest RX0 25 yX5_memoryAt RX5 ∈ NL := nl_mem 215 (by decide +kernel) (by decide +kernel)
theorem wt_X5_memoryAt : Cond.static yX5_memoryAt ∈ WL := wl_mem 216 (by decide +kernel) (by decide +kernel)
theorem wc_X5_memoryAt : Cond.code yX5_memoryAt cX5_memoryAt 2 (some (.object "CaptureSegments$Memory")) ∈ WL := wl_mem 217 (by decide +kernel) (by decide +kernel)
theorem wm_X0_29 : Cond.methodLink RX0 29 yX1_takeOver ∈ WL := wl_mem 218 (by decide +kernel) (by decide +kernel)
theorem wi_X1_takeOver : Cond.instanceMethod yX1_takeOver ∈ WL := wl_mem 219 (by decide +kernel) (by decide +kernel)
theorem ws_X1_takeOver : Cond.selects RX1 yX1_takeOver yX1_takeOver ∈ WL := wl_mem 220 (by decide +kernel) (by decide +kernel)
theorem wc_X1_takeOver : Cond.code yX1_takeOver cX1_takeOver 2 none ∈ WL := wl_mem 221 (by decide +kernel) (by decide +kernel)
theorem wm_X1_69 : Cond.methodLink RX1 69 yX3_takeOver ∈ WL := wl_mem 222 (by decide +kernel) (by decide +kernel)
theorem wi_X3_takeOver : Cond.instanceMethod yX3_takeOver ∈ WL := wl_mem 223 (by decide +kernel) (by decide +kernel)
theorem ws_X3_takeOver : Cond.selects RX3 yX3_takeOver yX3_takeOver ∈ WL := wl_mem 224 (by decide +kernel) (by decide +kernel)
theorem wc_X3_takeOver : Cond.code yX3_takeOver cX3_takeOver 2 none ∈ WL := wl_mem 225 (by decide +kernel) (by decide +kernel)
theorem wn_X3_39 : Cond.methodLinkNest RX3 39 yX5_copyRow RX5 ∈ NL := nl_mem 226 (by decide +kernel) (by decide +kernel)
theorem wm_X0_33 : Cond.methodLink RX0 33 Lib.Math.min.name ∈ WL := wl_mem 227 (by decide +kernel) (by decide +kernel)
theorem wm_X5_45 : Cond.methodLink RX5 45 yX1_changeSetting ∈ WL := wl_mem 228 (by decide +kernel) (by decide +kernel)
theorem wi_X1_changeSetting : Cond.instanceMethod yX1_changeSetting ∈ WL := wl_mem 229 (by decide +kernel) (by decide +kernel)
theorem ws_X1_changeSetting : Cond.selects RX1 yX1_changeSetting yX1_changeSetting ∈ WL := wl_mem 230 (by decide +kernel) (by decide +kernel)
theorem wc_X1_changeSetting : Cond.code yX1_changeSetting cX1_changeSetting 4 (some .int) ∈ WL := wl_mem 231 (by decide +kernel) (by decide +kernel)
theorem wn_X1_91 : Cond.methodLinkNest RX1 91 yX5_writeAt RX5 ∈ NL := nl_mem 232 (by decide +kernel) (by decide +kernel)
theorem wt_X5_writeAt : Cond.static yX5_writeAt ∈ WL := wl_mem 233 (by decide +kernel) (by decide +kernel)
theorem wc_X5_writeAt : Cond.code yX5_writeAt cX5_writeAt 3 none ∈ WL := wl_mem 234 (by decide +kernel) (by decide +kernel)
theorem wm_X1_95 : Cond.methodLink RX1 95 yX3_keepLatest ∈ WL := wl_mem 235 (by decide +kernel) (by decide +kernel)
theorem wi_X3_keepLatest : Cond.instanceMethod yX3_keepLatest ∈ WL := wl_mem 236 (by decide +kernel) (by decide +kernel)
theorem ws_X3_keepLatest : Cond.selects RX3 yX3_keepLatest yX3_keepLatest ∈ WL := wl_mem 237 (by decide +kernel) (by decide +kernel)
theorem wc_X3_keepLatest : Cond.code yX3_keepLatest cX3_keepLatest 3 none ∈ WL := wl_mem 238 (by decide +kernel) (by decide +kernel)
theorem wm_X3_35 : Cond.methodLink RX3 35 yX3_removeAt ∈ WL := wl_mem 239 (by decide +kernel) (by decide +kernel)
theorem wi_X3_removeAt : Cond.instanceMethod yX3_removeAt ∈ WL := wl_mem 240 (by decide +kernel) (by decide +kernel)
theorem ws_X3_removeAt : Cond.selects RX3 yX3_removeAt yX3_removeAt ∈ WL := wl_mem 241 (by decide +kernel) (by decide +kernel)
theorem wc_X3_removeAt : Cond.code yX3_removeAt cX3_removeAt 3 none ∈ WL := wl_mem 242 (by decide +kernel) (by decide +kernel)
theorem wm_X3_31 : Cond.methodLink RX3 31 yX3_has ∈ WL := wl_mem 243 (by decide +kernel) (by decide +kernel)
theorem wi_X3_has : Cond.instanceMethod yX3_has ∈ WL := wl_mem 244 (by decide +kernel) (by decide +kernel)
theorem ws_X3_has : Cond.selects RX3 yX3_has yX3_has ∈ WL := wl_mem 245 (by decide +kernel) (by decide +kernel)
theorem wc_X3_has : Cond.code yX3_has cX3_has 2 (some .boolean) ∈ WL := wl_mem 246 (by decide +kernel) (by decide +kernel)
theorem wn_X3_19 : Cond.methodLinkNest RX3 19 yX5_at RX5 ∈ NL := nl_mem 247 (by decide +kernel) (by decide +kernel)
theorem wn_X3_27 : Cond.methodLinkNest RX3 27 yX5_writeAt RX5 ∈ NL := nl_mem 248 (by decide +kernel) (by decide +kernel)
theorem wm_L_59 : Cond.methodLink RL 59 yL_cell ∈ WL := wl_mem 249 (by decide +kernel) (by decide +kernel)
theorem wt_L_cell : Cond.static yL_cell ∈ WL := wl_mem 250 (by decide +kernel) (by decide +kernel)
theorem wc_L_cell : Cond.code yL_cell cL_cell 2 (some .int) ∈ WL := wl_mem 251 (by decide +kernel) (by decide +kernel)
theorem wk_L_7 : Cond.constant RL 7 (1991373733) ∈ WL := wl_mem 252 (by decide +kernel) (by decide +kernel)
theorem wm_L_15 : Cond.methodLink RL 15 yL_up ∈ WL := wl_mem 253 (by decide +kernel) (by decide +kernel)
theorem wt_L_up : Cond.static yL_up ∈ WL := wl_mem 254 (by decide +kernel) (by decide +kernel)
theorem wc_L_up : Cond.code yL_up cL_up 2 (some .int) ∈ WL := wl_mem 255 (by decide +kernel) (by decide +kernel)
theorem wk_L_8 : Cond.constant RL 8 (2147483647) ∈ WL := wl_mem 256 (by decide +kernel) (by decide +kernel)
theorem wm_L_63 : Cond.methodLink RL 63 yL_isStep ∈ WL := wl_mem 257 (by decide +kernel) (by decide +kernel)
theorem wt_L_isStep : Cond.static yL_isStep ∈ WL := wl_mem 258 (by decide +kernel) (by decide +kernel)
set_option maxRecDepth 20000 in
theorem wc_L_isStep : Cond.code yL_isStep cL_isStep 12 (some .boolean) ∈ WL := wl_mem 259 (by rfl) (by decide +kernel)
theorem wm_L_9 : Cond.methodLink RL 9 yX5_count ∈ WL := wl_mem 260 (by decide +kernel) (by decide +kernel)
theorem wi_X5_count : Cond.instanceMethod yX5_count ∈ WL := wl_mem 261 (by decide +kernel) (by decide +kernel)
theorem ws_X5_count : Cond.selects RX5 yX5_count yX5_count ∈ WL := wl_mem 262 (by decide +kernel) (by decide +kernel)
theorem wc_X5_count : Cond.code yX5_count cX5_count 2 (some .int) ∈ WL := wl_mem 263 (by decide +kernel) (by decide +kernel)
theorem wm_X5_105 : Cond.methodLink RX5 105 yX1_settingOf ∈ WL := wl_mem 264 (by decide +kernel) (by decide +kernel)
theorem wm_X5_108 : Cond.methodLink RX5 108 yX1_numberOf ∈ WL := wl_mem 265 (by decide +kernel) (by decide +kernel)
theorem wi_X1_numberOf : Cond.instanceMethod yX1_numberOf ∈ WL := wl_mem 266 (by decide +kernel) (by decide +kernel)
theorem ws_X1_numberOf : Cond.selects RX1 yX1_numberOf yX1_numberOf ∈ WL := wl_mem 267 (by decide +kernel) (by decide +kernel)
theorem wc_X1_numberOf : Cond.code yX1_numberOf cX1_numberOf 2 (some .int) ∈ WL := wl_mem 268 (by decide +kernel) (by decide +kernel)
theorem wm_X1_109 : Cond.methodLink RX1 109 yX1_phase ∈ WL := wl_mem 269 (by decide +kernel) (by decide +kernel)
theorem wi_X1_phase : Cond.instanceMethod yX1_phase ∈ WL := wl_mem 270 (by decide +kernel) (by decide +kernel)
theorem ws_X1_phase : Cond.selects RX1 yX1_phase yX1_phase ∈ WL := wl_mem 271 (by decide +kernel) (by decide +kernel)
theorem wc_X1_phase : Cond.code yX1_phase cX1_phase 1 (some .int) ∈ WL := wl_mem 272 (by decide +kernel) (by decide +kernel)
theorem wm_L_21 : Cond.methodLink RL 21 yX5_feed ∈ WL := wl_mem 273 (by decide +kernel) (by decide +kernel)
theorem wi_X5_feed : Cond.instanceMethod yX5_feed ∈ WL := wl_mem 274 (by decide +kernel) (by decide +kernel)
theorem ws_X5_feed : Cond.selects RX5 yX5_feed yX5_feed ∈ WL := wl_mem 275 (by decide +kernel) (by decide +kernel)
theorem wc_X5_feed : Cond.code yX5_feed cX5_feed 4 (some .int) ∈ WL := wl_mem 276 (by decide +kernel) (by decide +kernel)
theorem wm_X5_48 : Cond.methodLink RX5 48 yX1_errorOfSamples ∈ WL := wl_mem 277 (by decide +kernel) (by decide +kernel)
theorem wi_X1_errorOfSamples : Cond.instanceMethod yX1_errorOfSamples ∈ WL := wl_mem 278 (by decide +kernel) (by decide +kernel)
theorem ws_X1_errorOfSamples : Cond.selects RX1 yX1_errorOfSamples yX1_errorOfSamples ∈ WL := wl_mem 279 (by decide +kernel) (by decide +kernel)
theorem wc_X1_errorOfSamples : Cond.code yX1_errorOfSamples cX1_errorOfSamples 3 (some .int) ∈ WL := wl_mem 280 (by decide +kernel) (by decide +kernel)
theorem wm_X5_51 : Cond.methodLink RX5 51 yX1_takeSamples ∈ WL := wl_mem 281 (by decide +kernel) (by decide +kernel)
theorem wi_X1_takeSamples : Cond.instanceMethod yX1_takeSamples ∈ WL := wl_mem 282 (by decide +kernel) (by decide +kernel)
theorem ws_X1_takeSamples : Cond.selects RX1 yX1_takeSamples yX1_takeSamples ∈ WL := wl_mem 283 (by decide +kernel) (by decide +kernel)
theorem wc_X1_takeSamples : Cond.code yX1_takeSamples cX1_takeSamples 5 (some .int) ∈ WL := wl_mem 284 (by decide +kernel) (by decide +kernel)
theorem wm_X1_99 : Cond.methodLink RX1 99 yX1_takeSample ∈ WL := wl_mem 285 (by decide +kernel) (by decide +kernel)
theorem wi_X1_takeSample : Cond.instanceMethod yX1_takeSample ∈ WL := wl_mem 287 (by decide +kernel) (by decide +kernel)
theorem wc_X1_takeSample : Cond.code yX1_takeSample cX1_takeSample 5 (some .boolean) ∈ WL := wl_mem 288 (by decide +kernel) (by decide +kernel)
theorem wm_X1_106 : Cond.methodLink RX1 106 yX1_detect ∈ WL := wl_mem 289 (by decide +kernel) (by decide +kernel)
theorem wi_X1_detect : Cond.instanceMethod yX1_detect ∈ WL := wl_mem 291 (by decide +kernel) (by decide +kernel)
theorem wc_X1_detect : Cond.code yX1_detect cX1_detect 4 (some .boolean) ∈ WL := wl_mem 292 (by decide +kernel) (by decide +kernel)
theorem wm_X1_116 : Cond.methodLink RX1 116 yX1_detectorAfter ∈ WL := wl_mem 293 (by decide +kernel) (by decide +kernel)
theorem wi_X1_detectorAfter : Cond.instanceMethod yX1_detectorAfter ∈ WL := wl_mem 295 (by decide +kernel) (by decide +kernel)
theorem wc_X1_detectorAfter : Cond.code yX1_detectorAfter cX1_detectorAfter 4 (some .int) ∈ WL := wl_mem 296 (by decide +kernel) (by decide +kernel)
theorem wm_X1_113 : Cond.methodLink RX1 113 yX1_beginSegment ∈ WL := wl_mem 297 (by decide +kernel) (by decide +kernel)
theorem wi_X1_beginSegment : Cond.instanceMethod yX1_beginSegment ∈ WL := wl_mem 299 (by decide +kernel) (by decide +kernel)
theorem wc_X1_beginSegment : Cond.code yX1_beginSegment cX1_beginSegment 1 none ∈ WL := wl_mem 300 (by decide +kernel) (by decide +kernel)
theorem wm_X1_103 : Cond.methodLink RX1 103 yX1_completeSegment ∈ WL := wl_mem 301 (by decide +kernel) (by decide +kernel)
theorem wi_X1_completeSegment : Cond.instanceMethod yX1_completeSegment ∈ WL := wl_mem 303 (by decide +kernel) (by decide +kernel)
theorem wc_X1_completeSegment : Cond.code yX1_completeSegment cX1_completeSegment 1 none ∈ WL := wl_mem 304 (by decide +kernel) (by decide +kernel)
theorem wm_X1_120 : Cond.methodLink RX1 120 yX3_append ∈ WL := wl_mem 305 (by decide +kernel) (by decide +kernel)
theorem wi_X3_append : Cond.instanceMethod yX3_append ∈ WL := wl_mem 306 (by decide +kernel) (by decide +kernel)
theorem ws_X3_append : Cond.selects RX3 yX3_append yX3_append ∈ WL := wl_mem 307 (by decide +kernel) (by decide +kernel)
theorem wc_X3_append : Cond.code yX3_append cX3_append 6 none ∈ WL := wl_mem 308 (by decide +kernel) (by decide +kernel)
theorem wm_L_24 : Cond.methodLink RL 24 yX5_sample ∈ WL := wl_mem 309 (by decide +kernel) (by decide +kernel)
theorem wi_X5_sample : Cond.instanceMethod yX5_sample ∈ WL := wl_mem 310 (by decide +kernel) (by decide +kernel)
theorem ws_X5_sample : Cond.selects RX5 yX5_sample yX5_sample ∈ WL := wl_mem 311 (by decide +kernel) (by decide +kernel)
theorem wc_X5_sample : Cond.code yX5_sample cX5_sample 2 (some .int) ∈ WL := wl_mem 312 (by decide +kernel) (by decide +kernel)
theorem wm_X5_95 : Cond.methodLink RX5 95 yX1_sampleAt ∈ WL := wl_mem 313 (by decide +kernel) (by decide +kernel)
theorem wi_X1_sampleAt : Cond.instanceMethod yX1_sampleAt ∈ WL := wl_mem 314 (by decide +kernel) (by decide +kernel)
theorem ws_X1_sampleAt : Cond.selects RX1 yX1_sampleAt yX1_sampleAt ∈ WL := wl_mem 315 (by decide +kernel) (by decide +kernel)
theorem wc_X1_sampleAt : Cond.code yX1_sampleAt cX1_sampleAt 2 (some .int) ∈ WL := wl_mem 316 (by decide +kernel) (by decide +kernel)
theorem wm_L_27 : Cond.methodLink RL 27 yX5_drop ∈ WL := wl_mem 317 (by decide +kernel) (by decide +kernel)
theorem wi_X5_drop : Cond.instanceMethod yX5_drop ∈ WL := wl_mem 318 (by decide +kernel) (by decide +kernel)
theorem ws_X5_drop : Cond.selects RX5 yX5_drop yX5_drop ∈ WL := wl_mem 319 (by decide +kernel) (by decide +kernel)
theorem wc_X5_drop : Cond.code yX5_drop cX5_drop 2 (some .int) ∈ WL := wl_mem 320 (by decide +kernel) (by decide +kernel)
theorem wm_X5_62 : Cond.methodLink RX5 62 yX3_has ∈ WL := wl_mem 321 (by decide +kernel) (by decide +kernel)
theorem wm_X5_68 : Cond.methodLink RX5 68 yX3_removeAt ∈ WL := wl_mem 322 (by decide +kernel) (by decide +kernel)
theorem wm_L_30 : Cond.methodLink RL 30 yX5_clear ∈ WL := wl_mem 323 (by decide +kernel) (by decide +kernel)
theorem wi_X5_clear : Cond.instanceMethod yX5_clear ∈ WL := wl_mem 324 (by decide +kernel) (by decide +kernel)
theorem ws_X5_clear : Cond.selects RX5 yX5_clear yX5_clear ∈ WL := wl_mem 325 (by decide +kernel) (by decide +kernel)
theorem wc_X5_clear : Cond.code yX5_clear cX5_clear 1 (some .int) ∈ WL := wl_mem 326 (by decide +kernel) (by decide +kernel)
theorem wm_X5_54 : Cond.methodLink RX5 54 yX1_forget ∈ WL := wl_mem 327 (by decide +kernel) (by decide +kernel)
theorem wi_X1_forget : Cond.instanceMethod yX1_forget ∈ WL := wl_mem 328 (by decide +kernel) (by decide +kernel)
theorem ws_X1_forget : Cond.selects RX1 yX1_forget yX1_forget ∈ WL := wl_mem 329 (by decide +kernel) (by decide +kernel)
theorem wc_X1_forget : Cond.code yX1_forget cX1_forget 2 (some .int) ∈ WL := wl_mem 330 (by decide +kernel) (by decide +kernel)
theorem wm_L_34 : Cond.methodLink RL 34 yX5_undo ∈ WL := wl_mem 331 (by decide +kernel) (by decide +kernel)
theorem wi_X5_undo : Cond.instanceMethod yX5_undo ∈ WL := wl_mem 332 (by decide +kernel) (by decide +kernel)
theorem ws_X5_undo : Cond.selects RX5 yX5_undo yX5_undo ∈ WL := wl_mem 333 (by decide +kernel) (by decide +kernel)
theorem wc_X5_undo : Cond.code yX5_undo cX5_undo 1 (some .int) ∈ WL := wl_mem 334 (by decide +kernel) (by decide +kernel)
theorem wm_X5_153 : Cond.methodLink RX5 153 yX0_bringBack ∈ WL := wl_mem 335 (by decide +kernel) (by decide +kernel)
theorem wi_X0_bringBack : Cond.instanceMethod yX0_bringBack ∈ WL := wl_mem 336 (by decide +kernel) (by decide +kernel)
theorem ws_X0_bringBack : Cond.selects RX0 yX0_bringBack yX0_bringBack ∈ WL := wl_mem 337 (by decide +kernel) (by decide +kernel)
theorem wc_X0_bringBack : Cond.code yX0_bringBack cX0_bringBack 4 none ∈ WL := wl_mem 338 (by decide +kernel) (by decide +kernel)
theorem wm_L_71 : Cond.methodLink RL 71 yL_areAlike ∈ WL := wl_mem 339 (by decide +kernel) (by decide +kernel)
theorem wt_L_areAlike : Cond.static yL_areAlike ∈ WL := wl_mem 340 (by decide +kernel) (by decide +kernel)
set_option maxRecDepth 20000 in
theorem wc_L_areAlike : Cond.code yL_areAlike cL_areAlike 7 (some .boolean) ∈ WL := wl_mem 341 (by rfl) (by decide +kernel)
theorem wm_L_40 : Cond.methodLink RL 40 yX5_fires ∈ WL := wl_mem 342 (by decide +kernel) (by decide +kernel)
theorem wi_X5_fires : Cond.instanceMethod yX5_fires ∈ WL := wl_mem 343 (by decide +kernel) (by decide +kernel)
theorem ws_X5_fires : Cond.selects RX5 yX5_fires yX5_fires ∈ WL := wl_mem 344 (by decide +kernel) (by decide +kernel)
theorem wc_X5_fires : Cond.code yX5_fires cX5_fires 2 (some .int) ∈ WL := wl_mem 345 (by decide +kernel) (by decide +kernel)
theorem wm_X5_110 : Cond.methodLink RX5 110 yX1_greatestLevel ∈ WL := wl_mem 346 (by decide +kernel) (by decide +kernel)
theorem wi_X1_greatestLevel : Cond.instanceMethod yX1_greatestLevel ∈ WL := wl_mem 347 (by decide +kernel) (by decide +kernel)
theorem ws_X1_greatestLevel : Cond.selects RX1 yX1_greatestLevel yX1_greatestLevel ∈ WL := wl_mem 348 (by decide +kernel) (by decide +kernel)
theorem wc_X1_greatestLevel : Cond.code yX1_greatestLevel cX1_greatestLevel 1 (some .int) ∈ WL := wl_mem 349 (by decide +kernel) (by decide +kernel)
theorem wm_X5_113 : Cond.methodLink RX5 113 yX1_firingsWith ∈ WL := wl_mem 350 (by decide +kernel) (by decide +kernel)
theorem wi_X1_firingsWith : Cond.instanceMethod yX1_firingsWith ∈ WL := wl_mem 351 (by decide +kernel) (by decide +kernel)
theorem ws_X1_firingsWith : Cond.selects RX1 yX1_firingsWith yX1_firingsWith ∈ WL := wl_mem 352 (by decide +kernel) (by decide +kernel)
theorem wc_X1_firingsWith : Cond.code yX1_firingsWith cX1_firingsWith 6 (some .int) ∈ WL := wl_mem 353 (by decide +kernel) (by decide +kernel)
theorem wm_X1_134 : Cond.methodLink RX1 134 yX1_sampleAt ∈ WL := wl_mem 354 (by decide +kernel) (by decide +kernel)
theorem wm_L_43 : Cond.methodLink RL 43 yX5_bestLevel ∈ WL := wl_mem 355 (by decide +kernel) (by decide +kernel)
theorem wi_X5_bestLevel : Cond.instanceMethod yX5_bestLevel ∈ WL := wl_mem 356 (by decide +kernel) (by decide +kernel)
theorem ws_X5_bestLevel : Cond.selects RX5 yX5_bestLevel yX5_bestLevel ∈ WL := wl_mem 357 (by decide +kernel) (by decide +kernel)
theorem wc_X5_bestLevel : Cond.code yX5_bestLevel cX5_bestLevel 7 (some .int) ∈ WL := wl_mem 358 (by decide +kernel) (by decide +kernel)
theorem wm_L_46 : Cond.methodLink RL 46 yX5_segment ∈ WL := wl_mem 359 (by decide +kernel) (by decide +kernel)
theorem wi_X5_segment : Cond.instanceMethod yX5_segment ∈ WL := wl_mem 360 (by decide +kernel) (by decide +kernel)
theorem ws_X5_segment : Cond.selects RX5 yX5_segment yX5_segment ∈ WL := wl_mem 361 (by decide +kernel) (by decide +kernel)
theorem wc_X5_segment : Cond.code yX5_segment cX5_segment 3 (some .int) ∈ WL := wl_mem 362 (by decide +kernel) (by decide +kernel)
theorem wm_X5_76 : Cond.methodLink RX5 76 yX3_numberOf ∈ WL := wl_mem 363 (by decide +kernel) (by decide +kernel)
theorem wi_X3_numberOf : Cond.instanceMethod yX3_numberOf ∈ WL := wl_mem 364 (by decide +kernel) (by decide +kernel)
theorem ws_X3_numberOf : Cond.selects RX3 yX3_numberOf yX3_numberOf ∈ WL := wl_mem 365 (by decide +kernel) (by decide +kernel)
theorem wc_X3_numberOf : Cond.code yX3_numberOf cX3_numberOf 3 (some .int) ∈ WL := wl_mem 366 (by decide +kernel) (by decide +kernel)
theorem wm_X5_79 : Cond.methodLink RX5 79 yX1_leastOf ∈ WL := wl_mem 367 (by decide +kernel) (by decide +kernel)
theorem wi_X1_leastOf : Cond.instanceMethod yX1_leastOf ∈ WL := wl_mem 368 (by decide +kernel) (by decide +kernel)
theorem ws_X1_leastOf : Cond.selects RX1 yX1_leastOf yX1_leastOf ∈ WL := wl_mem 369 (by decide +kernel) (by decide +kernel)
theorem wc_X1_leastOf : Cond.code yX1_leastOf cX1_leastOf 6 (some .int) ∈ WL := wl_mem 370 (by decide +kernel) (by decide +kernel)
theorem wm_X1_127 : Cond.methodLink RX1 127 yX3_firstOf ∈ WL := wl_mem 371 (by decide +kernel) (by decide +kernel)
theorem wi_X3_firstOf : Cond.instanceMethod yX3_firstOf ∈ WL := wl_mem 372 (by decide +kernel) (by decide +kernel)
theorem ws_X3_firstOf : Cond.selects RX3 yX3_firstOf yX3_firstOf ∈ WL := wl_mem 373 (by decide +kernel) (by decide +kernel)
theorem wc_X3_firstOf : Cond.code yX3_firstOf cX3_firstOf 2 (some .int) ∈ WL := wl_mem 374 (by decide +kernel) (by decide +kernel)
theorem wm_X3_23 : Cond.methodLink RX3 23 yX3_numberOf ∈ WL := wl_mem 375 (by decide +kernel) (by decide +kernel)
theorem wm_X1_130 : Cond.methodLink RX1 130 yX3_numberOf ∈ WL := wl_mem 376 (by decide +kernel) (by decide +kernel)
theorem wm_X1_137 : Cond.methodLink RX1 137 Lib.Math.min.name ∈ WL := wl_mem 377 (by decide +kernel) (by decide +kernel)
theorem wm_X5_83 : Cond.methodLink RX5 83 yX1_greatestOf ∈ WL := wl_mem 378 (by decide +kernel) (by decide +kernel)
theorem wi_X1_greatestOf : Cond.instanceMethod yX1_greatestOf ∈ WL := wl_mem 379 (by decide +kernel) (by decide +kernel)
theorem ws_X1_greatestOf : Cond.selects RX1 yX1_greatestOf yX1_greatestOf ∈ WL := wl_mem 380 (by decide +kernel) (by decide +kernel)
theorem wc_X1_greatestOf : Cond.code yX1_greatestOf cX1_greatestOf 6 (some .int) ∈ WL := wl_mem 381 (by decide +kernel) (by decide +kernel)
theorem wm_X1_142 : Cond.methodLink RX1 142 Lib.Math.max.name ∈ WL := wl_mem 382 (by decide +kernel) (by decide +kernel)
theorem wt_jmax : Cond.static Lib.Math.max.name ∈ WL := wl_mem 383 (by decide +kernel) (by decide +kernel)
theorem wc_jmax : Cond.code Lib.Math.max.name Lib.Math.max.code 2 (some .int) ∈ WL := wl_mem 384 (by decide +kernel) (by decide +kernel)
theorem wm_X5_86 : Cond.methodLink RX5 86 yX1_sumOf ∈ WL := wl_mem 385 (by decide +kernel) (by decide +kernel)
theorem wi_X1_sumOf : Cond.instanceMethod yX1_sumOf ∈ WL := wl_mem 386 (by decide +kernel) (by decide +kernel)
theorem ws_X1_sumOf : Cond.selects RX1 yX1_sumOf yX1_sumOf ∈ WL := wl_mem 387 (by decide +kernel) (by decide +kernel)
theorem wc_X1_sumOf : Cond.code yX1_sumOf cX1_sumOf 6 (some .int) ∈ WL := wl_mem 388 (by decide +kernel) (by decide +kernel)
theorem wm_X5_89 : Cond.methodLink RX5 89 yX1_upsOf ∈ WL := wl_mem 389 (by decide +kernel) (by decide +kernel)
theorem wi_X1_upsOf : Cond.instanceMethod yX1_upsOf ∈ WL := wl_mem 390 (by decide +kernel) (by decide +kernel)
theorem ws_X1_upsOf : Cond.selects RX1 yX1_upsOf yX1_upsOf ∈ WL := wl_mem 391 (by decide +kernel) (by decide +kernel)
theorem wc_X1_upsOf : Cond.code yX1_upsOf cX1_upsOf 6 (some .int) ∈ WL := wl_mem 392 (by decide +kernel) (by decide +kernel)
theorem wm_L_49 : Cond.methodLink RL 49 yX5_nearest ∈ WL := wl_mem 393 (by decide +kernel) (by decide +kernel)
theorem wi_X5_nearest : Cond.instanceMethod yX5_nearest ∈ WL := wl_mem 394 (by decide +kernel) (by decide +kernel)
theorem ws_X5_nearest : Cond.selects RX5 yX5_nearest yX5_nearest ∈ WL := wl_mem 395 (by decide +kernel) (by decide +kernel)
theorem wc_X5_nearest : Cond.code yX5_nearest cX5_nearest 6 (some .int) ∈ WL := wl_mem 396 (by decide +kernel) (by decide +kernel)
theorem wm_X5_116 : Cond.methodLink RX5 116 yX1_differenceOf ∈ WL := wl_mem 397 (by decide +kernel) (by decide +kernel)
theorem wi_X1_differenceOf : Cond.instanceMethod yX1_differenceOf ∈ WL := wl_mem 398 (by decide +kernel) (by decide +kernel)
theorem ws_X1_differenceOf : Cond.selects RX1 yX1_differenceOf yX1_differenceOf ∈ WL := wl_mem 399 (by decide +kernel) (by decide +kernel)
theorem wc_X1_differenceOf : Cond.code yX1_differenceOf cX1_differenceOf 9 (some .int) ∈ WL := wl_mem 400 (by decide +kernel) (by decide +kernel)
theorem wm_X1_145 : Cond.methodLink RX1 145 yX3_behindOf ∈ WL := wl_mem 401 (by decide +kernel) (by decide +kernel)
theorem wi_X3_behindOf : Cond.instanceMethod yX3_behindOf ∈ WL := wl_mem 402 (by decide +kernel) (by decide +kernel)
theorem ws_X3_behindOf : Cond.selects RX3 yX3_behindOf yX3_behindOf ∈ WL := wl_mem 403 (by decide +kernel) (by decide +kernel)
theorem wc_X3_behindOf : Cond.code yX3_behindOf cX3_behindOf 2 (some .int) ∈ WL := wl_mem 404 (by decide +kernel) (by decide +kernel)
theorem wm_X1_148 : Cond.methodLink RX1 148 Lib.Math.abs.name ∈ WL := wl_mem 405 (by decide +kernel) (by decide +kernel)
theorem wt_jabs : Cond.static Lib.Math.abs.name ∈ WL := wl_mem 406 (by decide +kernel) (by decide +kernel)
theorem wc_jabs : Cond.code Lib.Math.abs.name Lib.Math.abs.code 1 (some .int) ∈ WL := wl_mem 407 (by decide +kernel) (by decide +kernel)
theorem wm_L_52 : Cond.methodLink RL 52 yX5_unlike ∈ WL := wl_mem 408 (by decide +kernel) (by decide +kernel)
theorem wi_X5_unlike : Cond.instanceMethod yX5_unlike ∈ WL := wl_mem 409 (by decide +kernel) (by decide +kernel)
theorem ws_X5_unlike : Cond.selects RX5 yX5_unlike yX5_unlike ∈ WL := wl_mem 410 (by decide +kernel) (by decide +kernel)
theorem wc_X5_unlike : Cond.code yX5_unlike cX5_unlike 3 (some .int) ∈ WL := wl_mem 411 (by decide +kernel) (by decide +kernel)
theorem wm_L_67 : Cond.methodLink RL 67 yL_isWell ∈ WL := wl_mem 412 (by decide +kernel) (by decide +kernel)
theorem wt_L_isWell : Cond.static yL_isWell ∈ WL := wl_mem 413 (by decide +kernel) (by decide +kernel)
set_option maxRecDepth 20000 in
theorem wc_L_isWell : Cond.code yL_isWell cL_isWell 16 (some .boolean) ∈ WL := wl_mem 414 (by rfl) (by decide +kernel)
theorem wm_L_55 : Cond.methodLink RL 55 yX5_sampleOf ∈ WL := wl_mem 415 (by decide +kernel) (by decide +kernel)
theorem wi_X5_sampleOf : Cond.instanceMethod yX5_sampleOf ∈ WL := wl_mem 416 (by decide +kernel) (by decide +kernel)
theorem ws_X5_sampleOf : Cond.selects RX5 yX5_sampleOf yX5_sampleOf ∈ WL := wl_mem 417 (by decide +kernel) (by decide +kernel)
theorem wc_X5_sampleOf : Cond.code yX5_sampleOf cX5_sampleOf 3 (some .int) ∈ WL := wl_mem 418 (by decide +kernel) (by decide +kernel)
theorem wm_X5_92 : Cond.methodLink RX5 92 yX3_firstOf ∈ WL := wl_mem 419 (by decide +kernel) (by decide +kernel)
-- not printed: laysFinal 16, soleField 35, lays 19, superclass 6, laysStatic 3, arrayOver 1, privateMethod 6
set_option maxRecDepth 20000 in
theorem inX0 : ∀ w ∈ u_ws RX0 TX0 3, w ∈ WL := fun w h => List.mem_filter.mpr ⟨(goodIn_r (big := lw_tbl) (u_ws RX0 TX0 3) [117, 119, 121] (by decide +kernel) (by decide +kernel) w h).1, List.all_eq_true.mp (by decide +kernel : (u_ws RX0 TX0 3).all goodWord = true) w h⟩
set_option maxRecDepth 20000 in
theorem inX1 : ∀ w ∈ u_ws RX1 TX1 15, w ∈ WL := fun w h => List.mem_filter.mpr ⟨(goodIn_r (big := lw_tbl) (u_ws RX1 TX1 15) [73, 75, 77, 79, 81, 83, 85, 87, 89, 91, 93, 95, 97, 99, 101] (by decide +kernel) (by decide +kernel) w h).1, List.all_eq_true.mp (by decide +kernel : (u_ws RX1 TX1 15).all goodWord = true) w h⟩
set_option maxRecDepth 20000 in
theorem inX2 : ∀ w ∈ u_ws RX2 TX2 9, w ∈ WL := fun w h => List.mem_filter.mpr ⟨(goodIn_r (big := lw_tbl) (u_ws RX2 TX2 9) [156, 158, 160, 162, 164, 166, 168, 170, 172] (by decide +kernel) (by decide +kernel) w h).1, List.all_eq_true.mp (by decide +kernel : (u_ws RX2 TX2 9).all goodWord = true) w h⟩
set_option maxRecDepth 20000 in
theorem inX3 : ∀ w ∈ u_ws RX3 TX3 2, w ∈ WL := fun w h => List.mem_filter.mpr ⟨(goodIn_r (big := lw_tbl) (u_ws RX3 TX3 2) [39, 41] (by decide +kernel) (by decide +kernel) w h).1, List.all_eq_true.mp (by decide +kernel : (u_ws RX3 TX3 2).all goodWord = true) w h⟩
set_option maxRecDepth 20000 in
theorem inX4 : ∀ w ∈ u_ws RX4 TX4 2, w ∈ WL := fun w h => List.mem_filter.mpr ⟨(goodIn_r (big := lw_tbl) (u_ws RX4 TX4 2) [134, 136] (by decide +kernel) (by decide +kernel) w h).1, List.all_eq_true.mp (by decide +kernel : (u_ws RX4 TX4 2).all goodWord = true) w h⟩
set_option maxRecDepth 20000 in
theorem inX5 : ∀ w ∈ u_ws RX5 TX5 4, w ∈ WL := fun w h => List.mem_filter.mpr ⟨(goodIn_r (big := lw_tbl) (u_ws RX5 TX5 4) [179, 181, 183, 185] (by decide +kernel) (by decide +kernel) w h).1, List.all_eq_true.mp (by decide +kernel : (u_ws RX5 TX5 4).all goodWord = true) w h⟩
theorem k_X5_9 : xLI RX5 9 yX1_init cX1_init 1 0 := ⟨⟨wc_X1_init, wz_X1, wm_X5_9, wi_X1_init, rfl⟩, by decide +kernel⟩
theorem k_X5_18 : xLI RX5 18 yX0_init cX0_init 2 0 := ⟨⟨wc_X0_init, wz_X0, wm_X5_18, wi_X0_init, rfl⟩, by decide +kernel⟩
theorem k_X5_25 : xLI RX5 25 yX4_init cX4_init 2 0 := ⟨⟨wc_X4_init, wz_X4, wm_X5_25, wi_X4_init, rfl⟩, by decide +kernel⟩
theorem k_X5_32 : xLIN RX5 32 yX2_init RX5 cX2_init 1 0 := ⟨⟨wc_X2_init, wz_X2, wn_X5_32, wi_X2_init, rfl⟩, by decide +kernel⟩
theorem k_X5_37 : xLV RX5 37 RX1 yX1_errorOfSetting cX1_errorOfSetting 3 (some .int) 2 := ⟨gi_V wm_X5_37 wi_X1_errorOfSetting ws_X1_errorOfSetting wz_X1 wc_X1_errorOfSetting, by decide +kernel⟩
theorem k_X5_41 : xLV RX5 41 RX0 yX0_record cX0_record 3 none 1 := ⟨gi_V wm_X5_41 wi_X0_record ws_X0_record wz_X0 wc_X0_record, by decide +kernel⟩
theorem k_X5_45 : xLV RX5 45 RX1 yX1_changeSetting cX1_changeSetting 4 (some .int) 2 := ⟨gi_V wm_X5_45 wi_X1_changeSetting ws_X1_changeSetting wz_X1 wc_X1_changeSetting, by decide +kernel⟩
theorem k_X5_48 : xLV RX5 48 RX1 yX1_errorOfSamples cX1_errorOfSamples 3 (some .int) 2 := ⟨gi_V wm_X5_48 wi_X1_errorOfSamples ws_X1_errorOfSamples wz_X1 wc_X1_errorOfSamples, by decide +kernel⟩
theorem k_X5_51 : xLV RX5 51 RX1 yX1_takeSamples cX1_takeSamples 5 (some .int) 2 := ⟨gi_V wm_X5_51 wi_X1_takeSamples ws_X1_takeSamples wz_X1 wc_X1_takeSamples, by decide +kernel⟩
theorem k_X5_54 : xLV RX5 54 RX1 yX1_forget cX1_forget 2 (some .int) 0 := ⟨gi_V wm_X5_54 wi_X1_forget ws_X1_forget wz_X1 wc_X1_forget, by decide +kernel⟩
theorem k_X5_62 : xLV RX5 62 RX3 yX3_has cX3_has 2 (some .boolean) 1 := ⟨gi_V wm_X5_62 wi_X3_has ws_X3_has wz_X3 wc_X3_has, by decide +kernel⟩
theorem k_X5_68 : xLV RX5 68 RX3 yX3_removeAt cX3_removeAt 3 none 1 := ⟨gi_V wm_X5_68 wi_X3_removeAt ws_X3_removeAt wz_X3 wc_X3_removeAt, by decide +kernel⟩
theorem k_X5_76 : xLV RX5 76 RX3 yX3_numberOf cX3_numberOf 3 (some .int) 2 := ⟨gi_V wm_X5_76 wi_X3_numberOf ws_X3_numberOf wz_X3 wc_X3_numberOf, by decide +kernel⟩
theorem k_X5_79 : xLV RX5 79 RX1 yX1_leastOf cX1_leastOf 6 (some .int) 1 := ⟨gi_V wm_X5_79 wi_X1_leastOf ws_X1_leastOf wz_X1 wc_X1_leastOf, by decide +kernel⟩
theorem k_X5_83 : xLV RX5 83 RX1 yX1_greatestOf cX1_greatestOf 6 (some .int) 1 := ⟨gi_V wm_X5_83 wi_X1_greatestOf ws_X1_greatestOf wz_X1 wc_X1_greatestOf, by decide +kernel⟩
theorem k_X5_86 : xLV RX5 86 RX1 yX1_sumOf cX1_sumOf 6 (some .int) 1 := ⟨gi_V wm_X5_86 wi_X1_sumOf ws_X1_sumOf wz_X1 wc_X1_sumOf, by decide +kernel⟩
theorem k_X5_89 : xLV RX5 89 RX1 yX1_upsOf cX1_upsOf 6 (some .int) 1 := ⟨gi_V wm_X5_89 wi_X1_upsOf ws_X1_upsOf wz_X1 wc_X1_upsOf, by decide +kernel⟩
theorem k_X5_92 : xLV RX5 92 RX3 yX3_firstOf cX3_firstOf 2 (some .int) 1 := ⟨gi_V wm_X5_92 wi_X3_firstOf ws_X3_firstOf wz_X3 wc_X3_firstOf, by decide +kernel⟩
theorem k_X5_95 : xLV RX5 95 RX1 yX1_sampleAt cX1_sampleAt 2 (some .int) 1 := ⟨gi_V wm_X5_95 wi_X1_sampleAt ws_X1_sampleAt wz_X1 wc_X1_sampleAt, by decide +kernel⟩
theorem k_X5_105 : xLV RX5 105 RX1 yX1_settingOf cX1_settingOf 2 (some .int) 1 := ⟨gi_V wm_X5_105 wi_X1_settingOf ws_X1_settingOf wz_X1 wc_X1_settingOf, by decide +kernel⟩
theorem k_X5_108 : xLV RX5 108 RX1 yX1_numberOf cX1_numberOf 2 (some .int) 1 := ⟨gi_V wm_X5_108 wi_X1_numberOf ws_X1_numberOf wz_X1 wc_X1_numberOf, by decide +kernel⟩
theorem k_X5_110 : xLV RX5 110 RX1 yX1_greatestLevel cX1_greatestLevel 1 (some .int) 0 := ⟨gi_V wm_X5_110 wi_X1_greatestLevel ws_X1_greatestLevel wz_X1 wc_X1_greatestLevel, by decide +kernel⟩
theorem k_X5_113 : xLV RX5 113 RX1 yX1_firingsWith cX1_firingsWith 6 (some .int) 1 := ⟨gi_V wm_X5_113 wi_X1_firingsWith ws_X1_firingsWith wz_X1 wc_X1_firingsWith, by decide +kernel⟩
theorem k_X5_116 : xLV RX5 116 RX1 yX1_differenceOf cX1_differenceOf 9 (some .int) 2 := ⟨gi_V wm_X5_116 wi_X1_differenceOf ws_X1_differenceOf wz_X1 wc_X1_differenceOf, by decide +kernel⟩
theorem k_X5_153 : xLV RX5 153 RX0 yX0_bringBack cX0_bringBack 4 none 1 := ⟨gi_V wm_X5_153 wi_X0_bringBack ws_X0_bringBack wz_X0 wc_X0_bringBack, by decide +kernel⟩
theorem k_X0_24 : xLI RX0 24 yX1_init cX1_init 1 0 := ⟨⟨wc_X1_init, wz_X1, wm_X0_24, wi_X1_init, rfl⟩, by decide +kernel⟩
theorem k_X0_25 : xLSN RX0 25 yX5_memoryAt RX5 cX5_memoryAt 2 (some (.object "CaptureSegments$Memory")) 2 := ⟨⟨wc_X5_memoryAt, wz_X5, wn_X0_25, wt_X5_memoryAt⟩, by decide +kernel⟩
theorem k_X0_29 : xLV RX0 29 RX1 yX1_takeOver cX1_takeOver 2 none 1 := ⟨gi_V wm_X0_29 wi_X1_takeOver ws_X1_takeOver wz_X1 wc_X1_takeOver, by decide +kernel⟩
theorem k_X1_20 : xLIN RX1 20 yX3_init RX5 cX3_init 1 0 := ⟨⟨wc_X3_init, wz_X3, wn_X1_20, wi_X3_init, rfl⟩, by decide +kernel⟩
theorem k_X1_65 : xLSN RX1 65 yX5_copyRow RX5 cX5_copyRow 2 none 2 := ⟨⟨wc_X5_copyRow, wz_X5, wn_X1_65, wt_X5_copyRow⟩, by decide +kernel⟩
theorem k_X1_69 : xLV RX1 69 RX3 yX3_takeOver cX3_takeOver 2 none 1 := ⟨gi_V wm_X1_69 wi_X3_takeOver ws_X3_takeOver wz_X3 wc_X3_takeOver, by decide +kernel⟩
theorem k_X1_76 : xLSN RX1 76 yX5_at RX5 cX5_at 2 (some .int) 2 := ⟨⟨wc_X5_at, wz_X5, wn_X1_76, wt_X5_at⟩, by decide +kernel⟩
theorem k_X1_83 : xLV RX1 83 RX1 yX1_fits cX1_fits 3 (some .boolean) 2 := ⟨gi_V wm_X1_83 wi_X1_fits ws_X1_fits wz_X1 wc_X1_fits, by decide +kernel⟩
theorem k_X1_87 : xLV RX1 87 RX1 yX1_settingOf cX1_settingOf 2 (some .int) 1 := ⟨gi_V wm_X1_87 wi_X1_settingOf ws_X1_settingOf wz_X1 wc_X1_settingOf, by decide +kernel⟩
theorem k_X1_91 : xLSN RX1 91 yX5_writeAt RX5 cX5_writeAt 3 none 3 := ⟨⟨wc_X5_writeAt, wz_X5, wn_X1_91, wt_X5_writeAt⟩, by decide +kernel⟩
theorem k_X1_95 : xLV RX1 95 RX3 yX3_keepLatest cX3_keepLatest 3 none 1 := ⟨gi_V wm_X1_95 wi_X3_keepLatest ws_X3_keepLatest wz_X3 wc_X3_keepLatest, by decide +kernel⟩
theorem k_X1_99 : xLV RX1 99 RX1 yX1_takeSample cX1_takeSample 5 (some .boolean) 1 := ⟨gi_V wm_X1_99 wi_X1_takeSample ws_X1_takeSample wz_X1 wc_X1_takeSample, by decide +kernel⟩
theorem k_X1_103 : xLV RX1 103 RX1 yX1_completeSegment cX1_completeSegment 1 none 0 := ⟨gi_V wm_X1_103 wi_X1_completeSegment ws_X1_completeSegment wz_X1 wc_X1_completeSegment, by decide +kernel⟩
theorem k_X1_106 : xLV RX1 106 RX1 yX1_detect cX1_detect 4 (some .boolean) 1 := ⟨gi_V wm_X1_106 wi_X1_detect ws_X1_detect wz_X1 wc_X1_detect, by decide +kernel⟩
theorem k_X1_109 : xLV RX1 109 RX1 yX1_phase cX1_phase 1 (some .int) 0 := ⟨gi_V wm_X1_109 wi_X1_phase ws_X1_phase wz_X1 wc_X1_phase, by decide +kernel⟩
theorem k_X1_113 : xLV RX1 113 RX1 yX1_beginSegment cX1_beginSegment 1 none 0 := ⟨gi_V wm_X1_113 wi_X1_beginSegment ws_X1_beginSegment wz_X1 wc_X1_beginSegment, by decide +kernel⟩
theorem k_X1_116 : xLV RX1 116 RX1 yX1_detectorAfter cX1_detectorAfter 4 (some .int) 3 := ⟨gi_V wm_X1_116 wi_X1_detectorAfter ws_X1_detectorAfter wz_X1 wc_X1_detectorAfter, by decide +kernel⟩
theorem k_X1_120 : xLV RX1 120 RX3 yX3_append cX3_append 6 none 4 := ⟨gi_V wm_X1_120 wi_X3_append ws_X3_append wz_X3 wc_X3_append, by decide +kernel⟩
theorem k_X1_127 : xLV RX1 127 RX3 yX3_firstOf cX3_firstOf 2 (some .int) 1 := ⟨gi_V wm_X1_127 wi_X3_firstOf ws_X3_firstOf wz_X3 wc_X3_firstOf, by decide +kernel⟩
theorem k_X1_130 : xLV RX1 130 RX3 yX3_numberOf cX3_numberOf 3 (some .int) 2 := ⟨gi_V wm_X1_130 wi_X3_numberOf ws_X3_numberOf wz_X3 wc_X3_numberOf, by decide +kernel⟩
theorem k_X1_134 : xLV RX1 134 RX1 yX1_sampleAt cX1_sampleAt 2 (some .int) 1 := ⟨gi_V wm_X1_134 wi_X1_sampleAt ws_X1_sampleAt wz_X1 wc_X1_sampleAt, by decide +kernel⟩
theorem k_X1_145 : xLV RX1 145 RX3 yX3_behindOf cX3_behindOf 2 (some .int) 1 := ⟨gi_V wm_X1_145 wi_X3_behindOf ws_X3_behindOf wz_X3 wc_X3_behindOf, by decide +kernel⟩
theorem k_X3_19 : xLSN RX3 19 yX5_at RX5 cX5_at 2 (some .int) 2 := ⟨⟨wc_X5_at, wz_X5, wn_X3_19, wt_X5_at⟩, by decide +kernel⟩
theorem k_X3_23 : xLV RX3 23 RX3 yX3_numberOf cX3_numberOf 3 (some .int) 2 := ⟨gi_V wm_X3_23 wi_X3_numberOf ws_X3_numberOf wz_X3 wc_X3_numberOf, by decide +kernel⟩
theorem k_X3_27 : xLSN RX3 27 yX5_writeAt RX5 cX5_writeAt 3 none 3 := ⟨⟨wc_X5_writeAt, wz_X5, wn_X3_27, wt_X5_writeAt⟩, by decide +kernel⟩
theorem k_X3_31 : xLV RX3 31 RX3 yX3_has cX3_has 2 (some .boolean) 1 := ⟨gi_V wm_X3_31 wi_X3_has ws_X3_has wz_X3 wc_X3_has, by decide +kernel⟩
theorem k_X3_35 : xLV RX3 35 RX3 yX3_removeAt cX3_removeAt 3 none 1 := ⟨gi_V wm_X3_35 wi_X3_removeAt ws_X3_removeAt wz_X3 wc_X3_removeAt, by decide +kernel⟩
theorem k_X3_39 : xLSN RX3 39 yX5_copyRow RX5 cX5_copyRow 2 none 2 := ⟨⟨wc_X5_copyRow, wz_X5, wn_X3_39, wt_X5_copyRow⟩, by decide +kernel⟩
theorem k_X4_21 : xLI RX4 21 yX1_init cX1_init 1 0 := ⟨⟨wc_X1_init, wz_X1, wm_X4_21, wi_X1_init, rfl⟩, by decide +kernel⟩
theorem k_L_9 : xLV RL 9 RX5 yX5_count cX5_count 2 (some .int) 1 := ⟨gi_V wm_L_9 wi_X5_count ws_X5_count wz_X5 wc_X5_count, by decide +kernel⟩
theorem k_L_15 : xLS RL 15 yL_up cL_up 2 (some .int) 2 := ⟨gi_S wm_L_15 wt_L_up wz_L wc_L_up, by decide +kernel⟩
theorem k_L_21 : xLV RL 21 RX5 yX5_feed cX5_feed 4 (some .int) 2 := ⟨gi_V wm_L_21 wi_X5_feed ws_X5_feed wz_X5 wc_X5_feed, by decide +kernel⟩
theorem k_L_24 : xLV RL 24 RX5 yX5_sample cX5_sample 2 (some .int) 1 := ⟨gi_V wm_L_24 wi_X5_sample ws_X5_sample wz_X5 wc_X5_sample, by decide +kernel⟩
theorem k_L_27 : xLV RL 27 RX5 yX5_drop cX5_drop 2 (some .int) 1 := ⟨gi_V wm_L_27 wi_X5_drop ws_X5_drop wz_X5 wc_X5_drop, by decide +kernel⟩
theorem k_L_30 : xLV RL 30 RX5 yX5_clear cX5_clear 1 (some .int) 0 := ⟨gi_V wm_L_30 wi_X5_clear ws_X5_clear wz_X5 wc_X5_clear, by decide +kernel⟩
theorem k_L_34 : xLV RL 34 RX5 yX5_undo cX5_undo 1 (some .int) 0 := ⟨gi_V wm_L_34 wi_X5_undo ws_X5_undo wz_X5 wc_X5_undo, by decide +kernel⟩
theorem k_L_37 : xLV RL 37 RX5 yX5_set cX5_set 4 (some .int) 2 := ⟨gi_V wm_L_37 wi_X5_set ws_X5_set wz_X5 wc_X5_set, by decide +kernel⟩
theorem k_L_40 : xLV RL 40 RX5 yX5_fires cX5_fires 2 (some .int) 1 := ⟨gi_V wm_L_40 wi_X5_fires ws_X5_fires wz_X5 wc_X5_fires, by decide +kernel⟩
theorem k_L_43 : xLV RL 43 RX5 yX5_bestLevel cX5_bestLevel 7 (some .int) 1 := ⟨gi_V wm_L_43 wi_X5_bestLevel ws_X5_bestLevel wz_X5 wc_X5_bestLevel, by decide +kernel⟩
theorem k_L_46 : xLV RL 46 RX5 yX5_segment cX5_segment 3 (some .int) 2 := ⟨gi_V wm_L_46 wi_X5_segment ws_X5_segment wz_X5 wc_X5_segment, by decide +kernel⟩
theorem k_L_49 : xLV RL 49 RX5 yX5_nearest cX5_nearest 6 (some .int) 1 := ⟨gi_V wm_L_49 wi_X5_nearest ws_X5_nearest wz_X5 wc_X5_nearest, by decide +kernel⟩
theorem k_L_52 : xLV RL 52 RX5 yX5_unlike cX5_unlike 3 (some .int) 2 := ⟨gi_V wm_L_52 wi_X5_unlike ws_X5_unlike wz_X5 wc_X5_unlike, by decide +kernel⟩
theorem k_L_55 : xLV RL 55 RX5 yX5_sampleOf cX5_sampleOf 3 (some .int) 2 := ⟨gi_V wm_L_55 wi_X5_sampleOf ws_X5_sampleOf wz_X5 wc_X5_sampleOf, by decide +kernel⟩
theorem k_L_58 : xLI RL 58 yX5_init cX5_init 1 0 := ⟨⟨wc_X5_init, wz_X5, wm_L_58, wi_X5_init, rfl⟩, by decide +kernel⟩
theorem k_L_59 : xLS RL 59 yL_cell cL_cell 2 (some .int) 2 := ⟨gi_S wm_L_59 wt_L_cell wz_L wc_L_cell, by decide +kernel⟩
theorem k_L_63 : xLS RL 63 yL_isStep cL_isStep 12 (some .boolean) 3 := ⟨gi_S wm_L_63 wt_L_isStep wz_L wc_L_isStep, by decide +kernel⟩
theorem k_L_67 : xLS RL 67 yL_isWell cL_isWell 16 (some .boolean) 1 := ⟨gi_S wm_L_67 wt_L_isWell wz_L wc_L_isWell, by decide +kernel⟩
theorem k_L_71 : xLS RL 71 yL_areAlike cL_areAlike 7 (some .boolean) 3 := ⟨gi_S wm_L_71 wt_L_areAlike wz_L wc_L_areAlike, by decide +kernel⟩
end
